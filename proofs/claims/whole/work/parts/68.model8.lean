/-! ===== the reference: dawn; the plan ===== -/
theorem wl_inc {f : Int → Int} {now : Int} : ∀ {n : Nat} {i j : Int}, 0 ≤ i → i < j → j < (wl f now n).length → (wl f now n).getD i.toNat 0 < (wl f now n).getD j.toNat 0
  | 0, i, j, h1, h2, h3 => by
    have : (wl f now 0).length = 0 := rfl
    omega
  | n + 1, i, j, h1, h2, h3 => by
    have e : wl f now (n + 1) = wl f now n ++ (if f (n : Int) < now then [] else [(n : Int)]) := rfl
    rw [e] at h3 ⊢
    by_cases q : f (n : Int) < now
    · rw [if_pos q, List.append_nil] at h3 ⊢
      exact wl_inc h1 h2 h3
    · rw [if_neg q] at h3 ⊢
      rw [List.length_append] at h3
      simp only [List.length_cons, List.length_nil] at h3
      rw [getD_app h1 (by omega), getD_app (by omega) (by omega), if_neg (by omega)]
      by_cases z : j = ((wl f now n).length : Int)
      · rw [if_pos z]
        have := wl_mem (getD_mem (l := wl f now n) h1 (by omega))
        omega
      · rw [if_neg z]
        exact wl_inc h1 h2 (by omega)
theorem wl_inj {f : Int → Int} {now : Int} {n : Nat} {i j : Int} (hi : 0 ≤ i ∧ i < (wl f now n).length) (hj : 0 ≤ j ∧ j < (wl f now n).length) (h : (wl f now n).getD i.toNat 0 = (wl f now n).getD j.toNat 0) : i = j := by
  rcases Int.lt_trichotomy i j with q | q | q
  · have := wl_inc hi.1 q hj.2; omega
  · exact q
  · have := wl_inc hj.1 q hi.2; omega
theorem hF_in {f Wa : Int → Int} {now n way : Int} : ∀ (k : Nat), (∀ i j : Int, 0 ≤ i → i < k → 0 ≤ j → j < k → Wa i = Wa j → i = j) → ∀ i : Int, 0 ≤ i → i < k → hF f Wa now n way k (Wa i) = now + stp n way i
  | 0, _, i, a, b => by omega
  | k + 1, hd, i, a, b => by
    show upz (hF f Wa now n way k) (Wa (k : Int)) (now + stp n way (k : Int)) (Wa i) = _
    by_cases e : i = (k : Int)
    · rw [e, upz_self]
    · rw [upz_ne _ _ (fun q => e (hd i (k : Int) a b (by omega) (by omega) q))]
      exact hF_in k (fun i j a b c d => hd i j a (by omega) c (by omega)) i a (by omega)
theorem hF_out {f Wa : Int → Int} {now n way x : Int} : ∀ (k : Nat), (∀ i : Int, 0 ≤ i → i < k → Wa i ≠ x) → hF f Wa now n way k x = f x
  | 0, _ => rfl
  | k + 1, h => by
    show upz (hF f Wa now n way k) (Wa (k : Int)) (now + stp n way (k : Int)) x = _
    rw [upz_ne _ _ (fun q => h (k : Int) (by omega) (by omega) q.symm)]
    exact hF_out k (fun i a b => h i a (by omega))
/-! codes: the reference counts in the base of its ways, the class in the base 4 -/
def cvN (W : Nat) : Nat → Nat → Nat
  | 0, _ => 0
  | n + 1, c => 4 * cvN W n (c / W) + c % W
def okB (W n w : Nat) : Bool := (List.range n).all (fun j => decide (w / 4 ^ (n - 1 - j) % 4 < W))
theorem cv_dig {W : Nat} (hW : 1 ≤ W ∧ W ≤ 4) : ∀ (n c k : Nat), k < n → cvN W n c / 4 ^ (n - 1 - k) % 4 = c / W ^ (n - 1 - k) % W
  | 0, c, k, h => by omega
  | n + 1, c, k, h => by
    have hm := Nat.mod_lt c (show 0 < W by omega)
    show (4 * cvN W n (c / W) + c % W) / 4 ^ (n + 1 - 1 - k) % 4 = c / W ^ (n + 1 - 1 - k) % W
    by_cases e : k = n
    · rw [show n + 1 - 1 - k = 0 by omega, Nat.pow_zero, Nat.pow_zero, Nat.div_one, Nat.div_one]
      omega
    · have ih := cv_dig hW n (c / W) k (by omega)
      rw [show n + 1 - 1 - k = (n - 1 - k) + 1 by omega, Nat.pow_succ', Nat.pow_succ', ← Nat.div_div_eq_div_mul, ← Nat.div_div_eq_div_mul, ← ih]
      congr 2
      omega
theorem cv_list {W n : Nat} (hW : 1 ≤ W ∧ W ≤ 4) (hn : 1 ≤ n ∧ n ≤ 4) : (List.range (W ^ n)).map (cvN W n) = (List.range (4 ^ n)).filter (okB W n) := by
  have h1 : W = 1 ∨ W = 2 ∨ W = 3 ∨ W = 4 := by omega
  have h2 : n = 1 ∨ n = 2 ∨ n = 3 ∨ n = 4 := by omega
  rcases h1 with rfl | rfl | rfl | rfl <;> rcases h2 with rfl | rfl | rfl | rfl <;> decide +kernel
theorem stp_nat {n w j : Nat} (hj : j < n) : stp (n : Int) (w : Int) (j : Int) = ((w / 4 ^ (n - 1 - j) % 4 : Nat) : Int) := by
  unfold stp
  have e : (2 * ((n : Int) - 1 - (j : Int))).toNat = 2 * (n - 1 - j) := by omega
  have p : (2 : Int) ^ (2 * (n - 1 - j)) = ((4 ^ (n - 1 - j) : Nat) : Int) := by
    rw [Int.pow_mul, Int.natCast_pow]
    rfl
  rw [e, p, Int.natCast_emod, Int.natCast_ediv]
  rfl
def cv (W n : Nat) (c : Int) : Int := ((cvN W n c.toNat : Nat) : Int)
theorem stp_cv {W n : Nat} (hW : 1 ≤ W ∧ W ≤ 4) {c k : Int} (hc : 0 ≤ c) (hk : 0 ≤ k ∧ k < n) : stp (n : Int) (cv W n c) k = c / (W : Int) ^ (n - 1 - k.toNat) % (W : Int) := by
  obtain ⟨m, rfl⟩ : ∃ m : Nat, c = (m : Int) := ⟨c.toNat, by omega⟩
  obtain ⟨j, rfl⟩ : ∃ j : Nat, k = (j : Int) := ⟨k.toNat, by omega⟩
  unfold cv
  rw [stp_nat (by omega), show ((m : Int)).toNat = m by omega, show ((j : Int)).toNat = j by omega, cv_dig hW n m j (by omega), Int.natCast_emod, Int.natCast_ediv, Int.natCast_pow]
def pStp (Ne Cr : Bd) (A : Ab) (b : Int × Int × Int) (w : Nat) : Int × Int × Int := if pEw Ne Cr A (w : Int) < b.1 ∨ (pEw Ne Cr A (w : Int) = b.1 ∧ pWw Ne Cr A (w : Int) < b.2.1) then (pEw Ne Cr A (w : Int), pWw Ne Cr A (w : Int), (w : Int)) else b
theorem pFold_list (Ne Cr : Bd) (A : Ab) : ∀ k : Nat, pFold Ne Cr A k = ((List.range k).filter (fun (w : Nat) => okN (A.2.1 0) (wlA Cr A).length (w : Int) (wlA Cr A).length)).foldl (pStp Ne Cr A) (200, 2147483647, 0)
  | 0 => rfl
  | k + 1 => by
    rw [List.range_succ, List.filter_append, List.foldl_append, ← pFold_list Ne Cr A k]
    show (if okN (A.2.1 0) (wlA Cr A).length (k : Int) (wlA Cr A).length = true ∧ _ then _ else pFold Ne Cr A k) = _
    by_cases h : okN (A.2.1 0) (wlA Cr A).length (k : Int) (wlA Cr A).length = true
    · rw [List.filter_cons_of_pos (by exact h)]
      show _ = pStp Ne Cr A (pFold Ne Cr A k) k
      unfold pStp
      by_cases q : pEw Ne Cr A (k : Int) < (pFold Ne Cr A k).1 ∨ (pEw Ne Cr A (k : Int) = (pFold Ne Cr A k).1 ∧ pWw Ne Cr A (k : Int) < (pFold Ne Cr A k).2.1)
      · rw [if_pos ⟨h, q⟩, if_pos q]
      · rw [if_neg (fun z => q z.2), if_neg q]
    · rw [List.filter_cons_of_neg (by exact h), if_neg (fun z => h z.1)]
      rfl
def qF (Ne Cr : Bd) (A : Ab) (W n c : Nat) : Int × Int × Int := ((List.range c).map (cvN W n)).foldl (pStp Ne Cr A) (200, 2147483647, 0)
theorem qF_next {Ne Cr : Bd} {A : Ab} {W n : Nat} {c : Int} (h : 0 ≤ c) : qF Ne Cr A W n (c + 1).toNat = pStp Ne Cr A (qF Ne Cr A W n c.toNat) (cvN W n c.toNat) := by
  rw [show (c + 1).toNat = c.toNat + 1 by omega]
  unfold qF
  rw [List.range_succ, List.map_append, List.foldl_append]
  rfl
theorem okN_B {now : Int} {W n w : Nat} (hW : (W : Int) = min 4 (200 - now)) : okN now n (w : Int) n = okB W n w := by
  rw [Bool.eq_iff_iff, okN_iff]
  unfold okB
  rw [List.all_eq_true]
  constructor
  · intro h j hj
    have hj := List.mem_range.mp hj
    have g := h (j : Int) (by omega) (by omega)
    rw [stp_nat hj] at g
    have l := Nat.mod_lt (w / 4 ^ (n - 1 - j)) (show 0 < 4 by omega)
    exact decide_eq_true (by omega)
  · intro h i a b
    obtain ⟨j, rfl⟩ : ∃ j : Nat, i = (j : Int) := ⟨i.toNat, by omega⟩
    have g := of_decide_eq_true (h j (List.mem_range.mpr (by omega)))
    rw [stp_nat (by omega)]
    omega
theorem qF_all {Ne Cr : Bd} {A : Ab} {W n : Nat} (hW : (W : Int) = min 4 (200 - A.2.1 0)) (hW1 : 1 ≤ W) (hn : 1 ≤ n ∧ n ≤ 4) (hl : (wlA Cr A).length = n) : qF Ne Cr A W n (W ^ n) = pFold Ne Cr A (4 ^ n) := by
  rw [pFold_list, qF, cv_list ⟨hW1, by omega⟩ hn, hl]
  congr 1
  refine List.filter_congr (fun w _ => ?_)
  exact (okN_B hW).symm
theorem ar_hrs {To Ne Cr : Bd} {A : Ab} (hc : Cfg Ne Cr) (hto : 0 ≤ To.2 3 ∧ To.2 3 ≤ 10) (hab : AB Ne Cr A) (h : AR Cr A) : ∀ n : Nat, A.2.1 0 + n ≤ 200 → AR Cr (aHrs To Ne Cr A n) ∧ AB Ne Cr (aHrs To Ne Cr A n) ∧ (aHrs To Ne Cr A n).2.1 0 = A.2.1 0 + n
  | 0, _ => ⟨h, hab, by show A.2.1 0 = A.2.1 0 + ((0 : Nat) : Int); omega⟩
  | n + 1, hn => by
    have ih := ar_hrs hc hto hab h n (by omega)
    have z := hab.2.1
    refine ⟨ar_hour ih.1 (by omega), ab_hour hc hto ih.2.1 (by omega), ?_⟩
    show (aHrs To Ne Cr A n).2.1 0 + 1 = _
    omega
theorem aMx_le {f : Int → Int} : ∀ {n : Nat}, (∀ c : Int, 0 ≤ c → c < n → f c ≤ 200) → aMx f n ≤ 200
  | 0, _ => by show (-1 : Int) ≤ 200; omega
  | n + 1, h => by
    have := aMx_le (f := f) (n := n) (fun c a b => h c a (by omega))
    have g := h (n : Int) (by omega) (by omega)
    show max (aMx f n) (f (n : Int)) ≤ 200
    omega
theorem aFl_le {Cr : Bd} {A : Ab} (h : AR Cr A) : aFl Cr A ≤ 200 := by
  unfold aFl
  split
  · omega
  · exact aMx_le (fun c a b => (h c a (by omega)).2)
theorem eqv_refl (A : Ab) : eqv A A := ⟨rfl, fun _ _ _ => rfl⟩
theorem pE_hrs {To Ne Cr : Bd} {A : Ab} {w : Int} : pEw Ne Cr A w = pEnd Cr (aHrs To Ne Cr (pSt Cr A w) (200 - A.2.1 0).toNat) ∧ pWw Ne Cr A w = (aHrs To Ne Cr (pSt Cr A w) (200 - A.2.1 0).toNat).2.1 1 - A.2.1 1 := by
  have e := pEnd_eqv (Cr := Cr) (eqv_hours (To := To) (Ne := Ne) (Cr := Cr) (eqv_refl (pSt Cr A w)) (200 - A.2.1 0).toNat)
  unfold pEw pWw
  rw [e.1, e.2]
  exact ⟨rfl, rfl⟩
theorem wpow {W : Int} {n : Nat} (hW : 1 ≤ W ∧ W ≤ 4) (hn : n ≤ 4) : 1 ≤ W ^ n ∧ W ^ n ≤ 256 := by
  have h1 : W = 1 ∨ W = 2 ∨ W = 3 ∨ W = 4 := by omega
  have h2 : n = 0 ∨ n = 1 ∨ n = 2 ∨ n = 3 ∨ n = 4 := by omega
  rcases h1 with rfl | rfl | rfl | rfl <;> rcases h2 with rfl | rfl | rfl | rfl | rfl <;> decide
/-! the table that the reference reads -/
theorem m11 {Ne M : Bd} (hm : MSn Ne M) (hn : NW Ne) : (∀ k : Int, 0 ≤ k → k < 100 → 0 ≤ M.1 11 k ∧ M.1 11 k ≤ 10000) ∧ ∀ i j : Int, 0 ≤ i → i < 10 → 0 ≤ j → j < 10 → (if M.1 11 (10 * i + j) = 10000 then -1 else M.1 11 (10 * i + j)) = Ne.1 6 (i * 10 + j) := by
  refine ⟨fun k k1 k2 => ?_, fun i j i1 i2 j1 j2 => ?_⟩
  · have a := hm.2.2.2 (k / 10) (k % 10) (by omega) (by omega) (by omega) (by omega)
    have b := hn.1 (k / 10) (k % 10) (by omega) (by omega) (by omega) (by omega)
    rw [show 10 * (k / 10) + k % 10 = k by omega] at a
    rw [a]; split <;> omega
  · have a := hm.2.2.2 i j i1 i2 j1 j2
    have b := hn.1 i j i1 i2 j1 j2
    rw [a]
    by_cases z : Ne.1 6 (i * 10 + j) = -1
    · rw [if_pos z, if_pos rfl, z]
    · rw [if_neg z, if_neg (by omega)]

set_option maxHeartbeats 4000000 in
set_option maxRecDepth 100000 in
theorem c_X8_leastT (zl : Launch) (D : va_G) (K : tyK) (h : Nat) (a : Nat → Nat) (M : Bd) (To : Bd) (Ne : Bd) (s1 : Int) (s2 : Int) (hmt : MSt To M) (hmn : MSn Ne M) (hnw : NW Ne) (hto : 0 ≤ To.2 3 ∧ To.2 3 ≤ 10) (h1 : 0 ≤ s1 ∧ s1 < To.2 3) (h2 : 0 ≤ s2 ∧ s2 < To.2 3) : Mz zl yX8_least cX8_least 4 (some .int) 2 43 0 0 D K [.ref h, vZ s1, vZ s2] (wMo K h a M) (fun r_ w2_ gc gs => r_ = some (vZ (Ne.1 6 (s1 * 10 + s2))) ∧ w2_ = (wMo K h a M) ∧ gc = 0 ∧ gs = 0) := by
  refine Mz.ofZ (by decide) rfl (Nat.le_of_ble_eq_true rfl) ?_
  intro zp ze zR zs zm zargs zbelow zmeth zc zA zQ ZC ZE hRf hRc hRs hRl
  have e0 : M.2 0 = To.2 3 := hmt.1
  have hl := m11 hmn hnw
  have hl1 := hl.1 (10 * s1 + s2) (by omega) (by omega)
  have hl2 := hl.2 s1 s2 (by omega) (by omega) (by omega) (by omega)
  refine z_aload_n ZC 0 dX8_least_0 rfl rfl ?_
  refine z_iload_n ZC 1 dX8_least_1 rfl rfl ?_
  refine z_callV ZC 1 (c_X8_isTown zl D K h a M s1 (by omega) (by omega)) (gdV uM_X8_125 uI_X8_isTown uS_X8_isTown uN_X8 uC_X8_isTown) (by decide +kernel) rfl ⟨by omega, by omega⟩ ⟨by omega, by omega⟩ (Nat.le_of_ble_eq_true rfl) [0, 1, 2, 3, 4, 5, 6, 7, 8, 9, 10, 11, 12, 13, 14, 15, 16, 17, 18, 19, 20, 21, 22, 23, 24, 25, 26, 27, 28, 29, 30, 31] rfl (by decide) rfl rfl rfl rfl dX8_least_2 (fun r w2 gc_2 gs_2 hp => ?_)
  obtain ⟨v_2, rfl, rfl, rfl, rfl, hb_2⟩ := hp
  refine z_ws (ws2 := [(h, .inr (8, [vZ (M.2 0), .ref (a 1), .ref (a 2), vZ (M.2 3), vZ (M.2 4), .ref (a 5), .ref (a 6), .ref (a 7), .ref (a 8), .ref (a 9), .ref (a 10), .ref (a 11), vZ (M.2 12), .ref (a 13), .ref (a 14), .ref (a 15), .ref (a 16), .ref (a 17), .ref (a 18), .ref (a 19), vZ (M.2 20), vZ (M.2 21), .ref (a 22), .ref (a 23), .ref (a 24), .ref (a 25), .ref (a 26), .ref (a 27), .ref (a 28), .ref (a 29), .ref (a 30), .ref (a 31), .ref (a 32), .ref (a 33), vZ (M.2 34), .ref (a 35), vZ (M.2 36), vZ (M.2 37), vZ (M.2 38), .ref (a 39), .ref (a 40), vZ (M.2 41), vZ (M.2 42), vZ (M.2 43)])), ((a 1), .inl (K.1, 10, .inl (ar (M.1 1)))), ((a 2), .inl (K.1, 10, .inl (ar (M.1 2)))), ((a 5), .inl (K.1, 16, .inl (ar (M.1 5)))), ((a 6), .inl (K.1, 16, .inl (ar (M.1 6)))), ((a 7), .inl (K.1, 16, .inl (ar (M.1 7)))), ((a 8), .inl (K.1, 16, .inl (ar (M.1 8)))), ((a 9), .inl (K.1, 16, .inl (ar (M.1 9)))), ((a 10), .inl (K.1, 16, .inl (ar (M.1 10)))), ((a 11), .inl (K.1, 100, .inl (ar (M.1 11)))), ((a 13), .inl (K.1, 8, .inl (ar (M.1 13)))), ((a 14), .inl (K.1, 8, .inl (ar (M.1 14)))), ((a 15), .inl (K.1, 8, .inl (ar (M.1 15)))), ((a 16), .inl (K.1, 8, .inl (ar (M.1 16)))), ((a 17), .inl (K.1, 3200, .inl (ar (M.1 17)))), ((a 18), .inl (K.1, 3200, .inl (ar (M.1 18)))), ((a 19), .inl (K.2.1, 3200, .inl (ar (M.1 19)))), ((a 22), .inl (K.1, 3400, .inl (ar (M.1 22)))), ((a 23), .inl (K.1, 3400, .inl (ar (M.1 23)))), ((a 24), .inl (K.1, 3400, .inl (ar (M.1 24)))), ((a 25), .inl (K.1, 3400, .inl (ar (M.1 25)))), ((a 26), .inl (K.1, 32, .inl (ar (M.1 26)))), ((a 27), .inl (K.1, 32, .inl (ar (M.1 27)))), ((a 28), .inl (K.2.1, 8, .inl (ar (M.1 28)))), ((a 29), .inl (K.1, 8, .inl (ar (M.1 29)))), ((a 30), .inl (K.1, 8, .inl (ar (M.1 30)))), ((a 31), .inl (K.1, 10, .inl (ar (M.1 31)))), ((a 32), .inl (K.1, 10, .inl (ar (M.1 32)))), ((a 33), .inl (K.1, 10, .inl (ar (M.1 33)))), ((a 35), .inl (K.1, 13711, .inl (ar (M.1 35)))), ((a 39), .inl (K.1, 4, .inl (ar (M.1 39)))), ((a 40), .inl (K.1, 4, .inl (ar (M.1 40))))]) rfl ?_
  refine z_st (st2 := [vZ v_2]) rfl ?_
  refine z_if_eq ZC 16 dX8_least_5 (by decide) (by omega) (fun c_5 => ?_) (fun c_5 => ?_)
  · skip
    omega
  · skip
    refine z_aload_n ZC 0 dX8_least_8 rfl rfl ?_
    refine z_iload_n ZC 2 dX8_least_9 rfl rfl ?_
    refine z_callV ZC 1 (c_X8_isTown zl D K h a M s2 (by omega) (by omega)) (gdV uM_X8_125 uI_X8_isTown uS_X8_isTown uN_X8 uC_X8_isTown) (by decide +kernel) rfl ⟨by omega, by omega⟩ ⟨by omega, by omega⟩ (Nat.le_of_ble_eq_true rfl) [0, 1, 2, 3, 4, 5, 6, 7, 8, 9, 10, 11, 12, 13, 14, 15, 16, 17, 18, 19, 20, 21, 22, 23, 24, 25, 26, 27, 28, 29, 30, 31] rfl (by decide) rfl rfl rfl rfl dX8_least_10 (fun r w2 gc_10 gs_10 hp => ?_)
    obtain ⟨v_10, rfl, rfl, rfl, rfl, hb_10⟩ := hp
    refine z_ws (ws2 := [(h, .inr (8, [vZ (M.2 0), .ref (a 1), .ref (a 2), vZ (M.2 3), vZ (M.2 4), .ref (a 5), .ref (a 6), .ref (a 7), .ref (a 8), .ref (a 9), .ref (a 10), .ref (a 11), vZ (M.2 12), .ref (a 13), .ref (a 14), .ref (a 15), .ref (a 16), .ref (a 17), .ref (a 18), .ref (a 19), vZ (M.2 20), vZ (M.2 21), .ref (a 22), .ref (a 23), .ref (a 24), .ref (a 25), .ref (a 26), .ref (a 27), .ref (a 28), .ref (a 29), .ref (a 30), .ref (a 31), .ref (a 32), .ref (a 33), vZ (M.2 34), .ref (a 35), vZ (M.2 36), vZ (M.2 37), vZ (M.2 38), .ref (a 39), .ref (a 40), vZ (M.2 41), vZ (M.2 42), vZ (M.2 43)])), ((a 1), .inl (K.1, 10, .inl (ar (M.1 1)))), ((a 2), .inl (K.1, 10, .inl (ar (M.1 2)))), ((a 5), .inl (K.1, 16, .inl (ar (M.1 5)))), ((a 6), .inl (K.1, 16, .inl (ar (M.1 6)))), ((a 7), .inl (K.1, 16, .inl (ar (M.1 7)))), ((a 8), .inl (K.1, 16, .inl (ar (M.1 8)))), ((a 9), .inl (K.1, 16, .inl (ar (M.1 9)))), ((a 10), .inl (K.1, 16, .inl (ar (M.1 10)))), ((a 11), .inl (K.1, 100, .inl (ar (M.1 11)))), ((a 13), .inl (K.1, 8, .inl (ar (M.1 13)))), ((a 14), .inl (K.1, 8, .inl (ar (M.1 14)))), ((a 15), .inl (K.1, 8, .inl (ar (M.1 15)))), ((a 16), .inl (K.1, 8, .inl (ar (M.1 16)))), ((a 17), .inl (K.1, 3200, .inl (ar (M.1 17)))), ((a 18), .inl (K.1, 3200, .inl (ar (M.1 18)))), ((a 19), .inl (K.2.1, 3200, .inl (ar (M.1 19)))), ((a 22), .inl (K.1, 3400, .inl (ar (M.1 22)))), ((a 23), .inl (K.1, 3400, .inl (ar (M.1 23)))), ((a 24), .inl (K.1, 3400, .inl (ar (M.1 24)))), ((a 25), .inl (K.1, 3400, .inl (ar (M.1 25)))), ((a 26), .inl (K.1, 32, .inl (ar (M.1 26)))), ((a 27), .inl (K.1, 32, .inl (ar (M.1 27)))), ((a 28), .inl (K.2.1, 8, .inl (ar (M.1 28)))), ((a 29), .inl (K.1, 8, .inl (ar (M.1 29)))), ((a 30), .inl (K.1, 8, .inl (ar (M.1 30)))), ((a 31), .inl (K.1, 10, .inl (ar (M.1 31)))), ((a 32), .inl (K.1, 10, .inl (ar (M.1 32)))), ((a 33), .inl (K.1, 10, .inl (ar (M.1 33)))), ((a 35), .inl (K.1, 13711, .inl (ar (M.1 35)))), ((a 39), .inl (K.1, 4, .inl (ar (M.1 39)))), ((a 40), .inl (K.1, 4, .inl (ar (M.1 40))))]) rfl ?_
    refine z_st (st2 := [vZ v_10]) rfl ?_
    refine z_if_ne ZC 18 dX8_least_13 (by decide) (by omega) (fun c_13 => ?_) (fun c_13 => ?_)
    · skip
      refine z_aload_n ZC 0 dX8_least_18 rfl rfl ?_
      refine z_get ZC inUX8 0 rfl rfl 11 (by decide) uF_X8_38 rfl dX8_least_19 ?_
      refine z_bipush ZC dX8_least_22 (by decide) ?_
      refine z_iload_n ZC 1 dX8_least_24 rfl rfl ?_
      refine z_imul ZC dX8_least_25 ?_
      refine z_iload_n ZC 2 dX8_least_26 rfl rfl ?_
      refine z_iadd ZC dX8_least_27 ?_
      refine z_iald ZC 9 rfl dX8_least_28 (by omega) ?_
      refine z_istore_n ZC 3 dX8_least_29 rfl (by decide) ?_
      refine z_iload_n ZC 3 dX8_least_30 rfl rfl ?_
      refine z_sipush ZC dX8_least_31 (by decide) ?_
      refine z_icmp_lt ZC 41 dX8_least_34 (by decide) (by omega) (by omega) (fun c_34 => ?_) (fun c_34 => ?_)
      · skip
        refine z_iload_n ZC 3 dX8_least_41 rfl rfl ?_
        rw [if_neg (by omega)] at hl2
        refine z_top (y := Ne.1 6 (s1 * 10 + s2)) hl2 ?_
        exact z_iret ZC ZE dX8_least_42 (by omega) (by omega) (Nat.le_of_ble_eq_true rfl) ⟨rfl, rfl, by omega, by omega⟩
      · skip
        refine z_iconst ZC dX8_least_37 ?_
        refine z_goto ZC 42 dX8_least_38 (by decide) ?_
        rw [if_pos (by omega)] at hl2
        refine z_top (y := Ne.1 6 (s1 * 10 + s2)) hl2 ?_
        exact z_iret ZC ZE dX8_least_42 (by omega) (by omega) (Nat.le_of_ble_eq_true rfl) ⟨rfl, rfl, by omega, by omega⟩
    · skip
      omega

set_option maxHeartbeats 4000000 in
set_option maxRecDepth 100000 in
theorem c_X8_worth (zl : Launch) (D : va_G) (K : tyK) (h : Nat) (a : Nat → Nat) (M : Bd) (To : Bd) (t : Int) (hmt : MSt To M) (hto : 0 ≤ To.2 3 ∧ To.2 3 ≤ 10) (htw : (1 ≤ To.2 2 ∧ To.2 2 ≤ 100) ∧ ∀ x_ : Int, 0 ≤ x_ → x_ < To.2 3 → (0 ≤ To.1 0 x_ ∧ To.1 0 x_ ≤ 99) ∧ (0 ≤ To.1 1 x_ ∧ To.1 1 x_ ≤ 100)) (ht : 0 ≤ t ∧ t < To.2 3) : Mz zl yX8_worth cX8_worth 2 (some .int) 3 66 0 0 D K [.ref h, vZ t] (wMo K h a M) (fun r_ w2_ gc gs => r_ = some (vZ (wth To t)) ∧ w2_ = (wMo K h a M) ∧ gc = 0 ∧ gs = 0) := by
  refine Mz.ofZ (by decide) rfl (Nat.le_of_ble_eq_true rfl) ?_
  intro zp ze zR zs zm zargs zbelow zmeth zc zA zQ ZC ZE hRf hRc hRs hRl
  have e0 : M.2 0 = To.2 3 := hmt.1
  have e3 : M.2 3 = To.2 2 := hmt.2.1
  have e1 := hmt.2.2.1 t ht.1 ht.2
  have e2 := hmt.2.2.2 t ht.1 (by omega)
  refine z_aload_n ZC 0 dX8_worth_0 rfl rfl ?_
  refine z_iload_n ZC 1 dX8_worth_1 rfl rfl ?_
  refine z_callV ZC 1 (c_X8_seconds zl D K h a M t (by omega) (by omega) (⟨by omega, fun x x1 x2 => by rw [hmt.2.2.1 x x1 (by omega)]; exact (htw.2 x x1 (by omega)).1⟩)) (gdV uM_X8_135 uI_X8_seconds uS_X8_seconds uN_X8 uC_X8_seconds) (by decide +kernel) rfl ⟨by omega, by omega⟩ ⟨by omega, by omega⟩ (Nat.le_of_ble_eq_true rfl) [0, 1, 2, 3, 4, 5, 6, 7, 8, 9, 10, 11, 12, 13, 14, 15, 16, 17, 18, 19, 20, 21, 22, 23, 24, 25, 26, 27, 28, 29, 30, 31] rfl (by decide) rfl rfl rfl rfl dX8_worth_2 (fun r w2 gc_2 gs_2 hp => ?_)
  obtain ⟨v_2, rfl, rfl, rfl, rfl, hv_2⟩ := hp
  have hv2 : v_2 = drk (To.2 2) (To.1 0 t) := by
    rcases hv_2 with z | z
    · rw [z.2.1, e3, e1]
    · exact absurd (by omega) z.1
  refine z_ws (ws2 := [(h, .inr (8, [vZ (M.2 0), .ref (a 1), .ref (a 2), vZ (M.2 3), vZ (M.2 4), .ref (a 5), .ref (a 6), .ref (a 7), .ref (a 8), .ref (a 9), .ref (a 10), .ref (a 11), vZ (M.2 12), .ref (a 13), .ref (a 14), .ref (a 15), .ref (a 16), .ref (a 17), .ref (a 18), .ref (a 19), vZ (M.2 20), vZ (M.2 21), .ref (a 22), .ref (a 23), .ref (a 24), .ref (a 25), .ref (a 26), .ref (a 27), .ref (a 28), .ref (a 29), .ref (a 30), .ref (a 31), .ref (a 32), .ref (a 33), vZ (M.2 34), .ref (a 35), vZ (M.2 36), vZ (M.2 37), vZ (M.2 38), .ref (a 39), .ref (a 40), vZ (M.2 41), vZ (M.2 42), vZ (M.2 43)])), ((a 1), .inl (K.1, 10, .inl (ar (M.1 1)))), ((a 2), .inl (K.1, 10, .inl (ar (M.1 2)))), ((a 5), .inl (K.1, 16, .inl (ar (M.1 5)))), ((a 6), .inl (K.1, 16, .inl (ar (M.1 6)))), ((a 7), .inl (K.1, 16, .inl (ar (M.1 7)))), ((a 8), .inl (K.1, 16, .inl (ar (M.1 8)))), ((a 9), .inl (K.1, 16, .inl (ar (M.1 9)))), ((a 10), .inl (K.1, 16, .inl (ar (M.1 10)))), ((a 11), .inl (K.1, 100, .inl (ar (M.1 11)))), ((a 13), .inl (K.1, 8, .inl (ar (M.1 13)))), ((a 14), .inl (K.1, 8, .inl (ar (M.1 14)))), ((a 15), .inl (K.1, 8, .inl (ar (M.1 15)))), ((a 16), .inl (K.1, 8, .inl (ar (M.1 16)))), ((a 17), .inl (K.1, 3200, .inl (ar (M.1 17)))), ((a 18), .inl (K.1, 3200, .inl (ar (M.1 18)))), ((a 19), .inl (K.2.1, 3200, .inl (ar (M.1 19)))), ((a 22), .inl (K.1, 3400, .inl (ar (M.1 22)))), ((a 23), .inl (K.1, 3400, .inl (ar (M.1 23)))), ((a 24), .inl (K.1, 3400, .inl (ar (M.1 24)))), ((a 25), .inl (K.1, 3400, .inl (ar (M.1 25)))), ((a 26), .inl (K.1, 32, .inl (ar (M.1 26)))), ((a 27), .inl (K.1, 32, .inl (ar (M.1 27)))), ((a 28), .inl (K.2.1, 8, .inl (ar (M.1 28)))), ((a 29), .inl (K.1, 8, .inl (ar (M.1 29)))), ((a 30), .inl (K.1, 8, .inl (ar (M.1 30)))), ((a 31), .inl (K.1, 10, .inl (ar (M.1 31)))), ((a 32), .inl (K.1, 10, .inl (ar (M.1 32)))), ((a 33), .inl (K.1, 10, .inl (ar (M.1 33)))), ((a 35), .inl (K.1, 13711, .inl (ar (M.1 35)))), ((a 39), .inl (K.1, 4, .inl (ar (M.1 39)))), ((a 40), .inl (K.1, 4, .inl (ar (M.1 40))))]) rfl ?_
  refine z_st (st2 := [vZ v_2]) rfl ?_
  refine z_bipush ZC dX8_worth_5 (by decide) ?_
  refine z_aload_n ZC 0 dX8_worth_7 rfl rfl ?_
  refine z_get ZC inUX8 0 rfl rfl 2 (by decide) uF_X8_13 rfl dX8_worth_8 ?_
  refine z_iload_n ZC 1 dX8_worth_11 rfl rfl ?_
  refine z_iald ZC 2 rfl dX8_worth_12 (by omega) ?_
  refine z_isub ZC dX8_worth_13 ?_
  refine z_imul ZC dX8_worth_14 ?_
  refine z_top (y := wth To t) (by rw [hv2, e2]; rfl) ?_
  exact z_iret ZC ZE dX8_worth_15 (by omega) (by omega) (Nat.le_of_ble_eq_true rfl) ⟨rfl, rfl, by omega, by omega⟩

set_option maxHeartbeats 4000000 in
set_option maxRecDepth 100000 in
theorem c_X8_dawn (zl : Launch) (D : va_G) (K : tyK) (h : Nat) (a : Nat → Nat) (M : Bd) (To : Bd) (Ne : Bd) (Cr : Bd) (hours : Int) (hz_hours : -2147483648 ≤ hours ∧ hours < 2147483648) (hms : MS To Ne Cr M) (hnw : NW Ne) (hto : 0 ≤ To.2 3 ∧ To.2 3 ≤ 10) (htw : (1 ≤ To.2 2 ∧ To.2 2 ≤ 100) ∧ ∀ x_ : Int, 0 ≤ x_ → x_ < To.2 3 → (0 ≤ To.1 0 x_ ∧ To.1 0 x_ ≤ 99) ∧ (0 ≤ To.1 1 x_ ∧ To.1 1 x_ ≤ 100)) (hc8 : 0 ≤ Cr.2 3 ∧ Cr.2 3 ≤ 8) (hn8 : 0 ≤ M.2 20 ∧ M.2 20 ≤ 200) (hcp : ∀ c : Int, 0 ≤ c → c < Cr.2 3 → (0 ≤ Cr.1 0 c ∧ Cr.1 0 c < To.2 3) ∧ (0 ≤ Cr.1 2 c ∧ Cr.1 2 c < To.2 3)) (hdg : ∀ i : Int, 0 ≤ i → i < 10 → Ne.1 6 (i * 10 + i) = 0) : Mz zl yX8_dawn cX8_dawn 7 (some .int) 4 87 0 0 D K [.ref h, vZ hours] (wMo K h a M) (fun r_ w2_ gc gs => ∃ (Pl : Int → Int), ∃ (v : Int), r_ = some (vZ v) ∧ w2_ = (wMo K h a ((upf M.1 13 Pl), M.2)) ∧ gc = 0 ∧ gs = 0 ∧ (((M.2 20 = 0 ∧ (0 ≤ hours ∧ hours ≤ 20)) ∧ v = (dwF To Ne Cr hours (Cr.2 3).toNat).2 ∧ ∀ x : Int, 0 ≤ x → x < Cr.2 3 → Pl x = (dwF To Ne Cr hours (Cr.2 3).toNat).1 x) ∨ (¬ (M.2 20 = 0 ∧ (0 ≤ hours ∧ hours ≤ 20)) ∧ v = -1 ∧ Pl = M.1 13))) := by
  refine Mz.ofZ (by decide) rfl (Nat.le_of_ble_eq_true rfl) ?_
  intro zp ze zR zs zm zargs zbelow zmeth zc zA zQ ZC ZE hRf hRc hRs hRl
  have e0 : M.2 0 = To.2 3 := hms.1.1
  have e12 : M.2 12 = Cr.2 3 := hms.2.2.1
  refine z_aload_n ZC 0 dX8_dawn_0 rfl rfl ?_
  refine z_get ZC inUX8 0 rfl rfl 20 (by decide) uF_X8_129 rfl dX8_dawn_1 ?_
  refine z_if_gt ZC 17 dX8_dawn_4 (by decide) (by omega) (fun c_4 => ?_) (fun c_4 => ?_)
  · skip
    refine z_iconst ZC dX8_dawn_17 ?_
    refine z_iret ZC ZE dX8_dawn_18 (by omega) (by omega) (Nat.le_of_ble_eq_true rfl) ⟨(M.1 13), (-1), rfl, rfl, by omega, by omega, ?_⟩
    · skip
      right; exact ⟨by omega, rfl, rfl⟩
  · skip
    refine z_iload_n ZC 1 dX8_dawn_7 rfl rfl ?_
    refine z_iconst ZC dX8_dawn_8 ?_
    refine z_bipush ZC dX8_dawn_9 (by decide) ?_
    refine z_callS ZC 3 (c_X8_in zl D K hours 0 20 (by omega) (by omega) (by omega)) (gdS uM_X8_114 uZ_X8_in uN_X8 uC_X8_in) (by decide +kernel) rfl ⟨by omega, by omega⟩ ⟨by omega, by omega⟩ (Nat.le_of_ble_eq_true rfl) [] rfl (by decide) rfl dX8_dawn_11 (fun r w2 gc_11 gs_11 hp => ?_)
    obtain ⟨b_11, rfl, rfl, rfl, rfl, hb_11⟩ := hp
    refine z_st (st2 := [vZ b_11]) rfl ?_
    refine z_if_ne ZC 19 dX8_dawn_14 (by decide) (by omega) (fun c_14 => ?_) (fun c_14 => ?_)
    · skip
      refine z_iconst ZC dX8_dawn_19 ?_
      refine z_istore_n ZC 2 dX8_dawn_20 rfl (by decide) ?_
      refine z_iconst ZC dX8_dawn_21 ?_
      refine z_istore_n ZC 3 dX8_dawn_22 rfl (by decide) ?_
      have lp_23 : ∀ (n_23 : Nat) (n : Int) (c : Int) (Pl : Int → Int), (0 ≤ c ∧ c ≤ Cr.2 3) → (n = (dwF To Ne Cr hours c.toNat).2) → (∀ x : Int, 0 ≤ x → x < Cr.2 3 → Pl x = (dwF To Ne Cr hours c.toNat).1 x) → ((Cr.2 3 - c).toNat) < n_23 → Zw zp zl ze zR zs zm zargs zbelow zmeth zc D zA 7 zQ (0 + 0) (0 + 0) ([(h, .inr (8, [vZ (M.2 0), .ref (a 1), .ref (a 2), vZ (M.2 3), vZ (M.2 4), .ref (a 5), .ref (a 6), .ref (a 7), .ref (a 8), .ref (a 9), .ref (a 10), .ref (a 11), vZ (M.2 12), .ref (a 13), .ref (a 14), .ref (a 15), .ref (a 16), .ref (a 17), .ref (a 18), .ref (a 19), vZ (M.2 20), vZ (M.2 21), .ref (a 22), .ref (a 23), .ref (a 24), .ref (a 25), .ref (a 26), .ref (a 27), .ref (a 28), .ref (a 29), .ref (a 30), .ref (a 31), .ref (a 32), .ref (a 33), vZ (M.2 34), .ref (a 35), vZ (M.2 36), vZ (M.2 37), vZ (M.2 38), .ref (a 39), .ref (a 40), vZ (M.2 41), vZ (M.2 42), vZ (M.2 43)])), ((a 1), .inl (K.1, 10, .inl (ar (M.1 1)))), ((a 2), .inl (K.1, 10, .inl (ar (M.1 2)))), ((a 5), .inl (K.1, 16, .inl (ar (M.1 5)))), ((a 6), .inl (K.1, 16, .inl (ar (M.1 6)))), ((a 7), .inl (K.1, 16, .inl (ar (M.1 7)))), ((a 8), .inl (K.1, 16, .inl (ar (M.1 8)))), ((a 9), .inl (K.1, 16, .inl (ar (M.1 9)))), ((a 10), .inl (K.1, 16, .inl (ar (M.1 10)))), ((a 11), .inl (K.1, 100, .inl (ar (M.1 11)))), ((a 13), .inl (K.1, 8, .inl (ar Pl))), ((a 14), .inl (K.1, 8, .inl (ar (M.1 14)))), ((a 15), .inl (K.1, 8, .inl (ar (M.1 15)))), ((a 16), .inl (K.1, 8, .inl (ar (M.1 16)))), ((a 17), .inl (K.1, 3200, .inl (ar (M.1 17)))), ((a 18), .inl (K.1, 3200, .inl (ar (M.1 18)))), ((a 19), .inl (K.2.1, 3200, .inl (ar (M.1 19)))), ((a 22), .inl (K.1, 3400, .inl (ar (M.1 22)))), ((a 23), .inl (K.1, 3400, .inl (ar (M.1 23)))), ((a 24), .inl (K.1, 3400, .inl (ar (M.1 24)))), ((a 25), .inl (K.1, 3400, .inl (ar (M.1 25)))), ((a 26), .inl (K.1, 32, .inl (ar (M.1 26)))), ((a 27), .inl (K.1, 32, .inl (ar (M.1 27)))), ((a 28), .inl (K.2.1, 8, .inl (ar (M.1 28)))), ((a 29), .inl (K.1, 8, .inl (ar (M.1 29)))), ((a 30), .inl (K.1, 8, .inl (ar (M.1 30)))), ((a 31), .inl (K.1, 10, .inl (ar (M.1 31)))), ((a 32), .inl (K.1, 10, .inl (ar (M.1 32)))), ((a 33), .inl (K.1, 10, .inl (ar (M.1 33)))), ((a 35), .inl (K.1, 13711, .inl (ar (M.1 35)))), ((a 39), .inl (K.1, 4, .inl (ar (M.1 39)))), ((a 40), .inl (K.1, 4, .inl (ar (M.1 40))))]) 23 [(0, .ref h), (1, vZ hours), (2, vZ n), (3, vZ c)] [] := by
        intro n_23
        induction n_23 with
        | zero => intro n c Pl h0 h1 h2 hm_23; exact absurd hm_23 (Nat.not_lt_zero _)
        | succ n_23 ih_23 =>
          intro n c Pl h0 h1 h2 hm_23
          refine z_iload_n ZC 3 dX8_dawn_23 rfl rfl ?_
          refine z_aload_n ZC 0 dX8_dawn_24 rfl rfl ?_
          refine z_get ZC inUX8 0 rfl rfl 12 (by decide) uF_X8_121 rfl dX8_dawn_25 ?_
          refine z_icmp_ge ZC 203 dX8_dawn_28 (by decide) (by omega) (by omega) (fun c_28 => ?_) (fun c_28 => ?_)
          · skip
            refine z_iload_n ZC 2 dX8_dawn_203 rfl rfl ?_
            refine z_iret ZC ZE dX8_dawn_204 (by omega) (by omega) (Nat.le_of_ble_eq_true rfl) ⟨Pl, n, rfl, rfl, by omega, by omega, ?_⟩
            · skip
              left
              rw [show Cr.2 3 = c by omega]
              refine ⟨by omega, h1, fun x x1 x2 => h2 x x1 (by omega)⟩
          · skip
            have hcc := hcp c h0.1 (by omega)
            have hmcc := hms.2.2.2 c h0.1 (by omega)
            have e1 : Pl c = Cr.1 0 c := by rw [h2 c h0.1 (by omega)]; exact dwF_keep _ c (by omega)
            refine z_aload_n ZC 0 dX8_dawn_31 rfl rfl ?_
            refine z_get ZC inUX8 0 rfl rfl 13 (by decide) uF_X8_41 rfl dX8_dawn_32 ?_
            refine z_iload_n ZC 3 dX8_dawn_35 rfl rfl ?_
            refine z_iald ZC 10 rfl dX8_dawn_36 (by omega) ?_
            refine z_top (y := (Cr.1 0 c)) (e1) ?_
            refine z_istore ZC dX8_dawn_37 (by decide) ?_
            refine z_iconst ZC dX8_dawn_39 ?_
            refine z_istore ZC dX8_dawn_40 (by decide) ?_
            have lp_42 : ∀ (n_42 : Nat) (best : Int) (t : Int), (0 ≤ t ∧ t ≤ To.2 3) → (best = bsF To Ne (Cr.1 0 c) (Cr.1 2 c) hours t.toNat) → (0 ≤ best ∧ best < To.2 3) → ((To.2 3 - t).toNat) < n_42 → Zw zp zl ze zR zs zm zargs zbelow zmeth zc D zA 7 zQ (0 + 0) (0 + 0) ([(h, .inr (8, [vZ (M.2 0), .ref (a 1), .ref (a 2), vZ (M.2 3), vZ (M.2 4), .ref (a 5), .ref (a 6), .ref (a 7), .ref (a 8), .ref (a 9), .ref (a 10), .ref (a 11), vZ (M.2 12), .ref (a 13), .ref (a 14), .ref (a 15), .ref (a 16), .ref (a 17), .ref (a 18), .ref (a 19), vZ (M.2 20), vZ (M.2 21), .ref (a 22), .ref (a 23), .ref (a 24), .ref (a 25), .ref (a 26), .ref (a 27), .ref (a 28), .ref (a 29), .ref (a 30), .ref (a 31), .ref (a 32), .ref (a 33), vZ (M.2 34), .ref (a 35), vZ (M.2 36), vZ (M.2 37), vZ (M.2 38), .ref (a 39), .ref (a 40), vZ (M.2 41), vZ (M.2 42), vZ (M.2 43)])), ((a 1), .inl (K.1, 10, .inl (ar (M.1 1)))), ((a 2), .inl (K.1, 10, .inl (ar (M.1 2)))), ((a 5), .inl (K.1, 16, .inl (ar (M.1 5)))), ((a 6), .inl (K.1, 16, .inl (ar (M.1 6)))), ((a 7), .inl (K.1, 16, .inl (ar (M.1 7)))), ((a 8), .inl (K.1, 16, .inl (ar (M.1 8)))), ((a 9), .inl (K.1, 16, .inl (ar (M.1 9)))), ((a 10), .inl (K.1, 16, .inl (ar (M.1 10)))), ((a 11), .inl (K.1, 100, .inl (ar (M.1 11)))), ((a 13), .inl (K.1, 8, .inl (ar Pl))), ((a 14), .inl (K.1, 8, .inl (ar (M.1 14)))), ((a 15), .inl (K.1, 8, .inl (ar (M.1 15)))), ((a 16), .inl (K.1, 8, .inl (ar (M.1 16)))), ((a 17), .inl (K.1, 3200, .inl (ar (M.1 17)))), ((a 18), .inl (K.1, 3200, .inl (ar (M.1 18)))), ((a 19), .inl (K.2.1, 3200, .inl (ar (M.1 19)))), ((a 22), .inl (K.1, 3400, .inl (ar (M.1 22)))), ((a 23), .inl (K.1, 3400, .inl (ar (M.1 23)))), ((a 24), .inl (K.1, 3400, .inl (ar (M.1 24)))), ((a 25), .inl (K.1, 3400, .inl (ar (M.1 25)))), ((a 26), .inl (K.1, 32, .inl (ar (M.1 26)))), ((a 27), .inl (K.1, 32, .inl (ar (M.1 27)))), ((a 28), .inl (K.2.1, 8, .inl (ar (M.1 28)))), ((a 29), .inl (K.1, 8, .inl (ar (M.1 29)))), ((a 30), .inl (K.1, 8, .inl (ar (M.1 30)))), ((a 31), .inl (K.1, 10, .inl (ar (M.1 31)))), ((a 32), .inl (K.1, 10, .inl (ar (M.1 32)))), ((a 33), .inl (K.1, 10, .inl (ar (M.1 33)))), ((a 35), .inl (K.1, 13711, .inl (ar (M.1 35)))), ((a 39), .inl (K.1, 4, .inl (ar (M.1 39)))), ((a 40), .inl (K.1, 4, .inl (ar (M.1 40))))]) 42 [(0, .ref h), (1, vZ hours), (2, vZ n), (3, vZ c), (4, vZ best), (5, vZ t)] [] := by
              intro n_42
              induction n_42 with
              | zero => intro best t ht hb hbr hm_42; exact absurd hm_42 (Nat.not_lt_zero _)
              | succ n_42 ih_42 =>
                intro best t ht hb hbr hm_42
                refine z_iload ZC dX8_dawn_42 rfl ?_
                refine z_aload_n ZC 0 dX8_dawn_44 rfl rfl ?_
                refine z_get ZC inUX8 0 rfl rfl 0 (by decide) uF_X8_111 rfl dX8_dawn_45 ?_
                refine z_icmp_ge ZC 164 dX8_dawn_48 (by decide) (by omega) (by omega) (fun c_48 => ?_) (fun c_48 => ?_)
                · skip
                  have hw1 := wth_rng (htw.2 best (by omega) (by omega)).2
                  have hw2 := wth_rng (htw.2 (Cr.1 0 c) (by omega) (by omega)).2
                  have hbe : best = bsF To Ne (Cr.1 0 c) (Cr.1 2 c) hours (To.2 3).toNat := by rw [hb, show t = To.2 3 by omega]
                  have hbi := bsF_in (To := To) (Ne := Ne) (here := Cr.1 0 c) (home := Cr.1 2 c) (hours := hours) (hdg _ (by omega) (by omega)) (To.2 3).toNat (fun x x1 x2 => (hnw.1 (Cr.1 0 c) x (by omega) (by omega) x1 (by omega)).1)
                  rw [← hbe] at hbi
                  refine z_aload_n ZC 0 dX8_dawn_164 rfl rfl ?_
                  refine z_iload ZC dX8_dawn_165 rfl ?_
                  have hy_hmt_167_0 : MSt To ((upf M.1 13 Pl), M.2) := hms.1
                  have hy_hto_167_0 : 0 ≤ To.2 3 ∧ To.2 3 ≤ 10 := hto
                  have hy_htw_167_0 : (1 ≤ To.2 2 ∧ To.2 2 ≤ 100) ∧ ∀ x_ : Int, 0 ≤ x_ → x_ < To.2 3 → (0 ≤ To.1 0 x_ ∧ To.1 0 x_ ≤ 99) ∧ (0 ≤ To.1 1 x_ ∧ To.1 1 x_ ≤ 100) := htw
                  have hy_ht_167_0 : 0 ≤ best ∧ best < To.2 3 := hbr
                  refine z_callV ZC 1 (c_X8_worth zl D K h a ((upf M.1 13 Pl), M.2) To best (hy_hmt_167_0) (hy_hto_167_0) (hy_htw_167_0) (hy_ht_167_0)) (gdV uM_X8_139 uI_X8_worth uS_X8_worth uN_X8 uC_X8_worth) (by decide +kernel) rfl ⟨by omega, by omega⟩ ⟨by omega, by omega⟩ (Nat.le_of_ble_eq_true rfl) [0, 1, 2, 3, 4, 5, 6, 7, 8, 9, 10, 11, 12, 13, 14, 15, 16, 17, 18, 19, 20, 21, 22, 23, 24, 25, 26, 27, 28, 29, 30, 31] rfl (by decide) rfl rfl rfl rfl dX8_dawn_167 (fun r w2 gc_167 gs_167 hp => ?_)
                  obtain ⟨rfl, rfl, rfl, rfl⟩ := hp
                  refine z_top (y := (wth To best)) rfl ?_
                  refine z_ws (ws2 := [(h, .inr (8, [vZ (M.2 0), .ref (a 1), .ref (a 2), vZ (M.2 3), vZ (M.2 4), .ref (a 5), .ref (a 6), .ref (a 7), .ref (a 8), .ref (a 9), .ref (a 10), .ref (a 11), vZ (M.2 12), .ref (a 13), .ref (a 14), .ref (a 15), .ref (a 16), .ref (a 17), .ref (a 18), .ref (a 19), vZ (M.2 20), vZ (M.2 21), .ref (a 22), .ref (a 23), .ref (a 24), .ref (a 25), .ref (a 26), .ref (a 27), .ref (a 28), .ref (a 29), .ref (a 30), .ref (a 31), .ref (a 32), .ref (a 33), vZ (M.2 34), .ref (a 35), vZ (M.2 36), vZ (M.2 37), vZ (M.2 38), .ref (a 39), .ref (a 40), vZ (M.2 41), vZ (M.2 42), vZ (M.2 43)])), ((a 1), .inl (K.1, 10, .inl (ar (M.1 1)))), ((a 2), .inl (K.1, 10, .inl (ar (M.1 2)))), ((a 5), .inl (K.1, 16, .inl (ar (M.1 5)))), ((a 6), .inl (K.1, 16, .inl (ar (M.1 6)))), ((a 7), .inl (K.1, 16, .inl (ar (M.1 7)))), ((a 8), .inl (K.1, 16, .inl (ar (M.1 8)))), ((a 9), .inl (K.1, 16, .inl (ar (M.1 9)))), ((a 10), .inl (K.1, 16, .inl (ar (M.1 10)))), ((a 11), .inl (K.1, 100, .inl (ar (M.1 11)))), ((a 13), .inl (K.1, 8, .inl (ar Pl))), ((a 14), .inl (K.1, 8, .inl (ar (M.1 14)))), ((a 15), .inl (K.1, 8, .inl (ar (M.1 15)))), ((a 16), .inl (K.1, 8, .inl (ar (M.1 16)))), ((a 17), .inl (K.1, 3200, .inl (ar (M.1 17)))), ((a 18), .inl (K.1, 3200, .inl (ar (M.1 18)))), ((a 19), .inl (K.2.1, 3200, .inl (ar (M.1 19)))), ((a 22), .inl (K.1, 3400, .inl (ar (M.1 22)))), ((a 23), .inl (K.1, 3400, .inl (ar (M.1 23)))), ((a 24), .inl (K.1, 3400, .inl (ar (M.1 24)))), ((a 25), .inl (K.1, 3400, .inl (ar (M.1 25)))), ((a 26), .inl (K.1, 32, .inl (ar (M.1 26)))), ((a 27), .inl (K.1, 32, .inl (ar (M.1 27)))), ((a 28), .inl (K.2.1, 8, .inl (ar (M.1 28)))), ((a 29), .inl (K.1, 8, .inl (ar (M.1 29)))), ((a 30), .inl (K.1, 8, .inl (ar (M.1 30)))), ((a 31), .inl (K.1, 10, .inl (ar (M.1 31)))), ((a 32), .inl (K.1, 10, .inl (ar (M.1 32)))), ((a 33), .inl (K.1, 10, .inl (ar (M.1 33)))), ((a 35), .inl (K.1, 13711, .inl (ar (M.1 35)))), ((a 39), .inl (K.1, 4, .inl (ar (M.1 39)))), ((a 40), .inl (K.1, 4, .inl (ar (M.1 40))))]) rfl ?_
                  refine z_st (st2 := [vZ (wth To best)]) rfl ?_
                  refine z_aload_n ZC 0 dX8_dawn_170 rfl rfl ?_
                  refine z_aload_n ZC 0 dX8_dawn_171 rfl rfl ?_
                  refine z_get ZC inUX8 0 rfl rfl 13 (by decide) uF_X8_41 rfl dX8_dawn_172 ?_
                  refine z_iload_n ZC 3 dX8_dawn_175 rfl rfl ?_
                  refine z_iald ZC 10 rfl dX8_dawn_176 (by omega) ?_
                  refine z_top (y := (Cr.1 0 c)) (e1) ?_
                  have hy_hmt_177_0 : MSt To ((upf M.1 13 Pl), M.2) := hms.1
                  have hy_hto_177_0 : 0 ≤ To.2 3 ∧ To.2 3 ≤ 10 := hto
                  have hy_htw_177_0 : (1 ≤ To.2 2 ∧ To.2 2 ≤ 100) ∧ ∀ x_ : Int, 0 ≤ x_ → x_ < To.2 3 → (0 ≤ To.1 0 x_ ∧ To.1 0 x_ ≤ 99) ∧ (0 ≤ To.1 1 x_ ∧ To.1 1 x_ ≤ 100) := htw
                  have hy_ht_177_0 : 0 ≤ (Cr.1 0 c) ∧ (Cr.1 0 c) < To.2 3 := hcc.1
                  refine z_callV ZC 1 (c_X8_worth zl D K h a ((upf M.1 13 Pl), M.2) To (Cr.1 0 c) (hy_hmt_177_0) (hy_hto_177_0) (hy_htw_177_0) (hy_ht_177_0)) (gdV uM_X8_139 uI_X8_worth uS_X8_worth uN_X8 uC_X8_worth) (by decide +kernel) rfl ⟨by omega, by omega⟩ ⟨by omega, by omega⟩ (Nat.le_of_ble_eq_true rfl) [0, 1, 2, 3, 4, 5, 6, 7, 8, 9, 10, 11, 12, 13, 14, 15, 16, 17, 18, 19, 20, 21, 22, 23, 24, 25, 26, 27, 28, 29, 30, 31] rfl (by decide) rfl rfl rfl rfl dX8_dawn_177 (fun r w2 gc_177 gs_177 hp => ?_)
                  obtain ⟨rfl, rfl, rfl, rfl⟩ := hp
                  refine z_top (y := (wth To (Cr.1 0 c))) rfl ?_
                  refine z_ws (ws2 := [(h, .inr (8, [vZ (M.2 0), .ref (a 1), .ref (a 2), vZ (M.2 3), vZ (M.2 4), .ref (a 5), .ref (a 6), .ref (a 7), .ref (a 8), .ref (a 9), .ref (a 10), .ref (a 11), vZ (M.2 12), .ref (a 13), .ref (a 14), .ref (a 15), .ref (a 16), .ref (a 17), .ref (a 18), .ref (a 19), vZ (M.2 20), vZ (M.2 21), .ref (a 22), .ref (a 23), .ref (a 24), .ref (a 25), .ref (a 26), .ref (a 27), .ref (a 28), .ref (a 29), .ref (a 30), .ref (a 31), .ref (a 32), .ref (a 33), vZ (M.2 34), .ref (a 35), vZ (M.2 36), vZ (M.2 37), vZ (M.2 38), .ref (a 39), .ref (a 40), vZ (M.2 41), vZ (M.2 42), vZ (M.2 43)])), ((a 1), .inl (K.1, 10, .inl (ar (M.1 1)))), ((a 2), .inl (K.1, 10, .inl (ar (M.1 2)))), ((a 5), .inl (K.1, 16, .inl (ar (M.1 5)))), ((a 6), .inl (K.1, 16, .inl (ar (M.1 6)))), ((a 7), .inl (K.1, 16, .inl (ar (M.1 7)))), ((a 8), .inl (K.1, 16, .inl (ar (M.1 8)))), ((a 9), .inl (K.1, 16, .inl (ar (M.1 9)))), ((a 10), .inl (K.1, 16, .inl (ar (M.1 10)))), ((a 11), .inl (K.1, 100, .inl (ar (M.1 11)))), ((a 13), .inl (K.1, 8, .inl (ar Pl))), ((a 14), .inl (K.1, 8, .inl (ar (M.1 14)))), ((a 15), .inl (K.1, 8, .inl (ar (M.1 15)))), ((a 16), .inl (K.1, 8, .inl (ar (M.1 16)))), ((a 17), .inl (K.1, 3200, .inl (ar (M.1 17)))), ((a 18), .inl (K.1, 3200, .inl (ar (M.1 18)))), ((a 19), .inl (K.2.1, 3200, .inl (ar (M.1 19)))), ((a 22), .inl (K.1, 3400, .inl (ar (M.1 22)))), ((a 23), .inl (K.1, 3400, .inl (ar (M.1 23)))), ((a 24), .inl (K.1, 3400, .inl (ar (M.1 24)))), ((a 25), .inl (K.1, 3400, .inl (ar (M.1 25)))), ((a 26), .inl (K.1, 32, .inl (ar (M.1 26)))), ((a 27), .inl (K.1, 32, .inl (ar (M.1 27)))), ((a 28), .inl (K.2.1, 8, .inl (ar (M.1 28)))), ((a 29), .inl (K.1, 8, .inl (ar (M.1 29)))), ((a 30), .inl (K.1, 8, .inl (ar (M.1 30)))), ((a 31), .inl (K.1, 10, .inl (ar (M.1 31)))), ((a 32), .inl (K.1, 10, .inl (ar (M.1 32)))), ((a 33), .inl (K.1, 10, .inl (ar (M.1 33)))), ((a 35), .inl (K.1, 13711, .inl (ar (M.1 35)))), ((a 39), .inl (K.1, 4, .inl (ar (M.1 39)))), ((a 40), .inl (K.1, 4, .inl (ar (M.1 40))))]) rfl ?_
                  refine z_st (st2 := [vZ (wth To (Cr.1 0 c)), vZ (wth To best)]) rfl ?_
                  refine z_icmp_gt ZC 186 dX8_dawn_180 (by decide) (by omega) (by omega) (fun c_180 => ?_) (fun c_180 => ?_)
                  · skip
                    refine z_aload_n ZC 0 dX8_dawn_186 rfl rfl ?_
                    refine z_get ZC inUX8 0 rfl rfl 13 (by decide) uF_X8_41 rfl dX8_dawn_187 ?_
                    refine z_iload_n ZC 3 dX8_dawn_190 rfl rfl ?_
                    refine z_iload ZC dX8_dawn_191 rfl ?_
                    refine z_iast ZC 10 rfl dX8_dawn_193 (by omega) ?_
                    refine z_iinc ZC dX8_dawn_194 rfl (by decide) ?_
                    refine z_iinc ZC dX8_dawn_197 rfl (by decide) ?_
                    refine z_goto ZC 23 dX8_dawn_200 (by decide) ?_
                    refine z_ws (ws2 := [(h, .inr (8, [vZ (M.2 0), .ref (a 1), .ref (a 2), vZ (M.2 3), vZ (M.2 4), .ref (a 5), .ref (a 6), .ref (a 7), .ref (a 8), .ref (a 9), .ref (a 10), .ref (a 11), vZ (M.2 12), .ref (a 13), .ref (a 14), .ref (a 15), .ref (a 16), .ref (a 17), .ref (a 18), .ref (a 19), vZ (M.2 20), vZ (M.2 21), .ref (a 22), .ref (a 23), .ref (a 24), .ref (a 25), .ref (a 26), .ref (a 27), .ref (a 28), .ref (a 29), .ref (a 30), .ref (a 31), .ref (a 32), .ref (a 33), vZ (M.2 34), .ref (a 35), vZ (M.2 36), vZ (M.2 37), vZ (M.2 38), .ref (a 39), .ref (a 40), vZ (M.2 41), vZ (M.2 42), vZ (M.2 43)])), ((a 1), .inl (K.1, 10, .inl (ar (M.1 1)))), ((a 2), .inl (K.1, 10, .inl (ar (M.1 2)))), ((a 5), .inl (K.1, 16, .inl (ar (M.1 5)))), ((a 6), .inl (K.1, 16, .inl (ar (M.1 6)))), ((a 7), .inl (K.1, 16, .inl (ar (M.1 7)))), ((a 8), .inl (K.1, 16, .inl (ar (M.1 8)))), ((a 9), .inl (K.1, 16, .inl (ar (M.1 9)))), ((a 10), .inl (K.1, 16, .inl (ar (M.1 10)))), ((a 11), .inl (K.1, 100, .inl (ar (M.1 11)))), ((a 13), .inl (K.1, 8, .inl (ar (upz Pl c best)))), ((a 14), .inl (K.1, 8, .inl (ar (M.1 14)))), ((a 15), .inl (K.1, 8, .inl (ar (M.1 15)))), ((a 16), .inl (K.1, 8, .inl (ar (M.1 16)))), ((a 17), .inl (K.1, 3200, .inl (ar (M.1 17)))), ((a 18), .inl (K.1, 3200, .inl (ar (M.1 18)))), ((a 19), .inl (K.2.1, 3200, .inl (ar (M.1 19)))), ((a 22), .inl (K.1, 3400, .inl (ar (M.1 22)))), ((a 23), .inl (K.1, 3400, .inl (ar (M.1 23)))), ((a 24), .inl (K.1, 3400, .inl (ar (M.1 24)))), ((a 25), .inl (K.1, 3400, .inl (ar (M.1 25)))), ((a 26), .inl (K.1, 32, .inl (ar (M.1 26)))), ((a 27), .inl (K.1, 32, .inl (ar (M.1 27)))), ((a 28), .inl (K.2.1, 8, .inl (ar (M.1 28)))), ((a 29), .inl (K.1, 8, .inl (ar (M.1 29)))), ((a 30), .inl (K.1, 8, .inl (ar (M.1 30)))), ((a 31), .inl (K.1, 10, .inl (ar (M.1 31)))), ((a 32), .inl (K.1, 10, .inl (ar (M.1 32)))), ((a 33), .inl (K.1, 10, .inl (ar (M.1 33)))), ((a 35), .inl (K.1, 13711, .inl (ar (M.1 35)))), ((a 39), .inl (K.1, 4, .inl (ar (M.1 39)))), ((a 40), .inl (K.1, 4, .inl (ar (M.1 40))))]) rfl (z_lv (lv2 := [(0, .ref h), (1, vZ hours), (2, vZ (n + 1)), (3, vZ (c + 1))]) ⟨rfl, rfl, rfl, rfl, trivial⟩ ?_)
                    refine ih_23 (n + 1) (c + 1) (upz Pl c best) ?_ ?_ ?_ (dec_lt hm_23 (by omega))
                    · skip
                      omega
                    · skip
                      rw [dwF_next h0.1, ← hbe, if_neg (by intro q; rw [q] at c_180; omega), ← h1]
                    · skip
                      intro x x1 x2
                      rw [dwF_next h0.1, ← hbe, if_neg (by intro q; rw [q] at c_180; omega)]
                      show upz Pl c best x = upz (dwF To Ne Cr hours c.toNat).1 c best x
                      unfold upz
                      split
                      · rfl
                      · exact h2 x x1 x2
                  · skip
                    refine z_goto ZC 197 dX8_dawn_183 (by decide) ?_
                    refine z_iinc ZC dX8_dawn_197 rfl (by decide) ?_
                    refine z_goto ZC 23 dX8_dawn_200 (by decide) ?_
                    refine z_ws (ws2 := [(h, .inr (8, [vZ (M.2 0), .ref (a 1), .ref (a 2), vZ (M.2 3), vZ (M.2 4), .ref (a 5), .ref (a 6), .ref (a 7), .ref (a 8), .ref (a 9), .ref (a 10), .ref (a 11), vZ (M.2 12), .ref (a 13), .ref (a 14), .ref (a 15), .ref (a 16), .ref (a 17), .ref (a 18), .ref (a 19), vZ (M.2 20), vZ (M.2 21), .ref (a 22), .ref (a 23), .ref (a 24), .ref (a 25), .ref (a 26), .ref (a 27), .ref (a 28), .ref (a 29), .ref (a 30), .ref (a 31), .ref (a 32), .ref (a 33), vZ (M.2 34), .ref (a 35), vZ (M.2 36), vZ (M.2 37), vZ (M.2 38), .ref (a 39), .ref (a 40), vZ (M.2 41), vZ (M.2 42), vZ (M.2 43)])), ((a 1), .inl (K.1, 10, .inl (ar (M.1 1)))), ((a 2), .inl (K.1, 10, .inl (ar (M.1 2)))), ((a 5), .inl (K.1, 16, .inl (ar (M.1 5)))), ((a 6), .inl (K.1, 16, .inl (ar (M.1 6)))), ((a 7), .inl (K.1, 16, .inl (ar (M.1 7)))), ((a 8), .inl (K.1, 16, .inl (ar (M.1 8)))), ((a 9), .inl (K.1, 16, .inl (ar (M.1 9)))), ((a 10), .inl (K.1, 16, .inl (ar (M.1 10)))), ((a 11), .inl (K.1, 100, .inl (ar (M.1 11)))), ((a 13), .inl (K.1, 8, .inl (ar Pl))), ((a 14), .inl (K.1, 8, .inl (ar (M.1 14)))), ((a 15), .inl (K.1, 8, .inl (ar (M.1 15)))), ((a 16), .inl (K.1, 8, .inl (ar (M.1 16)))), ((a 17), .inl (K.1, 3200, .inl (ar (M.1 17)))), ((a 18), .inl (K.1, 3200, .inl (ar (M.1 18)))), ((a 19), .inl (K.2.1, 3200, .inl (ar (M.1 19)))), ((a 22), .inl (K.1, 3400, .inl (ar (M.1 22)))), ((a 23), .inl (K.1, 3400, .inl (ar (M.1 23)))), ((a 24), .inl (K.1, 3400, .inl (ar (M.1 24)))), ((a 25), .inl (K.1, 3400, .inl (ar (M.1 25)))), ((a 26), .inl (K.1, 32, .inl (ar (M.1 26)))), ((a 27), .inl (K.1, 32, .inl (ar (M.1 27)))), ((a 28), .inl (K.2.1, 8, .inl (ar (M.1 28)))), ((a 29), .inl (K.1, 8, .inl (ar (M.1 29)))), ((a 30), .inl (K.1, 8, .inl (ar (M.1 30)))), ((a 31), .inl (K.1, 10, .inl (ar (M.1 31)))), ((a 32), .inl (K.1, 10, .inl (ar (M.1 32)))), ((a 33), .inl (K.1, 10, .inl (ar (M.1 33)))), ((a 35), .inl (K.1, 13711, .inl (ar (M.1 35)))), ((a 39), .inl (K.1, 4, .inl (ar (M.1 39)))), ((a 40), .inl (K.1, 4, .inl (ar (M.1 40))))]) rfl (z_lv (lv2 := [(0, .ref h), (1, vZ hours), (2, vZ n), (3, vZ (c + 1))]) ⟨rfl, rfl, rfl, rfl, trivial⟩ ?_)
                    refine ih_23 n (c + 1) Pl ?_ ?_ ?_ (dec_lt hm_23 (by omega))
                    · skip
                      omega
                    · skip
                      rw [dwF_next h0.1, ← hbe, if_pos (by omega)]; exact h1
                    · skip
                      rw [dwF_next h0.1, ← hbe, if_pos (by omega)]; exact h2
                · skip
                  have hl1 := hnw.1 (Cr.1 0 c) t (by omega) (by omega) (by omega) (by omega)
                  have hl2 := hnw.1 t (Cr.1 2 c) (by omega) (by omega) (by omega) (by omega)
                  have hl3 := hnw.1 (Cr.1 0 c) best (by omega) (by omega) (by omega) (by omega)
                  have hw1 := wth_rng (htw.2 t (by omega) (by omega)).2
                  have hw2 := wth_rng (htw.2 best (by omega) (by omega)).2
                  refine z_aload_n ZC 0 dX8_dawn_51 rfl rfl ?_
                  refine z_aload_n ZC 0 dX8_dawn_52 rfl rfl ?_
                  refine z_get ZC inUX8 0 rfl rfl 13 (by decide) uF_X8_41 rfl dX8_dawn_53 ?_
                  refine z_iload_n ZC 3 dX8_dawn_56 rfl rfl ?_
                  refine z_iald ZC 10 rfl dX8_dawn_57 (by omega) ?_
                  refine z_top (y := (Cr.1 0 c)) (e1) ?_
                  refine z_iload ZC dX8_dawn_58 rfl ?_
                  have hy_hmt_60_0 : MSt To ((upf M.1 13 Pl), M.2) := hms.1
                  have hy_hmn_60_0 : MSn Ne ((upf M.1 13 Pl), M.2) := hms.2.1
                  have hy_hnw_60_0 : NW Ne := hnw
                  have hy_hto_60_0 : 0 ≤ To.2 3 ∧ To.2 3 ≤ 10 := hto
                  have hy_h1_60_0 : 0 ≤ (Cr.1 0 c) ∧ (Cr.1 0 c) < To.2 3 := hcc.1
                  have hy_h2_60_0 : 0 ≤ t ∧ t < To.2 3 := by omega
                  refine z_callV ZC 2 (c_X8_leastT zl D K h a ((upf M.1 13 Pl), M.2) To Ne (Cr.1 0 c) t (hy_hmt_60_0) (hy_hmn_60_0) (hy_hnw_60_0) (hy_hto_60_0) (hy_h1_60_0) (hy_h2_60_0)) (gdV uM_X8_132 uI_X8_least uS_X8_least uN_X8 uC_X8_least) (by decide +kernel) rfl ⟨by omega, by omega⟩ ⟨by omega, by omega⟩ (Nat.le_of_ble_eq_true rfl) [0, 1, 2, 3, 4, 5, 6, 7, 8, 9, 10, 11, 12, 13, 14, 15, 16, 17, 18, 19, 20, 21, 22, 23, 24, 25, 26, 27, 28, 29, 30, 31] rfl (by decide) rfl rfl rfl rfl dX8_dawn_60 (fun r w2 gc_60 gs_60 hp => ?_)
                  obtain ⟨rfl, rfl, rfl, rfl⟩ := hp
                  refine z_top (y := (Ne.1 6 ((Cr.1 0 c) * 10 + t))) rfl ?_
                  refine z_ws (ws2 := [(h, .inr (8, [vZ (M.2 0), .ref (a 1), .ref (a 2), vZ (M.2 3), vZ (M.2 4), .ref (a 5), .ref (a 6), .ref (a 7), .ref (a 8), .ref (a 9), .ref (a 10), .ref (a 11), vZ (M.2 12), .ref (a 13), .ref (a 14), .ref (a 15), .ref (a 16), .ref (a 17), .ref (a 18), .ref (a 19), vZ (M.2 20), vZ (M.2 21), .ref (a 22), .ref (a 23), .ref (a 24), .ref (a 25), .ref (a 26), .ref (a 27), .ref (a 28), .ref (a 29), .ref (a 30), .ref (a 31), .ref (a 32), .ref (a 33), vZ (M.2 34), .ref (a 35), vZ (M.2 36), vZ (M.2 37), vZ (M.2 38), .ref (a 39), .ref (a 40), vZ (M.2 41), vZ (M.2 42), vZ (M.2 43)])), ((a 1), .inl (K.1, 10, .inl (ar (M.1 1)))), ((a 2), .inl (K.1, 10, .inl (ar (M.1 2)))), ((a 5), .inl (K.1, 16, .inl (ar (M.1 5)))), ((a 6), .inl (K.1, 16, .inl (ar (M.1 6)))), ((a 7), .inl (K.1, 16, .inl (ar (M.1 7)))), ((a 8), .inl (K.1, 16, .inl (ar (M.1 8)))), ((a 9), .inl (K.1, 16, .inl (ar (M.1 9)))), ((a 10), .inl (K.1, 16, .inl (ar (M.1 10)))), ((a 11), .inl (K.1, 100, .inl (ar (M.1 11)))), ((a 13), .inl (K.1, 8, .inl (ar Pl))), ((a 14), .inl (K.1, 8, .inl (ar (M.1 14)))), ((a 15), .inl (K.1, 8, .inl (ar (M.1 15)))), ((a 16), .inl (K.1, 8, .inl (ar (M.1 16)))), ((a 17), .inl (K.1, 3200, .inl (ar (M.1 17)))), ((a 18), .inl (K.1, 3200, .inl (ar (M.1 18)))), ((a 19), .inl (K.2.1, 3200, .inl (ar (M.1 19)))), ((a 22), .inl (K.1, 3400, .inl (ar (M.1 22)))), ((a 23), .inl (K.1, 3400, .inl (ar (M.1 23)))), ((a 24), .inl (K.1, 3400, .inl (ar (M.1 24)))), ((a 25), .inl (K.1, 3400, .inl (ar (M.1 25)))), ((a 26), .inl (K.1, 32, .inl (ar (M.1 26)))), ((a 27), .inl (K.1, 32, .inl (ar (M.1 27)))), ((a 28), .inl (K.2.1, 8, .inl (ar (M.1 28)))), ((a 29), .inl (K.1, 8, .inl (ar (M.1 29)))), ((a 30), .inl (K.1, 8, .inl (ar (M.1 30)))), ((a 31), .inl (K.1, 10, .inl (ar (M.1 31)))), ((a 32), .inl (K.1, 10, .inl (ar (M.1 32)))), ((a 33), .inl (K.1, 10, .inl (ar (M.1 33)))), ((a 35), .inl (K.1, 13711, .inl (ar (M.1 35)))), ((a 39), .inl (K.1, 4, .inl (ar (M.1 39)))), ((a 40), .inl (K.1, 4, .inl (ar (M.1 40))))]) rfl ?_
                  refine z_st (st2 := [vZ (Ne.1 6 ((Cr.1 0 c) * 10 + t))]) rfl ?_
                  refine z_istore ZC dX8_dawn_63 (by decide) ?_
                  refine z_iload ZC dX8_dawn_65 rfl ?_
                  refine z_iconst ZC dX8_dawn_67 ?_
                  refine z_icmp_eq ZC 158 dX8_dawn_68 (by decide) (by omega) (by omega) (fun c_68 => ?_) (fun c_68 => ?_)
                  · skip
                    refine z_iinc ZC dX8_dawn_158 rfl (by decide) ?_
                    refine z_goto ZC 42 dX8_dawn_161 (by decide) ?_
                    refine z_ws (ws2 := [(h, .inr (8, [vZ (M.2 0), .ref (a 1), .ref (a 2), vZ (M.2 3), vZ (M.2 4), .ref (a 5), .ref (a 6), .ref (a 7), .ref (a 8), .ref (a 9), .ref (a 10), .ref (a 11), vZ (M.2 12), .ref (a 13), .ref (a 14), .ref (a 15), .ref (a 16), .ref (a 17), .ref (a 18), .ref (a 19), vZ (M.2 20), vZ (M.2 21), .ref (a 22), .ref (a 23), .ref (a 24), .ref (a 25), .ref (a 26), .ref (a 27), .ref (a 28), .ref (a 29), .ref (a 30), .ref (a 31), .ref (a 32), .ref (a 33), vZ (M.2 34), .ref (a 35), vZ (M.2 36), vZ (M.2 37), vZ (M.2 38), .ref (a 39), .ref (a 40), vZ (M.2 41), vZ (M.2 42), vZ (M.2 43)])), ((a 1), .inl (K.1, 10, .inl (ar (M.1 1)))), ((a 2), .inl (K.1, 10, .inl (ar (M.1 2)))), ((a 5), .inl (K.1, 16, .inl (ar (M.1 5)))), ((a 6), .inl (K.1, 16, .inl (ar (M.1 6)))), ((a 7), .inl (K.1, 16, .inl (ar (M.1 7)))), ((a 8), .inl (K.1, 16, .inl (ar (M.1 8)))), ((a 9), .inl (K.1, 16, .inl (ar (M.1 9)))), ((a 10), .inl (K.1, 16, .inl (ar (M.1 10)))), ((a 11), .inl (K.1, 100, .inl (ar (M.1 11)))), ((a 13), .inl (K.1, 8, .inl (ar Pl))), ((a 14), .inl (K.1, 8, .inl (ar (M.1 14)))), ((a 15), .inl (K.1, 8, .inl (ar (M.1 15)))), ((a 16), .inl (K.1, 8, .inl (ar (M.1 16)))), ((a 17), .inl (K.1, 3200, .inl (ar (M.1 17)))), ((a 18), .inl (K.1, 3200, .inl (ar (M.1 18)))), ((a 19), .inl (K.2.1, 3200, .inl (ar (M.1 19)))), ((a 22), .inl (K.1, 3400, .inl (ar (M.1 22)))), ((a 23), .inl (K.1, 3400, .inl (ar (M.1 23)))), ((a 24), .inl (K.1, 3400, .inl (ar (M.1 24)))), ((a 25), .inl (K.1, 3400, .inl (ar (M.1 25)))), ((a 26), .inl (K.1, 32, .inl (ar (M.1 26)))), ((a 27), .inl (K.1, 32, .inl (ar (M.1 27)))), ((a 28), .inl (K.2.1, 8, .inl (ar (M.1 28)))), ((a 29), .inl (K.1, 8, .inl (ar (M.1 29)))), ((a 30), .inl (K.1, 8, .inl (ar (M.1 30)))), ((a 31), .inl (K.1, 10, .inl (ar (M.1 31)))), ((a 32), .inl (K.1, 10, .inl (ar (M.1 32)))), ((a 33), .inl (K.1, 10, .inl (ar (M.1 33)))), ((a 35), .inl (K.1, 13711, .inl (ar (M.1 35)))), ((a 39), .inl (K.1, 4, .inl (ar (M.1 39)))), ((a 40), .inl (K.1, 4, .inl (ar (M.1 40))))]) rfl (z_lv (lv2 := [(0, .ref h), (1, vZ hours), (2, vZ n), (3, vZ c), (4, vZ best), (5, vZ (t + 1))]) ⟨rfl, rfl, rfl, rfl, rfl, rfl, trivial⟩ ?_)
                    refine ih_42 best (t + 1) ?_ ?_ ?_ (dec_lt hm_42 (by omega))
                    · skip
                      omega
                    · skip
                      rw [bsF_next ht.1, ← hb]
                      unfold bsS
                      first | (rw [if_neg (by omega)]; done) | rw [if_pos (by omega)]
                    · skip
                      omega
                  · skip
                    refine z_iload ZC dX8_dawn_71 rfl ?_
                    refine z_iload_n ZC 1 dX8_dawn_73 rfl rfl ?_
                    refine z_icmp_gt ZC 158 dX8_dawn_74 (by decide) (by omega) (by omega) (fun c_74 => ?_) (fun c_74 => ?_)
                    · skip
                      refine z_iinc ZC dX8_dawn_158 rfl (by decide) ?_
                      refine z_goto ZC 42 dX8_dawn_161 (by decide) ?_
                      refine z_ws (ws2 := [(h, .inr (8, [vZ (M.2 0), .ref (a 1), .ref (a 2), vZ (M.2 3), vZ (M.2 4), .ref (a 5), .ref (a 6), .ref (a 7), .ref (a 8), .ref (a 9), .ref (a 10), .ref (a 11), vZ (M.2 12), .ref (a 13), .ref (a 14), .ref (a 15), .ref (a 16), .ref (a 17), .ref (a 18), .ref (a 19), vZ (M.2 20), vZ (M.2 21), .ref (a 22), .ref (a 23), .ref (a 24), .ref (a 25), .ref (a 26), .ref (a 27), .ref (a 28), .ref (a 29), .ref (a 30), .ref (a 31), .ref (a 32), .ref (a 33), vZ (M.2 34), .ref (a 35), vZ (M.2 36), vZ (M.2 37), vZ (M.2 38), .ref (a 39), .ref (a 40), vZ (M.2 41), vZ (M.2 42), vZ (M.2 43)])), ((a 1), .inl (K.1, 10, .inl (ar (M.1 1)))), ((a 2), .inl (K.1, 10, .inl (ar (M.1 2)))), ((a 5), .inl (K.1, 16, .inl (ar (M.1 5)))), ((a 6), .inl (K.1, 16, .inl (ar (M.1 6)))), ((a 7), .inl (K.1, 16, .inl (ar (M.1 7)))), ((a 8), .inl (K.1, 16, .inl (ar (M.1 8)))), ((a 9), .inl (K.1, 16, .inl (ar (M.1 9)))), ((a 10), .inl (K.1, 16, .inl (ar (M.1 10)))), ((a 11), .inl (K.1, 100, .inl (ar (M.1 11)))), ((a 13), .inl (K.1, 8, .inl (ar Pl))), ((a 14), .inl (K.1, 8, .inl (ar (M.1 14)))), ((a 15), .inl (K.1, 8, .inl (ar (M.1 15)))), ((a 16), .inl (K.1, 8, .inl (ar (M.1 16)))), ((a 17), .inl (K.1, 3200, .inl (ar (M.1 17)))), ((a 18), .inl (K.1, 3200, .inl (ar (M.1 18)))), ((a 19), .inl (K.2.1, 3200, .inl (ar (M.1 19)))), ((a 22), .inl (K.1, 3400, .inl (ar (M.1 22)))), ((a 23), .inl (K.1, 3400, .inl (ar (M.1 23)))), ((a 24), .inl (K.1, 3400, .inl (ar (M.1 24)))), ((a 25), .inl (K.1, 3400, .inl (ar (M.1 25)))), ((a 26), .inl (K.1, 32, .inl (ar (M.1 26)))), ((a 27), .inl (K.1, 32, .inl (ar (M.1 27)))), ((a 28), .inl (K.2.1, 8, .inl (ar (M.1 28)))), ((a 29), .inl (K.1, 8, .inl (ar (M.1 29)))), ((a 30), .inl (K.1, 8, .inl (ar (M.1 30)))), ((a 31), .inl (K.1, 10, .inl (ar (M.1 31)))), ((a 32), .inl (K.1, 10, .inl (ar (M.1 32)))), ((a 33), .inl (K.1, 10, .inl (ar (M.1 33)))), ((a 35), .inl (K.1, 13711, .inl (ar (M.1 35)))), ((a 39), .inl (K.1, 4, .inl (ar (M.1 39)))), ((a 40), .inl (K.1, 4, .inl (ar (M.1 40))))]) rfl (z_lv (lv2 := [(0, .ref h), (1, vZ hours), (2, vZ n), (3, vZ c), (4, vZ best), (5, vZ (t + 1))]) ⟨rfl, rfl, rfl, rfl, rfl, rfl, trivial⟩ ?_)
                      refine ih_42 best (t + 1) ?_ ?_ ?_ (dec_lt hm_42 (by omega))
                      · skip
                        omega
                      · skip
                        rw [bsF_next ht.1, ← hb]
                        unfold bsS
                        first | (rw [if_neg (by omega)]; done) | rw [if_pos (by omega)]
                      · skip
                        omega
                    · skip
                      refine z_iload ZC dX8_dawn_77 rfl ?_
                      refine z_aload_n ZC 0 dX8_dawn_79 rfl rfl ?_
                      refine z_get ZC inUX8 0 rfl rfl 15 (by decide) uF_X8_47 rfl dX8_dawn_80 ?_
                      refine z_iload_n ZC 3 dX8_dawn_83 rfl rfl ?_
                      refine z_iald ZC 12 rfl dX8_dawn_84 (by omega) ?_
                      refine z_top (y := (Cr.1 2 c)) (hmcc.2.2) ?_
                      refine z_icmp_eq ZC 158 dX8_dawn_85 (by decide) (by omega) (by omega) (fun c_85 => ?_) (fun c_85 => ?_)
                      · skip
                        refine z_iinc ZC dX8_dawn_158 rfl (by decide) ?_
                        refine z_goto ZC 42 dX8_dawn_161 (by decide) ?_
                        refine z_ws (ws2 := [(h, .inr (8, [vZ (M.2 0), .ref (a 1), .ref (a 2), vZ (M.2 3), vZ (M.2 4), .ref (a 5), .ref (a 6), .ref (a 7), .ref (a 8), .ref (a 9), .ref (a 10), .ref (a 11), vZ (M.2 12), .ref (a 13), .ref (a 14), .ref (a 15), .ref (a 16), .ref (a 17), .ref (a 18), .ref (a 19), vZ (M.2 20), vZ (M.2 21), .ref (a 22), .ref (a 23), .ref (a 24), .ref (a 25), .ref (a 26), .ref (a 27), .ref (a 28), .ref (a 29), .ref (a 30), .ref (a 31), .ref (a 32), .ref (a 33), vZ (M.2 34), .ref (a 35), vZ (M.2 36), vZ (M.2 37), vZ (M.2 38), .ref (a 39), .ref (a 40), vZ (M.2 41), vZ (M.2 42), vZ (M.2 43)])), ((a 1), .inl (K.1, 10, .inl (ar (M.1 1)))), ((a 2), .inl (K.1, 10, .inl (ar (M.1 2)))), ((a 5), .inl (K.1, 16, .inl (ar (M.1 5)))), ((a 6), .inl (K.1, 16, .inl (ar (M.1 6)))), ((a 7), .inl (K.1, 16, .inl (ar (M.1 7)))), ((a 8), .inl (K.1, 16, .inl (ar (M.1 8)))), ((a 9), .inl (K.1, 16, .inl (ar (M.1 9)))), ((a 10), .inl (K.1, 16, .inl (ar (M.1 10)))), ((a 11), .inl (K.1, 100, .inl (ar (M.1 11)))), ((a 13), .inl (K.1, 8, .inl (ar Pl))), ((a 14), .inl (K.1, 8, .inl (ar (M.1 14)))), ((a 15), .inl (K.1, 8, .inl (ar (M.1 15)))), ((a 16), .inl (K.1, 8, .inl (ar (M.1 16)))), ((a 17), .inl (K.1, 3200, .inl (ar (M.1 17)))), ((a 18), .inl (K.1, 3200, .inl (ar (M.1 18)))), ((a 19), .inl (K.2.1, 3200, .inl (ar (M.1 19)))), ((a 22), .inl (K.1, 3400, .inl (ar (M.1 22)))), ((a 23), .inl (K.1, 3400, .inl (ar (M.1 23)))), ((a 24), .inl (K.1, 3400, .inl (ar (M.1 24)))), ((a 25), .inl (K.1, 3400, .inl (ar (M.1 25)))), ((a 26), .inl (K.1, 32, .inl (ar (M.1 26)))), ((a 27), .inl (K.1, 32, .inl (ar (M.1 27)))), ((a 28), .inl (K.2.1, 8, .inl (ar (M.1 28)))), ((a 29), .inl (K.1, 8, .inl (ar (M.1 29)))), ((a 30), .inl (K.1, 8, .inl (ar (M.1 30)))), ((a 31), .inl (K.1, 10, .inl (ar (M.1 31)))), ((a 32), .inl (K.1, 10, .inl (ar (M.1 32)))), ((a 33), .inl (K.1, 10, .inl (ar (M.1 33)))), ((a 35), .inl (K.1, 13711, .inl (ar (M.1 35)))), ((a 39), .inl (K.1, 4, .inl (ar (M.1 39)))), ((a 40), .inl (K.1, 4, .inl (ar (M.1 40))))]) rfl (z_lv (lv2 := [(0, .ref h), (1, vZ hours), (2, vZ n), (3, vZ c), (4, vZ best), (5, vZ (t + 1))]) ⟨rfl, rfl, rfl, rfl, rfl, rfl, trivial⟩ ?_)
                        refine ih_42 best (t + 1) ?_ ?_ ?_ (dec_lt hm_42 (by omega))
                        · skip
                          omega
                        · skip
                          rw [bsF_next ht.1, ← hb]
                          unfold bsS
                          first | (rw [if_neg (by omega)]; done) | rw [if_pos (by omega)]
                        · skip
                          omega
                      · skip
                        refine z_aload_n ZC 0 dX8_dawn_88 rfl rfl ?_
                        refine z_iload ZC dX8_dawn_89 rfl ?_
                        refine z_aload_n ZC 0 dX8_dawn_91 rfl rfl ?_
                        refine z_get ZC inUX8 0 rfl rfl 15 (by decide) uF_X8_47 rfl dX8_dawn_92 ?_
                        refine z_iload_n ZC 3 dX8_dawn_95 rfl rfl ?_
                        refine z_iald ZC 12 rfl dX8_dawn_96 (by omega) ?_
                        refine z_top (y := (Cr.1 2 c)) (hmcc.2.2) ?_
                        have hy_hmt_97_0 : MSt To ((upf M.1 13 Pl), M.2) := hms.1
                        have hy_hmn_97_0 : MSn Ne ((upf M.1 13 Pl), M.2) := hms.2.1
                        have hy_hnw_97_0 : NW Ne := hnw
                        have hy_hto_97_0 : 0 ≤ To.2 3 ∧ To.2 3 ≤ 10 := hto
                        have hy_h1_97_0 : 0 ≤ t ∧ t < To.2 3 := by omega
                        have hy_h2_97_0 : 0 ≤ (Cr.1 2 c) ∧ (Cr.1 2 c) < To.2 3 := hcc.2
                        refine z_callV ZC 2 (c_X8_leastT zl D K h a ((upf M.1 13 Pl), M.2) To Ne t (Cr.1 2 c) (hy_hmt_97_0) (hy_hmn_97_0) (hy_hnw_97_0) (hy_hto_97_0) (hy_h1_97_0) (hy_h2_97_0)) (gdV uM_X8_132 uI_X8_least uS_X8_least uN_X8 uC_X8_least) (by decide +kernel) rfl ⟨by omega, by omega⟩ ⟨by omega, by omega⟩ (Nat.le_of_ble_eq_true rfl) [0, 1, 2, 3, 4, 5, 6, 7, 8, 9, 10, 11, 12, 13, 14, 15, 16, 17, 18, 19, 20, 21, 22, 23, 24, 25, 26, 27, 28, 29, 30, 31] rfl (by decide) rfl rfl rfl rfl dX8_dawn_97 (fun r w2 gc_97 gs_97 hp => ?_)
                        obtain ⟨rfl, rfl, rfl, rfl⟩ := hp
                        refine z_top (y := (Ne.1 6 (t * 10 + (Cr.1 2 c)))) rfl ?_
                        refine z_ws (ws2 := [(h, .inr (8, [vZ (M.2 0), .ref (a 1), .ref (a 2), vZ (M.2 3), vZ (M.2 4), .ref (a 5), .ref (a 6), .ref (a 7), .ref (a 8), .ref (a 9), .ref (a 10), .ref (a 11), vZ (M.2 12), .ref (a 13), .ref (a 14), .ref (a 15), .ref (a 16), .ref (a 17), .ref (a 18), .ref (a 19), vZ (M.2 20), vZ (M.2 21), .ref (a 22), .ref (a 23), .ref (a 24), .ref (a 25), .ref (a 26), .ref (a 27), .ref (a 28), .ref (a 29), .ref (a 30), .ref (a 31), .ref (a 32), .ref (a 33), vZ (M.2 34), .ref (a 35), vZ (M.2 36), vZ (M.2 37), vZ (M.2 38), .ref (a 39), .ref (a 40), vZ (M.2 41), vZ (M.2 42), vZ (M.2 43)])), ((a 1), .inl (K.1, 10, .inl (ar (M.1 1)))), ((a 2), .inl (K.1, 10, .inl (ar (M.1 2)))), ((a 5), .inl (K.1, 16, .inl (ar (M.1 5)))), ((a 6), .inl (K.1, 16, .inl (ar (M.1 6)))), ((a 7), .inl (K.1, 16, .inl (ar (M.1 7)))), ((a 8), .inl (K.1, 16, .inl (ar (M.1 8)))), ((a 9), .inl (K.1, 16, .inl (ar (M.1 9)))), ((a 10), .inl (K.1, 16, .inl (ar (M.1 10)))), ((a 11), .inl (K.1, 100, .inl (ar (M.1 11)))), ((a 13), .inl (K.1, 8, .inl (ar Pl))), ((a 14), .inl (K.1, 8, .inl (ar (M.1 14)))), ((a 15), .inl (K.1, 8, .inl (ar (M.1 15)))), ((a 16), .inl (K.1, 8, .inl (ar (M.1 16)))), ((a 17), .inl (K.1, 3200, .inl (ar (M.1 17)))), ((a 18), .inl (K.1, 3200, .inl (ar (M.1 18)))), ((a 19), .inl (K.2.1, 3200, .inl (ar (M.1 19)))), ((a 22), .inl (K.1, 3400, .inl (ar (M.1 22)))), ((a 23), .inl (K.1, 3400, .inl (ar (M.1 23)))), ((a 24), .inl (K.1, 3400, .inl (ar (M.1 24)))), ((a 25), .inl (K.1, 3400, .inl (ar (M.1 25)))), ((a 26), .inl (K.1, 32, .inl (ar (M.1 26)))), ((a 27), .inl (K.1, 32, .inl (ar (M.1 27)))), ((a 28), .inl (K.2.1, 8, .inl (ar (M.1 28)))), ((a 29), .inl (K.1, 8, .inl (ar (M.1 29)))), ((a 30), .inl (K.1, 8, .inl (ar (M.1 30)))), ((a 31), .inl (K.1, 10, .inl (ar (M.1 31)))), ((a 32), .inl (K.1, 10, .inl (ar (M.1 32)))), ((a 33), .inl (K.1, 10, .inl (ar (M.1 33)))), ((a 35), .inl (K.1, 13711, .inl (ar (M.1 35)))), ((a 39), .inl (K.1, 4, .inl (ar (M.1 39)))), ((a 40), .inl (K.1, 4, .inl (ar (M.1 40))))]) rfl ?_
                        refine z_st (st2 := [vZ (Ne.1 6 (t * 10 + (Cr.1 2 c)))]) rfl ?_
                        refine z_iconst ZC dX8_dawn_100 ?_
                        refine z_icmp_ne ZC 107 dX8_dawn_101 (by decide) (by omega) (by omega) (fun c_101 => ?_) (fun c_101 => ?_)
                        · skip
                          refine z_aload_n ZC 0 dX8_dawn_107 rfl rfl ?_
                          refine z_iload ZC dX8_dawn_108 rfl ?_
                          have hy_hmt_110_0 : MSt To ((upf M.1 13 Pl), M.2) := hms.1
                          have hy_hto_110_0 : 0 ≤ To.2 3 ∧ To.2 3 ≤ 10 := hto
                          have hy_htw_110_0 : (1 ≤ To.2 2 ∧ To.2 2 ≤ 100) ∧ ∀ x_ : Int, 0 ≤ x_ → x_ < To.2 3 → (0 ≤ To.1 0 x_ ∧ To.1 0 x_ ≤ 99) ∧ (0 ≤ To.1 1 x_ ∧ To.1 1 x_ ≤ 100) := htw
                          have hy_ht_110_0 : 0 ≤ t ∧ t < To.2 3 := by omega
                          refine z_callV ZC 1 (c_X8_worth zl D K h a ((upf M.1 13 Pl), M.2) To t (hy_hmt_110_0) (hy_hto_110_0) (hy_htw_110_0) (hy_ht_110_0)) (gdV uM_X8_139 uI_X8_worth uS_X8_worth uN_X8 uC_X8_worth) (by decide +kernel) rfl ⟨by omega, by omega⟩ ⟨by omega, by omega⟩ (Nat.le_of_ble_eq_true rfl) [0, 1, 2, 3, 4, 5, 6, 7, 8, 9, 10, 11, 12, 13, 14, 15, 16, 17, 18, 19, 20, 21, 22, 23, 24, 25, 26, 27, 28, 29, 30, 31] rfl (by decide) rfl rfl rfl rfl dX8_dawn_110 (fun r w2 gc_110 gs_110 hp => ?_)
                          obtain ⟨rfl, rfl, rfl, rfl⟩ := hp
                          refine z_top (y := (wth To t)) rfl ?_
                          refine z_ws (ws2 := [(h, .inr (8, [vZ (M.2 0), .ref (a 1), .ref (a 2), vZ (M.2 3), vZ (M.2 4), .ref (a 5), .ref (a 6), .ref (a 7), .ref (a 8), .ref (a 9), .ref (a 10), .ref (a 11), vZ (M.2 12), .ref (a 13), .ref (a 14), .ref (a 15), .ref (a 16), .ref (a 17), .ref (a 18), .ref (a 19), vZ (M.2 20), vZ (M.2 21), .ref (a 22), .ref (a 23), .ref (a 24), .ref (a 25), .ref (a 26), .ref (a 27), .ref (a 28), .ref (a 29), .ref (a 30), .ref (a 31), .ref (a 32), .ref (a 33), vZ (M.2 34), .ref (a 35), vZ (M.2 36), vZ (M.2 37), vZ (M.2 38), .ref (a 39), .ref (a 40), vZ (M.2 41), vZ (M.2 42), vZ (M.2 43)])), ((a 1), .inl (K.1, 10, .inl (ar (M.1 1)))), ((a 2), .inl (K.1, 10, .inl (ar (M.1 2)))), ((a 5), .inl (K.1, 16, .inl (ar (M.1 5)))), ((a 6), .inl (K.1, 16, .inl (ar (M.1 6)))), ((a 7), .inl (K.1, 16, .inl (ar (M.1 7)))), ((a 8), .inl (K.1, 16, .inl (ar (M.1 8)))), ((a 9), .inl (K.1, 16, .inl (ar (M.1 9)))), ((a 10), .inl (K.1, 16, .inl (ar (M.1 10)))), ((a 11), .inl (K.1, 100, .inl (ar (M.1 11)))), ((a 13), .inl (K.1, 8, .inl (ar Pl))), ((a 14), .inl (K.1, 8, .inl (ar (M.1 14)))), ((a 15), .inl (K.1, 8, .inl (ar (M.1 15)))), ((a 16), .inl (K.1, 8, .inl (ar (M.1 16)))), ((a 17), .inl (K.1, 3200, .inl (ar (M.1 17)))), ((a 18), .inl (K.1, 3200, .inl (ar (M.1 18)))), ((a 19), .inl (K.2.1, 3200, .inl (ar (M.1 19)))), ((a 22), .inl (K.1, 3400, .inl (ar (M.1 22)))), ((a 23), .inl (K.1, 3400, .inl (ar (M.1 23)))), ((a 24), .inl (K.1, 3400, .inl (ar (M.1 24)))), ((a 25), .inl (K.1, 3400, .inl (ar (M.1 25)))), ((a 26), .inl (K.1, 32, .inl (ar (M.1 26)))), ((a 27), .inl (K.1, 32, .inl (ar (M.1 27)))), ((a 28), .inl (K.2.1, 8, .inl (ar (M.1 28)))), ((a 29), .inl (K.1, 8, .inl (ar (M.1 29)))), ((a 30), .inl (K.1, 8, .inl (ar (M.1 30)))), ((a 31), .inl (K.1, 10, .inl (ar (M.1 31)))), ((a 32), .inl (K.1, 10, .inl (ar (M.1 32)))), ((a 33), .inl (K.1, 10, .inl (ar (M.1 33)))), ((a 35), .inl (K.1, 13711, .inl (ar (M.1 35)))), ((a 39), .inl (K.1, 4, .inl (ar (M.1 39)))), ((a 40), .inl (K.1, 4, .inl (ar (M.1 40))))]) rfl ?_
                          refine z_st (st2 := [vZ (wth To t)]) rfl ?_
                          refine z_aload_n ZC 0 dX8_dawn_113 rfl rfl ?_
                          refine z_iload ZC dX8_dawn_114 rfl ?_
                          have hy_hmt_116_0 : MSt To ((upf M.1 13 Pl), M.2) := hms.1
                          have hy_hto_116_0 : 0 ≤ To.2 3 ∧ To.2 3 ≤ 10 := hto
                          have hy_htw_116_0 : (1 ≤ To.2 2 ∧ To.2 2 ≤ 100) ∧ ∀ x_ : Int, 0 ≤ x_ → x_ < To.2 3 → (0 ≤ To.1 0 x_ ∧ To.1 0 x_ ≤ 99) ∧ (0 ≤ To.1 1 x_ ∧ To.1 1 x_ ≤ 100) := htw
                          have hy_ht_116_0 : 0 ≤ best ∧ best < To.2 3 := hbr
                          refine z_callV ZC 1 (c_X8_worth zl D K h a ((upf M.1 13 Pl), M.2) To best (hy_hmt_116_0) (hy_hto_116_0) (hy_htw_116_0) (hy_ht_116_0)) (gdV uM_X8_139 uI_X8_worth uS_X8_worth uN_X8 uC_X8_worth) (by decide +kernel) rfl ⟨by omega, by omega⟩ ⟨by omega, by omega⟩ (Nat.le_of_ble_eq_true rfl) [0, 1, 2, 3, 4, 5, 6, 7, 8, 9, 10, 11, 12, 13, 14, 15, 16, 17, 18, 19, 20, 21, 22, 23, 24, 25, 26, 27, 28, 29, 30, 31] rfl (by decide) rfl rfl rfl rfl dX8_dawn_116 (fun r w2 gc_116 gs_116 hp => ?_)
                          obtain ⟨rfl, rfl, rfl, rfl⟩ := hp
                          refine z_top (y := (wth To best)) rfl ?_
                          refine z_ws (ws2 := [(h, .inr (8, [vZ (M.2 0), .ref (a 1), .ref (a 2), vZ (M.2 3), vZ (M.2 4), .ref (a 5), .ref (a 6), .ref (a 7), .ref (a 8), .ref (a 9), .ref (a 10), .ref (a 11), vZ (M.2 12), .ref (a 13), .ref (a 14), .ref (a 15), .ref (a 16), .ref (a 17), .ref (a 18), .ref (a 19), vZ (M.2 20), vZ (M.2 21), .ref (a 22), .ref (a 23), .ref (a 24), .ref (a 25), .ref (a 26), .ref (a 27), .ref (a 28), .ref (a 29), .ref (a 30), .ref (a 31), .ref (a 32), .ref (a 33), vZ (M.2 34), .ref (a 35), vZ (M.2 36), vZ (M.2 37), vZ (M.2 38), .ref (a 39), .ref (a 40), vZ (M.2 41), vZ (M.2 42), vZ (M.2 43)])), ((a 1), .inl (K.1, 10, .inl (ar (M.1 1)))), ((a 2), .inl (K.1, 10, .inl (ar (M.1 2)))), ((a 5), .inl (K.1, 16, .inl (ar (M.1 5)))), ((a 6), .inl (K.1, 16, .inl (ar (M.1 6)))), ((a 7), .inl (K.1, 16, .inl (ar (M.1 7)))), ((a 8), .inl (K.1, 16, .inl (ar (M.1 8)))), ((a 9), .inl (K.1, 16, .inl (ar (M.1 9)))), ((a 10), .inl (K.1, 16, .inl (ar (M.1 10)))), ((a 11), .inl (K.1, 100, .inl (ar (M.1 11)))), ((a 13), .inl (K.1, 8, .inl (ar Pl))), ((a 14), .inl (K.1, 8, .inl (ar (M.1 14)))), ((a 15), .inl (K.1, 8, .inl (ar (M.1 15)))), ((a 16), .inl (K.1, 8, .inl (ar (M.1 16)))), ((a 17), .inl (K.1, 3200, .inl (ar (M.1 17)))), ((a 18), .inl (K.1, 3200, .inl (ar (M.1 18)))), ((a 19), .inl (K.2.1, 3200, .inl (ar (M.1 19)))), ((a 22), .inl (K.1, 3400, .inl (ar (M.1 22)))), ((a 23), .inl (K.1, 3400, .inl (ar (M.1 23)))), ((a 24), .inl (K.1, 3400, .inl (ar (M.1 24)))), ((a 25), .inl (K.1, 3400, .inl (ar (M.1 25)))), ((a 26), .inl (K.1, 32, .inl (ar (M.1 26)))), ((a 27), .inl (K.1, 32, .inl (ar (M.1 27)))), ((a 28), .inl (K.2.1, 8, .inl (ar (M.1 28)))), ((a 29), .inl (K.1, 8, .inl (ar (M.1 29)))), ((a 30), .inl (K.1, 8, .inl (ar (M.1 30)))), ((a 31), .inl (K.1, 10, .inl (ar (M.1 31)))), ((a 32), .inl (K.1, 10, .inl (ar (M.1 32)))), ((a 33), .inl (K.1, 10, .inl (ar (M.1 33)))), ((a 35), .inl (K.1, 13711, .inl (ar (M.1 35)))), ((a 39), .inl (K.1, 4, .inl (ar (M.1 39)))), ((a 40), .inl (K.1, 4, .inl (ar (M.1 40))))]) rfl ?_
                          refine z_st (st2 := [vZ (wth To best), vZ (wth To t)]) rfl ?_
                          refine z_icmp_gt ZC 154 dX8_dawn_119 (by decide) (by omega) (by omega) (fun c_119 => ?_) (fun c_119 => ?_)
                          · skip
                            refine z_iload ZC dX8_dawn_154 rfl ?_
                            refine z_istore ZC dX8_dawn_156 (by decide) ?_
                            refine z_iinc ZC dX8_dawn_158 rfl (by decide) ?_
                            refine z_goto ZC 42 dX8_dawn_161 (by decide) ?_
                            refine z_ws (ws2 := [(h, .inr (8, [vZ (M.2 0), .ref (a 1), .ref (a 2), vZ (M.2 3), vZ (M.2 4), .ref (a 5), .ref (a 6), .ref (a 7), .ref (a 8), .ref (a 9), .ref (a 10), .ref (a 11), vZ (M.2 12), .ref (a 13), .ref (a 14), .ref (a 15), .ref (a 16), .ref (a 17), .ref (a 18), .ref (a 19), vZ (M.2 20), vZ (M.2 21), .ref (a 22), .ref (a 23), .ref (a 24), .ref (a 25), .ref (a 26), .ref (a 27), .ref (a 28), .ref (a 29), .ref (a 30), .ref (a 31), .ref (a 32), .ref (a 33), vZ (M.2 34), .ref (a 35), vZ (M.2 36), vZ (M.2 37), vZ (M.2 38), .ref (a 39), .ref (a 40), vZ (M.2 41), vZ (M.2 42), vZ (M.2 43)])), ((a 1), .inl (K.1, 10, .inl (ar (M.1 1)))), ((a 2), .inl (K.1, 10, .inl (ar (M.1 2)))), ((a 5), .inl (K.1, 16, .inl (ar (M.1 5)))), ((a 6), .inl (K.1, 16, .inl (ar (M.1 6)))), ((a 7), .inl (K.1, 16, .inl (ar (M.1 7)))), ((a 8), .inl (K.1, 16, .inl (ar (M.1 8)))), ((a 9), .inl (K.1, 16, .inl (ar (M.1 9)))), ((a 10), .inl (K.1, 16, .inl (ar (M.1 10)))), ((a 11), .inl (K.1, 100, .inl (ar (M.1 11)))), ((a 13), .inl (K.1, 8, .inl (ar Pl))), ((a 14), .inl (K.1, 8, .inl (ar (M.1 14)))), ((a 15), .inl (K.1, 8, .inl (ar (M.1 15)))), ((a 16), .inl (K.1, 8, .inl (ar (M.1 16)))), ((a 17), .inl (K.1, 3200, .inl (ar (M.1 17)))), ((a 18), .inl (K.1, 3200, .inl (ar (M.1 18)))), ((a 19), .inl (K.2.1, 3200, .inl (ar (M.1 19)))), ((a 22), .inl (K.1, 3400, .inl (ar (M.1 22)))), ((a 23), .inl (K.1, 3400, .inl (ar (M.1 23)))), ((a 24), .inl (K.1, 3400, .inl (ar (M.1 24)))), ((a 25), .inl (K.1, 3400, .inl (ar (M.1 25)))), ((a 26), .inl (K.1, 32, .inl (ar (M.1 26)))), ((a 27), .inl (K.1, 32, .inl (ar (M.1 27)))), ((a 28), .inl (K.2.1, 8, .inl (ar (M.1 28)))), ((a 29), .inl (K.1, 8, .inl (ar (M.1 29)))), ((a 30), .inl (K.1, 8, .inl (ar (M.1 30)))), ((a 31), .inl (K.1, 10, .inl (ar (M.1 31)))), ((a 32), .inl (K.1, 10, .inl (ar (M.1 32)))), ((a 33), .inl (K.1, 10, .inl (ar (M.1 33)))), ((a 35), .inl (K.1, 13711, .inl (ar (M.1 35)))), ((a 39), .inl (K.1, 4, .inl (ar (M.1 39)))), ((a 40), .inl (K.1, 4, .inl (ar (M.1 40))))]) rfl (z_lv (lv2 := [(0, .ref h), (1, vZ hours), (2, vZ n), (3, vZ c), (4, vZ t), (5, vZ (t + 1))]) ⟨rfl, rfl, rfl, rfl, rfl, rfl, trivial⟩ ?_)
                            refine ih_42 t (t + 1) ?_ ?_ ?_ (dec_lt hm_42 (by omega))
                            · skip
                              omega
                            · skip
                              rw [bsF_next ht.1, ← hb]
                              unfold bsS
                              first | (rw [if_neg (by omega)]; done) | rw [if_pos (by omega)]
                            · skip
                              omega
                          · skip
                            refine z_aload_n ZC 0 dX8_dawn_122 rfl rfl ?_
                            refine z_iload ZC dX8_dawn_123 rfl ?_
                            have hy_hmt_125_0 : MSt To ((upf M.1 13 Pl), M.2) := hms.1
                            have hy_hto_125_0 : 0 ≤ To.2 3 ∧ To.2 3 ≤ 10 := hto
                            have hy_htw_125_0 : (1 ≤ To.2 2 ∧ To.2 2 ≤ 100) ∧ ∀ x_ : Int, 0 ≤ x_ → x_ < To.2 3 → (0 ≤ To.1 0 x_ ∧ To.1 0 x_ ≤ 99) ∧ (0 ≤ To.1 1 x_ ∧ To.1 1 x_ ≤ 100) := htw
                            have hy_ht_125_0 : 0 ≤ t ∧ t < To.2 3 := by omega
                            refine z_callV ZC 1 (c_X8_worth zl D K h a ((upf M.1 13 Pl), M.2) To t (hy_hmt_125_0) (hy_hto_125_0) (hy_htw_125_0) (hy_ht_125_0)) (gdV uM_X8_139 uI_X8_worth uS_X8_worth uN_X8 uC_X8_worth) (by decide +kernel) rfl ⟨by omega, by omega⟩ ⟨by omega, by omega⟩ (Nat.le_of_ble_eq_true rfl) [0, 1, 2, 3, 4, 5, 6, 7, 8, 9, 10, 11, 12, 13, 14, 15, 16, 17, 18, 19, 20, 21, 22, 23, 24, 25, 26, 27, 28, 29, 30, 31] rfl (by decide) rfl rfl rfl rfl dX8_dawn_125 (fun r w2 gc_125 gs_125 hp => ?_)
                            obtain ⟨rfl, rfl, rfl, rfl⟩ := hp
                            refine z_top (y := (wth To t)) rfl ?_
                            refine z_ws (ws2 := [(h, .inr (8, [vZ (M.2 0), .ref (a 1), .ref (a 2), vZ (M.2 3), vZ (M.2 4), .ref (a 5), .ref (a 6), .ref (a 7), .ref (a 8), .ref (a 9), .ref (a 10), .ref (a 11), vZ (M.2 12), .ref (a 13), .ref (a 14), .ref (a 15), .ref (a 16), .ref (a 17), .ref (a 18), .ref (a 19), vZ (M.2 20), vZ (M.2 21), .ref (a 22), .ref (a 23), .ref (a 24), .ref (a 25), .ref (a 26), .ref (a 27), .ref (a 28), .ref (a 29), .ref (a 30), .ref (a 31), .ref (a 32), .ref (a 33), vZ (M.2 34), .ref (a 35), vZ (M.2 36), vZ (M.2 37), vZ (M.2 38), .ref (a 39), .ref (a 40), vZ (M.2 41), vZ (M.2 42), vZ (M.2 43)])), ((a 1), .inl (K.1, 10, .inl (ar (M.1 1)))), ((a 2), .inl (K.1, 10, .inl (ar (M.1 2)))), ((a 5), .inl (K.1, 16, .inl (ar (M.1 5)))), ((a 6), .inl (K.1, 16, .inl (ar (M.1 6)))), ((a 7), .inl (K.1, 16, .inl (ar (M.1 7)))), ((a 8), .inl (K.1, 16, .inl (ar (M.1 8)))), ((a 9), .inl (K.1, 16, .inl (ar (M.1 9)))), ((a 10), .inl (K.1, 16, .inl (ar (M.1 10)))), ((a 11), .inl (K.1, 100, .inl (ar (M.1 11)))), ((a 13), .inl (K.1, 8, .inl (ar Pl))), ((a 14), .inl (K.1, 8, .inl (ar (M.1 14)))), ((a 15), .inl (K.1, 8, .inl (ar (M.1 15)))), ((a 16), .inl (K.1, 8, .inl (ar (M.1 16)))), ((a 17), .inl (K.1, 3200, .inl (ar (M.1 17)))), ((a 18), .inl (K.1, 3200, .inl (ar (M.1 18)))), ((a 19), .inl (K.2.1, 3200, .inl (ar (M.1 19)))), ((a 22), .inl (K.1, 3400, .inl (ar (M.1 22)))), ((a 23), .inl (K.1, 3400, .inl (ar (M.1 23)))), ((a 24), .inl (K.1, 3400, .inl (ar (M.1 24)))), ((a 25), .inl (K.1, 3400, .inl (ar (M.1 25)))), ((a 26), .inl (K.1, 32, .inl (ar (M.1 26)))), ((a 27), .inl (K.1, 32, .inl (ar (M.1 27)))), ((a 28), .inl (K.2.1, 8, .inl (ar (M.1 28)))), ((a 29), .inl (K.1, 8, .inl (ar (M.1 29)))), ((a 30), .inl (K.1, 8, .inl (ar (M.1 30)))), ((a 31), .inl (K.1, 10, .inl (ar (M.1 31)))), ((a 32), .inl (K.1, 10, .inl (ar (M.1 32)))), ((a 33), .inl (K.1, 10, .inl (ar (M.1 33)))), ((a 35), .inl (K.1, 13711, .inl (ar (M.1 35)))), ((a 39), .inl (K.1, 4, .inl (ar (M.1 39)))), ((a 40), .inl (K.1, 4, .inl (ar (M.1 40))))]) rfl ?_
                            refine z_st (st2 := [vZ (wth To t)]) rfl ?_
                            refine z_aload_n ZC 0 dX8_dawn_128 rfl rfl ?_
                            refine z_iload ZC dX8_dawn_129 rfl ?_
                            have hy_hmt_131_0 : MSt To ((upf M.1 13 Pl), M.2) := hms.1
                            have hy_hto_131_0 : 0 ≤ To.2 3 ∧ To.2 3 ≤ 10 := hto
                            have hy_htw_131_0 : (1 ≤ To.2 2 ∧ To.2 2 ≤ 100) ∧ ∀ x_ : Int, 0 ≤ x_ → x_ < To.2 3 → (0 ≤ To.1 0 x_ ∧ To.1 0 x_ ≤ 99) ∧ (0 ≤ To.1 1 x_ ∧ To.1 1 x_ ≤ 100) := htw
                            have hy_ht_131_0 : 0 ≤ best ∧ best < To.2 3 := hbr
                            refine z_callV ZC 1 (c_X8_worth zl D K h a ((upf M.1 13 Pl), M.2) To best (hy_hmt_131_0) (hy_hto_131_0) (hy_htw_131_0) (hy_ht_131_0)) (gdV uM_X8_139 uI_X8_worth uS_X8_worth uN_X8 uC_X8_worth) (by decide +kernel) rfl ⟨by omega, by omega⟩ ⟨by omega, by omega⟩ (Nat.le_of_ble_eq_true rfl) [0, 1, 2, 3, 4, 5, 6, 7, 8, 9, 10, 11, 12, 13, 14, 15, 16, 17, 18, 19, 20, 21, 22, 23, 24, 25, 26, 27, 28, 29, 30, 31] rfl (by decide) rfl rfl rfl rfl dX8_dawn_131 (fun r w2 gc_131 gs_131 hp => ?_)
                            obtain ⟨rfl, rfl, rfl, rfl⟩ := hp
                            refine z_top (y := (wth To best)) rfl ?_
                            refine z_ws (ws2 := [(h, .inr (8, [vZ (M.2 0), .ref (a 1), .ref (a 2), vZ (M.2 3), vZ (M.2 4), .ref (a 5), .ref (a 6), .ref (a 7), .ref (a 8), .ref (a 9), .ref (a 10), .ref (a 11), vZ (M.2 12), .ref (a 13), .ref (a 14), .ref (a 15), .ref (a 16), .ref (a 17), .ref (a 18), .ref (a 19), vZ (M.2 20), vZ (M.2 21), .ref (a 22), .ref (a 23), .ref (a 24), .ref (a 25), .ref (a 26), .ref (a 27), .ref (a 28), .ref (a 29), .ref (a 30), .ref (a 31), .ref (a 32), .ref (a 33), vZ (M.2 34), .ref (a 35), vZ (M.2 36), vZ (M.2 37), vZ (M.2 38), .ref (a 39), .ref (a 40), vZ (M.2 41), vZ (M.2 42), vZ (M.2 43)])), ((a 1), .inl (K.1, 10, .inl (ar (M.1 1)))), ((a 2), .inl (K.1, 10, .inl (ar (M.1 2)))), ((a 5), .inl (K.1, 16, .inl (ar (M.1 5)))), ((a 6), .inl (K.1, 16, .inl (ar (M.1 6)))), ((a 7), .inl (K.1, 16, .inl (ar (M.1 7)))), ((a 8), .inl (K.1, 16, .inl (ar (M.1 8)))), ((a 9), .inl (K.1, 16, .inl (ar (M.1 9)))), ((a 10), .inl (K.1, 16, .inl (ar (M.1 10)))), ((a 11), .inl (K.1, 100, .inl (ar (M.1 11)))), ((a 13), .inl (K.1, 8, .inl (ar Pl))), ((a 14), .inl (K.1, 8, .inl (ar (M.1 14)))), ((a 15), .inl (K.1, 8, .inl (ar (M.1 15)))), ((a 16), .inl (K.1, 8, .inl (ar (M.1 16)))), ((a 17), .inl (K.1, 3200, .inl (ar (M.1 17)))), ((a 18), .inl (K.1, 3200, .inl (ar (M.1 18)))), ((a 19), .inl (K.2.1, 3200, .inl (ar (M.1 19)))), ((a 22), .inl (K.1, 3400, .inl (ar (M.1 22)))), ((a 23), .inl (K.1, 3400, .inl (ar (M.1 23)))), ((a 24), .inl (K.1, 3400, .inl (ar (M.1 24)))), ((a 25), .inl (K.1, 3400, .inl (ar (M.1 25)))), ((a 26), .inl (K.1, 32, .inl (ar (M.1 26)))), ((a 27), .inl (K.1, 32, .inl (ar (M.1 27)))), ((a 28), .inl (K.2.1, 8, .inl (ar (M.1 28)))), ((a 29), .inl (K.1, 8, .inl (ar (M.1 29)))), ((a 30), .inl (K.1, 8, .inl (ar (M.1 30)))), ((a 31), .inl (K.1, 10, .inl (ar (M.1 31)))), ((a 32), .inl (K.1, 10, .inl (ar (M.1 32)))), ((a 33), .inl (K.1, 10, .inl (ar (M.1 33)))), ((a 35), .inl (K.1, 13711, .inl (ar (M.1 35)))), ((a 39), .inl (K.1, 4, .inl (ar (M.1 39)))), ((a 40), .inl (K.1, 4, .inl (ar (M.1 40))))]) rfl ?_
                            refine z_st (st2 := [vZ (wth To best), vZ (wth To t)]) rfl ?_
                            refine z_icmp_ne ZC 158 dX8_dawn_134 (by decide) (by omega) (by omega) (fun c_134 => ?_) (fun c_134 => ?_)
                            · skip
                              refine z_iinc ZC dX8_dawn_158 rfl (by decide) ?_
                              refine z_goto ZC 42 dX8_dawn_161 (by decide) ?_
                              refine z_ws (ws2 := [(h, .inr (8, [vZ (M.2 0), .ref (a 1), .ref (a 2), vZ (M.2 3), vZ (M.2 4), .ref (a 5), .ref (a 6), .ref (a 7), .ref (a 8), .ref (a 9), .ref (a 10), .ref (a 11), vZ (M.2 12), .ref (a 13), .ref (a 14), .ref (a 15), .ref (a 16), .ref (a 17), .ref (a 18), .ref (a 19), vZ (M.2 20), vZ (M.2 21), .ref (a 22), .ref (a 23), .ref (a 24), .ref (a 25), .ref (a 26), .ref (a 27), .ref (a 28), .ref (a 29), .ref (a 30), .ref (a 31), .ref (a 32), .ref (a 33), vZ (M.2 34), .ref (a 35), vZ (M.2 36), vZ (M.2 37), vZ (M.2 38), .ref (a 39), .ref (a 40), vZ (M.2 41), vZ (M.2 42), vZ (M.2 43)])), ((a 1), .inl (K.1, 10, .inl (ar (M.1 1)))), ((a 2), .inl (K.1, 10, .inl (ar (M.1 2)))), ((a 5), .inl (K.1, 16, .inl (ar (M.1 5)))), ((a 6), .inl (K.1, 16, .inl (ar (M.1 6)))), ((a 7), .inl (K.1, 16, .inl (ar (M.1 7)))), ((a 8), .inl (K.1, 16, .inl (ar (M.1 8)))), ((a 9), .inl (K.1, 16, .inl (ar (M.1 9)))), ((a 10), .inl (K.1, 16, .inl (ar (M.1 10)))), ((a 11), .inl (K.1, 100, .inl (ar (M.1 11)))), ((a 13), .inl (K.1, 8, .inl (ar Pl))), ((a 14), .inl (K.1, 8, .inl (ar (M.1 14)))), ((a 15), .inl (K.1, 8, .inl (ar (M.1 15)))), ((a 16), .inl (K.1, 8, .inl (ar (M.1 16)))), ((a 17), .inl (K.1, 3200, .inl (ar (M.1 17)))), ((a 18), .inl (K.1, 3200, .inl (ar (M.1 18)))), ((a 19), .inl (K.2.1, 3200, .inl (ar (M.1 19)))), ((a 22), .inl (K.1, 3400, .inl (ar (M.1 22)))), ((a 23), .inl (K.1, 3400, .inl (ar (M.1 23)))), ((a 24), .inl (K.1, 3400, .inl (ar (M.1 24)))), ((a 25), .inl (K.1, 3400, .inl (ar (M.1 25)))), ((a 26), .inl (K.1, 32, .inl (ar (M.1 26)))), ((a 27), .inl (K.1, 32, .inl (ar (M.1 27)))), ((a 28), .inl (K.2.1, 8, .inl (ar (M.1 28)))), ((a 29), .inl (K.1, 8, .inl (ar (M.1 29)))), ((a 30), .inl (K.1, 8, .inl (ar (M.1 30)))), ((a 31), .inl (K.1, 10, .inl (ar (M.1 31)))), ((a 32), .inl (K.1, 10, .inl (ar (M.1 32)))), ((a 33), .inl (K.1, 10, .inl (ar (M.1 33)))), ((a 35), .inl (K.1, 13711, .inl (ar (M.1 35)))), ((a 39), .inl (K.1, 4, .inl (ar (M.1 39)))), ((a 40), .inl (K.1, 4, .inl (ar (M.1 40))))]) rfl (z_lv (lv2 := [(0, .ref h), (1, vZ hours), (2, vZ n), (3, vZ c), (4, vZ best), (5, vZ (t + 1))]) ⟨rfl, rfl, rfl, rfl, rfl, rfl, trivial⟩ ?_)
                              refine ih_42 best (t + 1) ?_ ?_ ?_ (dec_lt hm_42 (by omega))
                              · skip
                                omega
                              · skip
                                rw [bsF_next ht.1, ← hb]
                                unfold bsS
                                first | (rw [if_neg (by omega)]; done) | rw [if_pos (by omega)]
                              · skip
                                omega
                            · skip
                              refine z_iload ZC dX8_dawn_137 rfl ?_
                              refine z_aload_n ZC 0 dX8_dawn_139 rfl rfl ?_
                              refine z_aload_n ZC 0 dX8_dawn_140 rfl rfl ?_
                              refine z_get ZC inUX8 0 rfl rfl 13 (by decide) uF_X8_41 rfl dX8_dawn_141 ?_
                              refine z_iload_n ZC 3 dX8_dawn_144 rfl rfl ?_
                              refine z_iald ZC 10 rfl dX8_dawn_145 (by omega) ?_
                              refine z_top (y := (Cr.1 0 c)) (e1) ?_
                              refine z_iload ZC dX8_dawn_146 rfl ?_
                              have hy_hmt_148_0 : MSt To ((upf M.1 13 Pl), M.2) := hms.1
                              have hy_hmn_148_0 : MSn Ne ((upf M.1 13 Pl), M.2) := hms.2.1
                              have hy_hnw_148_0 : NW Ne := hnw
                              have hy_hto_148_0 : 0 ≤ To.2 3 ∧ To.2 3 ≤ 10 := hto
                              have hy_h1_148_0 : 0 ≤ (Cr.1 0 c) ∧ (Cr.1 0 c) < To.2 3 := hcc.1
                              have hy_h2_148_0 : 0 ≤ best ∧ best < To.2 3 := hbr
                              refine z_callV ZC 2 (c_X8_leastT zl D K h a ((upf M.1 13 Pl), M.2) To Ne (Cr.1 0 c) best (hy_hmt_148_0) (hy_hmn_148_0) (hy_hnw_148_0) (hy_hto_148_0) (hy_h1_148_0) (hy_h2_148_0)) (gdV uM_X8_132 uI_X8_least uS_X8_least uN_X8 uC_X8_least) (by decide +kernel) rfl ⟨by omega, by omega⟩ ⟨by omega, by omega⟩ (Nat.le_of_ble_eq_true rfl) [0, 1, 2, 3, 4, 5, 6, 7, 8, 9, 10, 11, 12, 13, 14, 15, 16, 17, 18, 19, 20, 21, 22, 23, 24, 25, 26, 27, 28, 29, 30, 31] rfl (by decide) rfl rfl rfl rfl dX8_dawn_148 (fun r w2 gc_148 gs_148 hp => ?_)
                              obtain ⟨rfl, rfl, rfl, rfl⟩ := hp
                              refine z_top (y := (Ne.1 6 ((Cr.1 0 c) * 10 + best))) rfl ?_
                              refine z_ws (ws2 := [(h, .inr (8, [vZ (M.2 0), .ref (a 1), .ref (a 2), vZ (M.2 3), vZ (M.2 4), .ref (a 5), .ref (a 6), .ref (a 7), .ref (a 8), .ref (a 9), .ref (a 10), .ref (a 11), vZ (M.2 12), .ref (a 13), .ref (a 14), .ref (a 15), .ref (a 16), .ref (a 17), .ref (a 18), .ref (a 19), vZ (M.2 20), vZ (M.2 21), .ref (a 22), .ref (a 23), .ref (a 24), .ref (a 25), .ref (a 26), .ref (a 27), .ref (a 28), .ref (a 29), .ref (a 30), .ref (a 31), .ref (a 32), .ref (a 33), vZ (M.2 34), .ref (a 35), vZ (M.2 36), vZ (M.2 37), vZ (M.2 38), .ref (a 39), .ref (a 40), vZ (M.2 41), vZ (M.2 42), vZ (M.2 43)])), ((a 1), .inl (K.1, 10, .inl (ar (M.1 1)))), ((a 2), .inl (K.1, 10, .inl (ar (M.1 2)))), ((a 5), .inl (K.1, 16, .inl (ar (M.1 5)))), ((a 6), .inl (K.1, 16, .inl (ar (M.1 6)))), ((a 7), .inl (K.1, 16, .inl (ar (M.1 7)))), ((a 8), .inl (K.1, 16, .inl (ar (M.1 8)))), ((a 9), .inl (K.1, 16, .inl (ar (M.1 9)))), ((a 10), .inl (K.1, 16, .inl (ar (M.1 10)))), ((a 11), .inl (K.1, 100, .inl (ar (M.1 11)))), ((a 13), .inl (K.1, 8, .inl (ar Pl))), ((a 14), .inl (K.1, 8, .inl (ar (M.1 14)))), ((a 15), .inl (K.1, 8, .inl (ar (M.1 15)))), ((a 16), .inl (K.1, 8, .inl (ar (M.1 16)))), ((a 17), .inl (K.1, 3200, .inl (ar (M.1 17)))), ((a 18), .inl (K.1, 3200, .inl (ar (M.1 18)))), ((a 19), .inl (K.2.1, 3200, .inl (ar (M.1 19)))), ((a 22), .inl (K.1, 3400, .inl (ar (M.1 22)))), ((a 23), .inl (K.1, 3400, .inl (ar (M.1 23)))), ((a 24), .inl (K.1, 3400, .inl (ar (M.1 24)))), ((a 25), .inl (K.1, 3400, .inl (ar (M.1 25)))), ((a 26), .inl (K.1, 32, .inl (ar (M.1 26)))), ((a 27), .inl (K.1, 32, .inl (ar (M.1 27)))), ((a 28), .inl (K.2.1, 8, .inl (ar (M.1 28)))), ((a 29), .inl (K.1, 8, .inl (ar (M.1 29)))), ((a 30), .inl (K.1, 8, .inl (ar (M.1 30)))), ((a 31), .inl (K.1, 10, .inl (ar (M.1 31)))), ((a 32), .inl (K.1, 10, .inl (ar (M.1 32)))), ((a 33), .inl (K.1, 10, .inl (ar (M.1 33)))), ((a 35), .inl (K.1, 13711, .inl (ar (M.1 35)))), ((a 39), .inl (K.1, 4, .inl (ar (M.1 39)))), ((a 40), .inl (K.1, 4, .inl (ar (M.1 40))))]) rfl ?_
                              refine z_st (st2 := [vZ (Ne.1 6 ((Cr.1 0 c) * 10 + best)), vZ (Ne.1 6 ((Cr.1 0 c) * 10 + t))]) rfl ?_
                              refine z_icmp_ge ZC 158 dX8_dawn_151 (by decide) (by omega) (by omega) (fun c_151 => ?_) (fun c_151 => ?_)
                              · skip
                                refine z_iinc ZC dX8_dawn_158 rfl (by decide) ?_
                                refine z_goto ZC 42 dX8_dawn_161 (by decide) ?_
                                refine z_ws (ws2 := [(h, .inr (8, [vZ (M.2 0), .ref (a 1), .ref (a 2), vZ (M.2 3), vZ (M.2 4), .ref (a 5), .ref (a 6), .ref (a 7), .ref (a 8), .ref (a 9), .ref (a 10), .ref (a 11), vZ (M.2 12), .ref (a 13), .ref (a 14), .ref (a 15), .ref (a 16), .ref (a 17), .ref (a 18), .ref (a 19), vZ (M.2 20), vZ (M.2 21), .ref (a 22), .ref (a 23), .ref (a 24), .ref (a 25), .ref (a 26), .ref (a 27), .ref (a 28), .ref (a 29), .ref (a 30), .ref (a 31), .ref (a 32), .ref (a 33), vZ (M.2 34), .ref (a 35), vZ (M.2 36), vZ (M.2 37), vZ (M.2 38), .ref (a 39), .ref (a 40), vZ (M.2 41), vZ (M.2 42), vZ (M.2 43)])), ((a 1), .inl (K.1, 10, .inl (ar (M.1 1)))), ((a 2), .inl (K.1, 10, .inl (ar (M.1 2)))), ((a 5), .inl (K.1, 16, .inl (ar (M.1 5)))), ((a 6), .inl (K.1, 16, .inl (ar (M.1 6)))), ((a 7), .inl (K.1, 16, .inl (ar (M.1 7)))), ((a 8), .inl (K.1, 16, .inl (ar (M.1 8)))), ((a 9), .inl (K.1, 16, .inl (ar (M.1 9)))), ((a 10), .inl (K.1, 16, .inl (ar (M.1 10)))), ((a 11), .inl (K.1, 100, .inl (ar (M.1 11)))), ((a 13), .inl (K.1, 8, .inl (ar Pl))), ((a 14), .inl (K.1, 8, .inl (ar (M.1 14)))), ((a 15), .inl (K.1, 8, .inl (ar (M.1 15)))), ((a 16), .inl (K.1, 8, .inl (ar (M.1 16)))), ((a 17), .inl (K.1, 3200, .inl (ar (M.1 17)))), ((a 18), .inl (K.1, 3200, .inl (ar (M.1 18)))), ((a 19), .inl (K.2.1, 3200, .inl (ar (M.1 19)))), ((a 22), .inl (K.1, 3400, .inl (ar (M.1 22)))), ((a 23), .inl (K.1, 3400, .inl (ar (M.1 23)))), ((a 24), .inl (K.1, 3400, .inl (ar (M.1 24)))), ((a 25), .inl (K.1, 3400, .inl (ar (M.1 25)))), ((a 26), .inl (K.1, 32, .inl (ar (M.1 26)))), ((a 27), .inl (K.1, 32, .inl (ar (M.1 27)))), ((a 28), .inl (K.2.1, 8, .inl (ar (M.1 28)))), ((a 29), .inl (K.1, 8, .inl (ar (M.1 29)))), ((a 30), .inl (K.1, 8, .inl (ar (M.1 30)))), ((a 31), .inl (K.1, 10, .inl (ar (M.1 31)))), ((a 32), .inl (K.1, 10, .inl (ar (M.1 32)))), ((a 33), .inl (K.1, 10, .inl (ar (M.1 33)))), ((a 35), .inl (K.1, 13711, .inl (ar (M.1 35)))), ((a 39), .inl (K.1, 4, .inl (ar (M.1 39)))), ((a 40), .inl (K.1, 4, .inl (ar (M.1 40))))]) rfl (z_lv (lv2 := [(0, .ref h), (1, vZ hours), (2, vZ n), (3, vZ c), (4, vZ best), (5, vZ (t + 1))]) ⟨rfl, rfl, rfl, rfl, rfl, rfl, trivial⟩ ?_)
                                refine ih_42 best (t + 1) ?_ ?_ ?_ (dec_lt hm_42 (by omega))
                                · skip
                                  omega
                                · skip
                                  rw [bsF_next ht.1, ← hb]
                                  unfold bsS
                                  first | (rw [if_neg (by omega)]; done) | rw [if_pos (by omega)]
                                · skip
                                  omega
                              · skip
                                refine z_iload ZC dX8_dawn_154 rfl ?_
                                refine z_istore ZC dX8_dawn_156 (by decide) ?_
                                refine z_iinc ZC dX8_dawn_158 rfl (by decide) ?_
                                refine z_goto ZC 42 dX8_dawn_161 (by decide) ?_
                                refine z_ws (ws2 := [(h, .inr (8, [vZ (M.2 0), .ref (a 1), .ref (a 2), vZ (M.2 3), vZ (M.2 4), .ref (a 5), .ref (a 6), .ref (a 7), .ref (a 8), .ref (a 9), .ref (a 10), .ref (a 11), vZ (M.2 12), .ref (a 13), .ref (a 14), .ref (a 15), .ref (a 16), .ref (a 17), .ref (a 18), .ref (a 19), vZ (M.2 20), vZ (M.2 21), .ref (a 22), .ref (a 23), .ref (a 24), .ref (a 25), .ref (a 26), .ref (a 27), .ref (a 28), .ref (a 29), .ref (a 30), .ref (a 31), .ref (a 32), .ref (a 33), vZ (M.2 34), .ref (a 35), vZ (M.2 36), vZ (M.2 37), vZ (M.2 38), .ref (a 39), .ref (a 40), vZ (M.2 41), vZ (M.2 42), vZ (M.2 43)])), ((a 1), .inl (K.1, 10, .inl (ar (M.1 1)))), ((a 2), .inl (K.1, 10, .inl (ar (M.1 2)))), ((a 5), .inl (K.1, 16, .inl (ar (M.1 5)))), ((a 6), .inl (K.1, 16, .inl (ar (M.1 6)))), ((a 7), .inl (K.1, 16, .inl (ar (M.1 7)))), ((a 8), .inl (K.1, 16, .inl (ar (M.1 8)))), ((a 9), .inl (K.1, 16, .inl (ar (M.1 9)))), ((a 10), .inl (K.1, 16, .inl (ar (M.1 10)))), ((a 11), .inl (K.1, 100, .inl (ar (M.1 11)))), ((a 13), .inl (K.1, 8, .inl (ar Pl))), ((a 14), .inl (K.1, 8, .inl (ar (M.1 14)))), ((a 15), .inl (K.1, 8, .inl (ar (M.1 15)))), ((a 16), .inl (K.1, 8, .inl (ar (M.1 16)))), ((a 17), .inl (K.1, 3200, .inl (ar (M.1 17)))), ((a 18), .inl (K.1, 3200, .inl (ar (M.1 18)))), ((a 19), .inl (K.2.1, 3200, .inl (ar (M.1 19)))), ((a 22), .inl (K.1, 3400, .inl (ar (M.1 22)))), ((a 23), .inl (K.1, 3400, .inl (ar (M.1 23)))), ((a 24), .inl (K.1, 3400, .inl (ar (M.1 24)))), ((a 25), .inl (K.1, 3400, .inl (ar (M.1 25)))), ((a 26), .inl (K.1, 32, .inl (ar (M.1 26)))), ((a 27), .inl (K.1, 32, .inl (ar (M.1 27)))), ((a 28), .inl (K.2.1, 8, .inl (ar (M.1 28)))), ((a 29), .inl (K.1, 8, .inl (ar (M.1 29)))), ((a 30), .inl (K.1, 8, .inl (ar (M.1 30)))), ((a 31), .inl (K.1, 10, .inl (ar (M.1 31)))), ((a 32), .inl (K.1, 10, .inl (ar (M.1 32)))), ((a 33), .inl (K.1, 10, .inl (ar (M.1 33)))), ((a 35), .inl (K.1, 13711, .inl (ar (M.1 35)))), ((a 39), .inl (K.1, 4, .inl (ar (M.1 39)))), ((a 40), .inl (K.1, 4, .inl (ar (M.1 40))))]) rfl (z_lv (lv2 := [(0, .ref h), (1, vZ hours), (2, vZ n), (3, vZ c), (4, vZ t), (5, vZ (t + 1))]) ⟨rfl, rfl, rfl, rfl, rfl, rfl, trivial⟩ ?_)
                                refine ih_42 t (t + 1) ?_ ?_ ?_ (dec_lt hm_42 (by omega))
                                · skip
                                  omega
                                · skip
                                  rw [bsF_next ht.1, ← hb]
                                  unfold bsS
                                  first | (rw [if_neg (by omega)]; done) | rw [if_pos (by omega)]
                                · skip
                                  omega
                        · skip
                          refine z_goto ZC 158 dX8_dawn_104 (by decide) ?_
                          refine z_iinc ZC dX8_dawn_158 rfl (by decide) ?_
                          refine z_goto ZC 42 dX8_dawn_161 (by decide) ?_
                          refine z_ws (ws2 := [(h, .inr (8, [vZ (M.2 0), .ref (a 1), .ref (a 2), vZ (M.2 3), vZ (M.2 4), .ref (a 5), .ref (a 6), .ref (a 7), .ref (a 8), .ref (a 9), .ref (a 10), .ref (a 11), vZ (M.2 12), .ref (a 13), .ref (a 14), .ref (a 15), .ref (a 16), .ref (a 17), .ref (a 18), .ref (a 19), vZ (M.2 20), vZ (M.2 21), .ref (a 22), .ref (a 23), .ref (a 24), .ref (a 25), .ref (a 26), .ref (a 27), .ref (a 28), .ref (a 29), .ref (a 30), .ref (a 31), .ref (a 32), .ref (a 33), vZ (M.2 34), .ref (a 35), vZ (M.2 36), vZ (M.2 37), vZ (M.2 38), .ref (a 39), .ref (a 40), vZ (M.2 41), vZ (M.2 42), vZ (M.2 43)])), ((a 1), .inl (K.1, 10, .inl (ar (M.1 1)))), ((a 2), .inl (K.1, 10, .inl (ar (M.1 2)))), ((a 5), .inl (K.1, 16, .inl (ar (M.1 5)))), ((a 6), .inl (K.1, 16, .inl (ar (M.1 6)))), ((a 7), .inl (K.1, 16, .inl (ar (M.1 7)))), ((a 8), .inl (K.1, 16, .inl (ar (M.1 8)))), ((a 9), .inl (K.1, 16, .inl (ar (M.1 9)))), ((a 10), .inl (K.1, 16, .inl (ar (M.1 10)))), ((a 11), .inl (K.1, 100, .inl (ar (M.1 11)))), ((a 13), .inl (K.1, 8, .inl (ar Pl))), ((a 14), .inl (K.1, 8, .inl (ar (M.1 14)))), ((a 15), .inl (K.1, 8, .inl (ar (M.1 15)))), ((a 16), .inl (K.1, 8, .inl (ar (M.1 16)))), ((a 17), .inl (K.1, 3200, .inl (ar (M.1 17)))), ((a 18), .inl (K.1, 3200, .inl (ar (M.1 18)))), ((a 19), .inl (K.2.1, 3200, .inl (ar (M.1 19)))), ((a 22), .inl (K.1, 3400, .inl (ar (M.1 22)))), ((a 23), .inl (K.1, 3400, .inl (ar (M.1 23)))), ((a 24), .inl (K.1, 3400, .inl (ar (M.1 24)))), ((a 25), .inl (K.1, 3400, .inl (ar (M.1 25)))), ((a 26), .inl (K.1, 32, .inl (ar (M.1 26)))), ((a 27), .inl (K.1, 32, .inl (ar (M.1 27)))), ((a 28), .inl (K.2.1, 8, .inl (ar (M.1 28)))), ((a 29), .inl (K.1, 8, .inl (ar (M.1 29)))), ((a 30), .inl (K.1, 8, .inl (ar (M.1 30)))), ((a 31), .inl (K.1, 10, .inl (ar (M.1 31)))), ((a 32), .inl (K.1, 10, .inl (ar (M.1 32)))), ((a 33), .inl (K.1, 10, .inl (ar (M.1 33)))), ((a 35), .inl (K.1, 13711, .inl (ar (M.1 35)))), ((a 39), .inl (K.1, 4, .inl (ar (M.1 39)))), ((a 40), .inl (K.1, 4, .inl (ar (M.1 40))))]) rfl (z_lv (lv2 := [(0, .ref h), (1, vZ hours), (2, vZ n), (3, vZ c), (4, vZ best), (5, vZ (t + 1))]) ⟨rfl, rfl, rfl, rfl, rfl, rfl, trivial⟩ ?_)
                          refine ih_42 best (t + 1) ?_ ?_ ?_ (dec_lt hm_42 (by omega))
                          · skip
                            omega
                          · skip
                            rw [bsF_next ht.1, ← hb]
                            unfold bsS
                            first | (rw [if_neg (by omega)]; done) | rw [if_pos (by omega)]
                          · skip
                            omega
            refine z_ws (ws2 := [(h, .inr (8, [vZ (M.2 0), .ref (a 1), .ref (a 2), vZ (M.2 3), vZ (M.2 4), .ref (a 5), .ref (a 6), .ref (a 7), .ref (a 8), .ref (a 9), .ref (a 10), .ref (a 11), vZ (M.2 12), .ref (a 13), .ref (a 14), .ref (a 15), .ref (a 16), .ref (a 17), .ref (a 18), .ref (a 19), vZ (M.2 20), vZ (M.2 21), .ref (a 22), .ref (a 23), .ref (a 24), .ref (a 25), .ref (a 26), .ref (a 27), .ref (a 28), .ref (a 29), .ref (a 30), .ref (a 31), .ref (a 32), .ref (a 33), vZ (M.2 34), .ref (a 35), vZ (M.2 36), vZ (M.2 37), vZ (M.2 38), .ref (a 39), .ref (a 40), vZ (M.2 41), vZ (M.2 42), vZ (M.2 43)])), ((a 1), .inl (K.1, 10, .inl (ar (M.1 1)))), ((a 2), .inl (K.1, 10, .inl (ar (M.1 2)))), ((a 5), .inl (K.1, 16, .inl (ar (M.1 5)))), ((a 6), .inl (K.1, 16, .inl (ar (M.1 6)))), ((a 7), .inl (K.1, 16, .inl (ar (M.1 7)))), ((a 8), .inl (K.1, 16, .inl (ar (M.1 8)))), ((a 9), .inl (K.1, 16, .inl (ar (M.1 9)))), ((a 10), .inl (K.1, 16, .inl (ar (M.1 10)))), ((a 11), .inl (K.1, 100, .inl (ar (M.1 11)))), ((a 13), .inl (K.1, 8, .inl (ar Pl))), ((a 14), .inl (K.1, 8, .inl (ar (M.1 14)))), ((a 15), .inl (K.1, 8, .inl (ar (M.1 15)))), ((a 16), .inl (K.1, 8, .inl (ar (M.1 16)))), ((a 17), .inl (K.1, 3200, .inl (ar (M.1 17)))), ((a 18), .inl (K.1, 3200, .inl (ar (M.1 18)))), ((a 19), .inl (K.2.1, 3200, .inl (ar (M.1 19)))), ((a 22), .inl (K.1, 3400, .inl (ar (M.1 22)))), ((a 23), .inl (K.1, 3400, .inl (ar (M.1 23)))), ((a 24), .inl (K.1, 3400, .inl (ar (M.1 24)))), ((a 25), .inl (K.1, 3400, .inl (ar (M.1 25)))), ((a 26), .inl (K.1, 32, .inl (ar (M.1 26)))), ((a 27), .inl (K.1, 32, .inl (ar (M.1 27)))), ((a 28), .inl (K.2.1, 8, .inl (ar (M.1 28)))), ((a 29), .inl (K.1, 8, .inl (ar (M.1 29)))), ((a 30), .inl (K.1, 8, .inl (ar (M.1 30)))), ((a 31), .inl (K.1, 10, .inl (ar (M.1 31)))), ((a 32), .inl (K.1, 10, .inl (ar (M.1 32)))), ((a 33), .inl (K.1, 10, .inl (ar (M.1 33)))), ((a 35), .inl (K.1, 13711, .inl (ar (M.1 35)))), ((a 39), .inl (K.1, 4, .inl (ar (M.1 39)))), ((a 40), .inl (K.1, 4, .inl (ar (M.1 40))))]) rfl (z_lv (lv2 := [(0, .ref h), (1, vZ hours), (2, vZ n), (3, vZ c), (4, vZ (Cr.1 0 c)), (5, vZ 0)]) ⟨rfl, rfl, rfl, rfl, rfl, rfl, trivial⟩ ?_)
            refine lp_42 _ (Cr.1 0 c) 0 ?_ ?_ ?_ (Nat.lt_succ_self _)
            · skip
              omega
            · skip
              rfl
            · skip
              omega
      refine z_ws (ws2 := [(h, .inr (8, [vZ (M.2 0), .ref (a 1), .ref (a 2), vZ (M.2 3), vZ (M.2 4), .ref (a 5), .ref (a 6), .ref (a 7), .ref (a 8), .ref (a 9), .ref (a 10), .ref (a 11), vZ (M.2 12), .ref (a 13), .ref (a 14), .ref (a 15), .ref (a 16), .ref (a 17), .ref (a 18), .ref (a 19), vZ (M.2 20), vZ (M.2 21), .ref (a 22), .ref (a 23), .ref (a 24), .ref (a 25), .ref (a 26), .ref (a 27), .ref (a 28), .ref (a 29), .ref (a 30), .ref (a 31), .ref (a 32), .ref (a 33), vZ (M.2 34), .ref (a 35), vZ (M.2 36), vZ (M.2 37), vZ (M.2 38), .ref (a 39), .ref (a 40), vZ (M.2 41), vZ (M.2 42), vZ (M.2 43)])), ((a 1), .inl (K.1, 10, .inl (ar (M.1 1)))), ((a 2), .inl (K.1, 10, .inl (ar (M.1 2)))), ((a 5), .inl (K.1, 16, .inl (ar (M.1 5)))), ((a 6), .inl (K.1, 16, .inl (ar (M.1 6)))), ((a 7), .inl (K.1, 16, .inl (ar (M.1 7)))), ((a 8), .inl (K.1, 16, .inl (ar (M.1 8)))), ((a 9), .inl (K.1, 16, .inl (ar (M.1 9)))), ((a 10), .inl (K.1, 16, .inl (ar (M.1 10)))), ((a 11), .inl (K.1, 100, .inl (ar (M.1 11)))), ((a 13), .inl (K.1, 8, .inl (ar (M.1 13)))), ((a 14), .inl (K.1, 8, .inl (ar (M.1 14)))), ((a 15), .inl (K.1, 8, .inl (ar (M.1 15)))), ((a 16), .inl (K.1, 8, .inl (ar (M.1 16)))), ((a 17), .inl (K.1, 3200, .inl (ar (M.1 17)))), ((a 18), .inl (K.1, 3200, .inl (ar (M.1 18)))), ((a 19), .inl (K.2.1, 3200, .inl (ar (M.1 19)))), ((a 22), .inl (K.1, 3400, .inl (ar (M.1 22)))), ((a 23), .inl (K.1, 3400, .inl (ar (M.1 23)))), ((a 24), .inl (K.1, 3400, .inl (ar (M.1 24)))), ((a 25), .inl (K.1, 3400, .inl (ar (M.1 25)))), ((a 26), .inl (K.1, 32, .inl (ar (M.1 26)))), ((a 27), .inl (K.1, 32, .inl (ar (M.1 27)))), ((a 28), .inl (K.2.1, 8, .inl (ar (M.1 28)))), ((a 29), .inl (K.1, 8, .inl (ar (M.1 29)))), ((a 30), .inl (K.1, 8, .inl (ar (M.1 30)))), ((a 31), .inl (K.1, 10, .inl (ar (M.1 31)))), ((a 32), .inl (K.1, 10, .inl (ar (M.1 32)))), ((a 33), .inl (K.1, 10, .inl (ar (M.1 33)))), ((a 35), .inl (K.1, 13711, .inl (ar (M.1 35)))), ((a 39), .inl (K.1, 4, .inl (ar (M.1 39)))), ((a 40), .inl (K.1, 4, .inl (ar (M.1 40))))]) rfl (z_lv (lv2 := [(0, .ref h), (1, vZ hours), (2, vZ 0), (3, vZ 0)]) ⟨rfl, rfl, rfl, rfl, trivial⟩ ?_)
      refine lp_23 _ 0 0 (M.1 13) ?_ ?_ ?_ (Nat.lt_succ_self _)
      · skip
        omega
      · skip
        rfl
      · skip
        intro x x1 x2
        exact (hms.2.2.2 x x1 x2).1
    · skip
      refine z_iconst ZC dX8_dawn_17 ?_
      refine z_iret ZC ZE dX8_dawn_18 (by omega) (by omega) (Nat.le_of_ble_eq_true rfl) ⟨(M.1 13), (-1), rfl, rfl, by omega, by omega, ?_⟩
      · skip
        right; exact ⟨by omega, rfl, rfl⟩

