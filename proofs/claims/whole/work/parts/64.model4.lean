/-! ===== the reference: cars in a town; drinking; cars set out ===== -/
theorem smI_s {f : Int → Int} {c : Int} (h : 0 ≤ c) : smI f 0 (c + 1).toNat = smI f 0 c.toNat + f c := by
  rw [show (c + 1).toNat = c.toNat + 1 by omega]
  show smI f 0 c.toNat + f (0 + ((c.toNat : Nat) : Int)) = _
  rw [show 0 + ((c.toNat : Nat) : Int) = c by omega]
theorem mo_congr {us : Int} {cr ca du nx he ta : Int → Int} {C C2 : Int → List Pt3} {X : List Int} (h : MO us cr ca du nx he ta C X) (hC : ∀ k : Int, 0 ≤ k → k < 32 → C2 k = C k) : MO us cr ca du nx he ta C2 X := by
  obtain ⟨P, ow, g, h1⟩ := h
  exact ⟨P, ow, g, fun k a b => (hC k a b).trans (h1 k a b)⟩
theorem fq_split {c n d m : Int} {l : List Pt3} (h1 : 0 ≤ m) (h2 : m ≤ n) : fq ((c, n, d) :: l) = List.replicate m.toNat c ++ fq ((c, n - m, d) :: l) := by
  show List.replicate n.toNat c ++ fq l = List.replicate m.toNat c ++ (List.replicate (n - m).toNat c ++ fq l)
  rw [← List.append_assoc, List.replicate_append_replicate]
  congr 2; omega
section MDs2
variable {Ne Cr : Bd} {A : Ab} {us : Int} {cr ca du nx he ta of ho la : Int → Int} {C : Int → List Pt3}
theorem md_cut {r left t : Int} {k : Nat} {l : List Pt3} {he2 nx2 : Int → Int} (h : MDx Cr (aOk Ne A r k) us cr ca du nx he ta of ho la C []) (hr : 0 ≤ r ∧ r < 16) (hq : C r = (cr (he r), ca (he r), du (he r)) :: l) (h1 : 1 ≤ left) (h2 : left < ca (he r)) (ht : t = A.2.1 0 + Ne.1 3 r)
    (hh : (he (16 + r) = -1 ∧ he2 = upz he (16 + r) us ∧ nx2 = upz nx us (-1)) ∨ (he (16 + r) ≠ -1 ∧ he2 = he ∧ nx2 = upz (upz nx us (-1)) (ta (16 + r)) us)) :
    MDx Cr (aOk Ne A r (k + left.toNat)) (us + 1) (upz cr us (cr (he r))) (upz (upz ca (he r) (ca (he r) - left)) us left) (upz du us t) nx2 he2 (upz ta (16 + r) us) of ho la (fun j => if j = r then (cr (he r), ca (he r) - left, du (he r)) :: l else if j = 16 + r then C (16 + r) ++ [(cr (he r), left, A.2.1 0 + Ne.1 3 r)] else C j) [] := by
  have m1 := mo_cut h.1 (k := r) (v := ca (he r) - left) (by omega) hq (by omega)
  have m2 := mo_new m1 (c := cr (he r)) (n := left) (by omega)
  have m3 := mo_comes m2 t
  have m4 := mo_add m3 (k := 16 + r) (by omega) hh
  refine md_ok h hr h1 (c := cr (he r)) (rest := (cr (he r), ca (he r) - left, du (he r)) :: l) ?_ (mo_congr m4 (fun j j1 j2 => ?_)) (fun j j1 j2 => rfl)
  · rw [hq]; exact fq_split (by omega) (by omega)
  · show (if j = r then _ else if j = 16 + r then _ else C j) = _
    by_cases e : j = r
    · rw [if_pos e, upL_ne _ _ (by omega), e, upL_self]
    · rw [if_neg e]
      by_cases e2 : j = 16 + r
      · rw [if_pos e2, e2, upL_self, upL_ne _ _ (by omega), upz_self, upz_self, upz_self, ht]
      · rw [if_neg e2, upL_ne _ _ e2, upL_ne _ _ e]
theorem md_mov {r t : Int} {k : Nat} {l : List Pt3} {he2 nx2 : Int → Int} (h : MDx Cr (aOk Ne A r k) us cr ca du nx he ta of ho la C []) (hr : 0 ≤ r ∧ r < 16) (hq : C r = (cr (he r), ca (he r), du (he r)) :: l) (h1 : 1 ≤ ca (he r)) (ht : t = A.2.1 0 + Ne.1 3 r)
    (hh : (upz he r (nx (he r)) (16 + r) = -1 ∧ he2 = upz (upz he r (nx (he r))) (16 + r) (he r) ∧ nx2 = upz nx (he r) (-1)) ∨ (upz he r (nx (he r)) (16 + r) ≠ -1 ∧ he2 = upz he r (nx (he r)) ∧ nx2 = upz (upz nx (he r) (-1)) (ta (16 + r)) (he r))) :
    MDx Cr (aOk Ne A r (k + (ca (he r)).toNat)) us cr ca (upz du (he r) t) nx2 he2 (upz ta (16 + r) (he r)) of ho la (fun j => if j = r then l else if j = 16 + r then C (16 + r) ++ [(cr (he r), ca (he r), A.2.1 0 + Ne.1 3 r)] else C j) [] := by
  have m1 := (mo_take h.1 (k := r) (by omega) hq).1
  have m3 := mo_comes m1 t
  have m4 := mo_add m3 (k := 16 + r) (by omega) hh
  refine md_ok h hr h1 (c := cr (he r)) (rest := l) ?_ (mo_congr m4 (fun j j1 j2 => ?_)) (fun j j1 j2 => rfl)
  · rw [hq]; rfl
  · show (if j = r then _ else if j = 16 + r then _ else C j) = _
    by_cases e : j = r
    · rw [if_pos e, upL_ne _ _ (by omega), e, upL_self]
    · rw [if_neg e]
      by_cases e2 : j = 16 + r
      · rw [if_pos e2, e2, upL_self, upL_ne _ _ (by omega), upz_self, ht]
      · rw [if_neg e2, upL_ne _ _ e2, upL_ne _ _ e]
end MDs2

set_option maxHeartbeats 4000000 in
set_option maxRecDepth 100000 in
theorem c_X8_carsAt (zl : Launch) (D : va_G) (K : tyK) (h : Nat) (a : Nat → Nat) (M : Bd) (Ne : Bd) (Cr : Bd) (A : Ab) (C : Int → List Pt3) (town : Int) (hcf : Cfg Ne Cr) (hnw : NW Ne) (hmn : MSn Ne M) (hmc : MSc Cr M) (hmd : MD Cr A M C []) (hus : M.2 21 ≤ 3400) (htn : 0 ≤ town ∧ town < 10) (hok : AOK Ne Cr A) : Mz zl yX8_carsAt cX8_carsAt 4 (some .int) 1 23 0 0 D K [.ref h, vZ town] (wMo K h a M) (fun r_ w2_ gc gs => r_ = some (vZ (aAt Ne Cr A town)) ∧ w2_ = (wMo K h a M) ∧ gc = 0 ∧ gs = 0) := by
  refine Mz.ofZ (by decide) rfl (Nat.le_of_ble_eq_true rfl) ?_
  intro zp ze zR zs zm zargs zbelow zmeth zc zA zQ ZC ZE hRf hRc hRs hRl
  have hc8 := hcf.2.1
  have hr8 := hcf.1
  have e12 : M.2 12 = Cr.2 3 := hmc.1
  have e4 : M.2 4 = Ne.2 8 := hmn.1
  refine z_iconst ZC dX8_carsAt_0 ?_
  refine z_istore_n ZC 2 dX8_carsAt_1 rfl (by decide) ?_
  refine z_iconst ZC dX8_carsAt_2 ?_
  refine z_istore_n ZC 3 dX8_carsAt_3 rfl (by decide) ?_
  have lp_4 : ∀ (n_4 : Nat) (n : Int) (c : Int), (0 ≤ c ∧ c ≤ Cr.2 3) → (n = smI (fun c => (if A.1 1 c = 0 ∧ Cr.1 0 c = town then Cr.1 1 c else 0) + (if Cr.1 2 c = town then A.1 2 c else 0)) 0 c.toNat) → ((Cr.2 3 - c).toNat) < n_4 → Zw zp zl ze zR zs zm zargs zbelow zmeth zc D zA 4 zQ 0 0 ([(h, .inr (8, [vZ (M.2 0), .ref (a 1), .ref (a 2), vZ (M.2 3), vZ (M.2 4), .ref (a 5), .ref (a 6), .ref (a 7), .ref (a 8), .ref (a 9), .ref (a 10), .ref (a 11), vZ (M.2 12), .ref (a 13), .ref (a 14), .ref (a 15), .ref (a 16), .ref (a 17), .ref (a 18), .ref (a 19), vZ (M.2 20), vZ (M.2 21), .ref (a 22), .ref (a 23), .ref (a 24), .ref (a 25), .ref (a 26), .ref (a 27), .ref (a 28), .ref (a 29), .ref (a 30), .ref (a 31), .ref (a 32), .ref (a 33), vZ (M.2 34), .ref (a 35), vZ (M.2 36), vZ (M.2 37), vZ (M.2 38), .ref (a 39), .ref (a 40), vZ (M.2 41), vZ (M.2 42), vZ (M.2 43)])), ((a 1), .inl (K.1, 10, .inl (ar (M.1 1)))), ((a 2), .inl (K.1, 10, .inl (ar (M.1 2)))), ((a 5), .inl (K.1, 16, .inl (ar (M.1 5)))), ((a 6), .inl (K.1, 16, .inl (ar (M.1 6)))), ((a 7), .inl (K.1, 16, .inl (ar (M.1 7)))), ((a 8), .inl (K.1, 16, .inl (ar (M.1 8)))), ((a 9), .inl (K.1, 16, .inl (ar (M.1 9)))), ((a 10), .inl (K.1, 16, .inl (ar (M.1 10)))), ((a 11), .inl (K.1, 100, .inl (ar (M.1 11)))), ((a 13), .inl (K.1, 8, .inl (ar (M.1 13)))), ((a 14), .inl (K.1, 8, .inl (ar (M.1 14)))), ((a 15), .inl (K.1, 8, .inl (ar (M.1 15)))), ((a 16), .inl (K.1, 8, .inl (ar (M.1 16)))), ((a 17), .inl (K.1, 3200, .inl (ar (M.1 17)))), ((a 18), .inl (K.1, 3200, .inl (ar (M.1 18)))), ((a 19), .inl (K.2.1, 3200, .inl (ar (M.1 19)))), ((a 22), .inl (K.1, 3400, .inl (ar (M.1 22)))), ((a 23), .inl (K.1, 3400, .inl (ar (M.1 23)))), ((a 24), .inl (K.1, 3400, .inl (ar (M.1 24)))), ((a 25), .inl (K.1, 3400, .inl (ar (M.1 25)))), ((a 26), .inl (K.1, 32, .inl (ar (M.1 26)))), ((a 27), .inl (K.1, 32, .inl (ar (M.1 27)))), ((a 28), .inl (K.2.1, 8, .inl (ar (M.1 28)))), ((a 29), .inl (K.1, 8, .inl (ar (M.1 29)))), ((a 30), .inl (K.1, 8, .inl (ar (M.1 30)))), ((a 31), .inl (K.1, 10, .inl (ar (M.1 31)))), ((a 32), .inl (K.1, 10, .inl (ar (M.1 32)))), ((a 33), .inl (K.1, 10, .inl (ar (M.1 33)))), ((a 35), .inl (K.1, 13711, .inl (ar (M.1 35)))), ((a 39), .inl (K.1, 4, .inl (ar (M.1 39)))), ((a 40), .inl (K.1, 4, .inl (ar (M.1 40))))]) 4 [(0, .ref h), (1, vZ town), (2, vZ n), (3, vZ c)] [] := by
    intro n_4
    induction n_4 with
    | zero => intro n c h0 hn hm_4; exact absurd hm_4 (Nat.not_lt_zero _)
    | succ n_4 ih_4 =>
      intro n c h0 hn hm_4
      refine z_iload_n ZC 3 dX8_carsAt_4 rfl rfl ?_
      refine z_aload_n ZC 0 dX8_carsAt_5 rfl rfl ?_
      refine z_get ZC inUX8 0 rfl rfl 12 (by decide) uF_X8_121 rfl dX8_carsAt_6 ?_
      refine z_icmp_ge ZC 71 dX8_carsAt_9 (by decide) (by omega) (by omega) (fun c_9 => ?_) (fun c_9 => ?_)
      · skip
        refine z_iconst ZC dX8_carsAt_71 ?_
        refine z_istore_n ZC 3 dX8_carsAt_72 rfl (by decide) ?_
        have lp_73 : ∀ (n_73 : Nat) (n2 : Int) (r : Int), (0 ≤ r ∧ r ≤ Ne.2 8) → (n2 = smI (fun c => (if A.1 1 c = 0 ∧ Cr.1 0 c = town then Cr.1 1 c else 0) + (if Cr.1 2 c = town then A.1 2 c else 0)) 0 (Cr.2 3).toNat + smI (fun r => if Ne.1 0 r = town then ((A.2.2.1 r).length : Int) else 0) 0 r.toNat) → ((Ne.2 8 - r).toNat) < n_73 → Zw zp zl ze zR zs zm zargs zbelow zmeth zc D zA 4 zQ 0 0 ([(h, .inr (8, [vZ (M.2 0), .ref (a 1), .ref (a 2), vZ (M.2 3), vZ (M.2 4), .ref (a 5), .ref (a 6), .ref (a 7), .ref (a 8), .ref (a 9), .ref (a 10), .ref (a 11), vZ (M.2 12), .ref (a 13), .ref (a 14), .ref (a 15), .ref (a 16), .ref (a 17), .ref (a 18), .ref (a 19), vZ (M.2 20), vZ (M.2 21), .ref (a 22), .ref (a 23), .ref (a 24), .ref (a 25), .ref (a 26), .ref (a 27), .ref (a 28), .ref (a 29), .ref (a 30), .ref (a 31), .ref (a 32), .ref (a 33), vZ (M.2 34), .ref (a 35), vZ (M.2 36), vZ (M.2 37), vZ (M.2 38), .ref (a 39), .ref (a 40), vZ (M.2 41), vZ (M.2 42), vZ (M.2 43)])), ((a 1), .inl (K.1, 10, .inl (ar (M.1 1)))), ((a 2), .inl (K.1, 10, .inl (ar (M.1 2)))), ((a 5), .inl (K.1, 16, .inl (ar (M.1 5)))), ((a 6), .inl (K.1, 16, .inl (ar (M.1 6)))), ((a 7), .inl (K.1, 16, .inl (ar (M.1 7)))), ((a 8), .inl (K.1, 16, .inl (ar (M.1 8)))), ((a 9), .inl (K.1, 16, .inl (ar (M.1 9)))), ((a 10), .inl (K.1, 16, .inl (ar (M.1 10)))), ((a 11), .inl (K.1, 100, .inl (ar (M.1 11)))), ((a 13), .inl (K.1, 8, .inl (ar (M.1 13)))), ((a 14), .inl (K.1, 8, .inl (ar (M.1 14)))), ((a 15), .inl (K.1, 8, .inl (ar (M.1 15)))), ((a 16), .inl (K.1, 8, .inl (ar (M.1 16)))), ((a 17), .inl (K.1, 3200, .inl (ar (M.1 17)))), ((a 18), .inl (K.1, 3200, .inl (ar (M.1 18)))), ((a 19), .inl (K.2.1, 3200, .inl (ar (M.1 19)))), ((a 22), .inl (K.1, 3400, .inl (ar (M.1 22)))), ((a 23), .inl (K.1, 3400, .inl (ar (M.1 23)))), ((a 24), .inl (K.1, 3400, .inl (ar (M.1 24)))), ((a 25), .inl (K.1, 3400, .inl (ar (M.1 25)))), ((a 26), .inl (K.1, 32, .inl (ar (M.1 26)))), ((a 27), .inl (K.1, 32, .inl (ar (M.1 27)))), ((a 28), .inl (K.2.1, 8, .inl (ar (M.1 28)))), ((a 29), .inl (K.1, 8, .inl (ar (M.1 29)))), ((a 30), .inl (K.1, 8, .inl (ar (M.1 30)))), ((a 31), .inl (K.1, 10, .inl (ar (M.1 31)))), ((a 32), .inl (K.1, 10, .inl (ar (M.1 32)))), ((a 33), .inl (K.1, 10, .inl (ar (M.1 33)))), ((a 35), .inl (K.1, 13711, .inl (ar (M.1 35)))), ((a 39), .inl (K.1, 4, .inl (ar (M.1 39)))), ((a 40), .inl (K.1, 4, .inl (ar (M.1 40))))]) 73 [(0, .ref h), (1, vZ town), (2, vZ n2), (3, vZ r)] [] := by
          intro n_73
          induction n_73 with
          | zero => intro n2 r h1 hn2 hm_73; exact absurd hm_73 (Nat.not_lt_zero _)
          | succ n_73 ih_73 =>
            intro n2 r h1 hn2 hm_73
            refine z_iload_n ZC 3 dX8_carsAt_73 rfl rfl ?_
            refine z_aload_n ZC 0 dX8_carsAt_74 rfl rfl ?_
            refine z_get ZC inUX8 0 rfl rfl 4 (by decide) uF_X8_118 rfl dX8_carsAt_75 ?_
            refine z_icmp_ge ZC 109 dX8_carsAt_78 (by decide) (by omega) (by omega) (fun c_78 => ?_) (fun c_78 => ?_)
            · skip
              refine z_iload_n ZC 2 dX8_carsAt_109 rfl rfl ?_
              refine z_top (y := aAt Ne Cr A town) (by rw [hn2, show r = Ne.2 8 by omega]; rfl) ?_
              exact z_iret ZC ZE dX8_carsAt_110 (by omega) (by omega) (Nat.le_of_ble_eq_true rfl) ⟨rfl, rfl, by omega, by omega⟩
            · skip
              have hmnn := hmn.2.1 r h1.1 (by omega)
              have hrr := hcf.2.2.1 r h1.1 (by omega)
              have hq1 : csum (C r) = ((A.2.2.1 r).length : Int) := by rw [csum_fq _ (mo_pos hmd.1 (k := r) (by omega)), (hmd.2.1 r h1.1 (by omega)).1]
              refine z_iload_n ZC 2 dX8_carsAt_81 rfl rfl ?_
              refine z_aload_n ZC 0 dX8_carsAt_82 rfl rfl ?_
              refine z_get ZC inUX8 0 rfl rfl 5 (by decide) uF_X8_20 rfl dX8_carsAt_83 ?_
              refine z_iload_n ZC 3 dX8_carsAt_86 rfl rfl ?_
              refine z_iald ZC 3 rfl dX8_carsAt_87 (by omega) ?_
              refine z_iload_n ZC 1 dX8_carsAt_88 rfl rfl ?_
              refine z_icmp_ne ZC 100 dX8_carsAt_89 (by decide) (by omega) (by omega) (fun c_89 => ?_) (fun c_89 => ?_)
              · skip
                refine z_iconst ZC dX8_carsAt_100 ?_
                refine z_iadd ZC dX8_carsAt_101 ?_
                refine z_istore_n ZC 2 dX8_carsAt_102 rfl (by decide) ?_
                refine z_iinc ZC dX8_carsAt_103 rfl (by decide) ?_
                refine z_goto ZC 73 dX8_carsAt_106 (by decide) ?_
                refine z_ws (ws2 := [(h, .inr (8, [vZ (M.2 0), .ref (a 1), .ref (a 2), vZ (M.2 3), vZ (M.2 4), .ref (a 5), .ref (a 6), .ref (a 7), .ref (a 8), .ref (a 9), .ref (a 10), .ref (a 11), vZ (M.2 12), .ref (a 13), .ref (a 14), .ref (a 15), .ref (a 16), .ref (a 17), .ref (a 18), .ref (a 19), vZ (M.2 20), vZ (M.2 21), .ref (a 22), .ref (a 23), .ref (a 24), .ref (a 25), .ref (a 26), .ref (a 27), .ref (a 28), .ref (a 29), .ref (a 30), .ref (a 31), .ref (a 32), .ref (a 33), vZ (M.2 34), .ref (a 35), vZ (M.2 36), vZ (M.2 37), vZ (M.2 38), .ref (a 39), .ref (a 40), vZ (M.2 41), vZ (M.2 42), vZ (M.2 43)])), ((a 1), .inl (K.1, 10, .inl (ar (M.1 1)))), ((a 2), .inl (K.1, 10, .inl (ar (M.1 2)))), ((a 5), .inl (K.1, 16, .inl (ar (M.1 5)))), ((a 6), .inl (K.1, 16, .inl (ar (M.1 6)))), ((a 7), .inl (K.1, 16, .inl (ar (M.1 7)))), ((a 8), .inl (K.1, 16, .inl (ar (M.1 8)))), ((a 9), .inl (K.1, 16, .inl (ar (M.1 9)))), ((a 10), .inl (K.1, 16, .inl (ar (M.1 10)))), ((a 11), .inl (K.1, 100, .inl (ar (M.1 11)))), ((a 13), .inl (K.1, 8, .inl (ar (M.1 13)))), ((a 14), .inl (K.1, 8, .inl (ar (M.1 14)))), ((a 15), .inl (K.1, 8, .inl (ar (M.1 15)))), ((a 16), .inl (K.1, 8, .inl (ar (M.1 16)))), ((a 17), .inl (K.1, 3200, .inl (ar (M.1 17)))), ((a 18), .inl (K.1, 3200, .inl (ar (M.1 18)))), ((a 19), .inl (K.2.1, 3200, .inl (ar (M.1 19)))), ((a 22), .inl (K.1, 3400, .inl (ar (M.1 22)))), ((a 23), .inl (K.1, 3400, .inl (ar (M.1 23)))), ((a 24), .inl (K.1, 3400, .inl (ar (M.1 24)))), ((a 25), .inl (K.1, 3400, .inl (ar (M.1 25)))), ((a 26), .inl (K.1, 32, .inl (ar (M.1 26)))), ((a 27), .inl (K.1, 32, .inl (ar (M.1 27)))), ((a 28), .inl (K.2.1, 8, .inl (ar (M.1 28)))), ((a 29), .inl (K.1, 8, .inl (ar (M.1 29)))), ((a 30), .inl (K.1, 8, .inl (ar (M.1 30)))), ((a 31), .inl (K.1, 10, .inl (ar (M.1 31)))), ((a 32), .inl (K.1, 10, .inl (ar (M.1 32)))), ((a 33), .inl (K.1, 10, .inl (ar (M.1 33)))), ((a 35), .inl (K.1, 13711, .inl (ar (M.1 35)))), ((a 39), .inl (K.1, 4, .inl (ar (M.1 39)))), ((a 40), .inl (K.1, 4, .inl (ar (M.1 40))))]) rfl (z_lv (lv2 := [(0, .ref h), (1, vZ town), (2, vZ (n2 + 0)), (3, vZ (r + 1))]) ⟨rfl, rfl, rfl, rfl, trivial⟩ ?_)
                refine ih_73 (n2 + 0) (r + 1) ?_ ?_ (dec_lt hm_73 (by omega))
                · skip
                  omega
                · skip
                  rw [smI_s h1.1, ← Int.add_assoc, ← hn2]
                  show _ = n2 + (if Ne.1 0 r = town then ((A.2.2.1 r).length : Int) else 0)
                  split <;> omega
              · skip
                refine z_aload_n ZC 0 dX8_carsAt_92 rfl rfl ?_
                refine z_iload_n ZC 3 dX8_carsAt_93 rfl rfl ?_
                refine z_callV ZC 1 (c_X8_carsIn zl D K h a M C r (by omega) (hmd.1) (hus)) (gdV uM_X8_164 uI_X8_carsIn uS_X8_carsIn uN_X8 uC_X8_carsIn) (by decide +kernel) rfl ⟨by omega, by omega⟩ ⟨by omega, by omega⟩ (Nat.le_of_ble_eq_true rfl) [0, 1, 2, 3, 4, 5, 6, 7, 8, 9, 10, 11, 12, 13, 14, 15, 16, 17, 18, 19, 20, 21, 22, 23, 24, 25, 26, 27, 28, 29, 30, 31] rfl (by decide) rfl rfl rfl rfl dX8_carsAt_94 (fun r w2 gc_94 gs_94 hp => ?_)
                obtain ⟨rfl, rfl, rfl, rfl⟩ := hp
                refine z_ws (ws2 := [(h, .inr (8, [vZ (M.2 0), .ref (a 1), .ref (a 2), vZ (M.2 3), vZ (M.2 4), .ref (a 5), .ref (a 6), .ref (a 7), .ref (a 8), .ref (a 9), .ref (a 10), .ref (a 11), vZ (M.2 12), .ref (a 13), .ref (a 14), .ref (a 15), .ref (a 16), .ref (a 17), .ref (a 18), .ref (a 19), vZ (M.2 20), vZ (M.2 21), .ref (a 22), .ref (a 23), .ref (a 24), .ref (a 25), .ref (a 26), .ref (a 27), .ref (a 28), .ref (a 29), .ref (a 30), .ref (a 31), .ref (a 32), .ref (a 33), vZ (M.2 34), .ref (a 35), vZ (M.2 36), vZ (M.2 37), vZ (M.2 38), .ref (a 39), .ref (a 40), vZ (M.2 41), vZ (M.2 42), vZ (M.2 43)])), ((a 1), .inl (K.1, 10, .inl (ar (M.1 1)))), ((a 2), .inl (K.1, 10, .inl (ar (M.1 2)))), ((a 5), .inl (K.1, 16, .inl (ar (M.1 5)))), ((a 6), .inl (K.1, 16, .inl (ar (M.1 6)))), ((a 7), .inl (K.1, 16, .inl (ar (M.1 7)))), ((a 8), .inl (K.1, 16, .inl (ar (M.1 8)))), ((a 9), .inl (K.1, 16, .inl (ar (M.1 9)))), ((a 10), .inl (K.1, 16, .inl (ar (M.1 10)))), ((a 11), .inl (K.1, 100, .inl (ar (M.1 11)))), ((a 13), .inl (K.1, 8, .inl (ar (M.1 13)))), ((a 14), .inl (K.1, 8, .inl (ar (M.1 14)))), ((a 15), .inl (K.1, 8, .inl (ar (M.1 15)))), ((a 16), .inl (K.1, 8, .inl (ar (M.1 16)))), ((a 17), .inl (K.1, 3200, .inl (ar (M.1 17)))), ((a 18), .inl (K.1, 3200, .inl (ar (M.1 18)))), ((a 19), .inl (K.2.1, 3200, .inl (ar (M.1 19)))), ((a 22), .inl (K.1, 3400, .inl (ar (M.1 22)))), ((a 23), .inl (K.1, 3400, .inl (ar (M.1 23)))), ((a 24), .inl (K.1, 3400, .inl (ar (M.1 24)))), ((a 25), .inl (K.1, 3400, .inl (ar (M.1 25)))), ((a 26), .inl (K.1, 32, .inl (ar (M.1 26)))), ((a 27), .inl (K.1, 32, .inl (ar (M.1 27)))), ((a 28), .inl (K.2.1, 8, .inl (ar (M.1 28)))), ((a 29), .inl (K.1, 8, .inl (ar (M.1 29)))), ((a 30), .inl (K.1, 8, .inl (ar (M.1 30)))), ((a 31), .inl (K.1, 10, .inl (ar (M.1 31)))), ((a 32), .inl (K.1, 10, .inl (ar (M.1 32)))), ((a 33), .inl (K.1, 10, .inl (ar (M.1 33)))), ((a 35), .inl (K.1, 13711, .inl (ar (M.1 35)))), ((a 39), .inl (K.1, 4, .inl (ar (M.1 39)))), ((a 40), .inl (K.1, 4, .inl (ar (M.1 40))))]) rfl ?_
                refine z_st (st2 := [vZ (csum (C r)), vZ n2]) rfl ?_
                refine z_goto ZC 101 dX8_carsAt_97 (by decide) ?_
                refine z_iadd ZC dX8_carsAt_101 ?_
                refine z_istore_n ZC 2 dX8_carsAt_102 rfl (by decide) ?_
                refine z_iinc ZC dX8_carsAt_103 rfl (by decide) ?_
                refine z_goto ZC 73 dX8_carsAt_106 (by decide) ?_
                refine z_ws (ws2 := [(h, .inr (8, [vZ (M.2 0), .ref (a 1), .ref (a 2), vZ (M.2 3), vZ (M.2 4), .ref (a 5), .ref (a 6), .ref (a 7), .ref (a 8), .ref (a 9), .ref (a 10), .ref (a 11), vZ (M.2 12), .ref (a 13), .ref (a 14), .ref (a 15), .ref (a 16), .ref (a 17), .ref (a 18), .ref (a 19), vZ (M.2 20), vZ (M.2 21), .ref (a 22), .ref (a 23), .ref (a 24), .ref (a 25), .ref (a 26), .ref (a 27), .ref (a 28), .ref (a 29), .ref (a 30), .ref (a 31), .ref (a 32), .ref (a 33), vZ (M.2 34), .ref (a 35), vZ (M.2 36), vZ (M.2 37), vZ (M.2 38), .ref (a 39), .ref (a 40), vZ (M.2 41), vZ (M.2 42), vZ (M.2 43)])), ((a 1), .inl (K.1, 10, .inl (ar (M.1 1)))), ((a 2), .inl (K.1, 10, .inl (ar (M.1 2)))), ((a 5), .inl (K.1, 16, .inl (ar (M.1 5)))), ((a 6), .inl (K.1, 16, .inl (ar (M.1 6)))), ((a 7), .inl (K.1, 16, .inl (ar (M.1 7)))), ((a 8), .inl (K.1, 16, .inl (ar (M.1 8)))), ((a 9), .inl (K.1, 16, .inl (ar (M.1 9)))), ((a 10), .inl (K.1, 16, .inl (ar (M.1 10)))), ((a 11), .inl (K.1, 100, .inl (ar (M.1 11)))), ((a 13), .inl (K.1, 8, .inl (ar (M.1 13)))), ((a 14), .inl (K.1, 8, .inl (ar (M.1 14)))), ((a 15), .inl (K.1, 8, .inl (ar (M.1 15)))), ((a 16), .inl (K.1, 8, .inl (ar (M.1 16)))), ((a 17), .inl (K.1, 3200, .inl (ar (M.1 17)))), ((a 18), .inl (K.1, 3200, .inl (ar (M.1 18)))), ((a 19), .inl (K.2.1, 3200, .inl (ar (M.1 19)))), ((a 22), .inl (K.1, 3400, .inl (ar (M.1 22)))), ((a 23), .inl (K.1, 3400, .inl (ar (M.1 23)))), ((a 24), .inl (K.1, 3400, .inl (ar (M.1 24)))), ((a 25), .inl (K.1, 3400, .inl (ar (M.1 25)))), ((a 26), .inl (K.1, 32, .inl (ar (M.1 26)))), ((a 27), .inl (K.1, 32, .inl (ar (M.1 27)))), ((a 28), .inl (K.2.1, 8, .inl (ar (M.1 28)))), ((a 29), .inl (K.1, 8, .inl (ar (M.1 29)))), ((a 30), .inl (K.1, 8, .inl (ar (M.1 30)))), ((a 31), .inl (K.1, 10, .inl (ar (M.1 31)))), ((a 32), .inl (K.1, 10, .inl (ar (M.1 32)))), ((a 33), .inl (K.1, 10, .inl (ar (M.1 33)))), ((a 35), .inl (K.1, 13711, .inl (ar (M.1 35)))), ((a 39), .inl (K.1, 4, .inl (ar (M.1 39)))), ((a 40), .inl (K.1, 4, .inl (ar (M.1 40))))]) rfl (z_lv (lv2 := [(0, .ref h), (1, vZ town), (2, vZ (n2 + (csum (C r)))), (3, vZ (r + 1))]) ⟨rfl, rfl, rfl, rfl, trivial⟩ ?_)
                refine ih_73 (n2 + (csum (C r))) (r + 1) ?_ ?_ (dec_lt hm_73 (by omega))
                · skip
                  omega
                · skip
                  rw [smI_s h1.1, ← Int.add_assoc, ← hn2]
                  show _ = n2 + (if Ne.1 0 r = town then ((A.2.2.1 r).length : Int) else 0)
                  split <;> omega
        refine z_ws (ws2 := [(h, .inr (8, [vZ (M.2 0), .ref (a 1), .ref (a 2), vZ (M.2 3), vZ (M.2 4), .ref (a 5), .ref (a 6), .ref (a 7), .ref (a 8), .ref (a 9), .ref (a 10), .ref (a 11), vZ (M.2 12), .ref (a 13), .ref (a 14), .ref (a 15), .ref (a 16), .ref (a 17), .ref (a 18), .ref (a 19), vZ (M.2 20), vZ (M.2 21), .ref (a 22), .ref (a 23), .ref (a 24), .ref (a 25), .ref (a 26), .ref (a 27), .ref (a 28), .ref (a 29), .ref (a 30), .ref (a 31), .ref (a 32), .ref (a 33), vZ (M.2 34), .ref (a 35), vZ (M.2 36), vZ (M.2 37), vZ (M.2 38), .ref (a 39), .ref (a 40), vZ (M.2 41), vZ (M.2 42), vZ (M.2 43)])), ((a 1), .inl (K.1, 10, .inl (ar (M.1 1)))), ((a 2), .inl (K.1, 10, .inl (ar (M.1 2)))), ((a 5), .inl (K.1, 16, .inl (ar (M.1 5)))), ((a 6), .inl (K.1, 16, .inl (ar (M.1 6)))), ((a 7), .inl (K.1, 16, .inl (ar (M.1 7)))), ((a 8), .inl (K.1, 16, .inl (ar (M.1 8)))), ((a 9), .inl (K.1, 16, .inl (ar (M.1 9)))), ((a 10), .inl (K.1, 16, .inl (ar (M.1 10)))), ((a 11), .inl (K.1, 100, .inl (ar (M.1 11)))), ((a 13), .inl (K.1, 8, .inl (ar (M.1 13)))), ((a 14), .inl (K.1, 8, .inl (ar (M.1 14)))), ((a 15), .inl (K.1, 8, .inl (ar (M.1 15)))), ((a 16), .inl (K.1, 8, .inl (ar (M.1 16)))), ((a 17), .inl (K.1, 3200, .inl (ar (M.1 17)))), ((a 18), .inl (K.1, 3200, .inl (ar (M.1 18)))), ((a 19), .inl (K.2.1, 3200, .inl (ar (M.1 19)))), ((a 22), .inl (K.1, 3400, .inl (ar (M.1 22)))), ((a 23), .inl (K.1, 3400, .inl (ar (M.1 23)))), ((a 24), .inl (K.1, 3400, .inl (ar (M.1 24)))), ((a 25), .inl (K.1, 3400, .inl (ar (M.1 25)))), ((a 26), .inl (K.1, 32, .inl (ar (M.1 26)))), ((a 27), .inl (K.1, 32, .inl (ar (M.1 27)))), ((a 28), .inl (K.2.1, 8, .inl (ar (M.1 28)))), ((a 29), .inl (K.1, 8, .inl (ar (M.1 29)))), ((a 30), .inl (K.1, 8, .inl (ar (M.1 30)))), ((a 31), .inl (K.1, 10, .inl (ar (M.1 31)))), ((a 32), .inl (K.1, 10, .inl (ar (M.1 32)))), ((a 33), .inl (K.1, 10, .inl (ar (M.1 33)))), ((a 35), .inl (K.1, 13711, .inl (ar (M.1 35)))), ((a 39), .inl (K.1, 4, .inl (ar (M.1 39)))), ((a 40), .inl (K.1, 4, .inl (ar (M.1 40))))]) rfl (z_lv (lv2 := [(0, .ref h), (1, vZ town), (2, vZ n), (3, vZ 0)]) ⟨rfl, rfl, rfl, rfl, trivial⟩ ?_)
        refine lp_73 _ n 0 ?_ ?_ (Nat.lt_succ_self _)
        · skip
          omega
        · skip
          rw [hn, show Cr.2 3 = c by omega]
          show _ = _ + 0
          omega
      · skip
        have hmcc := hmc.2 c h0.1 (by omega)
        have hof := hmd.2.2.1 c h0.1 (by omega)
        have ho1 := (hok.2 c h0.1 (by omega)).2.2.1
        have hcc := hcf.2.2.2.1 c h0.1 (by omega)
        refine z_iload_n ZC 2 dX8_carsAt_12 rfl rfl ?_
        refine z_aload_n ZC 0 dX8_carsAt_13 rfl rfl ?_
        refine z_get ZC inUX8 0 rfl rfl 28 (by decide) uF_X8_81 rfl dX8_carsAt_14 ?_
        refine z_iload_n ZC 3 dX8_carsAt_17 rfl rfl ?_
        refine z_zald ZC 23 rfl dX8_carsAt_18 (by omega) ?_
        refine z_if_ne ZC 41 dX8_carsAt_19 (by decide) (by omega) (fun c_19 => ?_) (fun c_19 => ?_)
        · skip
          refine z_iconst ZC dX8_carsAt_41 ?_
          refine z_aload_n ZC 0 dX8_carsAt_42 rfl rfl ?_
          refine z_get ZC inUX8 0 rfl rfl 15 (by decide) uF_X8_47 rfl dX8_carsAt_43 ?_
          refine z_iload_n ZC 3 dX8_carsAt_46 rfl rfl ?_
          refine z_iald ZC 12 rfl dX8_carsAt_47 (by omega) ?_
          refine z_iload_n ZC 1 dX8_carsAt_48 rfl rfl ?_
          refine z_icmp_ne ZC 61 dX8_carsAt_49 (by decide) (by omega) (by omega) (fun c_49 => ?_) (fun c_49 => ?_)
          · skip
            refine z_iconst ZC dX8_carsAt_61 ?_
            refine z_iadd ZC dX8_carsAt_62 ?_
            refine z_iadd ZC dX8_carsAt_63 ?_
            refine z_istore_n ZC 2 dX8_carsAt_64 rfl (by decide) ?_
            refine z_iinc ZC dX8_carsAt_65 rfl (by decide) ?_
            refine z_goto ZC 4 dX8_carsAt_68 (by decide) ?_
            refine z_ws (ws2 := [(h, .inr (8, [vZ (M.2 0), .ref (a 1), .ref (a 2), vZ (M.2 3), vZ (M.2 4), .ref (a 5), .ref (a 6), .ref (a 7), .ref (a 8), .ref (a 9), .ref (a 10), .ref (a 11), vZ (M.2 12), .ref (a 13), .ref (a 14), .ref (a 15), .ref (a 16), .ref (a 17), .ref (a 18), .ref (a 19), vZ (M.2 20), vZ (M.2 21), .ref (a 22), .ref (a 23), .ref (a 24), .ref (a 25), .ref (a 26), .ref (a 27), .ref (a 28), .ref (a 29), .ref (a 30), .ref (a 31), .ref (a 32), .ref (a 33), vZ (M.2 34), .ref (a 35), vZ (M.2 36), vZ (M.2 37), vZ (M.2 38), .ref (a 39), .ref (a 40), vZ (M.2 41), vZ (M.2 42), vZ (M.2 43)])), ((a 1), .inl (K.1, 10, .inl (ar (M.1 1)))), ((a 2), .inl (K.1, 10, .inl (ar (M.1 2)))), ((a 5), .inl (K.1, 16, .inl (ar (M.1 5)))), ((a 6), .inl (K.1, 16, .inl (ar (M.1 6)))), ((a 7), .inl (K.1, 16, .inl (ar (M.1 7)))), ((a 8), .inl (K.1, 16, .inl (ar (M.1 8)))), ((a 9), .inl (K.1, 16, .inl (ar (M.1 9)))), ((a 10), .inl (K.1, 16, .inl (ar (M.1 10)))), ((a 11), .inl (K.1, 100, .inl (ar (M.1 11)))), ((a 13), .inl (K.1, 8, .inl (ar (M.1 13)))), ((a 14), .inl (K.1, 8, .inl (ar (M.1 14)))), ((a 15), .inl (K.1, 8, .inl (ar (M.1 15)))), ((a 16), .inl (K.1, 8, .inl (ar (M.1 16)))), ((a 17), .inl (K.1, 3200, .inl (ar (M.1 17)))), ((a 18), .inl (K.1, 3200, .inl (ar (M.1 18)))), ((a 19), .inl (K.2.1, 3200, .inl (ar (M.1 19)))), ((a 22), .inl (K.1, 3400, .inl (ar (M.1 22)))), ((a 23), .inl (K.1, 3400, .inl (ar (M.1 23)))), ((a 24), .inl (K.1, 3400, .inl (ar (M.1 24)))), ((a 25), .inl (K.1, 3400, .inl (ar (M.1 25)))), ((a 26), .inl (K.1, 32, .inl (ar (M.1 26)))), ((a 27), .inl (K.1, 32, .inl (ar (M.1 27)))), ((a 28), .inl (K.2.1, 8, .inl (ar (M.1 28)))), ((a 29), .inl (K.1, 8, .inl (ar (M.1 29)))), ((a 30), .inl (K.1, 8, .inl (ar (M.1 30)))), ((a 31), .inl (K.1, 10, .inl (ar (M.1 31)))), ((a 32), .inl (K.1, 10, .inl (ar (M.1 32)))), ((a 33), .inl (K.1, 10, .inl (ar (M.1 33)))), ((a 35), .inl (K.1, 13711, .inl (ar (M.1 35)))), ((a 39), .inl (K.1, 4, .inl (ar (M.1 39)))), ((a 40), .inl (K.1, 4, .inl (ar (M.1 40))))]) rfl (z_lv (lv2 := [(0, .ref h), (1, vZ town), (2, vZ (n + (0 + 0))), (3, vZ (c + 1))]) ⟨rfl, rfl, rfl, rfl, trivial⟩ ?_)
            refine ih_4 (n + (0 + 0)) (c + 1) ?_ ?_ (dec_lt hm_4 (by omega))
            · skip
              omega
            · skip
              rw [smI_s h0.1, ← hn]
              show _ = n + ((if A.1 1 c = 0 ∧ Cr.1 0 c = town then Cr.1 1 c else 0) + (if Cr.1 2 c = town then A.1 2 c else 0))
              split <;> split <;> omega
          · skip
            refine z_aload_n ZC 0 dX8_carsAt_52 rfl rfl ?_
            refine z_get ZC inUX8 0 rfl rfl 29 (by decide) uF_X8_84 rfl dX8_carsAt_53 ?_
            refine z_iload_n ZC 3 dX8_carsAt_56 rfl rfl ?_
            refine z_iald ZC 24 rfl dX8_carsAt_57 (by omega) ?_
            refine z_goto ZC 62 dX8_carsAt_58 (by decide) ?_
            refine z_iadd ZC dX8_carsAt_62 ?_
            refine z_iadd ZC dX8_carsAt_63 ?_
            refine z_istore_n ZC 2 dX8_carsAt_64 rfl (by decide) ?_
            refine z_iinc ZC dX8_carsAt_65 rfl (by decide) ?_
            refine z_goto ZC 4 dX8_carsAt_68 (by decide) ?_
            refine z_ws (ws2 := [(h, .inr (8, [vZ (M.2 0), .ref (a 1), .ref (a 2), vZ (M.2 3), vZ (M.2 4), .ref (a 5), .ref (a 6), .ref (a 7), .ref (a 8), .ref (a 9), .ref (a 10), .ref (a 11), vZ (M.2 12), .ref (a 13), .ref (a 14), .ref (a 15), .ref (a 16), .ref (a 17), .ref (a 18), .ref (a 19), vZ (M.2 20), vZ (M.2 21), .ref (a 22), .ref (a 23), .ref (a 24), .ref (a 25), .ref (a 26), .ref (a 27), .ref (a 28), .ref (a 29), .ref (a 30), .ref (a 31), .ref (a 32), .ref (a 33), vZ (M.2 34), .ref (a 35), vZ (M.2 36), vZ (M.2 37), vZ (M.2 38), .ref (a 39), .ref (a 40), vZ (M.2 41), vZ (M.2 42), vZ (M.2 43)])), ((a 1), .inl (K.1, 10, .inl (ar (M.1 1)))), ((a 2), .inl (K.1, 10, .inl (ar (M.1 2)))), ((a 5), .inl (K.1, 16, .inl (ar (M.1 5)))), ((a 6), .inl (K.1, 16, .inl (ar (M.1 6)))), ((a 7), .inl (K.1, 16, .inl (ar (M.1 7)))), ((a 8), .inl (K.1, 16, .inl (ar (M.1 8)))), ((a 9), .inl (K.1, 16, .inl (ar (M.1 9)))), ((a 10), .inl (K.1, 16, .inl (ar (M.1 10)))), ((a 11), .inl (K.1, 100, .inl (ar (M.1 11)))), ((a 13), .inl (K.1, 8, .inl (ar (M.1 13)))), ((a 14), .inl (K.1, 8, .inl (ar (M.1 14)))), ((a 15), .inl (K.1, 8, .inl (ar (M.1 15)))), ((a 16), .inl (K.1, 8, .inl (ar (M.1 16)))), ((a 17), .inl (K.1, 3200, .inl (ar (M.1 17)))), ((a 18), .inl (K.1, 3200, .inl (ar (M.1 18)))), ((a 19), .inl (K.2.1, 3200, .inl (ar (M.1 19)))), ((a 22), .inl (K.1, 3400, .inl (ar (M.1 22)))), ((a 23), .inl (K.1, 3400, .inl (ar (M.1 23)))), ((a 24), .inl (K.1, 3400, .inl (ar (M.1 24)))), ((a 25), .inl (K.1, 3400, .inl (ar (M.1 25)))), ((a 26), .inl (K.1, 32, .inl (ar (M.1 26)))), ((a 27), .inl (K.1, 32, .inl (ar (M.1 27)))), ((a 28), .inl (K.2.1, 8, .inl (ar (M.1 28)))), ((a 29), .inl (K.1, 8, .inl (ar (M.1 29)))), ((a 30), .inl (K.1, 8, .inl (ar (M.1 30)))), ((a 31), .inl (K.1, 10, .inl (ar (M.1 31)))), ((a 32), .inl (K.1, 10, .inl (ar (M.1 32)))), ((a 33), .inl (K.1, 10, .inl (ar (M.1 33)))), ((a 35), .inl (K.1, 13711, .inl (ar (M.1 35)))), ((a 39), .inl (K.1, 4, .inl (ar (M.1 39)))), ((a 40), .inl (K.1, 4, .inl (ar (M.1 40))))]) rfl (z_lv (lv2 := [(0, .ref h), (1, vZ town), (2, vZ (n + (0 + ((M.1 29) c)))), (3, vZ (c + 1))]) ⟨rfl, rfl, rfl, rfl, trivial⟩ ?_)
            refine ih_4 (n + (0 + ((M.1 29) c))) (c + 1) ?_ ?_ (dec_lt hm_4 (by omega))
            · skip
              omega
            · skip
              rw [smI_s h0.1, ← hn]
              show _ = n + ((if A.1 1 c = 0 ∧ Cr.1 0 c = town then Cr.1 1 c else 0) + (if Cr.1 2 c = town then A.1 2 c else 0))
              split <;> split <;> omega
        · skip
          refine z_aload_n ZC 0 dX8_carsAt_22 rfl rfl ?_
          refine z_get ZC inUX8 0 rfl rfl 13 (by decide) uF_X8_41 rfl dX8_carsAt_23 ?_
          refine z_iload_n ZC 3 dX8_carsAt_26 rfl rfl ?_
          refine z_iald ZC 10 rfl dX8_carsAt_27 (by omega) ?_
          refine z_iload_n ZC 1 dX8_carsAt_28 rfl rfl ?_
          refine z_icmp_ne ZC 41 dX8_carsAt_29 (by decide) (by omega) (by omega) (fun c_29 => ?_) (fun c_29 => ?_)
          · skip
            refine z_iconst ZC dX8_carsAt_41 ?_
            refine z_aload_n ZC 0 dX8_carsAt_42 rfl rfl ?_
            refine z_get ZC inUX8 0 rfl rfl 15 (by decide) uF_X8_47 rfl dX8_carsAt_43 ?_
            refine z_iload_n ZC 3 dX8_carsAt_46 rfl rfl ?_
            refine z_iald ZC 12 rfl dX8_carsAt_47 (by omega) ?_
            refine z_iload_n ZC 1 dX8_carsAt_48 rfl rfl ?_
            refine z_icmp_ne ZC 61 dX8_carsAt_49 (by decide) (by omega) (by omega) (fun c_49 => ?_) (fun c_49 => ?_)
            · skip
              refine z_iconst ZC dX8_carsAt_61 ?_
              refine z_iadd ZC dX8_carsAt_62 ?_
              refine z_iadd ZC dX8_carsAt_63 ?_
              refine z_istore_n ZC 2 dX8_carsAt_64 rfl (by decide) ?_
              refine z_iinc ZC dX8_carsAt_65 rfl (by decide) ?_
              refine z_goto ZC 4 dX8_carsAt_68 (by decide) ?_
              refine z_ws (ws2 := [(h, .inr (8, [vZ (M.2 0), .ref (a 1), .ref (a 2), vZ (M.2 3), vZ (M.2 4), .ref (a 5), .ref (a 6), .ref (a 7), .ref (a 8), .ref (a 9), .ref (a 10), .ref (a 11), vZ (M.2 12), .ref (a 13), .ref (a 14), .ref (a 15), .ref (a 16), .ref (a 17), .ref (a 18), .ref (a 19), vZ (M.2 20), vZ (M.2 21), .ref (a 22), .ref (a 23), .ref (a 24), .ref (a 25), .ref (a 26), .ref (a 27), .ref (a 28), .ref (a 29), .ref (a 30), .ref (a 31), .ref (a 32), .ref (a 33), vZ (M.2 34), .ref (a 35), vZ (M.2 36), vZ (M.2 37), vZ (M.2 38), .ref (a 39), .ref (a 40), vZ (M.2 41), vZ (M.2 42), vZ (M.2 43)])), ((a 1), .inl (K.1, 10, .inl (ar (M.1 1)))), ((a 2), .inl (K.1, 10, .inl (ar (M.1 2)))), ((a 5), .inl (K.1, 16, .inl (ar (M.1 5)))), ((a 6), .inl (K.1, 16, .inl (ar (M.1 6)))), ((a 7), .inl (K.1, 16, .inl (ar (M.1 7)))), ((a 8), .inl (K.1, 16, .inl (ar (M.1 8)))), ((a 9), .inl (K.1, 16, .inl (ar (M.1 9)))), ((a 10), .inl (K.1, 16, .inl (ar (M.1 10)))), ((a 11), .inl (K.1, 100, .inl (ar (M.1 11)))), ((a 13), .inl (K.1, 8, .inl (ar (M.1 13)))), ((a 14), .inl (K.1, 8, .inl (ar (M.1 14)))), ((a 15), .inl (K.1, 8, .inl (ar (M.1 15)))), ((a 16), .inl (K.1, 8, .inl (ar (M.1 16)))), ((a 17), .inl (K.1, 3200, .inl (ar (M.1 17)))), ((a 18), .inl (K.1, 3200, .inl (ar (M.1 18)))), ((a 19), .inl (K.2.1, 3200, .inl (ar (M.1 19)))), ((a 22), .inl (K.1, 3400, .inl (ar (M.1 22)))), ((a 23), .inl (K.1, 3400, .inl (ar (M.1 23)))), ((a 24), .inl (K.1, 3400, .inl (ar (M.1 24)))), ((a 25), .inl (K.1, 3400, .inl (ar (M.1 25)))), ((a 26), .inl (K.1, 32, .inl (ar (M.1 26)))), ((a 27), .inl (K.1, 32, .inl (ar (M.1 27)))), ((a 28), .inl (K.2.1, 8, .inl (ar (M.1 28)))), ((a 29), .inl (K.1, 8, .inl (ar (M.1 29)))), ((a 30), .inl (K.1, 8, .inl (ar (M.1 30)))), ((a 31), .inl (K.1, 10, .inl (ar (M.1 31)))), ((a 32), .inl (K.1, 10, .inl (ar (M.1 32)))), ((a 33), .inl (K.1, 10, .inl (ar (M.1 33)))), ((a 35), .inl (K.1, 13711, .inl (ar (M.1 35)))), ((a 39), .inl (K.1, 4, .inl (ar (M.1 39)))), ((a 40), .inl (K.1, 4, .inl (ar (M.1 40))))]) rfl (z_lv (lv2 := [(0, .ref h), (1, vZ town), (2, vZ (n + (0 + 0))), (3, vZ (c + 1))]) ⟨rfl, rfl, rfl, rfl, trivial⟩ ?_)
              refine ih_4 (n + (0 + 0)) (c + 1) ?_ ?_ (dec_lt hm_4 (by omega))
              · skip
                omega
              · skip
                rw [smI_s h0.1, ← hn]
                show _ = n + ((if A.1 1 c = 0 ∧ Cr.1 0 c = town then Cr.1 1 c else 0) + (if Cr.1 2 c = town then A.1 2 c else 0))
                split <;> split <;> omega
            · skip
              refine z_aload_n ZC 0 dX8_carsAt_52 rfl rfl ?_
              refine z_get ZC inUX8 0 rfl rfl 29 (by decide) uF_X8_84 rfl dX8_carsAt_53 ?_
              refine z_iload_n ZC 3 dX8_carsAt_56 rfl rfl ?_
              refine z_iald ZC 24 rfl dX8_carsAt_57 (by omega) ?_
              refine z_goto ZC 62 dX8_carsAt_58 (by decide) ?_
              refine z_iadd ZC dX8_carsAt_62 ?_
              refine z_iadd ZC dX8_carsAt_63 ?_
              refine z_istore_n ZC 2 dX8_carsAt_64 rfl (by decide) ?_
              refine z_iinc ZC dX8_carsAt_65 rfl (by decide) ?_
              refine z_goto ZC 4 dX8_carsAt_68 (by decide) ?_
              refine z_ws (ws2 := [(h, .inr (8, [vZ (M.2 0), .ref (a 1), .ref (a 2), vZ (M.2 3), vZ (M.2 4), .ref (a 5), .ref (a 6), .ref (a 7), .ref (a 8), .ref (a 9), .ref (a 10), .ref (a 11), vZ (M.2 12), .ref (a 13), .ref (a 14), .ref (a 15), .ref (a 16), .ref (a 17), .ref (a 18), .ref (a 19), vZ (M.2 20), vZ (M.2 21), .ref (a 22), .ref (a 23), .ref (a 24), .ref (a 25), .ref (a 26), .ref (a 27), .ref (a 28), .ref (a 29), .ref (a 30), .ref (a 31), .ref (a 32), .ref (a 33), vZ (M.2 34), .ref (a 35), vZ (M.2 36), vZ (M.2 37), vZ (M.2 38), .ref (a 39), .ref (a 40), vZ (M.2 41), vZ (M.2 42), vZ (M.2 43)])), ((a 1), .inl (K.1, 10, .inl (ar (M.1 1)))), ((a 2), .inl (K.1, 10, .inl (ar (M.1 2)))), ((a 5), .inl (K.1, 16, .inl (ar (M.1 5)))), ((a 6), .inl (K.1, 16, .inl (ar (M.1 6)))), ((a 7), .inl (K.1, 16, .inl (ar (M.1 7)))), ((a 8), .inl (K.1, 16, .inl (ar (M.1 8)))), ((a 9), .inl (K.1, 16, .inl (ar (M.1 9)))), ((a 10), .inl (K.1, 16, .inl (ar (M.1 10)))), ((a 11), .inl (K.1, 100, .inl (ar (M.1 11)))), ((a 13), .inl (K.1, 8, .inl (ar (M.1 13)))), ((a 14), .inl (K.1, 8, .inl (ar (M.1 14)))), ((a 15), .inl (K.1, 8, .inl (ar (M.1 15)))), ((a 16), .inl (K.1, 8, .inl (ar (M.1 16)))), ((a 17), .inl (K.1, 3200, .inl (ar (M.1 17)))), ((a 18), .inl (K.1, 3200, .inl (ar (M.1 18)))), ((a 19), .inl (K.2.1, 3200, .inl (ar (M.1 19)))), ((a 22), .inl (K.1, 3400, .inl (ar (M.1 22)))), ((a 23), .inl (K.1, 3400, .inl (ar (M.1 23)))), ((a 24), .inl (K.1, 3400, .inl (ar (M.1 24)))), ((a 25), .inl (K.1, 3400, .inl (ar (M.1 25)))), ((a 26), .inl (K.1, 32, .inl (ar (M.1 26)))), ((a 27), .inl (K.1, 32, .inl (ar (M.1 27)))), ((a 28), .inl (K.2.1, 8, .inl (ar (M.1 28)))), ((a 29), .inl (K.1, 8, .inl (ar (M.1 29)))), ((a 30), .inl (K.1, 8, .inl (ar (M.1 30)))), ((a 31), .inl (K.1, 10, .inl (ar (M.1 31)))), ((a 32), .inl (K.1, 10, .inl (ar (M.1 32)))), ((a 33), .inl (K.1, 10, .inl (ar (M.1 33)))), ((a 35), .inl (K.1, 13711, .inl (ar (M.1 35)))), ((a 39), .inl (K.1, 4, .inl (ar (M.1 39)))), ((a 40), .inl (K.1, 4, .inl (ar (M.1 40))))]) rfl (z_lv (lv2 := [(0, .ref h), (1, vZ town), (2, vZ (n + (0 + ((M.1 29) c)))), (3, vZ (c + 1))]) ⟨rfl, rfl, rfl, rfl, trivial⟩ ?_)
              refine ih_4 (n + (0 + ((M.1 29) c))) (c + 1) ?_ ?_ (dec_lt hm_4 (by omega))
              · skip
                omega
              · skip
                rw [smI_s h0.1, ← hn]
                show _ = n + ((if A.1 1 c = 0 ∧ Cr.1 0 c = town then Cr.1 1 c else 0) + (if Cr.1 2 c = town then A.1 2 c else 0))
                split <;> split <;> omega
          · skip
            refine z_aload_n ZC 0 dX8_carsAt_32 rfl rfl ?_
            refine z_get ZC inUX8 0 rfl rfl 14 (by decide) uF_X8_44 rfl dX8_carsAt_33 ?_
            refine z_iload_n ZC 3 dX8_carsAt_36 rfl rfl ?_
            refine z_iald ZC 11 rfl dX8_carsAt_37 (by omega) ?_
            refine z_goto ZC 42 dX8_carsAt_38 (by decide) ?_
            refine z_aload_n ZC 0 dX8_carsAt_42 rfl rfl ?_
            refine z_get ZC inUX8 0 rfl rfl 15 (by decide) uF_X8_47 rfl dX8_carsAt_43 ?_
            refine z_iload_n ZC 3 dX8_carsAt_46 rfl rfl ?_
            refine z_iald ZC 12 rfl dX8_carsAt_47 (by omega) ?_
            refine z_iload_n ZC 1 dX8_carsAt_48 rfl rfl ?_
            refine z_icmp_ne ZC 61 dX8_carsAt_49 (by decide) (by omega) (by omega) (fun c_49 => ?_) (fun c_49 => ?_)
            · skip
              refine z_iconst ZC dX8_carsAt_61 ?_
              refine z_iadd ZC dX8_carsAt_62 ?_
              refine z_iadd ZC dX8_carsAt_63 ?_
              refine z_istore_n ZC 2 dX8_carsAt_64 rfl (by decide) ?_
              refine z_iinc ZC dX8_carsAt_65 rfl (by decide) ?_
              refine z_goto ZC 4 dX8_carsAt_68 (by decide) ?_
              refine z_ws (ws2 := [(h, .inr (8, [vZ (M.2 0), .ref (a 1), .ref (a 2), vZ (M.2 3), vZ (M.2 4), .ref (a 5), .ref (a 6), .ref (a 7), .ref (a 8), .ref (a 9), .ref (a 10), .ref (a 11), vZ (M.2 12), .ref (a 13), .ref (a 14), .ref (a 15), .ref (a 16), .ref (a 17), .ref (a 18), .ref (a 19), vZ (M.2 20), vZ (M.2 21), .ref (a 22), .ref (a 23), .ref (a 24), .ref (a 25), .ref (a 26), .ref (a 27), .ref (a 28), .ref (a 29), .ref (a 30), .ref (a 31), .ref (a 32), .ref (a 33), vZ (M.2 34), .ref (a 35), vZ (M.2 36), vZ (M.2 37), vZ (M.2 38), .ref (a 39), .ref (a 40), vZ (M.2 41), vZ (M.2 42), vZ (M.2 43)])), ((a 1), .inl (K.1, 10, .inl (ar (M.1 1)))), ((a 2), .inl (K.1, 10, .inl (ar (M.1 2)))), ((a 5), .inl (K.1, 16, .inl (ar (M.1 5)))), ((a 6), .inl (K.1, 16, .inl (ar (M.1 6)))), ((a 7), .inl (K.1, 16, .inl (ar (M.1 7)))), ((a 8), .inl (K.1, 16, .inl (ar (M.1 8)))), ((a 9), .inl (K.1, 16, .inl (ar (M.1 9)))), ((a 10), .inl (K.1, 16, .inl (ar (M.1 10)))), ((a 11), .inl (K.1, 100, .inl (ar (M.1 11)))), ((a 13), .inl (K.1, 8, .inl (ar (M.1 13)))), ((a 14), .inl (K.1, 8, .inl (ar (M.1 14)))), ((a 15), .inl (K.1, 8, .inl (ar (M.1 15)))), ((a 16), .inl (K.1, 8, .inl (ar (M.1 16)))), ((a 17), .inl (K.1, 3200, .inl (ar (M.1 17)))), ((a 18), .inl (K.1, 3200, .inl (ar (M.1 18)))), ((a 19), .inl (K.2.1, 3200, .inl (ar (M.1 19)))), ((a 22), .inl (K.1, 3400, .inl (ar (M.1 22)))), ((a 23), .inl (K.1, 3400, .inl (ar (M.1 23)))), ((a 24), .inl (K.1, 3400, .inl (ar (M.1 24)))), ((a 25), .inl (K.1, 3400, .inl (ar (M.1 25)))), ((a 26), .inl (K.1, 32, .inl (ar (M.1 26)))), ((a 27), .inl (K.1, 32, .inl (ar (M.1 27)))), ((a 28), .inl (K.2.1, 8, .inl (ar (M.1 28)))), ((a 29), .inl (K.1, 8, .inl (ar (M.1 29)))), ((a 30), .inl (K.1, 8, .inl (ar (M.1 30)))), ((a 31), .inl (K.1, 10, .inl (ar (M.1 31)))), ((a 32), .inl (K.1, 10, .inl (ar (M.1 32)))), ((a 33), .inl (K.1, 10, .inl (ar (M.1 33)))), ((a 35), .inl (K.1, 13711, .inl (ar (M.1 35)))), ((a 39), .inl (K.1, 4, .inl (ar (M.1 39)))), ((a 40), .inl (K.1, 4, .inl (ar (M.1 40))))]) rfl (z_lv (lv2 := [(0, .ref h), (1, vZ town), (2, vZ (n + (((M.1 14) c) + 0))), (3, vZ (c + 1))]) ⟨rfl, rfl, rfl, rfl, trivial⟩ ?_)
              refine ih_4 (n + (((M.1 14) c) + 0)) (c + 1) ?_ ?_ (dec_lt hm_4 (by omega))
              · skip
                omega
              · skip
                rw [smI_s h0.1, ← hn]
                show _ = n + ((if A.1 1 c = 0 ∧ Cr.1 0 c = town then Cr.1 1 c else 0) + (if Cr.1 2 c = town then A.1 2 c else 0))
                split <;> split <;> omega
            · skip
              refine z_aload_n ZC 0 dX8_carsAt_52 rfl rfl ?_
              refine z_get ZC inUX8 0 rfl rfl 29 (by decide) uF_X8_84 rfl dX8_carsAt_53 ?_
              refine z_iload_n ZC 3 dX8_carsAt_56 rfl rfl ?_
              refine z_iald ZC 24 rfl dX8_carsAt_57 (by omega) ?_
              refine z_goto ZC 62 dX8_carsAt_58 (by decide) ?_
              refine z_iadd ZC dX8_carsAt_62 ?_
              refine z_iadd ZC dX8_carsAt_63 ?_
              refine z_istore_n ZC 2 dX8_carsAt_64 rfl (by decide) ?_
              refine z_iinc ZC dX8_carsAt_65 rfl (by decide) ?_
              refine z_goto ZC 4 dX8_carsAt_68 (by decide) ?_
              refine z_ws (ws2 := [(h, .inr (8, [vZ (M.2 0), .ref (a 1), .ref (a 2), vZ (M.2 3), vZ (M.2 4), .ref (a 5), .ref (a 6), .ref (a 7), .ref (a 8), .ref (a 9), .ref (a 10), .ref (a 11), vZ (M.2 12), .ref (a 13), .ref (a 14), .ref (a 15), .ref (a 16), .ref (a 17), .ref (a 18), .ref (a 19), vZ (M.2 20), vZ (M.2 21), .ref (a 22), .ref (a 23), .ref (a 24), .ref (a 25), .ref (a 26), .ref (a 27), .ref (a 28), .ref (a 29), .ref (a 30), .ref (a 31), .ref (a 32), .ref (a 33), vZ (M.2 34), .ref (a 35), vZ (M.2 36), vZ (M.2 37), vZ (M.2 38), .ref (a 39), .ref (a 40), vZ (M.2 41), vZ (M.2 42), vZ (M.2 43)])), ((a 1), .inl (K.1, 10, .inl (ar (M.1 1)))), ((a 2), .inl (K.1, 10, .inl (ar (M.1 2)))), ((a 5), .inl (K.1, 16, .inl (ar (M.1 5)))), ((a 6), .inl (K.1, 16, .inl (ar (M.1 6)))), ((a 7), .inl (K.1, 16, .inl (ar (M.1 7)))), ((a 8), .inl (K.1, 16, .inl (ar (M.1 8)))), ((a 9), .inl (K.1, 16, .inl (ar (M.1 9)))), ((a 10), .inl (K.1, 16, .inl (ar (M.1 10)))), ((a 11), .inl (K.1, 100, .inl (ar (M.1 11)))), ((a 13), .inl (K.1, 8, .inl (ar (M.1 13)))), ((a 14), .inl (K.1, 8, .inl (ar (M.1 14)))), ((a 15), .inl (K.1, 8, .inl (ar (M.1 15)))), ((a 16), .inl (K.1, 8, .inl (ar (M.1 16)))), ((a 17), .inl (K.1, 3200, .inl (ar (M.1 17)))), ((a 18), .inl (K.1, 3200, .inl (ar (M.1 18)))), ((a 19), .inl (K.2.1, 3200, .inl (ar (M.1 19)))), ((a 22), .inl (K.1, 3400, .inl (ar (M.1 22)))), ((a 23), .inl (K.1, 3400, .inl (ar (M.1 23)))), ((a 24), .inl (K.1, 3400, .inl (ar (M.1 24)))), ((a 25), .inl (K.1, 3400, .inl (ar (M.1 25)))), ((a 26), .inl (K.1, 32, .inl (ar (M.1 26)))), ((a 27), .inl (K.1, 32, .inl (ar (M.1 27)))), ((a 28), .inl (K.2.1, 8, .inl (ar (M.1 28)))), ((a 29), .inl (K.1, 8, .inl (ar (M.1 29)))), ((a 30), .inl (K.1, 8, .inl (ar (M.1 30)))), ((a 31), .inl (K.1, 10, .inl (ar (M.1 31)))), ((a 32), .inl (K.1, 10, .inl (ar (M.1 32)))), ((a 33), .inl (K.1, 10, .inl (ar (M.1 33)))), ((a 35), .inl (K.1, 13711, .inl (ar (M.1 35)))), ((a 39), .inl (K.1, 4, .inl (ar (M.1 39)))), ((a 40), .inl (K.1, 4, .inl (ar (M.1 40))))]) rfl (z_lv (lv2 := [(0, .ref h), (1, vZ town), (2, vZ (n + (((M.1 14) c) + ((M.1 29) c)))), (3, vZ (c + 1))]) ⟨rfl, rfl, rfl, rfl, trivial⟩ ?_)
              refine ih_4 (n + (((M.1 14) c) + ((M.1 29) c))) (c + 1) ?_ ?_ (dec_lt hm_4 (by omega))
              · skip
                omega
              · skip
                rw [smI_s h0.1, ← hn]
                show _ = n + ((if A.1 1 c = 0 ∧ Cr.1 0 c = town then Cr.1 1 c else 0) + (if Cr.1 2 c = town then A.1 2 c else 0))
                split <;> split <;> omega
  refine z_ws (ws2 := [(h, .inr (8, [vZ (M.2 0), .ref (a 1), .ref (a 2), vZ (M.2 3), vZ (M.2 4), .ref (a 5), .ref (a 6), .ref (a 7), .ref (a 8), .ref (a 9), .ref (a 10), .ref (a 11), vZ (M.2 12), .ref (a 13), .ref (a 14), .ref (a 15), .ref (a 16), .ref (a 17), .ref (a 18), .ref (a 19), vZ (M.2 20), vZ (M.2 21), .ref (a 22), .ref (a 23), .ref (a 24), .ref (a 25), .ref (a 26), .ref (a 27), .ref (a 28), .ref (a 29), .ref (a 30), .ref (a 31), .ref (a 32), .ref (a 33), vZ (M.2 34), .ref (a 35), vZ (M.2 36), vZ (M.2 37), vZ (M.2 38), .ref (a 39), .ref (a 40), vZ (M.2 41), vZ (M.2 42), vZ (M.2 43)])), ((a 1), .inl (K.1, 10, .inl (ar (M.1 1)))), ((a 2), .inl (K.1, 10, .inl (ar (M.1 2)))), ((a 5), .inl (K.1, 16, .inl (ar (M.1 5)))), ((a 6), .inl (K.1, 16, .inl (ar (M.1 6)))), ((a 7), .inl (K.1, 16, .inl (ar (M.1 7)))), ((a 8), .inl (K.1, 16, .inl (ar (M.1 8)))), ((a 9), .inl (K.1, 16, .inl (ar (M.1 9)))), ((a 10), .inl (K.1, 16, .inl (ar (M.1 10)))), ((a 11), .inl (K.1, 100, .inl (ar (M.1 11)))), ((a 13), .inl (K.1, 8, .inl (ar (M.1 13)))), ((a 14), .inl (K.1, 8, .inl (ar (M.1 14)))), ((a 15), .inl (K.1, 8, .inl (ar (M.1 15)))), ((a 16), .inl (K.1, 8, .inl (ar (M.1 16)))), ((a 17), .inl (K.1, 3200, .inl (ar (M.1 17)))), ((a 18), .inl (K.1, 3200, .inl (ar (M.1 18)))), ((a 19), .inl (K.2.1, 3200, .inl (ar (M.1 19)))), ((a 22), .inl (K.1, 3400, .inl (ar (M.1 22)))), ((a 23), .inl (K.1, 3400, .inl (ar (M.1 23)))), ((a 24), .inl (K.1, 3400, .inl (ar (M.1 24)))), ((a 25), .inl (K.1, 3400, .inl (ar (M.1 25)))), ((a 26), .inl (K.1, 32, .inl (ar (M.1 26)))), ((a 27), .inl (K.1, 32, .inl (ar (M.1 27)))), ((a 28), .inl (K.2.1, 8, .inl (ar (M.1 28)))), ((a 29), .inl (K.1, 8, .inl (ar (M.1 29)))), ((a 30), .inl (K.1, 8, .inl (ar (M.1 30)))), ((a 31), .inl (K.1, 10, .inl (ar (M.1 31)))), ((a 32), .inl (K.1, 10, .inl (ar (M.1 32)))), ((a 33), .inl (K.1, 10, .inl (ar (M.1 33)))), ((a 35), .inl (K.1, 13711, .inl (ar (M.1 35)))), ((a 39), .inl (K.1, 4, .inl (ar (M.1 39)))), ((a 40), .inl (K.1, 4, .inl (ar (M.1 40))))]) rfl (z_lv (lv2 := [(0, .ref h), (1, vZ town), (2, vZ 0), (3, vZ 0)]) ⟨rfl, rfl, rfl, rfl, trivial⟩ ?_)
  refine lp_4 _ 0 0 ?_ ?_ (Nat.lt_succ_self _)
  · skip
    omega
  · skip
    rfl

set_option maxHeartbeats 4000000 in
set_option maxRecDepth 100000 in
theorem c_X8_drinks (zl : Launch) (D : va_G) (K : tyK) (h : Nat) (a : Nat → Nat) (M : Bd) (Ne : Bd) (Cr : Bd) (A : Ab) (C : Int → List Pt3) (t : Int) (hcf : Cfg Ne Cr) (hnw : NW Ne) (hmn : MSn Ne M) (hmc : MSc Cr M) (hmd : MD Cr A M C []) (hus : M.2 21 ≤ 3400) (htn : 0 ≤ t ∧ t < 10) (hok : AOK Ne Cr A) (hwa : 0 ≤ M.1 31 t ∧ M.1 31 t ≤ 1000000) (hli : -1 ≤ M.1 33 t ∧ M.1 33 t ≤ 1000) : Mz zl yX8_drinks cX8_drinks 3 (none) 2 46 0 0 D K [.ref h, vZ t] (wMo K h a M) (fun r_ w2_ gc gs => ∃ (Wt : Int → Int), ∃ (Lk : Int → Int), ∃ (Li : Int → Int), r_ = none ∧ w2_ = (wMo K h a ((upf (upf (upf M.1 31 Wt) 32 Lk) 33 Li), M.2)) ∧ gc = 0 ∧ gs = 0 ∧ (∀ x : Int, Wt x = (if x = t then M.1 31 t - min (aAt Ne Cr A t) (M.1 31 t) else M.1 31 x) ∧ Lk x = (if x = t then M.1 32 t + (aAt Ne Cr A t - min (aAt Ne Cr A t) (M.1 31 t)) else M.1 32 x) ∧ Li x = (if x = t ∧ M.1 33 t = -1 ∧ M.1 31 t < aAt Ne Cr A t then M.2 20 else M.1 33 x))) := by
  refine Mz.ofZ (by decide) rfl (Nat.le_of_ble_eq_true rfl) ?_
  intro zp ze zR zs zm zargs zbelow zmeth zc zA zQ ZC ZE hRf hRc hRs hRl
  have hat := aAt_rng hcf hok t
  refine z_aload_n ZC 0 dX8_drinks_0 rfl rfl ?_
  refine z_iload_n ZC 1 dX8_drinks_1 rfl rfl ?_
  refine z_callV ZC 1 (c_X8_carsAt zl D K h a M Ne Cr A C t (hcf) (hnw) (hmn) (hmc) (hmd) (hus) (htn) (hok)) (gdV uM_X8_183 uI_X8_carsAt uS_X8_carsAt uN_X8 uC_X8_carsAt) (by decide +kernel) rfl ⟨by omega, by omega⟩ ⟨by omega, by omega⟩ (Nat.le_of_ble_eq_true rfl) [0, 1, 2, 3, 4, 5, 6, 7, 8, 9, 10, 11, 12, 13, 14, 15, 16, 17, 18, 19, 20, 21, 22, 23, 24, 25, 26, 27, 28, 29, 30, 31] rfl (by decide) rfl rfl rfl rfl dX8_drinks_2 (fun r w2 gc_2 gs_2 hp => ?_)
  obtain ⟨rfl, rfl, rfl, rfl⟩ := hp
  refine z_ws (ws2 := [(h, .inr (8, [vZ (M.2 0), .ref (a 1), .ref (a 2), vZ (M.2 3), vZ (M.2 4), .ref (a 5), .ref (a 6), .ref (a 7), .ref (a 8), .ref (a 9), .ref (a 10), .ref (a 11), vZ (M.2 12), .ref (a 13), .ref (a 14), .ref (a 15), .ref (a 16), .ref (a 17), .ref (a 18), .ref (a 19), vZ (M.2 20), vZ (M.2 21), .ref (a 22), .ref (a 23), .ref (a 24), .ref (a 25), .ref (a 26), .ref (a 27), .ref (a 28), .ref (a 29), .ref (a 30), .ref (a 31), .ref (a 32), .ref (a 33), vZ (M.2 34), .ref (a 35), vZ (M.2 36), vZ (M.2 37), vZ (M.2 38), .ref (a 39), .ref (a 40), vZ (M.2 41), vZ (M.2 42), vZ (M.2 43)])), ((a 1), .inl (K.1, 10, .inl (ar (M.1 1)))), ((a 2), .inl (K.1, 10, .inl (ar (M.1 2)))), ((a 5), .inl (K.1, 16, .inl (ar (M.1 5)))), ((a 6), .inl (K.1, 16, .inl (ar (M.1 6)))), ((a 7), .inl (K.1, 16, .inl (ar (M.1 7)))), ((a 8), .inl (K.1, 16, .inl (ar (M.1 8)))), ((a 9), .inl (K.1, 16, .inl (ar (M.1 9)))), ((a 10), .inl (K.1, 16, .inl (ar (M.1 10)))), ((a 11), .inl (K.1, 100, .inl (ar (M.1 11)))), ((a 13), .inl (K.1, 8, .inl (ar (M.1 13)))), ((a 14), .inl (K.1, 8, .inl (ar (M.1 14)))), ((a 15), .inl (K.1, 8, .inl (ar (M.1 15)))), ((a 16), .inl (K.1, 8, .inl (ar (M.1 16)))), ((a 17), .inl (K.1, 3200, .inl (ar (M.1 17)))), ((a 18), .inl (K.1, 3200, .inl (ar (M.1 18)))), ((a 19), .inl (K.2.1, 3200, .inl (ar (M.1 19)))), ((a 22), .inl (K.1, 3400, .inl (ar (M.1 22)))), ((a 23), .inl (K.1, 3400, .inl (ar (M.1 23)))), ((a 24), .inl (K.1, 3400, .inl (ar (M.1 24)))), ((a 25), .inl (K.1, 3400, .inl (ar (M.1 25)))), ((a 26), .inl (K.1, 32, .inl (ar (M.1 26)))), ((a 27), .inl (K.1, 32, .inl (ar (M.1 27)))), ((a 28), .inl (K.2.1, 8, .inl (ar (M.1 28)))), ((a 29), .inl (K.1, 8, .inl (ar (M.1 29)))), ((a 30), .inl (K.1, 8, .inl (ar (M.1 30)))), ((a 31), .inl (K.1, 10, .inl (ar (M.1 31)))), ((a 32), .inl (K.1, 10, .inl (ar (M.1 32)))), ((a 33), .inl (K.1, 10, .inl (ar (M.1 33)))), ((a 35), .inl (K.1, 13711, .inl (ar (M.1 35)))), ((a 39), .inl (K.1, 4, .inl (ar (M.1 39)))), ((a 40), .inl (K.1, 4, .inl (ar (M.1 40))))]) rfl ?_
  refine z_st (st2 := [vZ (aAt Ne Cr A t)]) rfl ?_
  refine z_istore_n ZC 2 dX8_drinks_5 rfl (by decide) ?_
  refine z_iload_n ZC 2 dX8_drinks_6 rfl rfl ?_
  refine z_aload_n ZC 0 dX8_drinks_7 rfl rfl ?_
  refine z_get ZC inUX8 0 rfl rfl 31 (by decide) uF_X8_90 rfl dX8_drinks_8 ?_
  refine z_iload_n ZC 1 dX8_drinks_11 rfl rfl ?_
  refine z_iald ZC 26 rfl dX8_drinks_12 (by omega) ?_
  refine z_icmp_le ZC 63 dX8_drinks_13 (by decide) (by omega) (by omega) (fun c_13 => ?_) (fun c_13 => ?_)
  · skip
    refine z_aload_n ZC 0 dX8_drinks_63 rfl rfl ?_
    refine z_get ZC inUX8 0 rfl rfl 31 (by decide) uF_X8_90 rfl dX8_drinks_64 ?_
    refine z_iload_n ZC 1 dX8_drinks_67 rfl rfl ?_
    refine z_dup2 ZC dX8_drinks_68 rfl rfl ?_
    refine z_iald ZC 26 rfl dX8_drinks_69 (by omega) ?_
    refine z_iload_n ZC 2 dX8_drinks_70 rfl rfl ?_
    refine z_isub ZC dX8_drinks_71 ?_
    refine z_iast ZC 26 rfl dX8_drinks_72 (by omega) ?_
    refine z_vret ZC ZE dX8_drinks_73 (by omega) (by omega) (Nat.le_of_ble_eq_true rfl) ⟨(upz (M.1 31) t (((M.1 31) t) - (aAt Ne Cr A t))), (M.1 32), (M.1 33), rfl, rfl, by omega, by omega, ?_⟩
    · skip
      intro x
      by_cases e : x = t
      · rw [e]
        (repeat rw [upz_self])
        refine ⟨by rw [if_pos rfl]; omega, by rw [if_pos rfl]; omega, ?_⟩
        first | rw [if_pos ⟨rfl, by omega, by omega⟩] | rw [if_neg (fun q => by omega)]
      · (repeat rw [upz_ne _ _ e])
        exact ⟨(if_neg e).symm, (if_neg e).symm, (if_neg (fun q => e q.1)).symm⟩
  · skip
    refine z_aload_n ZC 0 dX8_drinks_16 rfl rfl ?_
    refine z_get ZC inUX8 0 rfl rfl 32 (by decide) uF_X8_93 rfl dX8_drinks_17 ?_
    refine z_iload_n ZC 1 dX8_drinks_20 rfl rfl ?_
    refine z_dup2 ZC dX8_drinks_21 rfl rfl ?_
    refine z_iald ZC 27 rfl dX8_drinks_22 (by omega) ?_
    refine z_iload_n ZC 2 dX8_drinks_23 rfl rfl ?_
    refine z_aload_n ZC 0 dX8_drinks_24 rfl rfl ?_
    refine z_get ZC inUX8 0 rfl rfl 31 (by decide) uF_X8_90 rfl dX8_drinks_25 ?_
    refine z_iload_n ZC 1 dX8_drinks_28 rfl rfl ?_
    refine z_iald ZC 26 rfl dX8_drinks_29 (by omega) ?_
    refine z_isub ZC dX8_drinks_30 ?_
    refine z_iadd ZC dX8_drinks_31 ?_
    refine z_iast ZC 27 rfl dX8_drinks_32 (by omega) ?_
    refine z_aload_n ZC 0 dX8_drinks_33 rfl rfl ?_
    refine z_get ZC inUX8 0 rfl rfl 33 (by decide) uF_X8_96 rfl dX8_drinks_34 ?_
    refine z_iload_n ZC 1 dX8_drinks_37 rfl rfl ?_
    refine z_iald ZC 28 rfl dX8_drinks_38 (by omega) ?_
    refine z_iconst ZC dX8_drinks_39 ?_
    refine z_icmp_ne ZC 53 dX8_drinks_40 (by decide) (by omega) (by omega) (fun c_40 => ?_) (fun c_40 => ?_)
    · skip
      refine z_aload_n ZC 0 dX8_drinks_53 rfl rfl ?_
      refine z_get ZC inUX8 0 rfl rfl 31 (by decide) uF_X8_90 rfl dX8_drinks_54 ?_
      refine z_iload_n ZC 1 dX8_drinks_57 rfl rfl ?_
      refine z_iconst ZC dX8_drinks_58 ?_
      refine z_iast ZC 26 rfl dX8_drinks_59 (by omega) ?_
      refine z_goto ZC 73 dX8_drinks_60 (by decide) ?_
      refine z_vret ZC ZE dX8_drinks_73 (by omega) (by omega) (Nat.le_of_ble_eq_true rfl) ⟨(upz (M.1 31) t 0), (upz (M.1 32) t (((M.1 32) t) + ((aAt Ne Cr A t) - ((M.1 31) t)))), (M.1 33), rfl, rfl, by omega, by omega, ?_⟩
      · skip
        intro x
        by_cases e : x = t
        · rw [e]
          (repeat rw [upz_self])
          refine ⟨by rw [if_pos rfl]; omega, by rw [if_pos rfl]; omega, ?_⟩
          first | rw [if_pos ⟨rfl, by omega, by omega⟩] | rw [if_neg (fun q => by omega)]
        · (repeat rw [upz_ne _ _ e])
          exact ⟨(if_neg e).symm, (if_neg e).symm, (if_neg (fun q => e q.1)).symm⟩
    · skip
      refine z_aload_n ZC 0 dX8_drinks_43 rfl rfl ?_
      refine z_get ZC inUX8 0 rfl rfl 33 (by decide) uF_X8_96 rfl dX8_drinks_44 ?_
      refine z_iload_n ZC 1 dX8_drinks_47 rfl rfl ?_
      refine z_aload_n ZC 0 dX8_drinks_48 rfl rfl ?_
      refine z_get ZC inUX8 0 rfl rfl 20 (by decide) uF_X8_129 rfl dX8_drinks_49 ?_
      refine z_iast ZC 28 rfl dX8_drinks_52 (by omega) ?_
      refine z_aload_n ZC 0 dX8_drinks_53 rfl rfl ?_
      refine z_get ZC inUX8 0 rfl rfl 31 (by decide) uF_X8_90 rfl dX8_drinks_54 ?_
      refine z_iload_n ZC 1 dX8_drinks_57 rfl rfl ?_
      refine z_iconst ZC dX8_drinks_58 ?_
      refine z_iast ZC 26 rfl dX8_drinks_59 (by omega) ?_
      refine z_ws (ws2 := [(h, .inr (8, [vZ (M.2 0), .ref (a 1), .ref (a 2), vZ (M.2 3), vZ (M.2 4), .ref (a 5), .ref (a 6), .ref (a 7), .ref (a 8), .ref (a 9), .ref (a 10), .ref (a 11), vZ (M.2 12), .ref (a 13), .ref (a 14), .ref (a 15), .ref (a 16), .ref (a 17), .ref (a 18), .ref (a 19), vZ (M.2 20), vZ (M.2 21), .ref (a 22), .ref (a 23), .ref (a 24), .ref (a 25), .ref (a 26), .ref (a 27), .ref (a 28), .ref (a 29), .ref (a 30), .ref (a 31), .ref (a 32), .ref (a 33), vZ (M.2 34), .ref (a 35), vZ (M.2 36), vZ (M.2 37), vZ (M.2 38), .ref (a 39), .ref (a 40), vZ (M.2 41), vZ (M.2 42), vZ (M.2 43)])), ((a 1), .inl (K.1, 10, .inl (ar (M.1 1)))), ((a 2), .inl (K.1, 10, .inl (ar (M.1 2)))), ((a 5), .inl (K.1, 16, .inl (ar (M.1 5)))), ((a 6), .inl (K.1, 16, .inl (ar (M.1 6)))), ((a 7), .inl (K.1, 16, .inl (ar (M.1 7)))), ((a 8), .inl (K.1, 16, .inl (ar (M.1 8)))), ((a 9), .inl (K.1, 16, .inl (ar (M.1 9)))), ((a 10), .inl (K.1, 16, .inl (ar (M.1 10)))), ((a 11), .inl (K.1, 100, .inl (ar (M.1 11)))), ((a 13), .inl (K.1, 8, .inl (ar (M.1 13)))), ((a 14), .inl (K.1, 8, .inl (ar (M.1 14)))), ((a 15), .inl (K.1, 8, .inl (ar (M.1 15)))), ((a 16), .inl (K.1, 8, .inl (ar (M.1 16)))), ((a 17), .inl (K.1, 3200, .inl (ar (M.1 17)))), ((a 18), .inl (K.1, 3200, .inl (ar (M.1 18)))), ((a 19), .inl (K.2.1, 3200, .inl (ar (M.1 19)))), ((a 22), .inl (K.1, 3400, .inl (ar (M.1 22)))), ((a 23), .inl (K.1, 3400, .inl (ar (M.1 23)))), ((a 24), .inl (K.1, 3400, .inl (ar (M.1 24)))), ((a 25), .inl (K.1, 3400, .inl (ar (M.1 25)))), ((a 26), .inl (K.1, 32, .inl (ar (M.1 26)))), ((a 27), .inl (K.1, 32, .inl (ar (M.1 27)))), ((a 28), .inl (K.2.1, 8, .inl (ar (M.1 28)))), ((a 29), .inl (K.1, 8, .inl (ar (M.1 29)))), ((a 30), .inl (K.1, 8, .inl (ar (M.1 30)))), ((a 31), .inl (K.1, 10, .inl (ar (upz (M.1 31) t 0)))), ((a 32), .inl (K.1, 10, .inl (ar (upz (M.1 32) t (((M.1 32) t) + ((aAt Ne Cr A t) - ((M.1 31) t))))))), ((a 33), .inl (K.1, 10, .inl (ar (upz (M.1 33) t (M.2 20))))), ((a 35), .inl (K.1, 13711, .inl (ar (M.1 35)))), ((a 39), .inl (K.1, 4, .inl (ar (M.1 39)))), ((a 40), .inl (K.1, 4, .inl (ar (M.1 40))))]) rfl ?_
      refine z_goto ZC 73 dX8_drinks_60 (by decide) ?_
      refine z_vret ZC ZE dX8_drinks_73 (by omega) (by omega) (Nat.le_of_ble_eq_true rfl) ⟨(upz (M.1 31) t 0), (upz (M.1 32) t (((M.1 32) t) + ((aAt Ne Cr A t) - ((M.1 31) t)))), (upz (M.1 33) t (M.2 20)), rfl, rfl, by omega, by omega, ?_⟩
      · skip
        intro x
        by_cases e : x = t
        · rw [e]
          (repeat rw [upz_self])
          refine ⟨by rw [if_pos rfl]; omega, by rw [if_pos rfl]; omega, ?_⟩
          first | rw [if_pos ⟨rfl, by omega, by omega⟩] | rw [if_neg (fun q => by omega)]
        · (repeat rw [upz_ne _ _ e])
          exact ⟨(if_neg e).symm, (if_neg e).symm, (if_neg (fun q => e q.1)).symm⟩

set_option maxHeartbeats 4000000 in
set_option maxRecDepth 100000 in
theorem c_X8_setsOut (zl : Launch) (D : va_G) (K : tyK) (h : Nat) (a : Nat → Nat) (M : Bd) (Ne : Bd) (Cr : Bd) (A : Ab) (C : Int → List Pt3) (r : Int) (hcf : Cfg Ne Cr) (hnw : NW Ne) (hmn : MSn Ne M) (hmc : MSc Cr M) (hmd : MD Cr A M C []) (hr : 0 ≤ r ∧ r < Ne.2 8) (hql : ((A.2.2.1 r).length : Int) ≤ 1000000) (hus : M.2 21 < 3400) (hnow : M.2 20 = A.2.1 0) (hsh : ¬ (Ne.1 4 r ≤ A.2.1 0 ∧ A.2.1 0 < Ne.1 5 r)) : Mz zl yX8_setsOut cX8_setsOut 4 (some .int) 1 22 0 0 D K [.ref h, vZ r] (wMo K h a M) (fun r_ w2_ gc gs => ∃ (M2 : Bd), ∃ (C2 : Int → List Pt3), ∃ (v : Int), r_ = some (vZ v) ∧ w2_ = (wMo K h a M2) ∧ gc = 0 ∧ gs = 0 ∧ (MD Cr (aOut1 Ne A r) M2 C2 []) ∧ (v = (aK Ne A r : Int)) ∧ (KP [22, 23, 24, 25, 26, 27] [21] M M2) ∧ (M2.2 21 ≤ M.2 21 + 1)) := by
  refine Mz.ofZ (by decide) rfl (Nat.le_of_ble_eq_true rfl) ?_
  intro zp ze zR zs zm zargs zbelow zmeth zc zA zQ ZC ZE hRf hRc hRs hRl
  have hr8 := hcf.1
  have hmnn := hmn.2.1 r hr.1 hr.2
  have hrr := hcf.2.2.1 r hr.1 hr.2
  refine z_aload_n ZC 0 dX8_setsOut_0 rfl rfl ?_
  refine z_get ZC inUX8 0 rfl rfl 7 (by decide) uF_X8_26 rfl dX8_setsOut_1 ?_
  refine z_iload_n ZC 1 dX8_setsOut_4 rfl rfl ?_
  refine z_iald ZC 5 rfl dX8_setsOut_5 (by omega) ?_
  refine z_istore_n ZC 2 dX8_setsOut_6 rfl (by decide) ?_
  have lp_7 : ∀ (n_7 : Nat) (left : Int) (M1 : Bd) (C1 : Int → List Pt3) (k : Nat), (MD Cr (aOk Ne A r k) M1 C1 []) → (0 ≤ left ∧ (k : Int) + left = Ne.1 2 r) → (KP [22, 23, 24, 25, 26, 27] [21] M M1) → (M1.2 21 ≤ M.2 21 + 1 ∧ (0 < left → M1.2 21 = M.2 21)) → (k ≤ (A.2.2.1 r).length) → (left.toNat) < n_7 → Zw zp zl ze zR zs zm zargs zbelow zmeth zc D zA 4 zQ 0 0 ([(h, .inr (8, [vZ (M1.2 0), .ref (a 1), .ref (a 2), vZ (M1.2 3), vZ (M1.2 4), .ref (a 5), .ref (a 6), .ref (a 7), .ref (a 8), .ref (a 9), .ref (a 10), .ref (a 11), vZ (M1.2 12), .ref (a 13), .ref (a 14), .ref (a 15), .ref (a 16), .ref (a 17), .ref (a 18), .ref (a 19), vZ (M1.2 20), vZ (M1.2 21), .ref (a 22), .ref (a 23), .ref (a 24), .ref (a 25), .ref (a 26), .ref (a 27), .ref (a 28), .ref (a 29), .ref (a 30), .ref (a 31), .ref (a 32), .ref (a 33), vZ (M1.2 34), .ref (a 35), vZ (M1.2 36), vZ (M1.2 37), vZ (M1.2 38), .ref (a 39), .ref (a 40), vZ (M1.2 41), vZ (M1.2 42), vZ (M1.2 43)])), ((a 1), .inl (K.1, 10, .inl (ar (M1.1 1)))), ((a 2), .inl (K.1, 10, .inl (ar (M1.1 2)))), ((a 5), .inl (K.1, 16, .inl (ar (M1.1 5)))), ((a 6), .inl (K.1, 16, .inl (ar (M1.1 6)))), ((a 7), .inl (K.1, 16, .inl (ar (M1.1 7)))), ((a 8), .inl (K.1, 16, .inl (ar (M1.1 8)))), ((a 9), .inl (K.1, 16, .inl (ar (M1.1 9)))), ((a 10), .inl (K.1, 16, .inl (ar (M1.1 10)))), ((a 11), .inl (K.1, 100, .inl (ar (M1.1 11)))), ((a 13), .inl (K.1, 8, .inl (ar (M1.1 13)))), ((a 14), .inl (K.1, 8, .inl (ar (M1.1 14)))), ((a 15), .inl (K.1, 8, .inl (ar (M1.1 15)))), ((a 16), .inl (K.1, 8, .inl (ar (M1.1 16)))), ((a 17), .inl (K.1, 3200, .inl (ar (M1.1 17)))), ((a 18), .inl (K.1, 3200, .inl (ar (M1.1 18)))), ((a 19), .inl (K.2.1, 3200, .inl (ar (M1.1 19)))), ((a 22), .inl (K.1, 3400, .inl (ar (M1.1 22)))), ((a 23), .inl (K.1, 3400, .inl (ar (M1.1 23)))), ((a 24), .inl (K.1, 3400, .inl (ar (M1.1 24)))), ((a 25), .inl (K.1, 3400, .inl (ar (M1.1 25)))), ((a 26), .inl (K.1, 32, .inl (ar (M1.1 26)))), ((a 27), .inl (K.1, 32, .inl (ar (M1.1 27)))), ((a 28), .inl (K.2.1, 8, .inl (ar (M1.1 28)))), ((a 29), .inl (K.1, 8, .inl (ar (M1.1 29)))), ((a 30), .inl (K.1, 8, .inl (ar (M1.1 30)))), ((a 31), .inl (K.1, 10, .inl (ar (M1.1 31)))), ((a 32), .inl (K.1, 10, .inl (ar (M1.1 32)))), ((a 33), .inl (K.1, 10, .inl (ar (M1.1 33)))), ((a 35), .inl (K.1, 13711, .inl (ar (M1.1 35)))), ((a 39), .inl (K.1, 4, .inl (ar (M1.1 39)))), ((a 40), .inl (K.1, 4, .inl (ar (M1.1 40))))]) 7 [(0, .ref h), (1, vZ r), (2, vZ left)] [] := by
    intro n_7
    induction n_7 with
    | zero => intro left M1 C1 k j1 j2 j3 j4 j5 hm_7; exact absurd hm_7 (Nat.not_lt_zero _)
    | succ n_7 ih_7 =>
      intro left M1 C1 k j1 j2 j3 j4 j5 hm_7
      have hfi := mo_first j1.1 (k := r) (by omega)
      have hta := mo_ta j1.1 (k := 16 + r) (by omega)
      have hus1 := mo_us j1.1
      have e8 : M1.1 8 r = Ne.1 3 r := by rw [j3.1 8 rfl]; exact hmnn.2.2.2
      have e7 : M1.1 7 r = Ne.1 2 r := by rw [j3.1 7 rfl]; exact hmnn.2.2.1
      have e20 : M1.2 20 = A.2.1 0 := by rw [j3.2 20 rfl]; exact hnow
      have hfi0 : -1 ≤ M1.1 26 r ∧ M1.1 26 r < 3401 := by
        rcases hfi with z | ⟨l, z⟩ <;> omega
      refine z_iload_n ZC 2 dX8_setsOut_7 rfl rfl ?_
      refine z_if_le ZC 107 dX8_setsOut_8 (by decide) (by omega) (fun c_8 => ?_) (fun c_8 => ?_)
      · skip
        refine z_aload_n ZC 0 dX8_setsOut_107 rfl rfl ?_
        refine z_get ZC inUX8 0 rfl rfl 7 (by decide) uF_X8_26 rfl dX8_setsOut_108 ?_
        refine z_iload_n ZC 1 dX8_setsOut_111 rfl rfl ?_
        refine z_iald ZC 5 rfl dX8_setsOut_112 (by omega) ?_
        refine z_iload_n ZC 2 dX8_setsOut_113 rfl rfl ?_
        refine z_isub ZC dX8_setsOut_114 ?_
        refine z_iret ZC ZE dX8_setsOut_115 (by omega) (by omega) (Nat.le_of_ble_eq_true rfl) ⟨M1, C1, (((M1.1 7) r) - left), rfl, rfl, by omega, by omega, ?_, ?_, ?_, ?_⟩
        · skip
          refine md_out j1 (aK_of hsh (by omega) ?_ j5)
          left; omega
        · skip
          rw [aK_of (k := k) hsh (by omega) (by left; omega) j5]
          omega
        · skip
          exact j3
        · skip
          omega
      · skip
        refine z_aload_n ZC 0 dX8_setsOut_11 rfl rfl ?_
        refine z_get ZC inUX8 0 rfl rfl 26 (by decide) uF_X8_75 rfl dX8_setsOut_12 ?_
        refine z_iload_n ZC 1 dX8_setsOut_15 rfl rfl ?_
        refine z_iald ZC 21 rfl dX8_setsOut_16 (by omega) ?_
        refine z_iconst ZC dX8_setsOut_17 ?_
        refine z_icmp_eq ZC 107 dX8_setsOut_18 (by decide) (by omega) (by omega) (fun c_18 => ?_) (fun c_18 => ?_)
        · skip
          refine z_aload_n ZC 0 dX8_setsOut_107 rfl rfl ?_
          refine z_get ZC inUX8 0 rfl rfl 7 (by decide) uF_X8_26 rfl dX8_setsOut_108 ?_
          refine z_iload_n ZC 1 dX8_setsOut_111 rfl rfl ?_
          refine z_iald ZC 5 rfl dX8_setsOut_112 (by omega) ?_
          refine z_iload_n ZC 2 dX8_setsOut_113 rfl rfl ?_
          refine z_isub ZC dX8_setsOut_114 ?_
          have hemp : C1 r = [] := by
            rcases hfi with z | ⟨l, z⟩
            · exact z.1
            · omega
          have hdr : (A.2.2.1 r).drop k = [] := by
            have e : (aOk Ne A r k).2.2.1 r = (A.2.2.1 r).drop k := upL_self _ _ _
            rw [← e, ← (j1.2.1 r hr.1 (by omega)).1, hemp]; rfl
          refine z_iret ZC ZE dX8_setsOut_115 (by omega) (by omega) (Nat.le_of_ble_eq_true rfl) ⟨M1, C1, (((M1.1 7) r) - left), rfl, rfl, by omega, by omega, ?_, ?_, ?_, ?_⟩
          · skip
            exact md_out j1 (aK_of hsh (by omega) (Or.inr hdr) j5)
          · skip
            rw [aK_of (k := k) hsh (by omega) (Or.inr hdr) j5]
            omega
          · skip
            exact j3
          · skip
            omega
        · skip
          obtain ⟨l, hq, g1, g2, g3⟩ : ∃ l : List Pt3, C1 r = (M1.1 22 (M1.1 26 r), M1.1 23 (M1.1 26 r), M1.1 24 (M1.1 26 r)) :: l ∧ 0 ≤ M1.1 26 r ∧ M1.1 26 r < M1.2 21 ∧ 1 ≤ M1.1 23 (M1.1 26 r) := by
            rcases hfi with z | z
            · exact absurd z.2 c_18
            · exact z
          have hdr : (A.2.2.1 r).drop k = fq (C1 r) := by
            have e : (aOk Ne A r k).2.2.1 r = (A.2.2.1 r).drop k := upL_self _ _ _
            rw [← e]; exact ((j1.2.1 r hr.1 (by omega)).1).symm
          have hdl : ((A.2.2.1 r).drop k).length = (M1.1 23 (M1.1 26 r)).toNat + (fq l).length := by
            rw [hdr, hq]
            show (List.replicate _ _ ++ fq l).length = _
            rw [List.length_append, List.length_replicate]
          rw [List.length_drop] at hdl
          refine z_aload_n ZC 0 dX8_setsOut_21 rfl rfl ?_
          refine z_get ZC inUX8 0 rfl rfl 26 (by decide) uF_X8_75 rfl dX8_setsOut_22 ?_
          refine z_iload_n ZC 1 dX8_setsOut_25 rfl rfl ?_
          refine z_iald ZC 21 rfl dX8_setsOut_26 (by omega) ?_
          refine z_istore_n ZC 3 dX8_setsOut_27 rfl (by decide) ?_
          refine z_aload_n ZC 0 dX8_setsOut_28 rfl rfl ?_
          refine z_get ZC inUX8 0 rfl rfl 23 (by decide) uF_X8_66 rfl dX8_setsOut_29 ?_
          refine z_iload_n ZC 3 dX8_setsOut_32 rfl rfl ?_
          refine z_iald ZC 18 rfl dX8_setsOut_33 (by omega) ?_
          refine z_iload_n ZC 2 dX8_setsOut_34 rfl rfl ?_
          refine z_icmp_le ZC 63 dX8_setsOut_35 (by decide) (by omega) (by omega) (fun c_35 => ?_) (fun c_35 => ?_)
          · skip
            refine z_aload_n ZC 0 dX8_setsOut_63 rfl rfl ?_
            refine z_iload_n ZC 1 dX8_setsOut_64 rfl rfl ?_
            refine z_callV ZC 1 (c_X8_takes zl D K h a M1 r (by omega) (by omega)) (gdV uM_X8_161 uI_X8_takes uS_X8_takes uN_X8 uC_X8_takes) (by decide +kernel) rfl ⟨by omega, by omega⟩ ⟨by omega, by omega⟩ (Nat.le_of_ble_eq_true rfl) [0, 1, 2, 3, 4, 5, 6, 7, 8, 9, 10, 11, 12, 13, 14, 15, 16, 17, 18, 19, 20, 21, 22, 23, 24, 25, 26, 27, 28, 29, 30, 31] rfl (by decide) rfl rfl rfl rfl dX8_setsOut_65 (fun r w2 gc_65 gs_65 hp => ?_)
            obtain ⟨rfl, rfl, rfl, rfl⟩ := hp
            refine z_ws (ws2 := [(h, .inr (8, [vZ (M1.2 0), .ref (a 1), .ref (a 2), vZ (M1.2 3), vZ (M1.2 4), .ref (a 5), .ref (a 6), .ref (a 7), .ref (a 8), .ref (a 9), .ref (a 10), .ref (a 11), vZ (M1.2 12), .ref (a 13), .ref (a 14), .ref (a 15), .ref (a 16), .ref (a 17), .ref (a 18), .ref (a 19), vZ (M1.2 20), vZ (M1.2 21), .ref (a 22), .ref (a 23), .ref (a 24), .ref (a 25), .ref (a 26), .ref (a 27), .ref (a 28), .ref (a 29), .ref (a 30), .ref (a 31), .ref (a 32), .ref (a 33), vZ (M1.2 34), .ref (a 35), vZ (M1.2 36), vZ (M1.2 37), vZ (M1.2 38), .ref (a 39), .ref (a 40), vZ (M1.2 41), vZ (M1.2 42), vZ (M1.2 43)])), ((a 1), .inl (K.1, 10, .inl (ar (M1.1 1)))), ((a 2), .inl (K.1, 10, .inl (ar (M1.1 2)))), ((a 5), .inl (K.1, 16, .inl (ar (M1.1 5)))), ((a 6), .inl (K.1, 16, .inl (ar (M1.1 6)))), ((a 7), .inl (K.1, 16, .inl (ar (M1.1 7)))), ((a 8), .inl (K.1, 16, .inl (ar (M1.1 8)))), ((a 9), .inl (K.1, 16, .inl (ar (M1.1 9)))), ((a 10), .inl (K.1, 16, .inl (ar (M1.1 10)))), ((a 11), .inl (K.1, 100, .inl (ar (M1.1 11)))), ((a 13), .inl (K.1, 8, .inl (ar (M1.1 13)))), ((a 14), .inl (K.1, 8, .inl (ar (M1.1 14)))), ((a 15), .inl (K.1, 8, .inl (ar (M1.1 15)))), ((a 16), .inl (K.1, 8, .inl (ar (M1.1 16)))), ((a 17), .inl (K.1, 3200, .inl (ar (M1.1 17)))), ((a 18), .inl (K.1, 3200, .inl (ar (M1.1 18)))), ((a 19), .inl (K.2.1, 3200, .inl (ar (M1.1 19)))), ((a 22), .inl (K.1, 3400, .inl (ar (M1.1 22)))), ((a 23), .inl (K.1, 3400, .inl (ar (M1.1 23)))), ((a 24), .inl (K.1, 3400, .inl (ar (M1.1 24)))), ((a 25), .inl (K.1, 3400, .inl (ar (M1.1 25)))), ((a 26), .inl (K.1, 32, .inl (ar (upz (M1.1 26) r (M1.1 25 (M1.1 26 r)))))), ((a 27), .inl (K.1, 32, .inl (ar (M1.1 27)))), ((a 28), .inl (K.2.1, 8, .inl (ar (M1.1 28)))), ((a 29), .inl (K.1, 8, .inl (ar (M1.1 29)))), ((a 30), .inl (K.1, 8, .inl (ar (M1.1 30)))), ((a 31), .inl (K.1, 10, .inl (ar (M1.1 31)))), ((a 32), .inl (K.1, 10, .inl (ar (M1.1 32)))), ((a 33), .inl (K.1, 10, .inl (ar (M1.1 33)))), ((a 35), .inl (K.1, 13711, .inl (ar (M1.1 35)))), ((a 39), .inl (K.1, 4, .inl (ar (M1.1 39)))), ((a 40), .inl (K.1, 4, .inl (ar (M1.1 40))))]) rfl ?_
            refine z_st (st2 := [vZ (M1.1 26 r)]) rfl ?_
            refine z_pop ZC dX8_setsOut_68 rfl ?_
            refine z_iload_n ZC 2 dX8_setsOut_69 rfl rfl ?_
            refine z_aload_n ZC 0 dX8_setsOut_70 rfl rfl ?_
            refine z_get ZC inUX8 0 rfl rfl 23 (by decide) uF_X8_66 rfl dX8_setsOut_71 ?_
            refine z_iload_n ZC 3 dX8_setsOut_74 rfl rfl ?_
            refine z_iald ZC 18 rfl dX8_setsOut_75 (by omega) ?_
            refine z_isub ZC dX8_setsOut_76 ?_
            refine z_nm (fun left2 eleft2 => ?_)
            refine z_istore_n ZC 2 dX8_setsOut_77 rfl (by decide) ?_
            refine z_aload_n ZC 0 dX8_setsOut_78 rfl rfl ?_
            refine z_get ZC inUX8 0 rfl rfl 24 (by decide) uF_X8_69 rfl dX8_setsOut_79 ?_
            refine z_iload_n ZC 3 dX8_setsOut_82 rfl rfl ?_
            refine z_aload_n ZC 0 dX8_setsOut_83 rfl rfl ?_
            refine z_get ZC inUX8 0 rfl rfl 20 (by decide) uF_X8_129 rfl dX8_setsOut_84 ?_
            refine z_aload_n ZC 0 dX8_setsOut_87 rfl rfl ?_
            refine z_get ZC inUX8 0 rfl rfl 8 (by decide) uF_X8_29 rfl dX8_setsOut_88 ?_
            refine z_iload_n ZC 1 dX8_setsOut_91 rfl rfl ?_
            refine z_iald ZC 6 rfl dX8_setsOut_92 (by omega) ?_
            refine z_iadd ZC dX8_setsOut_93 ?_
            refine z_iast ZC 19 rfl dX8_setsOut_94 (by omega) ?_
            have hl2 : left2 = left - M1.1 23 (M1.1 26 r) := eleft2
            have hup : upz (M1.1 26) r (M1.1 25 (M1.1 26 r)) (16 + r) = M1.1 26 (16 + r) := upz_ne _ _ (by omega)
            refine z_aload_n ZC 0 dX8_setsOut_95 rfl rfl ?_
            refine z_bipush ZC dX8_setsOut_96 (by decide) ?_
            refine z_iload_n ZC 1 dX8_setsOut_98 rfl rfl ?_
            refine z_iadd ZC dX8_setsOut_99 ?_
            refine z_iload_n ZC 3 dX8_setsOut_100 rfl rfl ?_
            refine z_ws (ws2 := [(h, .inr (8, [vZ (M1.2 0), .ref (a 1), .ref (a 2), vZ (M1.2 3), vZ (M1.2 4), .ref (a 5), .ref (a 6), .ref (a 7), .ref (a 8), .ref (a 9), .ref (a 10), .ref (a 11), vZ (M1.2 12), .ref (a 13), .ref (a 14), .ref (a 15), .ref (a 16), .ref (a 17), .ref (a 18), .ref (a 19), vZ (M1.2 20), vZ (M1.2 21), .ref (a 22), .ref (a 23), .ref (a 24), .ref (a 25), .ref (a 26), .ref (a 27), .ref (a 28), .ref (a 29), .ref (a 30), .ref (a 31), .ref (a 32), .ref (a 33), vZ (M1.2 34), .ref (a 35), vZ (M1.2 36), vZ (M1.2 37), vZ (M1.2 38), .ref (a 39), .ref (a 40), vZ (M1.2 41), vZ (M1.2 42), vZ (M1.2 43)])), ((a 1), .inl (K.1, 10, .inl (ar (M1.1 1)))), ((a 2), .inl (K.1, 10, .inl (ar (M1.1 2)))), ((a 5), .inl (K.1, 16, .inl (ar (M1.1 5)))), ((a 6), .inl (K.1, 16, .inl (ar (M1.1 6)))), ((a 7), .inl (K.1, 16, .inl (ar (M1.1 7)))), ((a 8), .inl (K.1, 16, .inl (ar (M1.1 8)))), ((a 9), .inl (K.1, 16, .inl (ar (M1.1 9)))), ((a 10), .inl (K.1, 16, .inl (ar (M1.1 10)))), ((a 11), .inl (K.1, 100, .inl (ar (M1.1 11)))), ((a 13), .inl (K.1, 8, .inl (ar (M1.1 13)))), ((a 14), .inl (K.1, 8, .inl (ar (M1.1 14)))), ((a 15), .inl (K.1, 8, .inl (ar (M1.1 15)))), ((a 16), .inl (K.1, 8, .inl (ar (M1.1 16)))), ((a 17), .inl (K.1, 3200, .inl (ar (M1.1 17)))), ((a 18), .inl (K.1, 3200, .inl (ar (M1.1 18)))), ((a 19), .inl (K.2.1, 3200, .inl (ar (M1.1 19)))), ((a 22), .inl (K.1, 3400, .inl (ar (M1.1 22)))), ((a 23), .inl (K.1, 3400, .inl (ar (M1.1 23)))), ((a 24), .inl (K.1, 3400, .inl (ar (upz (M1.1 24) ((M1.1 26) r) ((M1.2 20) + ((M1.1 8) r)))))), ((a 25), .inl (K.1, 3400, .inl (ar (M1.1 25)))), ((a 26), .inl (K.1, 32, .inl (ar (upz (M1.1 26) r (M1.1 25 (M1.1 26 r)))))), ((a 27), .inl (K.1, 32, .inl (ar (M1.1 27)))), ((a 28), .inl (K.2.1, 8, .inl (ar (M1.1 28)))), ((a 29), .inl (K.1, 8, .inl (ar (M1.1 29)))), ((a 30), .inl (K.1, 8, .inl (ar (M1.1 30)))), ((a 31), .inl (K.1, 10, .inl (ar (M1.1 31)))), ((a 32), .inl (K.1, 10, .inl (ar (M1.1 32)))), ((a 33), .inl (K.1, 10, .inl (ar (M1.1 33)))), ((a 35), .inl (K.1, 13711, .inl (ar (M1.1 35)))), ((a 39), .inl (K.1, 4, .inl (ar (M1.1 39)))), ((a 40), .inl (K.1, 4, .inl (ar (M1.1 40))))]) rfl ?_
            have hy_hch_101_0 : 0 ≤ (16 + r) ∧ (16 + r) < 32 := by omega
            have hy_hlu_101_0 : 0 ≤ ((M1.1 26) r) ∧ ((M1.1 26) r) < 3400 := by omega
            have hy_hhe_101_0 : -1 ≤ (upz (M1.1 26) r (M1.1 25 (M1.1 26 r))) (16 + r) ∧ (upz (M1.1 26) r (M1.1 25 (M1.1 26 r))) (16 + r) ≤ 3400 := by show -1 ≤ upz (M1.1 26) r (M1.1 25 (M1.1 26 r)) (16 + r) ∧ upz (M1.1 26) r (M1.1 25 (M1.1 26 r)) (16 + r) ≤ 3400; rw [hup]; omega
            have hy_hta_101_0 : (upz (M1.1 26) r (M1.1 25 (M1.1 26 r))) (16 + r) ≠ -1 → 0 ≤ (M1.1 27) (16 + r) ∧ (M1.1 27) (16 + r) < 3400 := fun q => by
              have q2 : M1.1 26 (16 + r) ≠ -1 := by rw [← hup]; exact q
              exact ⟨(hta.2.2 q2).1, by have := (hta.2.2 q2).2; omega⟩
            refine z_callV ZC 2 (c_X8_adds zl D K h a ((upf (upf M1.1 24 (upz (M1.1 24) ((M1.1 26) r) ((M1.2 20) + ((M1.1 8) r)))) 26 (upz (M1.1 26) r (M1.1 25 (M1.1 26 r)))), M1.2) (16 + r) ((M1.1 26) r) (hy_hch_101_0) (hy_hlu_101_0) (hy_hhe_101_0) (hy_hta_101_0)) (gdV uM_X8_154 uI_X8_adds uS_X8_adds uN_X8 uC_X8_adds) (by decide +kernel) rfl ⟨by omega, by omega⟩ ⟨by omega, by omega⟩ (Nat.le_of_ble_eq_true rfl) [0, 1, 2, 3, 4, 5, 6, 7, 8, 9, 10, 11, 12, 13, 14, 15, 16, 17, 18, 19, 20, 21, 22, 23, 24, 25, 26, 27, 28, 29, 30, 31] rfl (by decide) rfl rfl rfl rfl dX8_setsOut_101 (fun r w2 gc_101 gs_101 hp => ?_)
            obtain ⟨nx2_101, he2_101, rfl, rfl, rfl, rfl, hh_101⟩ := hp
            have hh_101 : ((upz (M1.1 26) r (M1.1 25 (M1.1 26 r))) (16 + r) = -1 ∧ he2_101 = upz ((upz (M1.1 26) r (M1.1 25 (M1.1 26 r)))) (16 + r) ((M1.1 26) r) ∧ nx2_101 = upz ((M1.1 25)) ((M1.1 26) r) (-1)) ∨ ((upz (M1.1 26) r (M1.1 25 (M1.1 26 r))) (16 + r) ≠ -1 ∧ he2_101 = (upz (M1.1 26) r (M1.1 25 (M1.1 26 r))) ∧ nx2_101 = upz (upz ((M1.1 25)) ((M1.1 26) r) (-1)) ((M1.1 27) (16 + r)) ((M1.1 26) r)) := hh_101
            refine z_ws (ws2 := [(h, .inr (8, [vZ (M1.2 0), .ref (a 1), .ref (a 2), vZ (M1.2 3), vZ (M1.2 4), .ref (a 5), .ref (a 6), .ref (a 7), .ref (a 8), .ref (a 9), .ref (a 10), .ref (a 11), vZ (M1.2 12), .ref (a 13), .ref (a 14), .ref (a 15), .ref (a 16), .ref (a 17), .ref (a 18), .ref (a 19), vZ (M1.2 20), vZ (M1.2 21), .ref (a 22), .ref (a 23), .ref (a 24), .ref (a 25), .ref (a 26), .ref (a 27), .ref (a 28), .ref (a 29), .ref (a 30), .ref (a 31), .ref (a 32), .ref (a 33), vZ (M1.2 34), .ref (a 35), vZ (M1.2 36), vZ (M1.2 37), vZ (M1.2 38), .ref (a 39), .ref (a 40), vZ (M1.2 41), vZ (M1.2 42), vZ (M1.2 43)])), ((a 1), .inl (K.1, 10, .inl (ar (M1.1 1)))), ((a 2), .inl (K.1, 10, .inl (ar (M1.1 2)))), ((a 5), .inl (K.1, 16, .inl (ar (M1.1 5)))), ((a 6), .inl (K.1, 16, .inl (ar (M1.1 6)))), ((a 7), .inl (K.1, 16, .inl (ar (M1.1 7)))), ((a 8), .inl (K.1, 16, .inl (ar (M1.1 8)))), ((a 9), .inl (K.1, 16, .inl (ar (M1.1 9)))), ((a 10), .inl (K.1, 16, .inl (ar (M1.1 10)))), ((a 11), .inl (K.1, 100, .inl (ar (M1.1 11)))), ((a 13), .inl (K.1, 8, .inl (ar (M1.1 13)))), ((a 14), .inl (K.1, 8, .inl (ar (M1.1 14)))), ((a 15), .inl (K.1, 8, .inl (ar (M1.1 15)))), ((a 16), .inl (K.1, 8, .inl (ar (M1.1 16)))), ((a 17), .inl (K.1, 3200, .inl (ar (M1.1 17)))), ((a 18), .inl (K.1, 3200, .inl (ar (M1.1 18)))), ((a 19), .inl (K.2.1, 3200, .inl (ar (M1.1 19)))), ((a 22), .inl (K.1, 3400, .inl (ar (M1.1 22)))), ((a 23), .inl (K.1, 3400, .inl (ar (M1.1 23)))), ((a 24), .inl (K.1, 3400, .inl (ar (upz (M1.1 24) ((M1.1 26) r) ((M1.2 20) + ((M1.1 8) r)))))), ((a 25), .inl (K.1, 3400, .inl (ar nx2_101))), ((a 26), .inl (K.1, 32, .inl (ar he2_101))), ((a 27), .inl (K.1, 32, .inl (ar (upz ((M1.1 27)) (16 + r) ((M1.1 26) r))))), ((a 28), .inl (K.2.1, 8, .inl (ar (M1.1 28)))), ((a 29), .inl (K.1, 8, .inl (ar (M1.1 29)))), ((a 30), .inl (K.1, 8, .inl (ar (M1.1 30)))), ((a 31), .inl (K.1, 10, .inl (ar (M1.1 31)))), ((a 32), .inl (K.1, 10, .inl (ar (M1.1 32)))), ((a 33), .inl (K.1, 10, .inl (ar (M1.1 33)))), ((a 35), .inl (K.1, 13711, .inl (ar (M1.1 35)))), ((a 39), .inl (K.1, 4, .inl (ar (M1.1 39)))), ((a 40), .inl (K.1, 4, .inl (ar (M1.1 40))))]) rfl ?_
            refine z_st (st2 := []) rfl ?_
            refine z_goto ZC 7 dX8_setsOut_104 (by decide) ?_
            refine z_ws (ws2 := [(h, .inr (8, [vZ (M1.2 0), .ref (a 1), .ref (a 2), vZ (M1.2 3), vZ (M1.2 4), .ref (a 5), .ref (a 6), .ref (a 7), .ref (a 8), .ref (a 9), .ref (a 10), .ref (a 11), vZ (M1.2 12), .ref (a 13), .ref (a 14), .ref (a 15), .ref (a 16), .ref (a 17), .ref (a 18), .ref (a 19), vZ (M1.2 20), vZ (M1.2 21), .ref (a 22), .ref (a 23), .ref (a 24), .ref (a 25), .ref (a 26), .ref (a 27), .ref (a 28), .ref (a 29), .ref (a 30), .ref (a 31), .ref (a 32), .ref (a 33), vZ (M1.2 34), .ref (a 35), vZ (M1.2 36), vZ (M1.2 37), vZ (M1.2 38), .ref (a 39), .ref (a 40), vZ (M1.2 41), vZ (M1.2 42), vZ (M1.2 43)])), ((a 1), .inl (K.1, 10, .inl (ar (M1.1 1)))), ((a 2), .inl (K.1, 10, .inl (ar (M1.1 2)))), ((a 5), .inl (K.1, 16, .inl (ar (M1.1 5)))), ((a 6), .inl (K.1, 16, .inl (ar (M1.1 6)))), ((a 7), .inl (K.1, 16, .inl (ar (M1.1 7)))), ((a 8), .inl (K.1, 16, .inl (ar (M1.1 8)))), ((a 9), .inl (K.1, 16, .inl (ar (M1.1 9)))), ((a 10), .inl (K.1, 16, .inl (ar (M1.1 10)))), ((a 11), .inl (K.1, 100, .inl (ar (M1.1 11)))), ((a 13), .inl (K.1, 8, .inl (ar (M1.1 13)))), ((a 14), .inl (K.1, 8, .inl (ar (M1.1 14)))), ((a 15), .inl (K.1, 8, .inl (ar (M1.1 15)))), ((a 16), .inl (K.1, 8, .inl (ar (M1.1 16)))), ((a 17), .inl (K.1, 3200, .inl (ar (M1.1 17)))), ((a 18), .inl (K.1, 3200, .inl (ar (M1.1 18)))), ((a 19), .inl (K.2.1, 3200, .inl (ar (M1.1 19)))), ((a 22), .inl (K.1, 3400, .inl (ar (M1.1 22)))), ((a 23), .inl (K.1, 3400, .inl (ar (M1.1 23)))), ((a 24), .inl (K.1, 3400, .inl (ar (upz (M1.1 24) ((M1.1 26) r) ((M1.2 20) + ((M1.1 8) r)))))), ((a 25), .inl (K.1, 3400, .inl (ar nx2_101))), ((a 26), .inl (K.1, 32, .inl (ar he2_101))), ((a 27), .inl (K.1, 32, .inl (ar (upz ((M1.1 27)) (16 + r) ((M1.1 26) r))))), ((a 28), .inl (K.2.1, 8, .inl (ar (M1.1 28)))), ((a 29), .inl (K.1, 8, .inl (ar (M1.1 29)))), ((a 30), .inl (K.1, 8, .inl (ar (M1.1 30)))), ((a 31), .inl (K.1, 10, .inl (ar (M1.1 31)))), ((a 32), .inl (K.1, 10, .inl (ar (M1.1 32)))), ((a 33), .inl (K.1, 10, .inl (ar (M1.1 33)))), ((a 35), .inl (K.1, 13711, .inl (ar (M1.1 35)))), ((a 39), .inl (K.1, 4, .inl (ar (M1.1 39)))), ((a 40), .inl (K.1, 4, .inl (ar (M1.1 40))))]) rfl (z_lv (lv2 := [(0, .ref h), (1, vZ r), (2, vZ left2)]) ⟨rfl, rfl, rfl, trivial⟩ ?_)
            refine ih_7 left2 ((upf (upf (upf (upf M1.1 24 (upz (M1.1 24) ((M1.1 26) r) ((M1.2 20) + ((M1.1 8) r)))) 25 nx2_101) 26 he2_101) 27 (upz ((M1.1 27)) (16 + r) ((M1.1 26) r))), M1.2) (fun j => if j = r then l else if j = 16 + r then C1 (16 + r) ++ [(M1.1 22 (M1.1 26 r), M1.1 23 (M1.1 26 r), A.2.1 0 + Ne.1 3 r)] else C1 j) (k + (M1.1 23 (M1.1 26 r)).toNat) ?_ ?_ ?_ ?_ ?_ (by omega)
            · skip
              exact md_mov j1 ⟨hr.1, by omega⟩ hq (by omega) (by omega) hh_101
            · skip
              omega
            · skip
              exact KP.trans j3 (show KP [22, 23, 24, 25, 26, 27] [21] M1 _ from ⟨fun k hk => (upf_out hk rfl).trans ((upf_out hk rfl).trans ((upf_out hk rfl).trans (upf_out hk rfl))), fun k hk => rfl⟩) rfl rfl rfl rfl
            · skip
              show M1.2 21 ≤ M.2 21 + 1 ∧ (0 < left2 → M1.2 21 = M.2 21)
              omega
            · skip
              omega
          · skip
            refine z_aload_n ZC 0 dX8_setsOut_38 rfl rfl ?_
            refine z_get ZC inUX8 0 rfl rfl 23 (by decide) uF_X8_66 rfl dX8_setsOut_39 ?_
            refine z_iload_n ZC 3 dX8_setsOut_42 rfl rfl ?_
            refine z_dup2 ZC dX8_setsOut_43 rfl rfl ?_
            refine z_iald ZC 18 rfl dX8_setsOut_44 (by omega) ?_
            refine z_iload_n ZC 2 dX8_setsOut_45 rfl rfl ?_
            refine z_isub ZC dX8_setsOut_46 ?_
            refine z_iast ZC 18 rfl dX8_setsOut_47 (by omega) ?_
            refine z_aload_n ZC 0 dX8_setsOut_48 rfl rfl ?_
            refine z_aload_n ZC 0 dX8_setsOut_49 rfl rfl ?_
            refine z_get ZC inUX8 0 rfl rfl 22 (by decide) uF_X8_63 rfl dX8_setsOut_50 ?_
            refine z_iload_n ZC 3 dX8_setsOut_53 rfl rfl ?_
            refine z_iald ZC 17 rfl dX8_setsOut_54 (by omega) ?_
            refine z_iload_n ZC 2 dX8_setsOut_55 rfl rfl ?_
            refine z_ws (ws2 := [(h, .inr (8, [vZ (M1.2 0), .ref (a 1), .ref (a 2), vZ (M1.2 3), vZ (M1.2 4), .ref (a 5), .ref (a 6), .ref (a 7), .ref (a 8), .ref (a 9), .ref (a 10), .ref (a 11), vZ (M1.2 12), .ref (a 13), .ref (a 14), .ref (a 15), .ref (a 16), .ref (a 17), .ref (a 18), .ref (a 19), vZ (M1.2 20), vZ (M1.2 21), .ref (a 22), .ref (a 23), .ref (a 24), .ref (a 25), .ref (a 26), .ref (a 27), .ref (a 28), .ref (a 29), .ref (a 30), .ref (a 31), .ref (a 32), .ref (a 33), vZ (M1.2 34), .ref (a 35), vZ (M1.2 36), vZ (M1.2 37), vZ (M1.2 38), .ref (a 39), .ref (a 40), vZ (M1.2 41), vZ (M1.2 42), vZ (M1.2 43)])), ((a 1), .inl (K.1, 10, .inl (ar (M1.1 1)))), ((a 2), .inl (K.1, 10, .inl (ar (M1.1 2)))), ((a 5), .inl (K.1, 16, .inl (ar (M1.1 5)))), ((a 6), .inl (K.1, 16, .inl (ar (M1.1 6)))), ((a 7), .inl (K.1, 16, .inl (ar (M1.1 7)))), ((a 8), .inl (K.1, 16, .inl (ar (M1.1 8)))), ((a 9), .inl (K.1, 16, .inl (ar (M1.1 9)))), ((a 10), .inl (K.1, 16, .inl (ar (M1.1 10)))), ((a 11), .inl (K.1, 100, .inl (ar (M1.1 11)))), ((a 13), .inl (K.1, 8, .inl (ar (M1.1 13)))), ((a 14), .inl (K.1, 8, .inl (ar (M1.1 14)))), ((a 15), .inl (K.1, 8, .inl (ar (M1.1 15)))), ((a 16), .inl (K.1, 8, .inl (ar (M1.1 16)))), ((a 17), .inl (K.1, 3200, .inl (ar (M1.1 17)))), ((a 18), .inl (K.1, 3200, .inl (ar (M1.1 18)))), ((a 19), .inl (K.2.1, 3200, .inl (ar (M1.1 19)))), ((a 22), .inl (K.1, 3400, .inl (ar (M1.1 22)))), ((a 23), .inl (K.1, 3400, .inl (ar (upz (M1.1 23) ((M1.1 26) r) (((M1.1 23) ((M1.1 26) r)) - left))))), ((a 24), .inl (K.1, 3400, .inl (ar (M1.1 24)))), ((a 25), .inl (K.1, 3400, .inl (ar (M1.1 25)))), ((a 26), .inl (K.1, 32, .inl (ar (M1.1 26)))), ((a 27), .inl (K.1, 32, .inl (ar (M1.1 27)))), ((a 28), .inl (K.2.1, 8, .inl (ar (M1.1 28)))), ((a 29), .inl (K.1, 8, .inl (ar (M1.1 29)))), ((a 30), .inl (K.1, 8, .inl (ar (M1.1 30)))), ((a 31), .inl (K.1, 10, .inl (ar (M1.1 31)))), ((a 32), .inl (K.1, 10, .inl (ar (M1.1 32)))), ((a 33), .inl (K.1, 10, .inl (ar (M1.1 33)))), ((a 35), .inl (K.1, 13711, .inl (ar (M1.1 35)))), ((a 39), .inl (K.1, 4, .inl (ar (M1.1 39)))), ((a 40), .inl (K.1, 4, .inl (ar (M1.1 40))))]) rfl ?_
            have hy_hus_56_0 : 0 ≤ (M1.2 21) ∧ (M1.2 21) < 3400 := by show 0 ≤ M1.2 21 ∧ M1.2 21 < 3400; omega
            refine z_callV ZC 2 (c_X8_newLump zl D K h a ((upf M1.1 23 (upz (M1.1 23) ((M1.1 26) r) (((M1.1 23) ((M1.1 26) r)) - left))), M1.2) ((M1.1 22) ((M1.1 26) r)) left (hy_hus_56_0)) (gdV uM_X8_158 uI_X8_newLump uS_X8_newLump uN_X8 uC_X8_newLump) (by decide +kernel) rfl ⟨by omega, by omega⟩ ⟨by omega, by omega⟩ (Nat.le_of_ble_eq_true rfl) [0, 1, 2, 3, 4, 5, 6, 7, 8, 9, 10, 11, 12, 13, 14, 15, 16, 17, 18, 19, 20, 21, 22, 23, 24, 25, 26, 27, 28, 29, 30, 31] rfl (by decide) rfl rfl rfl rfl dX8_setsOut_56 (fun r w2 gc_56 gs_56 hp => ?_)
            obtain ⟨rfl, rfl, rfl, rfl⟩ := hp
            refine z_top (y := ((M1.2 21))) rfl ?_
            refine z_ws (ws2 := [(h, .inr (8, [vZ (M1.2 0), .ref (a 1), .ref (a 2), vZ (M1.2 3), vZ (M1.2 4), .ref (a 5), .ref (a 6), .ref (a 7), .ref (a 8), .ref (a 9), .ref (a 10), .ref (a 11), vZ (M1.2 12), .ref (a 13), .ref (a 14), .ref (a 15), .ref (a 16), .ref (a 17), .ref (a 18), .ref (a 19), vZ (M1.2 20), vZ ((M1.2 21) + 1), .ref (a 22), .ref (a 23), .ref (a 24), .ref (a 25), .ref (a 26), .ref (a 27), .ref (a 28), .ref (a 29), .ref (a 30), .ref (a 31), .ref (a 32), .ref (a 33), vZ (M1.2 34), .ref (a 35), vZ (M1.2 36), vZ (M1.2 37), vZ (M1.2 38), .ref (a 39), .ref (a 40), vZ (M1.2 41), vZ (M1.2 42), vZ (M1.2 43)])), ((a 1), .inl (K.1, 10, .inl (ar (M1.1 1)))), ((a 2), .inl (K.1, 10, .inl (ar (M1.1 2)))), ((a 5), .inl (K.1, 16, .inl (ar (M1.1 5)))), ((a 6), .inl (K.1, 16, .inl (ar (M1.1 6)))), ((a 7), .inl (K.1, 16, .inl (ar (M1.1 7)))), ((a 8), .inl (K.1, 16, .inl (ar (M1.1 8)))), ((a 9), .inl (K.1, 16, .inl (ar (M1.1 9)))), ((a 10), .inl (K.1, 16, .inl (ar (M1.1 10)))), ((a 11), .inl (K.1, 100, .inl (ar (M1.1 11)))), ((a 13), .inl (K.1, 8, .inl (ar (M1.1 13)))), ((a 14), .inl (K.1, 8, .inl (ar (M1.1 14)))), ((a 15), .inl (K.1, 8, .inl (ar (M1.1 15)))), ((a 16), .inl (K.1, 8, .inl (ar (M1.1 16)))), ((a 17), .inl (K.1, 3200, .inl (ar (M1.1 17)))), ((a 18), .inl (K.1, 3200, .inl (ar (M1.1 18)))), ((a 19), .inl (K.2.1, 3200, .inl (ar (M1.1 19)))), ((a 22), .inl (K.1, 3400, .inl (ar (upz ((M1.1 22)) ((M1.2 21)) ((M1.1 22) ((M1.1 26) r)))))), ((a 23), .inl (K.1, 3400, .inl (ar (upz ((upz (M1.1 23) ((M1.1 26) r) (((M1.1 23) ((M1.1 26) r)) - left))) ((M1.2 21)) left)))), ((a 24), .inl (K.1, 3400, .inl (ar (M1.1 24)))), ((a 25), .inl (K.1, 3400, .inl (ar (M1.1 25)))), ((a 26), .inl (K.1, 32, .inl (ar (M1.1 26)))), ((a 27), .inl (K.1, 32, .inl (ar (M1.1 27)))), ((a 28), .inl (K.2.1, 8, .inl (ar (M1.1 28)))), ((a 29), .inl (K.1, 8, .inl (ar (M1.1 29)))), ((a 30), .inl (K.1, 8, .inl (ar (M1.1 30)))), ((a 31), .inl (K.1, 10, .inl (ar (M1.1 31)))), ((a 32), .inl (K.1, 10, .inl (ar (M1.1 32)))), ((a 33), .inl (K.1, 10, .inl (ar (M1.1 33)))), ((a 35), .inl (K.1, 13711, .inl (ar (M1.1 35)))), ((a 39), .inl (K.1, 4, .inl (ar (M1.1 39)))), ((a 40), .inl (K.1, 4, .inl (ar (M1.1 40))))]) rfl ?_
            refine z_st (st2 := [vZ ((M1.2 21))]) rfl ?_
            refine z_istore_n ZC 3 dX8_setsOut_59 rfl (by decide) ?_
            refine z_goto ZC 69 dX8_setsOut_60 (by decide) ?_
            refine z_iload_n ZC 2 dX8_setsOut_69 rfl rfl ?_
            refine z_aload_n ZC 0 dX8_setsOut_70 rfl rfl ?_
            refine z_get ZC inUX8 0 rfl rfl 23 (by decide) uF_X8_66 rfl dX8_setsOut_71 ?_
            refine z_iload_n ZC 3 dX8_setsOut_74 rfl rfl ?_
            refine z_iald ZC 18 rfl dX8_setsOut_75 (by omega) ?_
            refine z_isub ZC dX8_setsOut_76 ?_
            refine z_nm (fun left2 eleft2 => ?_)
            refine z_istore_n ZC 2 dX8_setsOut_77 rfl (by decide) ?_
            refine z_aload_n ZC 0 dX8_setsOut_78 rfl rfl ?_
            refine z_get ZC inUX8 0 rfl rfl 24 (by decide) uF_X8_69 rfl dX8_setsOut_79 ?_
            refine z_iload_n ZC 3 dX8_setsOut_82 rfl rfl ?_
            refine z_aload_n ZC 0 dX8_setsOut_83 rfl rfl ?_
            refine z_get ZC inUX8 0 rfl rfl 20 (by decide) uF_X8_129 rfl dX8_setsOut_84 ?_
            refine z_aload_n ZC 0 dX8_setsOut_87 rfl rfl ?_
            refine z_get ZC inUX8 0 rfl rfl 8 (by decide) uF_X8_29 rfl dX8_setsOut_88 ?_
            refine z_iload_n ZC 1 dX8_setsOut_91 rfl rfl ?_
            refine z_iald ZC 6 rfl dX8_setsOut_92 (by omega) ?_
            refine z_iadd ZC dX8_setsOut_93 ?_
            refine z_iast ZC 19 rfl dX8_setsOut_94 (by omega) ?_
            have hl2 : left2 = 0 := by rw [eleft2, upz_self]; omega
            refine z_aload_n ZC 0 dX8_setsOut_95 rfl rfl ?_
            refine z_bipush ZC dX8_setsOut_96 (by decide) ?_
            refine z_iload_n ZC 1 dX8_setsOut_98 rfl rfl ?_
            refine z_iadd ZC dX8_setsOut_99 ?_
            refine z_iload_n ZC 3 dX8_setsOut_100 rfl rfl ?_
            refine z_ws (ws2 := [(h, .inr (8, [vZ (M1.2 0), .ref (a 1), .ref (a 2), vZ (M1.2 3), vZ (M1.2 4), .ref (a 5), .ref (a 6), .ref (a 7), .ref (a 8), .ref (a 9), .ref (a 10), .ref (a 11), vZ (M1.2 12), .ref (a 13), .ref (a 14), .ref (a 15), .ref (a 16), .ref (a 17), .ref (a 18), .ref (a 19), vZ (M1.2 20), vZ ((M1.2 21) + 1), .ref (a 22), .ref (a 23), .ref (a 24), .ref (a 25), .ref (a 26), .ref (a 27), .ref (a 28), .ref (a 29), .ref (a 30), .ref (a 31), .ref (a 32), .ref (a 33), vZ (M1.2 34), .ref (a 35), vZ (M1.2 36), vZ (M1.2 37), vZ (M1.2 38), .ref (a 39), .ref (a 40), vZ (M1.2 41), vZ (M1.2 42), vZ (M1.2 43)])), ((a 1), .inl (K.1, 10, .inl (ar (M1.1 1)))), ((a 2), .inl (K.1, 10, .inl (ar (M1.1 2)))), ((a 5), .inl (K.1, 16, .inl (ar (M1.1 5)))), ((a 6), .inl (K.1, 16, .inl (ar (M1.1 6)))), ((a 7), .inl (K.1, 16, .inl (ar (M1.1 7)))), ((a 8), .inl (K.1, 16, .inl (ar (M1.1 8)))), ((a 9), .inl (K.1, 16, .inl (ar (M1.1 9)))), ((a 10), .inl (K.1, 16, .inl (ar (M1.1 10)))), ((a 11), .inl (K.1, 100, .inl (ar (M1.1 11)))), ((a 13), .inl (K.1, 8, .inl (ar (M1.1 13)))), ((a 14), .inl (K.1, 8, .inl (ar (M1.1 14)))), ((a 15), .inl (K.1, 8, .inl (ar (M1.1 15)))), ((a 16), .inl (K.1, 8, .inl (ar (M1.1 16)))), ((a 17), .inl (K.1, 3200, .inl (ar (M1.1 17)))), ((a 18), .inl (K.1, 3200, .inl (ar (M1.1 18)))), ((a 19), .inl (K.2.1, 3200, .inl (ar (M1.1 19)))), ((a 22), .inl (K.1, 3400, .inl (ar (upz ((M1.1 22)) ((M1.2 21)) ((M1.1 22) ((M1.1 26) r)))))), ((a 23), .inl (K.1, 3400, .inl (ar (upz ((upz (M1.1 23) ((M1.1 26) r) (((M1.1 23) ((M1.1 26) r)) - left))) ((M1.2 21)) left)))), ((a 24), .inl (K.1, 3400, .inl (ar (upz (M1.1 24) ((M1.2 21)) ((M1.2 20) + ((M1.1 8) r)))))), ((a 25), .inl (K.1, 3400, .inl (ar (M1.1 25)))), ((a 26), .inl (K.1, 32, .inl (ar (M1.1 26)))), ((a 27), .inl (K.1, 32, .inl (ar (M1.1 27)))), ((a 28), .inl (K.2.1, 8, .inl (ar (M1.1 28)))), ((a 29), .inl (K.1, 8, .inl (ar (M1.1 29)))), ((a 30), .inl (K.1, 8, .inl (ar (M1.1 30)))), ((a 31), .inl (K.1, 10, .inl (ar (M1.1 31)))), ((a 32), .inl (K.1, 10, .inl (ar (M1.1 32)))), ((a 33), .inl (K.1, 10, .inl (ar (M1.1 33)))), ((a 35), .inl (K.1, 13711, .inl (ar (M1.1 35)))), ((a 39), .inl (K.1, 4, .inl (ar (M1.1 39)))), ((a 40), .inl (K.1, 4, .inl (ar (M1.1 40))))]) rfl ?_
            have hy_hch_101_1 : 0 ≤ (16 + r) ∧ (16 + r) < 32 := by omega
            have hy_hlu_101_1 : 0 ≤ ((M1.2 21)) ∧ ((M1.2 21)) < 3400 := by omega
            have hy_hhe_101_1 : -1 ≤ (M1.1 26) (16 + r) ∧ (M1.1 26) (16 + r) ≤ 3400 := by show -1 ≤ M1.1 26 (16 + r) ∧ M1.1 26 (16 + r) ≤ 3400; omega
            have hy_hta_101_1 : (M1.1 26) (16 + r) ≠ -1 → 0 ≤ (M1.1 27) (16 + r) ∧ (M1.1 27) (16 + r) < 3400 := fun q => ⟨(hta.2.2 q).1, by have := (hta.2.2 q).2; omega⟩
            refine z_callV ZC 2 (c_X8_adds zl D K h a ((upf (upf (upf M1.1 22 (upz ((M1.1 22)) ((M1.2 21)) ((M1.1 22) ((M1.1 26) r)))) 23 (upz ((upz (M1.1 23) ((M1.1 26) r) (((M1.1 23) ((M1.1 26) r)) - left))) ((M1.2 21)) left)) 24 (upz (M1.1 24) ((M1.2 21)) ((M1.2 20) + ((M1.1 8) r)))), (upf M1.2 21 ((M1.2 21) + 1))) (16 + r) ((M1.2 21)) (hy_hch_101_1) (hy_hlu_101_1) (hy_hhe_101_1) (hy_hta_101_1)) (gdV uM_X8_154 uI_X8_adds uS_X8_adds uN_X8 uC_X8_adds) (by decide +kernel) rfl ⟨by omega, by omega⟩ ⟨by omega, by omega⟩ (Nat.le_of_ble_eq_true rfl) [0, 1, 2, 3, 4, 5, 6, 7, 8, 9, 10, 11, 12, 13, 14, 15, 16, 17, 18, 19, 20, 21, 22, 23, 24, 25, 26, 27, 28, 29, 30, 31] rfl (by decide) rfl rfl rfl rfl dX8_setsOut_101 (fun r w2 gc_101_1 gs_101_1 hp => ?_)
            obtain ⟨nx2_101_1, he2_101_1, rfl, rfl, rfl, rfl, hh_101_1⟩ := hp
            have hh_101_1 : ((M1.1 26) (16 + r) = -1 ∧ he2_101_1 = upz ((M1.1 26)) (16 + r) ((M1.2 21)) ∧ nx2_101_1 = upz ((M1.1 25)) ((M1.2 21)) (-1)) ∨ ((M1.1 26) (16 + r) ≠ -1 ∧ he2_101_1 = (M1.1 26) ∧ nx2_101_1 = upz (upz ((M1.1 25)) ((M1.2 21)) (-1)) ((M1.1 27) (16 + r)) ((M1.2 21))) := hh_101_1
            refine z_ws (ws2 := [(h, .inr (8, [vZ (M1.2 0), .ref (a 1), .ref (a 2), vZ (M1.2 3), vZ (M1.2 4), .ref (a 5), .ref (a 6), .ref (a 7), .ref (a 8), .ref (a 9), .ref (a 10), .ref (a 11), vZ (M1.2 12), .ref (a 13), .ref (a 14), .ref (a 15), .ref (a 16), .ref (a 17), .ref (a 18), .ref (a 19), vZ (M1.2 20), vZ ((M1.2 21) + 1), .ref (a 22), .ref (a 23), .ref (a 24), .ref (a 25), .ref (a 26), .ref (a 27), .ref (a 28), .ref (a 29), .ref (a 30), .ref (a 31), .ref (a 32), .ref (a 33), vZ (M1.2 34), .ref (a 35), vZ (M1.2 36), vZ (M1.2 37), vZ (M1.2 38), .ref (a 39), .ref (a 40), vZ (M1.2 41), vZ (M1.2 42), vZ (M1.2 43)])), ((a 1), .inl (K.1, 10, .inl (ar (M1.1 1)))), ((a 2), .inl (K.1, 10, .inl (ar (M1.1 2)))), ((a 5), .inl (K.1, 16, .inl (ar (M1.1 5)))), ((a 6), .inl (K.1, 16, .inl (ar (M1.1 6)))), ((a 7), .inl (K.1, 16, .inl (ar (M1.1 7)))), ((a 8), .inl (K.1, 16, .inl (ar (M1.1 8)))), ((a 9), .inl (K.1, 16, .inl (ar (M1.1 9)))), ((a 10), .inl (K.1, 16, .inl (ar (M1.1 10)))), ((a 11), .inl (K.1, 100, .inl (ar (M1.1 11)))), ((a 13), .inl (K.1, 8, .inl (ar (M1.1 13)))), ((a 14), .inl (K.1, 8, .inl (ar (M1.1 14)))), ((a 15), .inl (K.1, 8, .inl (ar (M1.1 15)))), ((a 16), .inl (K.1, 8, .inl (ar (M1.1 16)))), ((a 17), .inl (K.1, 3200, .inl (ar (M1.1 17)))), ((a 18), .inl (K.1, 3200, .inl (ar (M1.1 18)))), ((a 19), .inl (K.2.1, 3200, .inl (ar (M1.1 19)))), ((a 22), .inl (K.1, 3400, .inl (ar (upz ((M1.1 22)) ((M1.2 21)) ((M1.1 22) ((M1.1 26) r)))))), ((a 23), .inl (K.1, 3400, .inl (ar (upz ((upz (M1.1 23) ((M1.1 26) r) (((M1.1 23) ((M1.1 26) r)) - left))) ((M1.2 21)) left)))), ((a 24), .inl (K.1, 3400, .inl (ar (upz (M1.1 24) ((M1.2 21)) ((M1.2 20) + ((M1.1 8) r)))))), ((a 25), .inl (K.1, 3400, .inl (ar nx2_101_1))), ((a 26), .inl (K.1, 32, .inl (ar he2_101_1))), ((a 27), .inl (K.1, 32, .inl (ar (upz ((M1.1 27)) (16 + r) ((M1.2 21)))))), ((a 28), .inl (K.2.1, 8, .inl (ar (M1.1 28)))), ((a 29), .inl (K.1, 8, .inl (ar (M1.1 29)))), ((a 30), .inl (K.1, 8, .inl (ar (M1.1 30)))), ((a 31), .inl (K.1, 10, .inl (ar (M1.1 31)))), ((a 32), .inl (K.1, 10, .inl (ar (M1.1 32)))), ((a 33), .inl (K.1, 10, .inl (ar (M1.1 33)))), ((a 35), .inl (K.1, 13711, .inl (ar (M1.1 35)))), ((a 39), .inl (K.1, 4, .inl (ar (M1.1 39)))), ((a 40), .inl (K.1, 4, .inl (ar (M1.1 40))))]) rfl ?_
            refine z_st (st2 := []) rfl ?_
            refine z_goto ZC 7 dX8_setsOut_104 (by decide) ?_
            refine z_ws (ws2 := [(h, .inr (8, [vZ (M1.2 0), .ref (a 1), .ref (a 2), vZ (M1.2 3), vZ (M1.2 4), .ref (a 5), .ref (a 6), .ref (a 7), .ref (a 8), .ref (a 9), .ref (a 10), .ref (a 11), vZ (M1.2 12), .ref (a 13), .ref (a 14), .ref (a 15), .ref (a 16), .ref (a 17), .ref (a 18), .ref (a 19), vZ (M1.2 20), vZ ((M1.2 21) + 1), .ref (a 22), .ref (a 23), .ref (a 24), .ref (a 25), .ref (a 26), .ref (a 27), .ref (a 28), .ref (a 29), .ref (a 30), .ref (a 31), .ref (a 32), .ref (a 33), vZ (M1.2 34), .ref (a 35), vZ (M1.2 36), vZ (M1.2 37), vZ (M1.2 38), .ref (a 39), .ref (a 40), vZ (M1.2 41), vZ (M1.2 42), vZ (M1.2 43)])), ((a 1), .inl (K.1, 10, .inl (ar (M1.1 1)))), ((a 2), .inl (K.1, 10, .inl (ar (M1.1 2)))), ((a 5), .inl (K.1, 16, .inl (ar (M1.1 5)))), ((a 6), .inl (K.1, 16, .inl (ar (M1.1 6)))), ((a 7), .inl (K.1, 16, .inl (ar (M1.1 7)))), ((a 8), .inl (K.1, 16, .inl (ar (M1.1 8)))), ((a 9), .inl (K.1, 16, .inl (ar (M1.1 9)))), ((a 10), .inl (K.1, 16, .inl (ar (M1.1 10)))), ((a 11), .inl (K.1, 100, .inl (ar (M1.1 11)))), ((a 13), .inl (K.1, 8, .inl (ar (M1.1 13)))), ((a 14), .inl (K.1, 8, .inl (ar (M1.1 14)))), ((a 15), .inl (K.1, 8, .inl (ar (M1.1 15)))), ((a 16), .inl (K.1, 8, .inl (ar (M1.1 16)))), ((a 17), .inl (K.1, 3200, .inl (ar (M1.1 17)))), ((a 18), .inl (K.1, 3200, .inl (ar (M1.1 18)))), ((a 19), .inl (K.2.1, 3200, .inl (ar (M1.1 19)))), ((a 22), .inl (K.1, 3400, .inl (ar (upz ((M1.1 22)) ((M1.2 21)) ((M1.1 22) ((M1.1 26) r)))))), ((a 23), .inl (K.1, 3400, .inl (ar (upz ((upz (M1.1 23) ((M1.1 26) r) (((M1.1 23) ((M1.1 26) r)) - left))) ((M1.2 21)) left)))), ((a 24), .inl (K.1, 3400, .inl (ar (upz (M1.1 24) ((M1.2 21)) ((M1.2 20) + ((M1.1 8) r)))))), ((a 25), .inl (K.1, 3400, .inl (ar nx2_101_1))), ((a 26), .inl (K.1, 32, .inl (ar he2_101_1))), ((a 27), .inl (K.1, 32, .inl (ar (upz ((M1.1 27)) (16 + r) ((M1.2 21)))))), ((a 28), .inl (K.2.1, 8, .inl (ar (M1.1 28)))), ((a 29), .inl (K.1, 8, .inl (ar (M1.1 29)))), ((a 30), .inl (K.1, 8, .inl (ar (M1.1 30)))), ((a 31), .inl (K.1, 10, .inl (ar (M1.1 31)))), ((a 32), .inl (K.1, 10, .inl (ar (M1.1 32)))), ((a 33), .inl (K.1, 10, .inl (ar (M1.1 33)))), ((a 35), .inl (K.1, 13711, .inl (ar (M1.1 35)))), ((a 39), .inl (K.1, 4, .inl (ar (M1.1 39)))), ((a 40), .inl (K.1, 4, .inl (ar (M1.1 40))))]) rfl (z_lv (lv2 := [(0, .ref h), (1, vZ r), (2, vZ left2)]) ⟨rfl, rfl, rfl, trivial⟩ ?_)
            refine ih_7 left2 ((upf (upf (upf (upf (upf (upf M1.1 22 (upz ((M1.1 22)) ((M1.2 21)) ((M1.1 22) ((M1.1 26) r)))) 23 (upz ((upz (M1.1 23) ((M1.1 26) r) (((M1.1 23) ((M1.1 26) r)) - left))) ((M1.2 21)) left)) 24 (upz (M1.1 24) ((M1.2 21)) ((M1.2 20) + ((M1.1 8) r)))) 25 nx2_101_1) 26 he2_101_1) 27 (upz ((M1.1 27)) (16 + r) ((M1.2 21)))), (upf M1.2 21 ((M1.2 21) + 1))) (fun j => if j = r then (M1.1 22 (M1.1 26 r), M1.1 23 (M1.1 26 r) - left, M1.1 24 (M1.1 26 r)) :: l else if j = 16 + r then C1 (16 + r) ++ [(M1.1 22 (M1.1 26 r), left, A.2.1 0 + Ne.1 3 r)] else C1 j) (k + left.toNat) ?_ ?_ ?_ ?_ ?_ (by omega)
            · skip
              exact md_cut j1 ⟨hr.1, by omega⟩ hq (by omega) (by omega) (by omega) hh_101_1
            · skip
              omega
            · skip
              exact KP.trans j3 (show KP [22, 23, 24, 25, 26, 27] [21] M1 _ from ⟨fun k hk => (upf_out hk rfl).trans ((upf_out hk rfl).trans ((upf_out hk rfl).trans ((upf_out hk rfl).trans ((upf_out hk rfl).trans (upf_out hk rfl))))), fun k hk => upf_out hk rfl⟩) rfl rfl rfl rfl
            · skip
              show M1.2 21 + 1 ≤ M.2 21 + 1 ∧ (0 < left2 → M1.2 21 + 1 = M.2 21)
              omega
            · skip
              omega
  refine z_ws (ws2 := [(h, .inr (8, [vZ (M.2 0), .ref (a 1), .ref (a 2), vZ (M.2 3), vZ (M.2 4), .ref (a 5), .ref (a 6), .ref (a 7), .ref (a 8), .ref (a 9), .ref (a 10), .ref (a 11), vZ (M.2 12), .ref (a 13), .ref (a 14), .ref (a 15), .ref (a 16), .ref (a 17), .ref (a 18), .ref (a 19), vZ (M.2 20), vZ (M.2 21), .ref (a 22), .ref (a 23), .ref (a 24), .ref (a 25), .ref (a 26), .ref (a 27), .ref (a 28), .ref (a 29), .ref (a 30), .ref (a 31), .ref (a 32), .ref (a 33), vZ (M.2 34), .ref (a 35), vZ (M.2 36), vZ (M.2 37), vZ (M.2 38), .ref (a 39), .ref (a 40), vZ (M.2 41), vZ (M.2 42), vZ (M.2 43)])), ((a 1), .inl (K.1, 10, .inl (ar (M.1 1)))), ((a 2), .inl (K.1, 10, .inl (ar (M.1 2)))), ((a 5), .inl (K.1, 16, .inl (ar (M.1 5)))), ((a 6), .inl (K.1, 16, .inl (ar (M.1 6)))), ((a 7), .inl (K.1, 16, .inl (ar (M.1 7)))), ((a 8), .inl (K.1, 16, .inl (ar (M.1 8)))), ((a 9), .inl (K.1, 16, .inl (ar (M.1 9)))), ((a 10), .inl (K.1, 16, .inl (ar (M.1 10)))), ((a 11), .inl (K.1, 100, .inl (ar (M.1 11)))), ((a 13), .inl (K.1, 8, .inl (ar (M.1 13)))), ((a 14), .inl (K.1, 8, .inl (ar (M.1 14)))), ((a 15), .inl (K.1, 8, .inl (ar (M.1 15)))), ((a 16), .inl (K.1, 8, .inl (ar (M.1 16)))), ((a 17), .inl (K.1, 3200, .inl (ar (M.1 17)))), ((a 18), .inl (K.1, 3200, .inl (ar (M.1 18)))), ((a 19), .inl (K.2.1, 3200, .inl (ar (M.1 19)))), ((a 22), .inl (K.1, 3400, .inl (ar (M.1 22)))), ((a 23), .inl (K.1, 3400, .inl (ar (M.1 23)))), ((a 24), .inl (K.1, 3400, .inl (ar (M.1 24)))), ((a 25), .inl (K.1, 3400, .inl (ar (M.1 25)))), ((a 26), .inl (K.1, 32, .inl (ar (M.1 26)))), ((a 27), .inl (K.1, 32, .inl (ar (M.1 27)))), ((a 28), .inl (K.2.1, 8, .inl (ar (M.1 28)))), ((a 29), .inl (K.1, 8, .inl (ar (M.1 29)))), ((a 30), .inl (K.1, 8, .inl (ar (M.1 30)))), ((a 31), .inl (K.1, 10, .inl (ar (M.1 31)))), ((a 32), .inl (K.1, 10, .inl (ar (M.1 32)))), ((a 33), .inl (K.1, 10, .inl (ar (M.1 33)))), ((a 35), .inl (K.1, 13711, .inl (ar (M.1 35)))), ((a 39), .inl (K.1, 4, .inl (ar (M.1 39)))), ((a 40), .inl (K.1, 4, .inl (ar (M.1 40))))]) rfl (z_lv (lv2 := [(0, .ref h), (1, vZ r), (2, vZ ((M.1 7) r))]) ⟨rfl, rfl, rfl, trivial⟩ ?_)
  refine lp_7 _ ((M.1 7) r) M C 0 ?_ ?_ ?_ ?_ ?_ (Nat.lt_succ_self _)
  · skip
    exact md_ok0 hmd
  · skip
    omega
  · skip
    exact KP.refl _ _ _
  · skip
    omega
  · skip
    omega

