/-! ===== the reference: what is foreseen; what it tells ===== -/
def AO (A : Ab) : Prop := ∀ c : Int, 0 ≤ c → c < 8 → 0 ≤ A.1 1 c ∧ A.1 1 c ≤ 1
theorem ao_let {Ne Cr : Bd} {A : Ab} (h : AO A) : ∀ n : Nat, AO (aLet Ne Cr A n)
  | 0 => h
  | n + 1 => by
    have ih := ao_let (Ne := Ne) (Cr := Cr) h n
    intro c a b
    show 0 ≤ (aLet1 Ne Cr (aLet Ne Cr A n) (n : Int)).1 1 c ∧ (aLet1 Ne Cr (aLet Ne Cr A n) (n : Int)).1 1 c ≤ 1
    unfold aLet1
    split
    · show 0 ≤ upz ((aLet Ne Cr A n).1 1) (n : Int) 1 c ∧ upz ((aLet Ne Cr A n).1 1) (n : Int) 1 c ≤ 1
      unfold upz
      split
      · omega
      · exact ih c a b
    · exact ih c a b
theorem ao_hour {To Ne Cr : Bd} {A : Ab} (h : AO A) : AO (aHour To Ne Cr A) := by
  have g := ao_let (Ne := Ne) (Cr := Cr) (A := aCome Ne Cr A (Ne.2 8).toNat) (by
    intro c a b
    rw [(aCome_keep Ne Cr A _).2.2.1]; exact h c a b) (Cr.2 3).toNat
  intro c a b
  show 0 ≤ (aDrive Ne Cr A).1 1 c ∧ (aDrive Ne Cr A).1 1 c ≤ 1
  unfold aDrive
  rw [(aOut_keep Ne _ _).1]
  exact g c a b
theorem ao_hrs {To Ne Cr : Bd} {A : Ab} (h : AO A) : ∀ n : Nat, AO (aHrs To Ne Cr A n)
  | 0 => h
  | n + 1 => ao_hour (ao_hrs h n)
theorem kp_1819 {M M2 : Bd} (h : KP [18, 19, 22, 23, 24, 25, 26, 27, 28, 29, 30, 31, 32, 33] [20, 21, 34] M M2) (h1 : M2.1 18 = M.1 18) (h2 : M2.1 19 = M.1 19) : KP [22, 23, 24, 25, 26, 27, 28, 29, 30, 31, 32, 33] [20, 21, 34] M M2 := by
  refine ⟨fun k hk => ?_, h.2⟩
  by_cases e : k = 18
  · rw [e]; exact h1
  · by_cases e2 : k = 19
    · rw [e2]; exact h2
    · refine h.1 k ?_
      simp only [List.contains_cons, Bool.or_eq_false_iff, List.contains_nil] at hk ⊢
      exact ⟨by simpa using e, by simpa using e2, hk⟩
theorem mx_back {Cr : Bd} {A : Ab} {M M2 : Bd} {C : Int → List Pt3} (h : MX Cr A M C) (hcr : Cr.2 3 ≤ 8) (h16 : M2.1 16 = M.1 16) (hz : M2.2 20 = M.2 20 ∧ M2.2 21 = M.2 21 ∧ M2.2 34 = M.2 34) (hA1 : ∀ j : Int, 0 ≤ j → j < M.2 21 → M2.1 22 j = M.1 22 j ∧ M2.1 23 j = M.1 23 j ∧ M2.1 24 j = M.1 24 j ∧ M2.1 25 j = M.1 25 j) (hA2 : ∀ j : Int, 0 ≤ j → j < 32 → M2.1 26 j = M.1 26 j ∧ M2.1 27 j = M.1 27 j) (hA3 : ∀ j : Int, 0 ≤ j → j < 8 → M2.1 28 j = M.1 28 j ∧ M2.1 29 j = M.1 29 j ∧ M2.1 30 j = M.1 30 j) (hA4 : ∀ j : Int, 0 ≤ j → j < 10 → M2.1 31 j = M.1 31 j ∧ M2.1 32 j = M.1 32 j) : MX Cr A M2 C := by
  obtain ⟨⟨g1, g2, g3, g4⟩, h2, h3, h4, h5, h6⟩ := h
  refine ⟨⟨mo_agree g1 hz.2.1 hA1 hA2, g2, fun c a b => ?_, fun c a b => ?_⟩, fun c a b => ?_, fun t a b => ?_, ?_, ?_, ?_⟩
  · rw [(hA3 c a b).1, (hA3 c a b).2.1]; exact g3 c a b
  · rw [(hA3 c a (by omega)).2.2]; exact g4 c a b
  · rw [h16]; exact h2 c a b
  · rw [(hA4 t a b).1, (hA4 t a b).2]; exact h3 t a b
  · rw [hz.1]; exact h4
  · rw [hz.2.2]; exact h5
  · rw [hz.2.1]; exact h6
theorem aMx_next {f : Int → Int} {c : Int} (h : 0 ≤ c) : aMx f (c + 1).toNat = max (aMx f c.toNat) (f c) := by
  rw [show (c + 1).toNat = c.toNat + 1 by omega]
  show max (aMx f c.toNat) (f ((c.toNat : Nat) : Int)) = _
  rw [show ((c.toNat : Nat) : Int) = c by omega]
theorem aMi_next {f : Int → Int} {c : Int} (h : 0 ≤ c) : aMi f (c + 1).toNat = min (aMi f c.toNat) (f c) := by
  rw [show (c + 1).toNat = c.toNat + 1 by omega]
  show min (aMi f c.toNat) (f ((c.toNat : Nat) : Int)) = _
  rw [show ((c.toNat : Nat) : Int) = c by omega]
theorem mx_off {Cr : Bd} {A : Ab} {M : Bd} {C : Int → List Pt3} (h : MX Cr A M C) (ho : AO A) : ∀ c : Int, 0 ≤ c → c < 8 → 0 ≤ M.1 28 c ∧ M.1 28 c ≤ 1 := fun c a b => by rw [(h.1.2.2.1 c a b).1]; exact ho c a b
theorem mx_us {Ne Cr : Bd} {A : Ab} {M : Bd} {C : Int → List Pt3} (h : MX Cr A M C) (hc : Cfg Ne Cr) (hab : AB Ne Cr A) : 0 ≤ M.2 21 ∧ M.2 21 ≤ 3208 := by
  have a := mo_us h.1.1
  have b := h.2.2.2.2.2
  have c := oc_rng hc hab.1
  have d := hab.2.1
  omega

set_option maxHeartbeats 4000000 in
set_option maxRecDepth 100000 in
theorem c_X8_foresees (zl : Launch) (D : va_G) (K : tyK) (h : Nat) (a : Nat → Nat) (M : Bd) (To : Bd) (Ne : Bd) (Cr : Bd) (A : Ab) (C : Int → List Pt3) (hcf : Cfg Ne Cr) (hnw : NW Ne) (hms : MS To Ne Cr M) (hto : 0 ≤ To.2 3 ∧ To.2 3 ≤ 10) (hab : AB Ne Cr A) (hmx : MX Cr A M C) (har : AR Cr A) (hao : AO A) : Mz zl yX8_foresees cX8_foresees 4 (none) 4 91 0 0 D K [.ref h] (wMo K h a M) (fun r_ w2_ gc gs => ∃ (M2 : Bd), r_ = none ∧ w2_ = (wMo K h a M2) ∧ gc = 0 ∧ gs = 0 ∧ (MX Cr A M2 C) ∧ (KP [22, 23, 24, 25, 26, 27, 28, 29, 30, 31, 32, 33, 35] [20, 21, 34, 36, 37, 38] M M2) ∧ (M2.2 37 = aFl Cr (aHrs To Ne Cr A (200 - A.2.1 0).toNat)) ∧ (M2.2 38 = (aHrs To Ne Cr A (200 - A.2.1 0).toNat).2.1 1 - A.2.1 1) ∧ (∀ t : Int, 0 ≤ t → t < To.2 3 → M2.1 33 t = aLk To Ne Cr A (200 - A.2.1 0).toNat t) ∧ (∀ t : Int, 0 ≤ t → t < 10 → -1 ≤ M2.1 33 t ∧ M2.1 33 t ≤ 1000)) := by
  refine Mz.ofZ (by decide) rfl (Nat.le_of_ble_eq_true rfl) ?_
  intro zp ze zR zs zm zargs zbelow zmeth zc zA zQ ZC ZE hRf hRc hRs hRl
  have hnn := hab.2.1
  have hus0 := mx_us hmx hcf hab
  have hof0 := mx_off hmx hao
  have e12 : M.2 12 = Cr.2 3 := hms.2.2.1
  have hc8 := hcf.2.1
  refine z_aload_n ZC 0 dX8_foresees_0 rfl rfl ?_
  refine z_iconst ZC dX8_foresees_1 ?_
  refine z_callV ZC 1 (c_X8_all0 zl D K h a M (by omega) (hof0)) (gdV uM_X8_197 uI_X8_all uS_X8_all uN_X8 uC_X8_all) (by decide +kernel) rfl ⟨by omega, by omega⟩ ⟨by omega, by omega⟩ (Nat.le_of_ble_eq_true rfl) [0, 1, 2, 3, 4, 5, 6, 7, 8, 9, 10, 11, 12, 13, 14, 15, 16, 17, 18, 19, 20, 21, 22, 23, 24, 25, 26, 27, 28, 29, 30, 31] rfl (by decide) rfl rfl rfl rfl dX8_foresees_2 (fun r w2 gc_2 gs_2 hp => ?_)
  obtain ⟨K2_2, s2_2, rfl, rfl, rfl, rfl, hks_2⟩ := hp
  refine z_ws (ws2 := [(h, .inr (8, [vZ (M.2 0), .ref (a 1), .ref (a 2), vZ (M.2 3), vZ (M.2 4), .ref (a 5), .ref (a 6), .ref (a 7), .ref (a 8), .ref (a 9), .ref (a 10), .ref (a 11), vZ (M.2 12), .ref (a 13), .ref (a 14), .ref (a 15), .ref (a 16), .ref (a 17), .ref (a 18), .ref (a 19), vZ (M.2 20), vZ (M.2 21), .ref (a 22), .ref (a 23), .ref (a 24), .ref (a 25), .ref (a 26), .ref (a 27), .ref (a 28), .ref (a 29), .ref (a 30), .ref (a 31), .ref (a 32), .ref (a 33), vZ (M.2 34), .ref (a 35), vZ s2_2, vZ (M.2 37), vZ (M.2 38), .ref (a 39), .ref (a 40), vZ (M.2 41), vZ (M.2 42), vZ (M.2 43)])), ((a 1), .inl (K.1, 10, .inl (ar (M.1 1)))), ((a 2), .inl (K.1, 10, .inl (ar (M.1 2)))), ((a 5), .inl (K.1, 16, .inl (ar (M.1 5)))), ((a 6), .inl (K.1, 16, .inl (ar (M.1 6)))), ((a 7), .inl (K.1, 16, .inl (ar (M.1 7)))), ((a 8), .inl (K.1, 16, .inl (ar (M.1 8)))), ((a 9), .inl (K.1, 16, .inl (ar (M.1 9)))), ((a 10), .inl (K.1, 16, .inl (ar (M.1 10)))), ((a 11), .inl (K.1, 100, .inl (ar (M.1 11)))), ((a 13), .inl (K.1, 8, .inl (ar (M.1 13)))), ((a 14), .inl (K.1, 8, .inl (ar (M.1 14)))), ((a 15), .inl (K.1, 8, .inl (ar (M.1 15)))), ((a 16), .inl (K.1, 8, .inl (ar (M.1 16)))), ((a 17), .inl (K.1, 3200, .inl (ar (M.1 17)))), ((a 18), .inl (K.1, 3200, .inl (ar (M.1 18)))), ((a 19), .inl (K.2.1, 3200, .inl (ar (M.1 19)))), ((a 22), .inl (K.1, 3400, .inl (ar (M.1 22)))), ((a 23), .inl (K.1, 3400, .inl (ar (M.1 23)))), ((a 24), .inl (K.1, 3400, .inl (ar (M.1 24)))), ((a 25), .inl (K.1, 3400, .inl (ar (M.1 25)))), ((a 26), .inl (K.1, 32, .inl (ar (M.1 26)))), ((a 27), .inl (K.1, 32, .inl (ar (M.1 27)))), ((a 28), .inl (K.2.1, 8, .inl (ar (M.1 28)))), ((a 29), .inl (K.1, 8, .inl (ar (M.1 29)))), ((a 30), .inl (K.1, 8, .inl (ar (M.1 30)))), ((a 31), .inl (K.1, 10, .inl (ar (M.1 31)))), ((a 32), .inl (K.1, 10, .inl (ar (M.1 32)))), ((a 33), .inl (K.1, 10, .inl (ar (M.1 33)))), ((a 35), .inl (K.1, 13711, .inl (ar K2_2))), ((a 39), .inl (K.1, 4, .inl (ar (M.1 39)))), ((a 40), .inl (K.1, 4, .inl (ar (M.1 40))))]) rfl ?_
  refine z_st (st2 := []) rfl ?_
  refine z_aload_n ZC 0 dX8_foresees_5 rfl rfl ?_
  refine z_get ZC inUX8 0 rfl rfl 34 (by decide) uF_X8_176 rfl dX8_foresees_6 ?_
  refine z_istore_n ZC 1 dX8_foresees_9 rfl (by decide) ?_
  refine z_iconst ZC dX8_foresees_10 ?_
  refine z_istore_n ZC 2 dX8_foresees_11 rfl (by decide) ?_
  have lp_12 : ∀ (n_12 : Nat) (t : Int) (Li : Int → Int), (0 ≤ t ∧ t ≤ 10) → (∀ j : Int, 0 ≤ j → j < t → Li j = -1) → ((10 - t).toNat) < n_12 → Zw zp zl ze zR zs zm zargs zbelow zmeth zc D zA 4 zQ (0 + 0) (0 + 0) ([(h, .inr (8, [vZ (M.2 0), .ref (a 1), .ref (a 2), vZ (M.2 3), vZ (M.2 4), .ref (a 5), .ref (a 6), .ref (a 7), .ref (a 8), .ref (a 9), .ref (a 10), .ref (a 11), vZ (M.2 12), .ref (a 13), .ref (a 14), .ref (a 15), .ref (a 16), .ref (a 17), .ref (a 18), .ref (a 19), vZ (M.2 20), vZ (M.2 21), .ref (a 22), .ref (a 23), .ref (a 24), .ref (a 25), .ref (a 26), .ref (a 27), .ref (a 28), .ref (a 29), .ref (a 30), .ref (a 31), .ref (a 32), .ref (a 33), vZ (M.2 34), .ref (a 35), vZ s2_2, vZ (M.2 37), vZ (M.2 38), .ref (a 39), .ref (a 40), vZ (M.2 41), vZ (M.2 42), vZ (M.2 43)])), ((a 1), .inl (K.1, 10, .inl (ar (M.1 1)))), ((a 2), .inl (K.1, 10, .inl (ar (M.1 2)))), ((a 5), .inl (K.1, 16, .inl (ar (M.1 5)))), ((a 6), .inl (K.1, 16, .inl (ar (M.1 6)))), ((a 7), .inl (K.1, 16, .inl (ar (M.1 7)))), ((a 8), .inl (K.1, 16, .inl (ar (M.1 8)))), ((a 9), .inl (K.1, 16, .inl (ar (M.1 9)))), ((a 10), .inl (K.1, 16, .inl (ar (M.1 10)))), ((a 11), .inl (K.1, 100, .inl (ar (M.1 11)))), ((a 13), .inl (K.1, 8, .inl (ar (M.1 13)))), ((a 14), .inl (K.1, 8, .inl (ar (M.1 14)))), ((a 15), .inl (K.1, 8, .inl (ar (M.1 15)))), ((a 16), .inl (K.1, 8, .inl (ar (M.1 16)))), ((a 17), .inl (K.1, 3200, .inl (ar (M.1 17)))), ((a 18), .inl (K.1, 3200, .inl (ar (M.1 18)))), ((a 19), .inl (K.2.1, 3200, .inl (ar (M.1 19)))), ((a 22), .inl (K.1, 3400, .inl (ar (M.1 22)))), ((a 23), .inl (K.1, 3400, .inl (ar (M.1 23)))), ((a 24), .inl (K.1, 3400, .inl (ar (M.1 24)))), ((a 25), .inl (K.1, 3400, .inl (ar (M.1 25)))), ((a 26), .inl (K.1, 32, .inl (ar (M.1 26)))), ((a 27), .inl (K.1, 32, .inl (ar (M.1 27)))), ((a 28), .inl (K.2.1, 8, .inl (ar (M.1 28)))), ((a 29), .inl (K.1, 8, .inl (ar (M.1 29)))), ((a 30), .inl (K.1, 8, .inl (ar (M.1 30)))), ((a 31), .inl (K.1, 10, .inl (ar (M.1 31)))), ((a 32), .inl (K.1, 10, .inl (ar (M.1 32)))), ((a 33), .inl (K.1, 10, .inl (ar Li))), ((a 35), .inl (K.1, 13711, .inl (ar K2_2))), ((a 39), .inl (K.1, 4, .inl (ar (M.1 39)))), ((a 40), .inl (K.1, 4, .inl (ar (M.1 40))))]) 12 [(0, .ref h), (1, vZ (M.2 34)), (2, vZ t)] [] := by
    intro n_12
    induction n_12 with
    | zero => intro t Li ht hL hm_12; exact absurd hm_12 (Nat.not_lt_zero _)
    | succ n_12 ih_12 =>
      intro t Li ht hL hm_12
      refine z_iload_n ZC 2 dX8_foresees_12 rfl rfl ?_
      refine z_bipush ZC dX8_foresees_13 (by decide) ?_
      refine z_icmp_ge ZC 31 dX8_foresees_15 (by decide) (by omega) (by omega) (fun c_15 => ?_) (fun c_15 => ?_)
      · skip
        have lp_31 : ∀ (n_31 : Nat) (M1 : Bd) (A1 : Ab) (C1 : Int → List Pt3), (MX Cr A1 M1 C1) → (AB Ne Cr A1) → (AR Cr A1) → (AO A1) → (A1 = aHrs To Ne Cr A (A1.2.1 0 - A.2.1 0).toNat) → (A.2.1 0 ≤ A1.2.1 0) → (KP [22, 23, 24, 25, 26, 27, 28, 29, 30, 31, 32, 33, 35] [20, 21, 34, 36] M M1) → (M1.1 35 = K2_2) → (∀ x : Int, 0 ≤ x → x < To.2 3 → M1.1 33 x = aLk To Ne Cr A (A1.2.1 0 - A.2.1 0).toNat x) → (∀ t : Int, 0 ≤ t → t < 10 → -1 ≤ M1.1 33 t ∧ M1.1 33 t ≤ 1000) → ((200 - A1.2.1 0).toNat) < n_31 → Zw zp zl ze zR zs zm zargs zbelow zmeth zc D zA 4 zQ (0 + 0) (0 + 0) ([(h, .inr (8, [vZ (M1.2 0), .ref (a 1), .ref (a 2), vZ (M1.2 3), vZ (M1.2 4), .ref (a 5), .ref (a 6), .ref (a 7), .ref (a 8), .ref (a 9), .ref (a 10), .ref (a 11), vZ (M1.2 12), .ref (a 13), .ref (a 14), .ref (a 15), .ref (a 16), .ref (a 17), .ref (a 18), .ref (a 19), vZ (M1.2 20), vZ (M1.2 21), .ref (a 22), .ref (a 23), .ref (a 24), .ref (a 25), .ref (a 26), .ref (a 27), .ref (a 28), .ref (a 29), .ref (a 30), .ref (a 31), .ref (a 32), .ref (a 33), vZ (M1.2 34), .ref (a 35), vZ (M1.2 36), vZ (M1.2 37), vZ (M1.2 38), .ref (a 39), .ref (a 40), vZ (M1.2 41), vZ (M1.2 42), vZ (M1.2 43)])), ((a 1), .inl (K.1, 10, .inl (ar (M1.1 1)))), ((a 2), .inl (K.1, 10, .inl (ar (M1.1 2)))), ((a 5), .inl (K.1, 16, .inl (ar (M1.1 5)))), ((a 6), .inl (K.1, 16, .inl (ar (M1.1 6)))), ((a 7), .inl (K.1, 16, .inl (ar (M1.1 7)))), ((a 8), .inl (K.1, 16, .inl (ar (M1.1 8)))), ((a 9), .inl (K.1, 16, .inl (ar (M1.1 9)))), ((a 10), .inl (K.1, 16, .inl (ar (M1.1 10)))), ((a 11), .inl (K.1, 100, .inl (ar (M1.1 11)))), ((a 13), .inl (K.1, 8, .inl (ar (M1.1 13)))), ((a 14), .inl (K.1, 8, .inl (ar (M1.1 14)))), ((a 15), .inl (K.1, 8, .inl (ar (M1.1 15)))), ((a 16), .inl (K.1, 8, .inl (ar (M1.1 16)))), ((a 17), .inl (K.1, 3200, .inl (ar (M1.1 17)))), ((a 18), .inl (K.1, 3200, .inl (ar (M1.1 18)))), ((a 19), .inl (K.2.1, 3200, .inl (ar (M1.1 19)))), ((a 22), .inl (K.1, 3400, .inl (ar (M1.1 22)))), ((a 23), .inl (K.1, 3400, .inl (ar (M1.1 23)))), ((a 24), .inl (K.1, 3400, .inl (ar (M1.1 24)))), ((a 25), .inl (K.1, 3400, .inl (ar (M1.1 25)))), ((a 26), .inl (K.1, 32, .inl (ar (M1.1 26)))), ((a 27), .inl (K.1, 32, .inl (ar (M1.1 27)))), ((a 28), .inl (K.2.1, 8, .inl (ar (M1.1 28)))), ((a 29), .inl (K.1, 8, .inl (ar (M1.1 29)))), ((a 30), .inl (K.1, 8, .inl (ar (M1.1 30)))), ((a 31), .inl (K.1, 10, .inl (ar (M1.1 31)))), ((a 32), .inl (K.1, 10, .inl (ar (M1.1 32)))), ((a 33), .inl (K.1, 10, .inl (ar (M1.1 33)))), ((a 35), .inl (K.1, 13711, .inl (ar (M1.1 35)))), ((a 39), .inl (K.1, 4, .inl (ar (M1.1 39)))), ((a 40), .inl (K.1, 4, .inl (ar (M1.1 40))))]) 31 [(0, .ref h), (1, vZ (M.2 34))] [] := by
          intro n_31
          induction n_31 with
          | zero => intro M1 A1 C1 i1 i2 i3 i4 i5 i8 i9 i10 i11 i12 hm_31; exact absurd hm_31 (Nat.not_lt_zero _)
          | succ n_31 ih_31 =>
            intro M1 A1 C1 i1 i2 i3 i4 i5 i8 i9 i10 i11 i12 hm_31
            have hnn1 := i2.2.1
            have e20 : M1.2 20 = A1.2.1 0 := i1.2.2.2.1
            have e12a : M1.2 12 = Cr.2 3 := (i9.2 12 rfl).trans e12
            refine z_aload_n ZC 0 dX8_foresees_31 rfl rfl ?_
            refine z_get ZC inUX8 0 rfl rfl 20 (by decide) uF_X8_129 rfl dX8_foresees_32 ?_
            refine z_sipush ZC dX8_foresees_35 (by decide) ?_
            refine z_icmp_ge ZC 49 dX8_foresees_38 (by decide) (by omega) (by omega) (fun c_38 => ?_) (fun c_38 => ?_)
            · skip
              have eN : A1.2.1 0 = 200 := by omega
              have eF : A1 = (aHrs To Ne Cr A (200 - A.2.1 0).toNat) := by
                have q := i5
                rw [eN] at q
                exact q
              refine z_aload_n ZC 0 dX8_foresees_49 rfl rfl ?_
              refine z_aload_n ZC 0 dX8_foresees_50 rfl rfl ?_
              refine z_get ZC inUX8 0 rfl rfl 34 (by decide) uF_X8_176 rfl dX8_foresees_51 ?_
              refine z_iload_n ZC 1 dX8_foresees_54 rfl rfl ?_
              refine z_isub ZC dX8_foresees_55 ?_
              refine z_put ZC inUX8 tyX8_ok nmX8 0 rfl rfl 38 (by decide) uF_X8_200 rfl (rfl) (rfl) (Nat.le_of_ble_eq_true rfl) dX8_foresees_56 ?_
              refine z_aload_n ZC 0 dX8_foresees_59 rfl rfl ?_
              refine z_iconst ZC dX8_foresees_60 ?_
              refine z_put ZC inUX8 tyX8_ok nmX8 0 rfl rfl 37 (by decide) uF_X8_203 rfl (rfl) (rfl) (Nat.le_of_ble_eq_true rfl) dX8_foresees_61 ?_
              refine z_aload_n ZC 0 dX8_foresees_64 rfl rfl ?_
              refine z_get ZC inUX8 0 rfl rfl 12 (by decide) uF_X8_121 rfl dX8_foresees_65 ?_
              refine z_if_le ZC 75 dX8_foresees_68 (by decide) (by omega) (fun c_68 => ?_) (fun c_68 => ?_)
              · skip
                refine z_iconst ZC dX8_foresees_75 ?_
                refine z_istore_n ZC 2 dX8_foresees_76 rfl (by decide) ?_
                refine z_iconst ZC dX8_foresees_77 ?_
                refine z_istore_n ZC 3 dX8_foresees_78 rfl (by decide) ?_
                have lp_79 : ∀ (n_79 : Nat) (some : Int) (c : Int) (fl : Int), (0 ≤ c ∧ c ≤ Cr.2 3) → (fl = aMx (A1.1 3) c.toNat) → ((some = 1 ∧ 0 < Cr.2 3 ∧ 0 ≤ aMi (A1.1 3) c.toNat) ∨ (some = 0 ∧ (Cr.2 3 = 0 ∨ aMi (A1.1 3) c.toNat < 0))) → (-1 ≤ fl ∧ fl ≤ 200) → ((Cr.2 3 - c).toNat) < n_79 → Zw zp zl ze zR zs zm zargs zbelow zmeth zc D zA 4 zQ (0 + 0) (0 + 0) ([(h, .inr (8, [vZ (M1.2 0), .ref (a 1), .ref (a 2), vZ (M1.2 3), vZ (M1.2 4), .ref (a 5), .ref (a 6), .ref (a 7), .ref (a 8), .ref (a 9), .ref (a 10), .ref (a 11), vZ (M1.2 12), .ref (a 13), .ref (a 14), .ref (a 15), .ref (a 16), .ref (a 17), .ref (a 18), .ref (a 19), vZ (M1.2 20), vZ (M1.2 21), .ref (a 22), .ref (a 23), .ref (a 24), .ref (a 25), .ref (a 26), .ref (a 27), .ref (a 28), .ref (a 29), .ref (a 30), .ref (a 31), .ref (a 32), .ref (a 33), vZ (M1.2 34), .ref (a 35), vZ (M1.2 36), vZ fl, vZ ((M1.2 34) - (M.2 34)), .ref (a 39), .ref (a 40), vZ (M1.2 41), vZ (M1.2 42), vZ (M1.2 43)])), ((a 1), .inl (K.1, 10, .inl (ar (M1.1 1)))), ((a 2), .inl (K.1, 10, .inl (ar (M1.1 2)))), ((a 5), .inl (K.1, 16, .inl (ar (M1.1 5)))), ((a 6), .inl (K.1, 16, .inl (ar (M1.1 6)))), ((a 7), .inl (K.1, 16, .inl (ar (M1.1 7)))), ((a 8), .inl (K.1, 16, .inl (ar (M1.1 8)))), ((a 9), .inl (K.1, 16, .inl (ar (M1.1 9)))), ((a 10), .inl (K.1, 16, .inl (ar (M1.1 10)))), ((a 11), .inl (K.1, 100, .inl (ar (M1.1 11)))), ((a 13), .inl (K.1, 8, .inl (ar (M1.1 13)))), ((a 14), .inl (K.1, 8, .inl (ar (M1.1 14)))), ((a 15), .inl (K.1, 8, .inl (ar (M1.1 15)))), ((a 16), .inl (K.1, 8, .inl (ar (M1.1 16)))), ((a 17), .inl (K.1, 3200, .inl (ar (M1.1 17)))), ((a 18), .inl (K.1, 3200, .inl (ar (M1.1 18)))), ((a 19), .inl (K.2.1, 3200, .inl (ar (M1.1 19)))), ((a 22), .inl (K.1, 3400, .inl (ar (M1.1 22)))), ((a 23), .inl (K.1, 3400, .inl (ar (M1.1 23)))), ((a 24), .inl (K.1, 3400, .inl (ar (M1.1 24)))), ((a 25), .inl (K.1, 3400, .inl (ar (M1.1 25)))), ((a 26), .inl (K.1, 32, .inl (ar (M1.1 26)))), ((a 27), .inl (K.1, 32, .inl (ar (M1.1 27)))), ((a 28), .inl (K.2.1, 8, .inl (ar (M1.1 28)))), ((a 29), .inl (K.1, 8, .inl (ar (M1.1 29)))), ((a 30), .inl (K.1, 8, .inl (ar (M1.1 30)))), ((a 31), .inl (K.1, 10, .inl (ar (M1.1 31)))), ((a 32), .inl (K.1, 10, .inl (ar (M1.1 32)))), ((a 33), .inl (K.1, 10, .inl (ar (M1.1 33)))), ((a 35), .inl (K.1, 13711, .inl (ar (M1.1 35)))), ((a 39), .inl (K.1, 4, .inl (ar (M1.1 39)))), ((a 40), .inl (K.1, 4, .inl (ar (M1.1 40))))]) 79 [(0, .ref h), (1, vZ (M.2 34)), (2, vZ some), (3, vZ c)] [] := by
                  intro n_79
                  induction n_79 with
                  | zero => intro some c fl s0 s1 s2 s3 hm_79; exact absurd hm_79 (Nat.not_lt_zero _)
                  | succ n_79 ih_79 =>
                    intro some c fl s0 s1 s2 s3 hm_79
                    refine z_iload_n ZC 3 dX8_foresees_79 rfl rfl ?_
                    refine z_aload_n ZC 0 dX8_foresees_80 rfl rfl ?_
                    refine z_get ZC inUX8 0 rfl rfl 12 (by decide) uF_X8_121 rfl dX8_foresees_81 ?_
                    refine z_icmp_ge ZC 136 dX8_foresees_84 (by decide) (by omega) (by omega) (fun c_84 => ?_) (fun c_84 => ?_)
                    · skip
                      have ec : (Cr.2 3).toNat = c.toNat := by omega
                      refine z_iload_n ZC 2 dX8_foresees_136 rfl rfl ?_
                      refine z_if_ne ZC 145 dX8_foresees_137 (by decide) (by omega) (fun c_137 => ?_) (fun c_137 => ?_)
                      · skip
                        refine z_aload_n ZC 0 dX8_foresees_145 rfl rfl ?_
                        refine z_iconst ZC dX8_foresees_146 ?_
                        have hy_hus_147_0 : 0 ≤ M.2 21 ∧ M.2 21 ≤ 3400 := by omega
                        have hy_hof_147_0 : ∀ c : Int, 0 ≤ c → c < 8 → 0 ≤ M.1 28 c ∧ M.1 28 c ≤ 1 := hof0
                        have hy_hcu_147_0 : ∀ c : Int, 0 ≤ c → c < 8 → 0 ≤ (M1.1 28) c ∧ (M1.1 28) c ≤ 1 := mx_off i1 i4
                        have hy_hks_147_0 : KSp ((M1.1 35)) M (M.2 21) 32 8 10 := by show KSp (M1.1 35) M (M.2 21) 32 8 10; rw [i10]; exact hks_2
                        refine z_callV ZC 1 (c_X8_all1 zl D K h a (M1.1, (upf (upf M1.2 37 fl) 38 ((M1.2 34) - (M.2 34)))) M (hy_hus_147_0) (hy_hof_147_0) (hy_hcu_147_0) (hy_hks_147_0)) (gdV uM_X8_197 uI_X8_all uS_X8_all uN_X8 uC_X8_all) (by decide +kernel) rfl ⟨by omega, by omega⟩ ⟨by omega, by omega⟩ (Nat.le_of_ble_eq_true rfl) [0, 1, 2, 3, 4, 5, 6, 7, 8, 9, 10, 11, 12, 13, 14, 15, 16, 17, 18, 19, 20, 21, 22, 23, 24, 25, 26, 27, 28, 29, 30, 31] rfl (by decide) rfl rfl rfl rfl dX8_foresees_147 (fun r w2 gc_147 gs_147 hp => ?_)
                        obtain ⟨M2_147, rfl, rfl, rfl, rfl, hkp_147, hz_147, hA1_147, hA2_147, hA3_147, hA4_147⟩ := hp
                        have hkp_147 : KP [22, 23, 24, 25, 26, 27, 28, 29, 30, 31, 32] [20, 21, 34, 36] (M1.1, (upf (upf M1.2 37 fl) 38 ((M1.2 34) - (M.2 34)))) M2_147 := hkp_147
                        have hz_147 : M2_147.2 20 = M.2 20 ∧ M2_147.2 21 = M.2 21 ∧ M2_147.2 34 = M.2 34 := hz_147
                        have hA1_147 : ∀ j : Int, 0 ≤ j → j < M.2 21 → M2_147.1 22 j = M.1 22 j ∧ M2_147.1 23 j = M.1 23 j ∧ M2_147.1 24 j = M.1 24 j ∧ M2_147.1 25 j = M.1 25 j := hA1_147
                        have hA2_147 : ∀ j : Int, 0 ≤ j → j < 32 → M2_147.1 26 j = M.1 26 j ∧ M2_147.1 27 j = M.1 27 j := hA2_147
                        have hA3_147 : ∀ j : Int, 0 ≤ j → j < 8 → M2_147.1 28 j = M.1 28 j ∧ M2_147.1 29 j = M.1 29 j ∧ M2_147.1 30 j = M.1 30 j := hA3_147
                        have hA4_147 : ∀ j : Int, 0 ≤ j → j < 10 → M2_147.1 31 j = M.1 31 j ∧ M2_147.1 32 j = M.1 32 j := hA4_147
                        refine z_ws (ws2 := [(h, .inr (8, [vZ (M2_147.2 0), .ref (a 1), .ref (a 2), vZ (M2_147.2 3), vZ (M2_147.2 4), .ref (a 5), .ref (a 6), .ref (a 7), .ref (a 8), .ref (a 9), .ref (a 10), .ref (a 11), vZ (M2_147.2 12), .ref (a 13), .ref (a 14), .ref (a 15), .ref (a 16), .ref (a 17), .ref (a 18), .ref (a 19), vZ (M2_147.2 20), vZ (M2_147.2 21), .ref (a 22), .ref (a 23), .ref (a 24), .ref (a 25), .ref (a 26), .ref (a 27), .ref (a 28), .ref (a 29), .ref (a 30), .ref (a 31), .ref (a 32), .ref (a 33), vZ (M2_147.2 34), .ref (a 35), vZ (M2_147.2 36), vZ (M2_147.2 37), vZ (M2_147.2 38), .ref (a 39), .ref (a 40), vZ (M2_147.2 41), vZ (M2_147.2 42), vZ (M2_147.2 43)])), ((a 1), .inl (K.1, 10, .inl (ar (M2_147.1 1)))), ((a 2), .inl (K.1, 10, .inl (ar (M2_147.1 2)))), ((a 5), .inl (K.1, 16, .inl (ar (M2_147.1 5)))), ((a 6), .inl (K.1, 16, .inl (ar (M2_147.1 6)))), ((a 7), .inl (K.1, 16, .inl (ar (M2_147.1 7)))), ((a 8), .inl (K.1, 16, .inl (ar (M2_147.1 8)))), ((a 9), .inl (K.1, 16, .inl (ar (M2_147.1 9)))), ((a 10), .inl (K.1, 16, .inl (ar (M2_147.1 10)))), ((a 11), .inl (K.1, 100, .inl (ar (M2_147.1 11)))), ((a 13), .inl (K.1, 8, .inl (ar (M2_147.1 13)))), ((a 14), .inl (K.1, 8, .inl (ar (M2_147.1 14)))), ((a 15), .inl (K.1, 8, .inl (ar (M2_147.1 15)))), ((a 16), .inl (K.1, 8, .inl (ar (M2_147.1 16)))), ((a 17), .inl (K.1, 3200, .inl (ar (M2_147.1 17)))), ((a 18), .inl (K.1, 3200, .inl (ar (M2_147.1 18)))), ((a 19), .inl (K.2.1, 3200, .inl (ar (M2_147.1 19)))), ((a 22), .inl (K.1, 3400, .inl (ar (M2_147.1 22)))), ((a 23), .inl (K.1, 3400, .inl (ar (M2_147.1 23)))), ((a 24), .inl (K.1, 3400, .inl (ar (M2_147.1 24)))), ((a 25), .inl (K.1, 3400, .inl (ar (M2_147.1 25)))), ((a 26), .inl (K.1, 32, .inl (ar (M2_147.1 26)))), ((a 27), .inl (K.1, 32, .inl (ar (M2_147.1 27)))), ((a 28), .inl (K.2.1, 8, .inl (ar (M2_147.1 28)))), ((a 29), .inl (K.1, 8, .inl (ar (M2_147.1 29)))), ((a 30), .inl (K.1, 8, .inl (ar (M2_147.1 30)))), ((a 31), .inl (K.1, 10, .inl (ar (M2_147.1 31)))), ((a 32), .inl (K.1, 10, .inl (ar (M2_147.1 32)))), ((a 33), .inl (K.1, 10, .inl (ar (M2_147.1 33)))), ((a 35), .inl (K.1, 13711, .inl (ar (M2_147.1 35)))), ((a 39), .inl (K.1, 4, .inl (ar (M2_147.1 39)))), ((a 40), .inl (K.1, 4, .inl (ar (M2_147.1 40))))]) rfl ?_
                        refine z_st (st2 := []) rfl ?_
                        refine z_vret ZC ZE dX8_foresees_150 (by omega) (by omega) (Nat.le_of_ble_eq_true rfl) ⟨M2_147, rfl, rfl, by omega, by omega, ?_, ?_, ?_, ?_, ?_, ?_⟩
                        · skip
                          exact mx_back hmx hcf.2.1.2 ((hkp_147.1 16 rfl).trans (i9.1 16 rfl)) hz_147 hA1_147 hA2_147 hA3_147 hA4_147
                        · skip
                          exact KP.trans i9 (KP.trans (la := [22, 23, 24, 25, 26, 27, 28, 29, 30, 31, 32, 33, 35]) (lz := [20, 21, 34, 36, 37, 38]) (show KP [22, 23, 24, 25, 26, 27, 28, 29, 30, 31, 32, 33, 35] [20, 21, 34, 36, 37, 38] M1 (M1.1, (upf (upf M1.2 37 fl) 38 ((M1.2 34) - (M.2 34)))) from ⟨fun k hk => rfl, fun k hk => (upf_out hk rfl).trans (upf_out hk rfl)⟩) hkp_147 rfl rfl rfl rfl) rfl rfl rfl rfl
                        · skip
                          rw [hkp_147.2 37 rfl, ← eF]
                          show fl = aFl Cr A1
                          unfold aFl
                          rw [if_neg (by rw [ec]; omega), ec]; exact s1
                        · skip
                          rw [hkp_147.2 38 rfl, ← eF]
                          show M1.2 34 - M.2 34 = _
                          rw [i1.2.2.2.2.1, hmx.2.2.2.2.1]
                        · skip
                          intro x x1 x2
                          rw [hkp_147.1 33 rfl, i11 x x1 x2, eN]
                        · skip
                          intro x x1 x2
                          rw [hkp_147.1 33 rfl]
                          exact i12 x x1 x2
                      · skip
                        refine z_aload_n ZC 0 dX8_foresees_140 rfl rfl ?_
                        refine z_iconst ZC dX8_foresees_141 ?_
                        refine z_put ZC inUX8 tyX8_ok nmX8 0 rfl rfl 37 (by decide) uF_X8_203 rfl (rfl) (rfl) (Nat.le_of_ble_eq_true rfl) dX8_foresees_142 ?_
                        refine z_aload_n ZC 0 dX8_foresees_145 rfl rfl ?_
                        refine z_iconst ZC dX8_foresees_146 ?_
                        refine z_ws (ws2 := [(h, .inr (8, [vZ (M1.2 0), .ref (a 1), .ref (a 2), vZ (M1.2 3), vZ (M1.2 4), .ref (a 5), .ref (a 6), .ref (a 7), .ref (a 8), .ref (a 9), .ref (a 10), .ref (a 11), vZ (M1.2 12), .ref (a 13), .ref (a 14), .ref (a 15), .ref (a 16), .ref (a 17), .ref (a 18), .ref (a 19), vZ (M1.2 20), vZ (M1.2 21), .ref (a 22), .ref (a 23), .ref (a 24), .ref (a 25), .ref (a 26), .ref (a 27), .ref (a 28), .ref (a 29), .ref (a 30), .ref (a 31), .ref (a 32), .ref (a 33), vZ (M1.2 34), .ref (a 35), vZ (M1.2 36), vZ (-1), vZ ((M1.2 34) - (M.2 34)), .ref (a 39), .ref (a 40), vZ (M1.2 41), vZ (M1.2 42), vZ (M1.2 43)])), ((a 1), .inl (K.1, 10, .inl (ar (M1.1 1)))), ((a 2), .inl (K.1, 10, .inl (ar (M1.1 2)))), ((a 5), .inl (K.1, 16, .inl (ar (M1.1 5)))), ((a 6), .inl (K.1, 16, .inl (ar (M1.1 6)))), ((a 7), .inl (K.1, 16, .inl (ar (M1.1 7)))), ((a 8), .inl (K.1, 16, .inl (ar (M1.1 8)))), ((a 9), .inl (K.1, 16, .inl (ar (M1.1 9)))), ((a 10), .inl (K.1, 16, .inl (ar (M1.1 10)))), ((a 11), .inl (K.1, 100, .inl (ar (M1.1 11)))), ((a 13), .inl (K.1, 8, .inl (ar (M1.1 13)))), ((a 14), .inl (K.1, 8, .inl (ar (M1.1 14)))), ((a 15), .inl (K.1, 8, .inl (ar (M1.1 15)))), ((a 16), .inl (K.1, 8, .inl (ar (M1.1 16)))), ((a 17), .inl (K.1, 3200, .inl (ar (M1.1 17)))), ((a 18), .inl (K.1, 3200, .inl (ar (M1.1 18)))), ((a 19), .inl (K.2.1, 3200, .inl (ar (M1.1 19)))), ((a 22), .inl (K.1, 3400, .inl (ar (M1.1 22)))), ((a 23), .inl (K.1, 3400, .inl (ar (M1.1 23)))), ((a 24), .inl (K.1, 3400, .inl (ar (M1.1 24)))), ((a 25), .inl (K.1, 3400, .inl (ar (M1.1 25)))), ((a 26), .inl (K.1, 32, .inl (ar (M1.1 26)))), ((a 27), .inl (K.1, 32, .inl (ar (M1.1 27)))), ((a 28), .inl (K.2.1, 8, .inl (ar (M1.1 28)))), ((a 29), .inl (K.1, 8, .inl (ar (M1.1 29)))), ((a 30), .inl (K.1, 8, .inl (ar (M1.1 30)))), ((a 31), .inl (K.1, 10, .inl (ar (M1.1 31)))), ((a 32), .inl (K.1, 10, .inl (ar (M1.1 32)))), ((a 33), .inl (K.1, 10, .inl (ar (M1.1 33)))), ((a 35), .inl (K.1, 13711, .inl (ar (M1.1 35)))), ((a 39), .inl (K.1, 4, .inl (ar (M1.1 39)))), ((a 40), .inl (K.1, 4, .inl (ar (M1.1 40))))]) rfl ?_
                        have hy_hus_147_1 : 0 ≤ M.2 21 ∧ M.2 21 ≤ 3400 := by omega
                        have hy_hof_147_1 : ∀ c : Int, 0 ≤ c → c < 8 → 0 ≤ M.1 28 c ∧ M.1 28 c ≤ 1 := hof0
                        have hy_hcu_147_1 : ∀ c : Int, 0 ≤ c → c < 8 → 0 ≤ (M1.1 28) c ∧ (M1.1 28) c ≤ 1 := mx_off i1 i4
                        have hy_hks_147_1 : KSp ((M1.1 35)) M (M.2 21) 32 8 10 := by show KSp (M1.1 35) M (M.2 21) 32 8 10; rw [i10]; exact hks_2
                        refine z_callV ZC 1 (c_X8_all1 zl D K h a (M1.1, (upf (upf M1.2 37 (-1)) 38 ((M1.2 34) - (M.2 34)))) M (hy_hus_147_1) (hy_hof_147_1) (hy_hcu_147_1) (hy_hks_147_1)) (gdV uM_X8_197 uI_X8_all uS_X8_all uN_X8 uC_X8_all) (by decide +kernel) rfl ⟨by omega, by omega⟩ ⟨by omega, by omega⟩ (Nat.le_of_ble_eq_true rfl) [0, 1, 2, 3, 4, 5, 6, 7, 8, 9, 10, 11, 12, 13, 14, 15, 16, 17, 18, 19, 20, 21, 22, 23, 24, 25, 26, 27, 28, 29, 30, 31] rfl (by decide) rfl rfl rfl rfl dX8_foresees_147 (fun r w2 gc_147_1 gs_147_1 hp => ?_)
                        obtain ⟨M2_147_1, rfl, rfl, rfl, rfl, hkp_147_1, hz_147_1, hA1_147_1, hA2_147_1, hA3_147_1, hA4_147_1⟩ := hp
                        have hkp_147_1 : KP [22, 23, 24, 25, 26, 27, 28, 29, 30, 31, 32] [20, 21, 34, 36] (M1.1, (upf (upf M1.2 37 (-1)) 38 ((M1.2 34) - (M.2 34)))) M2_147_1 := hkp_147_1
                        have hz_147_1 : M2_147_1.2 20 = M.2 20 ∧ M2_147_1.2 21 = M.2 21 ∧ M2_147_1.2 34 = M.2 34 := hz_147_1
                        have hA1_147_1 : ∀ j : Int, 0 ≤ j → j < M.2 21 → M2_147_1.1 22 j = M.1 22 j ∧ M2_147_1.1 23 j = M.1 23 j ∧ M2_147_1.1 24 j = M.1 24 j ∧ M2_147_1.1 25 j = M.1 25 j := hA1_147_1
                        have hA2_147_1 : ∀ j : Int, 0 ≤ j → j < 32 → M2_147_1.1 26 j = M.1 26 j ∧ M2_147_1.1 27 j = M.1 27 j := hA2_147_1
                        have hA3_147_1 : ∀ j : Int, 0 ≤ j → j < 8 → M2_147_1.1 28 j = M.1 28 j ∧ M2_147_1.1 29 j = M.1 29 j ∧ M2_147_1.1 30 j = M.1 30 j := hA3_147_1
                        have hA4_147_1 : ∀ j : Int, 0 ≤ j → j < 10 → M2_147_1.1 31 j = M.1 31 j ∧ M2_147_1.1 32 j = M.1 32 j := hA4_147_1
                        refine z_ws (ws2 := [(h, .inr (8, [vZ (M2_147_1.2 0), .ref (a 1), .ref (a 2), vZ (M2_147_1.2 3), vZ (M2_147_1.2 4), .ref (a 5), .ref (a 6), .ref (a 7), .ref (a 8), .ref (a 9), .ref (a 10), .ref (a 11), vZ (M2_147_1.2 12), .ref (a 13), .ref (a 14), .ref (a 15), .ref (a 16), .ref (a 17), .ref (a 18), .ref (a 19), vZ (M2_147_1.2 20), vZ (M2_147_1.2 21), .ref (a 22), .ref (a 23), .ref (a 24), .ref (a 25), .ref (a 26), .ref (a 27), .ref (a 28), .ref (a 29), .ref (a 30), .ref (a 31), .ref (a 32), .ref (a 33), vZ (M2_147_1.2 34), .ref (a 35), vZ (M2_147_1.2 36), vZ (M2_147_1.2 37), vZ (M2_147_1.2 38), .ref (a 39), .ref (a 40), vZ (M2_147_1.2 41), vZ (M2_147_1.2 42), vZ (M2_147_1.2 43)])), ((a 1), .inl (K.1, 10, .inl (ar (M2_147_1.1 1)))), ((a 2), .inl (K.1, 10, .inl (ar (M2_147_1.1 2)))), ((a 5), .inl (K.1, 16, .inl (ar (M2_147_1.1 5)))), ((a 6), .inl (K.1, 16, .inl (ar (M2_147_1.1 6)))), ((a 7), .inl (K.1, 16, .inl (ar (M2_147_1.1 7)))), ((a 8), .inl (K.1, 16, .inl (ar (M2_147_1.1 8)))), ((a 9), .inl (K.1, 16, .inl (ar (M2_147_1.1 9)))), ((a 10), .inl (K.1, 16, .inl (ar (M2_147_1.1 10)))), ((a 11), .inl (K.1, 100, .inl (ar (M2_147_1.1 11)))), ((a 13), .inl (K.1, 8, .inl (ar (M2_147_1.1 13)))), ((a 14), .inl (K.1, 8, .inl (ar (M2_147_1.1 14)))), ((a 15), .inl (K.1, 8, .inl (ar (M2_147_1.1 15)))), ((a 16), .inl (K.1, 8, .inl (ar (M2_147_1.1 16)))), ((a 17), .inl (K.1, 3200, .inl (ar (M2_147_1.1 17)))), ((a 18), .inl (K.1, 3200, .inl (ar (M2_147_1.1 18)))), ((a 19), .inl (K.2.1, 3200, .inl (ar (M2_147_1.1 19)))), ((a 22), .inl (K.1, 3400, .inl (ar (M2_147_1.1 22)))), ((a 23), .inl (K.1, 3400, .inl (ar (M2_147_1.1 23)))), ((a 24), .inl (K.1, 3400, .inl (ar (M2_147_1.1 24)))), ((a 25), .inl (K.1, 3400, .inl (ar (M2_147_1.1 25)))), ((a 26), .inl (K.1, 32, .inl (ar (M2_147_1.1 26)))), ((a 27), .inl (K.1, 32, .inl (ar (M2_147_1.1 27)))), ((a 28), .inl (K.2.1, 8, .inl (ar (M2_147_1.1 28)))), ((a 29), .inl (K.1, 8, .inl (ar (M2_147_1.1 29)))), ((a 30), .inl (K.1, 8, .inl (ar (M2_147_1.1 30)))), ((a 31), .inl (K.1, 10, .inl (ar (M2_147_1.1 31)))), ((a 32), .inl (K.1, 10, .inl (ar (M2_147_1.1 32)))), ((a 33), .inl (K.1, 10, .inl (ar (M2_147_1.1 33)))), ((a 35), .inl (K.1, 13711, .inl (ar (M2_147_1.1 35)))), ((a 39), .inl (K.1, 4, .inl (ar (M2_147_1.1 39)))), ((a 40), .inl (K.1, 4, .inl (ar (M2_147_1.1 40))))]) rfl ?_
                        refine z_st (st2 := []) rfl ?_
                        refine z_vret ZC ZE dX8_foresees_150 (by omega) (by omega) (Nat.le_of_ble_eq_true rfl) ⟨M2_147_1, rfl, rfl, by omega, by omega, ?_, ?_, ?_, ?_, ?_, ?_⟩
                        · skip
                          exact mx_back hmx hcf.2.1.2 ((hkp_147_1.1 16 rfl).trans (i9.1 16 rfl)) hz_147_1 hA1_147_1 hA2_147_1 hA3_147_1 hA4_147_1
                        · skip
                          exact KP.trans i9 (KP.trans (la := [22, 23, 24, 25, 26, 27, 28, 29, 30, 31, 32, 33, 35]) (lz := [20, 21, 34, 36, 37, 38]) (show KP [22, 23, 24, 25, 26, 27, 28, 29, 30, 31, 32, 33, 35] [20, 21, 34, 36, 37, 38] M1 (M1.1, (upf (upf M1.2 37 (-1)) 38 ((M1.2 34) - (M.2 34)))) from ⟨fun k hk => rfl, fun k hk => (upf_out hk rfl).trans (upf_out hk rfl)⟩) hkp_147_1 rfl rfl rfl rfl) rfl rfl rfl rfl
                        · skip
                          rw [hkp_147_1.2 37 rfl, ← eF]
                          show -1 = aFl Cr A1
                          unfold aFl
                          by_cases z : aMi (A1.1 3) (Cr.2 3).toNat < 0
                          · rw [if_pos z]
                          · rw [if_neg z]
                            rw [ec] at z ⊢
                            have z0 : Cr.2 3 = 0 := by omega
                            rw [show c.toNat = 0 by omega]
                            rfl
                        · skip
                          rw [hkp_147_1.2 38 rfl, ← eF]
                          show M1.2 34 - M.2 34 = _
                          rw [i1.2.2.2.2.1, hmx.2.2.2.2.1]
                        · skip
                          intro x x1 x2
                          rw [hkp_147_1.1 33 rfl, i11 x x1 x2, eN]
                        · skip
                          intro x x1 x2
                          rw [hkp_147_1.1 33 rfl]
                          exact i12 x x1 x2
                    · skip
                      have hla := i1.1.2.2.2 c s0.1 (by omega)
                      have har1 := i3 c s0.1 (by omega)
                      refine z_iload_n ZC 2 dX8_foresees_87 rfl rfl ?_
                      refine z_if_eq ZC 105 dX8_foresees_88 (by decide) (by omega) (fun c_88 => ?_) (fun c_88 => ?_)
                      · skip
                        refine z_iconst ZC dX8_foresees_105 ?_
                        refine z_istore_n ZC 2 dX8_foresees_106 rfl (by decide) ?_
                        refine z_aload_n ZC 0 dX8_foresees_107 rfl rfl ?_
                        refine z_get ZC inUX8 0 rfl rfl 30 (by decide) uF_X8_87 rfl dX8_foresees_108 ?_
                        refine z_iload_n ZC 3 dX8_foresees_111 rfl rfl ?_
                        refine z_iald ZC 25 rfl dX8_foresees_112 (by omega) ?_
                        refine z_aload_n ZC 0 dX8_foresees_113 rfl rfl ?_
                        refine z_get ZC inUX8 0 rfl rfl 37 (by decide) uF_X8_203 rfl dX8_foresees_114 ?_
                        refine z_icmp_le ZC 130 dX8_foresees_117 (by decide) (by omega) (by omega) (fun c_117 => ?_) (fun c_117 => ?_)
                        · skip
                          refine z_iinc ZC dX8_foresees_130 rfl (by decide) ?_
                          refine z_goto ZC 79 dX8_foresees_133 (by decide) ?_
                          refine z_ws (ws2 := [(h, .inr (8, [vZ (M1.2 0), .ref (a 1), .ref (a 2), vZ (M1.2 3), vZ (M1.2 4), .ref (a 5), .ref (a 6), .ref (a 7), .ref (a 8), .ref (a 9), .ref (a 10), .ref (a 11), vZ (M1.2 12), .ref (a 13), .ref (a 14), .ref (a 15), .ref (a 16), .ref (a 17), .ref (a 18), .ref (a 19), vZ (M1.2 20), vZ (M1.2 21), .ref (a 22), .ref (a 23), .ref (a 24), .ref (a 25), .ref (a 26), .ref (a 27), .ref (a 28), .ref (a 29), .ref (a 30), .ref (a 31), .ref (a 32), .ref (a 33), vZ (M1.2 34), .ref (a 35), vZ (M1.2 36), vZ fl, vZ ((M1.2 34) - (M.2 34)), .ref (a 39), .ref (a 40), vZ (M1.2 41), vZ (M1.2 42), vZ (M1.2 43)])), ((a 1), .inl (K.1, 10, .inl (ar (M1.1 1)))), ((a 2), .inl (K.1, 10, .inl (ar (M1.1 2)))), ((a 5), .inl (K.1, 16, .inl (ar (M1.1 5)))), ((a 6), .inl (K.1, 16, .inl (ar (M1.1 6)))), ((a 7), .inl (K.1, 16, .inl (ar (M1.1 7)))), ((a 8), .inl (K.1, 16, .inl (ar (M1.1 8)))), ((a 9), .inl (K.1, 16, .inl (ar (M1.1 9)))), ((a 10), .inl (K.1, 16, .inl (ar (M1.1 10)))), ((a 11), .inl (K.1, 100, .inl (ar (M1.1 11)))), ((a 13), .inl (K.1, 8, .inl (ar (M1.1 13)))), ((a 14), .inl (K.1, 8, .inl (ar (M1.1 14)))), ((a 15), .inl (K.1, 8, .inl (ar (M1.1 15)))), ((a 16), .inl (K.1, 8, .inl (ar (M1.1 16)))), ((a 17), .inl (K.1, 3200, .inl (ar (M1.1 17)))), ((a 18), .inl (K.1, 3200, .inl (ar (M1.1 18)))), ((a 19), .inl (K.2.1, 3200, .inl (ar (M1.1 19)))), ((a 22), .inl (K.1, 3400, .inl (ar (M1.1 22)))), ((a 23), .inl (K.1, 3400, .inl (ar (M1.1 23)))), ((a 24), .inl (K.1, 3400, .inl (ar (M1.1 24)))), ((a 25), .inl (K.1, 3400, .inl (ar (M1.1 25)))), ((a 26), .inl (K.1, 32, .inl (ar (M1.1 26)))), ((a 27), .inl (K.1, 32, .inl (ar (M1.1 27)))), ((a 28), .inl (K.2.1, 8, .inl (ar (M1.1 28)))), ((a 29), .inl (K.1, 8, .inl (ar (M1.1 29)))), ((a 30), .inl (K.1, 8, .inl (ar (M1.1 30)))), ((a 31), .inl (K.1, 10, .inl (ar (M1.1 31)))), ((a 32), .inl (K.1, 10, .inl (ar (M1.1 32)))), ((a 33), .inl (K.1, 10, .inl (ar (M1.1 33)))), ((a 35), .inl (K.1, 13711, .inl (ar (M1.1 35)))), ((a 39), .inl (K.1, 4, .inl (ar (M1.1 39)))), ((a 40), .inl (K.1, 4, .inl (ar (M1.1 40))))]) rfl (z_lv (lv2 := [(0, .ref h), (1, vZ (M.2 34)), (2, vZ 0), (3, vZ (c + 1))]) ⟨rfl, rfl, rfl, rfl, trivial⟩ ?_)
                          refine ih_79 0 (c + 1) fl ?_ ?_ ?_ ?_ (dec_lt hm_79 (by omega))
                          · skip
                            omega
                          · skip
                            rw [aMx_next s0.1, ← s1]
                            omega
                          · skip
                            rw [aMi_next s0.1]
                            omega
                          · skip
                            omega
                        · skip
                          refine z_aload_n ZC 0 dX8_foresees_120 rfl rfl ?_
                          refine z_aload_n ZC 0 dX8_foresees_121 rfl rfl ?_
                          refine z_get ZC inUX8 0 rfl rfl 30 (by decide) uF_X8_87 rfl dX8_foresees_122 ?_
                          refine z_iload_n ZC 3 dX8_foresees_125 rfl rfl ?_
                          refine z_iald ZC 25 rfl dX8_foresees_126 (by omega) ?_
                          refine z_put ZC inUX8 tyX8_ok nmX8 0 rfl rfl 37 (by decide) uF_X8_203 rfl (rfl) (rfl) (Nat.le_of_ble_eq_true rfl) dX8_foresees_127 ?_
                          refine z_iinc ZC dX8_foresees_130 rfl (by decide) ?_
                          refine z_goto ZC 79 dX8_foresees_133 (by decide) ?_
                          refine z_ws (ws2 := [(h, .inr (8, [vZ (M1.2 0), .ref (a 1), .ref (a 2), vZ (M1.2 3), vZ (M1.2 4), .ref (a 5), .ref (a 6), .ref (a 7), .ref (a 8), .ref (a 9), .ref (a 10), .ref (a 11), vZ (M1.2 12), .ref (a 13), .ref (a 14), .ref (a 15), .ref (a 16), .ref (a 17), .ref (a 18), .ref (a 19), vZ (M1.2 20), vZ (M1.2 21), .ref (a 22), .ref (a 23), .ref (a 24), .ref (a 25), .ref (a 26), .ref (a 27), .ref (a 28), .ref (a 29), .ref (a 30), .ref (a 31), .ref (a 32), .ref (a 33), vZ (M1.2 34), .ref (a 35), vZ (M1.2 36), vZ ((M1.1 30) c), vZ ((M1.2 34) - (M.2 34)), .ref (a 39), .ref (a 40), vZ (M1.2 41), vZ (M1.2 42), vZ (M1.2 43)])), ((a 1), .inl (K.1, 10, .inl (ar (M1.1 1)))), ((a 2), .inl (K.1, 10, .inl (ar (M1.1 2)))), ((a 5), .inl (K.1, 16, .inl (ar (M1.1 5)))), ((a 6), .inl (K.1, 16, .inl (ar (M1.1 6)))), ((a 7), .inl (K.1, 16, .inl (ar (M1.1 7)))), ((a 8), .inl (K.1, 16, .inl (ar (M1.1 8)))), ((a 9), .inl (K.1, 16, .inl (ar (M1.1 9)))), ((a 10), .inl (K.1, 16, .inl (ar (M1.1 10)))), ((a 11), .inl (K.1, 100, .inl (ar (M1.1 11)))), ((a 13), .inl (K.1, 8, .inl (ar (M1.1 13)))), ((a 14), .inl (K.1, 8, .inl (ar (M1.1 14)))), ((a 15), .inl (K.1, 8, .inl (ar (M1.1 15)))), ((a 16), .inl (K.1, 8, .inl (ar (M1.1 16)))), ((a 17), .inl (K.1, 3200, .inl (ar (M1.1 17)))), ((a 18), .inl (K.1, 3200, .inl (ar (M1.1 18)))), ((a 19), .inl (K.2.1, 3200, .inl (ar (M1.1 19)))), ((a 22), .inl (K.1, 3400, .inl (ar (M1.1 22)))), ((a 23), .inl (K.1, 3400, .inl (ar (M1.1 23)))), ((a 24), .inl (K.1, 3400, .inl (ar (M1.1 24)))), ((a 25), .inl (K.1, 3400, .inl (ar (M1.1 25)))), ((a 26), .inl (K.1, 32, .inl (ar (M1.1 26)))), ((a 27), .inl (K.1, 32, .inl (ar (M1.1 27)))), ((a 28), .inl (K.2.1, 8, .inl (ar (M1.1 28)))), ((a 29), .inl (K.1, 8, .inl (ar (M1.1 29)))), ((a 30), .inl (K.1, 8, .inl (ar (M1.1 30)))), ((a 31), .inl (K.1, 10, .inl (ar (M1.1 31)))), ((a 32), .inl (K.1, 10, .inl (ar (M1.1 32)))), ((a 33), .inl (K.1, 10, .inl (ar (M1.1 33)))), ((a 35), .inl (K.1, 13711, .inl (ar (M1.1 35)))), ((a 39), .inl (K.1, 4, .inl (ar (M1.1 39)))), ((a 40), .inl (K.1, 4, .inl (ar (M1.1 40))))]) rfl (z_lv (lv2 := [(0, .ref h), (1, vZ (M.2 34)), (2, vZ 0), (3, vZ (c + 1))]) ⟨rfl, rfl, rfl, rfl, trivial⟩ ?_)
                          refine ih_79 0 (c + 1) ((M1.1 30) c) ?_ ?_ ?_ ?_ (dec_lt hm_79 (by omega))
                          · skip
                            omega
                          · skip
                            rw [aMx_next s0.1, ← s1]
                            omega
                          · skip
                            rw [aMi_next s0.1]
                            omega
                          · skip
                            omega
                      · skip
                        refine z_aload_n ZC 0 dX8_foresees_91 rfl rfl ?_
                        refine z_get ZC inUX8 0 rfl rfl 30 (by decide) uF_X8_87 rfl dX8_foresees_92 ?_
                        refine z_iload_n ZC 3 dX8_foresees_95 rfl rfl ?_
                        refine z_iald ZC 25 rfl dX8_foresees_96 (by omega) ?_
                        refine z_iconst ZC dX8_foresees_97 ?_
                        refine z_icmp_eq ZC 105 dX8_foresees_98 (by decide) (by omega) (by omega) (fun c_98 => ?_) (fun c_98 => ?_)
                        · skip
                          refine z_iconst ZC dX8_foresees_105 ?_
                          refine z_istore_n ZC 2 dX8_foresees_106 rfl (by decide) ?_
                          refine z_aload_n ZC 0 dX8_foresees_107 rfl rfl ?_
                          refine z_get ZC inUX8 0 rfl rfl 30 (by decide) uF_X8_87 rfl dX8_foresees_108 ?_
                          refine z_iload_n ZC 3 dX8_foresees_111 rfl rfl ?_
                          refine z_iald ZC 25 rfl dX8_foresees_112 (by omega) ?_
                          refine z_aload_n ZC 0 dX8_foresees_113 rfl rfl ?_
                          refine z_get ZC inUX8 0 rfl rfl 37 (by decide) uF_X8_203 rfl dX8_foresees_114 ?_
                          refine z_icmp_le ZC 130 dX8_foresees_117 (by decide) (by omega) (by omega) (fun c_117 => ?_) (fun c_117 => ?_)
                          · skip
                            refine z_iinc ZC dX8_foresees_130 rfl (by decide) ?_
                            refine z_goto ZC 79 dX8_foresees_133 (by decide) ?_
                            refine z_ws (ws2 := [(h, .inr (8, [vZ (M1.2 0), .ref (a 1), .ref (a 2), vZ (M1.2 3), vZ (M1.2 4), .ref (a 5), .ref (a 6), .ref (a 7), .ref (a 8), .ref (a 9), .ref (a 10), .ref (a 11), vZ (M1.2 12), .ref (a 13), .ref (a 14), .ref (a 15), .ref (a 16), .ref (a 17), .ref (a 18), .ref (a 19), vZ (M1.2 20), vZ (M1.2 21), .ref (a 22), .ref (a 23), .ref (a 24), .ref (a 25), .ref (a 26), .ref (a 27), .ref (a 28), .ref (a 29), .ref (a 30), .ref (a 31), .ref (a 32), .ref (a 33), vZ (M1.2 34), .ref (a 35), vZ (M1.2 36), vZ fl, vZ ((M1.2 34) - (M.2 34)), .ref (a 39), .ref (a 40), vZ (M1.2 41), vZ (M1.2 42), vZ (M1.2 43)])), ((a 1), .inl (K.1, 10, .inl (ar (M1.1 1)))), ((a 2), .inl (K.1, 10, .inl (ar (M1.1 2)))), ((a 5), .inl (K.1, 16, .inl (ar (M1.1 5)))), ((a 6), .inl (K.1, 16, .inl (ar (M1.1 6)))), ((a 7), .inl (K.1, 16, .inl (ar (M1.1 7)))), ((a 8), .inl (K.1, 16, .inl (ar (M1.1 8)))), ((a 9), .inl (K.1, 16, .inl (ar (M1.1 9)))), ((a 10), .inl (K.1, 16, .inl (ar (M1.1 10)))), ((a 11), .inl (K.1, 100, .inl (ar (M1.1 11)))), ((a 13), .inl (K.1, 8, .inl (ar (M1.1 13)))), ((a 14), .inl (K.1, 8, .inl (ar (M1.1 14)))), ((a 15), .inl (K.1, 8, .inl (ar (M1.1 15)))), ((a 16), .inl (K.1, 8, .inl (ar (M1.1 16)))), ((a 17), .inl (K.1, 3200, .inl (ar (M1.1 17)))), ((a 18), .inl (K.1, 3200, .inl (ar (M1.1 18)))), ((a 19), .inl (K.2.1, 3200, .inl (ar (M1.1 19)))), ((a 22), .inl (K.1, 3400, .inl (ar (M1.1 22)))), ((a 23), .inl (K.1, 3400, .inl (ar (M1.1 23)))), ((a 24), .inl (K.1, 3400, .inl (ar (M1.1 24)))), ((a 25), .inl (K.1, 3400, .inl (ar (M1.1 25)))), ((a 26), .inl (K.1, 32, .inl (ar (M1.1 26)))), ((a 27), .inl (K.1, 32, .inl (ar (M1.1 27)))), ((a 28), .inl (K.2.1, 8, .inl (ar (M1.1 28)))), ((a 29), .inl (K.1, 8, .inl (ar (M1.1 29)))), ((a 30), .inl (K.1, 8, .inl (ar (M1.1 30)))), ((a 31), .inl (K.1, 10, .inl (ar (M1.1 31)))), ((a 32), .inl (K.1, 10, .inl (ar (M1.1 32)))), ((a 33), .inl (K.1, 10, .inl (ar (M1.1 33)))), ((a 35), .inl (K.1, 13711, .inl (ar (M1.1 35)))), ((a 39), .inl (K.1, 4, .inl (ar (M1.1 39)))), ((a 40), .inl (K.1, 4, .inl (ar (M1.1 40))))]) rfl (z_lv (lv2 := [(0, .ref h), (1, vZ (M.2 34)), (2, vZ 0), (3, vZ (c + 1))]) ⟨rfl, rfl, rfl, rfl, trivial⟩ ?_)
                            refine ih_79 0 (c + 1) fl ?_ ?_ ?_ ?_ (dec_lt hm_79 (by omega))
                            · skip
                              omega
                            · skip
                              rw [aMx_next s0.1, ← s1]
                              omega
                            · skip
                              rw [aMi_next s0.1]
                              omega
                            · skip
                              omega
                          · skip
                            refine z_aload_n ZC 0 dX8_foresees_120 rfl rfl ?_
                            refine z_aload_n ZC 0 dX8_foresees_121 rfl rfl ?_
                            refine z_get ZC inUX8 0 rfl rfl 30 (by decide) uF_X8_87 rfl dX8_foresees_122 ?_
                            refine z_iload_n ZC 3 dX8_foresees_125 rfl rfl ?_
                            refine z_iald ZC 25 rfl dX8_foresees_126 (by omega) ?_
                            refine z_put ZC inUX8 tyX8_ok nmX8 0 rfl rfl 37 (by decide) uF_X8_203 rfl (rfl) (rfl) (Nat.le_of_ble_eq_true rfl) dX8_foresees_127 ?_
                            refine z_iinc ZC dX8_foresees_130 rfl (by decide) ?_
                            refine z_goto ZC 79 dX8_foresees_133 (by decide) ?_
                            refine z_ws (ws2 := [(h, .inr (8, [vZ (M1.2 0), .ref (a 1), .ref (a 2), vZ (M1.2 3), vZ (M1.2 4), .ref (a 5), .ref (a 6), .ref (a 7), .ref (a 8), .ref (a 9), .ref (a 10), .ref (a 11), vZ (M1.2 12), .ref (a 13), .ref (a 14), .ref (a 15), .ref (a 16), .ref (a 17), .ref (a 18), .ref (a 19), vZ (M1.2 20), vZ (M1.2 21), .ref (a 22), .ref (a 23), .ref (a 24), .ref (a 25), .ref (a 26), .ref (a 27), .ref (a 28), .ref (a 29), .ref (a 30), .ref (a 31), .ref (a 32), .ref (a 33), vZ (M1.2 34), .ref (a 35), vZ (M1.2 36), vZ ((M1.1 30) c), vZ ((M1.2 34) - (M.2 34)), .ref (a 39), .ref (a 40), vZ (M1.2 41), vZ (M1.2 42), vZ (M1.2 43)])), ((a 1), .inl (K.1, 10, .inl (ar (M1.1 1)))), ((a 2), .inl (K.1, 10, .inl (ar (M1.1 2)))), ((a 5), .inl (K.1, 16, .inl (ar (M1.1 5)))), ((a 6), .inl (K.1, 16, .inl (ar (M1.1 6)))), ((a 7), .inl (K.1, 16, .inl (ar (M1.1 7)))), ((a 8), .inl (K.1, 16, .inl (ar (M1.1 8)))), ((a 9), .inl (K.1, 16, .inl (ar (M1.1 9)))), ((a 10), .inl (K.1, 16, .inl (ar (M1.1 10)))), ((a 11), .inl (K.1, 100, .inl (ar (M1.1 11)))), ((a 13), .inl (K.1, 8, .inl (ar (M1.1 13)))), ((a 14), .inl (K.1, 8, .inl (ar (M1.1 14)))), ((a 15), .inl (K.1, 8, .inl (ar (M1.1 15)))), ((a 16), .inl (K.1, 8, .inl (ar (M1.1 16)))), ((a 17), .inl (K.1, 3200, .inl (ar (M1.1 17)))), ((a 18), .inl (K.1, 3200, .inl (ar (M1.1 18)))), ((a 19), .inl (K.2.1, 3200, .inl (ar (M1.1 19)))), ((a 22), .inl (K.1, 3400, .inl (ar (M1.1 22)))), ((a 23), .inl (K.1, 3400, .inl (ar (M1.1 23)))), ((a 24), .inl (K.1, 3400, .inl (ar (M1.1 24)))), ((a 25), .inl (K.1, 3400, .inl (ar (M1.1 25)))), ((a 26), .inl (K.1, 32, .inl (ar (M1.1 26)))), ((a 27), .inl (K.1, 32, .inl (ar (M1.1 27)))), ((a 28), .inl (K.2.1, 8, .inl (ar (M1.1 28)))), ((a 29), .inl (K.1, 8, .inl (ar (M1.1 29)))), ((a 30), .inl (K.1, 8, .inl (ar (M1.1 30)))), ((a 31), .inl (K.1, 10, .inl (ar (M1.1 31)))), ((a 32), .inl (K.1, 10, .inl (ar (M1.1 32)))), ((a 33), .inl (K.1, 10, .inl (ar (M1.1 33)))), ((a 35), .inl (K.1, 13711, .inl (ar (M1.1 35)))), ((a 39), .inl (K.1, 4, .inl (ar (M1.1 39)))), ((a 40), .inl (K.1, 4, .inl (ar (M1.1 40))))]) rfl (z_lv (lv2 := [(0, .ref h), (1, vZ (M.2 34)), (2, vZ 0), (3, vZ (c + 1))]) ⟨rfl, rfl, rfl, rfl, trivial⟩ ?_)
                            refine ih_79 0 (c + 1) ((M1.1 30) c) ?_ ?_ ?_ ?_ (dec_lt hm_79 (by omega))
                            · skip
                              omega
                            · skip
                              rw [aMx_next s0.1, ← s1]
                              omega
                            · skip
                              rw [aMi_next s0.1]
                              omega
                            · skip
                              omega
                        · skip
                          refine z_iconst ZC dX8_foresees_101 ?_
                          refine z_goto ZC 106 dX8_foresees_102 (by decide) ?_
                          refine z_istore_n ZC 2 dX8_foresees_106 rfl (by decide) ?_
                          refine z_aload_n ZC 0 dX8_foresees_107 rfl rfl ?_
                          refine z_get ZC inUX8 0 rfl rfl 30 (by decide) uF_X8_87 rfl dX8_foresees_108 ?_
                          refine z_iload_n ZC 3 dX8_foresees_111 rfl rfl ?_
                          refine z_iald ZC 25 rfl dX8_foresees_112 (by omega) ?_
                          refine z_aload_n ZC 0 dX8_foresees_113 rfl rfl ?_
                          refine z_get ZC inUX8 0 rfl rfl 37 (by decide) uF_X8_203 rfl dX8_foresees_114 ?_
                          refine z_icmp_le ZC 130 dX8_foresees_117 (by decide) (by omega) (by omega) (fun c_117 => ?_) (fun c_117 => ?_)
                          · skip
                            refine z_iinc ZC dX8_foresees_130 rfl (by decide) ?_
                            refine z_goto ZC 79 dX8_foresees_133 (by decide) ?_
                            refine z_ws (ws2 := [(h, .inr (8, [vZ (M1.2 0), .ref (a 1), .ref (a 2), vZ (M1.2 3), vZ (M1.2 4), .ref (a 5), .ref (a 6), .ref (a 7), .ref (a 8), .ref (a 9), .ref (a 10), .ref (a 11), vZ (M1.2 12), .ref (a 13), .ref (a 14), .ref (a 15), .ref (a 16), .ref (a 17), .ref (a 18), .ref (a 19), vZ (M1.2 20), vZ (M1.2 21), .ref (a 22), .ref (a 23), .ref (a 24), .ref (a 25), .ref (a 26), .ref (a 27), .ref (a 28), .ref (a 29), .ref (a 30), .ref (a 31), .ref (a 32), .ref (a 33), vZ (M1.2 34), .ref (a 35), vZ (M1.2 36), vZ fl, vZ ((M1.2 34) - (M.2 34)), .ref (a 39), .ref (a 40), vZ (M1.2 41), vZ (M1.2 42), vZ (M1.2 43)])), ((a 1), .inl (K.1, 10, .inl (ar (M1.1 1)))), ((a 2), .inl (K.1, 10, .inl (ar (M1.1 2)))), ((a 5), .inl (K.1, 16, .inl (ar (M1.1 5)))), ((a 6), .inl (K.1, 16, .inl (ar (M1.1 6)))), ((a 7), .inl (K.1, 16, .inl (ar (M1.1 7)))), ((a 8), .inl (K.1, 16, .inl (ar (M1.1 8)))), ((a 9), .inl (K.1, 16, .inl (ar (M1.1 9)))), ((a 10), .inl (K.1, 16, .inl (ar (M1.1 10)))), ((a 11), .inl (K.1, 100, .inl (ar (M1.1 11)))), ((a 13), .inl (K.1, 8, .inl (ar (M1.1 13)))), ((a 14), .inl (K.1, 8, .inl (ar (M1.1 14)))), ((a 15), .inl (K.1, 8, .inl (ar (M1.1 15)))), ((a 16), .inl (K.1, 8, .inl (ar (M1.1 16)))), ((a 17), .inl (K.1, 3200, .inl (ar (M1.1 17)))), ((a 18), .inl (K.1, 3200, .inl (ar (M1.1 18)))), ((a 19), .inl (K.2.1, 3200, .inl (ar (M1.1 19)))), ((a 22), .inl (K.1, 3400, .inl (ar (M1.1 22)))), ((a 23), .inl (K.1, 3400, .inl (ar (M1.1 23)))), ((a 24), .inl (K.1, 3400, .inl (ar (M1.1 24)))), ((a 25), .inl (K.1, 3400, .inl (ar (M1.1 25)))), ((a 26), .inl (K.1, 32, .inl (ar (M1.1 26)))), ((a 27), .inl (K.1, 32, .inl (ar (M1.1 27)))), ((a 28), .inl (K.2.1, 8, .inl (ar (M1.1 28)))), ((a 29), .inl (K.1, 8, .inl (ar (M1.1 29)))), ((a 30), .inl (K.1, 8, .inl (ar (M1.1 30)))), ((a 31), .inl (K.1, 10, .inl (ar (M1.1 31)))), ((a 32), .inl (K.1, 10, .inl (ar (M1.1 32)))), ((a 33), .inl (K.1, 10, .inl (ar (M1.1 33)))), ((a 35), .inl (K.1, 13711, .inl (ar (M1.1 35)))), ((a 39), .inl (K.1, 4, .inl (ar (M1.1 39)))), ((a 40), .inl (K.1, 4, .inl (ar (M1.1 40))))]) rfl (z_lv (lv2 := [(0, .ref h), (1, vZ (M.2 34)), (2, vZ 1), (3, vZ (c + 1))]) ⟨rfl, rfl, rfl, rfl, trivial⟩ ?_)
                            refine ih_79 1 (c + 1) fl ?_ ?_ ?_ ?_ (dec_lt hm_79 (by omega))
                            · skip
                              omega
                            · skip
                              rw [aMx_next s0.1, ← s1]
                              omega
                            · skip
                              rw [aMi_next s0.1]
                              omega
                            · skip
                              omega
                          · skip
                            refine z_aload_n ZC 0 dX8_foresees_120 rfl rfl ?_
                            refine z_aload_n ZC 0 dX8_foresees_121 rfl rfl ?_
                            refine z_get ZC inUX8 0 rfl rfl 30 (by decide) uF_X8_87 rfl dX8_foresees_122 ?_
                            refine z_iload_n ZC 3 dX8_foresees_125 rfl rfl ?_
                            refine z_iald ZC 25 rfl dX8_foresees_126 (by omega) ?_
                            refine z_put ZC inUX8 tyX8_ok nmX8 0 rfl rfl 37 (by decide) uF_X8_203 rfl (rfl) (rfl) (Nat.le_of_ble_eq_true rfl) dX8_foresees_127 ?_
                            refine z_iinc ZC dX8_foresees_130 rfl (by decide) ?_
                            refine z_goto ZC 79 dX8_foresees_133 (by decide) ?_
                            refine z_ws (ws2 := [(h, .inr (8, [vZ (M1.2 0), .ref (a 1), .ref (a 2), vZ (M1.2 3), vZ (M1.2 4), .ref (a 5), .ref (a 6), .ref (a 7), .ref (a 8), .ref (a 9), .ref (a 10), .ref (a 11), vZ (M1.2 12), .ref (a 13), .ref (a 14), .ref (a 15), .ref (a 16), .ref (a 17), .ref (a 18), .ref (a 19), vZ (M1.2 20), vZ (M1.2 21), .ref (a 22), .ref (a 23), .ref (a 24), .ref (a 25), .ref (a 26), .ref (a 27), .ref (a 28), .ref (a 29), .ref (a 30), .ref (a 31), .ref (a 32), .ref (a 33), vZ (M1.2 34), .ref (a 35), vZ (M1.2 36), vZ ((M1.1 30) c), vZ ((M1.2 34) - (M.2 34)), .ref (a 39), .ref (a 40), vZ (M1.2 41), vZ (M1.2 42), vZ (M1.2 43)])), ((a 1), .inl (K.1, 10, .inl (ar (M1.1 1)))), ((a 2), .inl (K.1, 10, .inl (ar (M1.1 2)))), ((a 5), .inl (K.1, 16, .inl (ar (M1.1 5)))), ((a 6), .inl (K.1, 16, .inl (ar (M1.1 6)))), ((a 7), .inl (K.1, 16, .inl (ar (M1.1 7)))), ((a 8), .inl (K.1, 16, .inl (ar (M1.1 8)))), ((a 9), .inl (K.1, 16, .inl (ar (M1.1 9)))), ((a 10), .inl (K.1, 16, .inl (ar (M1.1 10)))), ((a 11), .inl (K.1, 100, .inl (ar (M1.1 11)))), ((a 13), .inl (K.1, 8, .inl (ar (M1.1 13)))), ((a 14), .inl (K.1, 8, .inl (ar (M1.1 14)))), ((a 15), .inl (K.1, 8, .inl (ar (M1.1 15)))), ((a 16), .inl (K.1, 8, .inl (ar (M1.1 16)))), ((a 17), .inl (K.1, 3200, .inl (ar (M1.1 17)))), ((a 18), .inl (K.1, 3200, .inl (ar (M1.1 18)))), ((a 19), .inl (K.2.1, 3200, .inl (ar (M1.1 19)))), ((a 22), .inl (K.1, 3400, .inl (ar (M1.1 22)))), ((a 23), .inl (K.1, 3400, .inl (ar (M1.1 23)))), ((a 24), .inl (K.1, 3400, .inl (ar (M1.1 24)))), ((a 25), .inl (K.1, 3400, .inl (ar (M1.1 25)))), ((a 26), .inl (K.1, 32, .inl (ar (M1.1 26)))), ((a 27), .inl (K.1, 32, .inl (ar (M1.1 27)))), ((a 28), .inl (K.2.1, 8, .inl (ar (M1.1 28)))), ((a 29), .inl (K.1, 8, .inl (ar (M1.1 29)))), ((a 30), .inl (K.1, 8, .inl (ar (M1.1 30)))), ((a 31), .inl (K.1, 10, .inl (ar (M1.1 31)))), ((a 32), .inl (K.1, 10, .inl (ar (M1.1 32)))), ((a 33), .inl (K.1, 10, .inl (ar (M1.1 33)))), ((a 35), .inl (K.1, 13711, .inl (ar (M1.1 35)))), ((a 39), .inl (K.1, 4, .inl (ar (M1.1 39)))), ((a 40), .inl (K.1, 4, .inl (ar (M1.1 40))))]) rfl (z_lv (lv2 := [(0, .ref h), (1, vZ (M.2 34)), (2, vZ 1), (3, vZ (c + 1))]) ⟨rfl, rfl, rfl, rfl, trivial⟩ ?_)
                            refine ih_79 1 (c + 1) ((M1.1 30) c) ?_ ?_ ?_ ?_ (dec_lt hm_79 (by omega))
                            · skip
                              omega
                            · skip
                              rw [aMx_next s0.1, ← s1]
                              omega
                            · skip
                              rw [aMi_next s0.1]
                              omega
                            · skip
                              omega
                refine z_ws (ws2 := [(h, .inr (8, [vZ (M1.2 0), .ref (a 1), .ref (a 2), vZ (M1.2 3), vZ (M1.2 4), .ref (a 5), .ref (a 6), .ref (a 7), .ref (a 8), .ref (a 9), .ref (a 10), .ref (a 11), vZ (M1.2 12), .ref (a 13), .ref (a 14), .ref (a 15), .ref (a 16), .ref (a 17), .ref (a 18), .ref (a 19), vZ (M1.2 20), vZ (M1.2 21), .ref (a 22), .ref (a 23), .ref (a 24), .ref (a 25), .ref (a 26), .ref (a 27), .ref (a 28), .ref (a 29), .ref (a 30), .ref (a 31), .ref (a 32), .ref (a 33), vZ (M1.2 34), .ref (a 35), vZ (M1.2 36), vZ (-1), vZ ((M1.2 34) - (M.2 34)), .ref (a 39), .ref (a 40), vZ (M1.2 41), vZ (M1.2 42), vZ (M1.2 43)])), ((a 1), .inl (K.1, 10, .inl (ar (M1.1 1)))), ((a 2), .inl (K.1, 10, .inl (ar (M1.1 2)))), ((a 5), .inl (K.1, 16, .inl (ar (M1.1 5)))), ((a 6), .inl (K.1, 16, .inl (ar (M1.1 6)))), ((a 7), .inl (K.1, 16, .inl (ar (M1.1 7)))), ((a 8), .inl (K.1, 16, .inl (ar (M1.1 8)))), ((a 9), .inl (K.1, 16, .inl (ar (M1.1 9)))), ((a 10), .inl (K.1, 16, .inl (ar (M1.1 10)))), ((a 11), .inl (K.1, 100, .inl (ar (M1.1 11)))), ((a 13), .inl (K.1, 8, .inl (ar (M1.1 13)))), ((a 14), .inl (K.1, 8, .inl (ar (M1.1 14)))), ((a 15), .inl (K.1, 8, .inl (ar (M1.1 15)))), ((a 16), .inl (K.1, 8, .inl (ar (M1.1 16)))), ((a 17), .inl (K.1, 3200, .inl (ar (M1.1 17)))), ((a 18), .inl (K.1, 3200, .inl (ar (M1.1 18)))), ((a 19), .inl (K.2.1, 3200, .inl (ar (M1.1 19)))), ((a 22), .inl (K.1, 3400, .inl (ar (M1.1 22)))), ((a 23), .inl (K.1, 3400, .inl (ar (M1.1 23)))), ((a 24), .inl (K.1, 3400, .inl (ar (M1.1 24)))), ((a 25), .inl (K.1, 3400, .inl (ar (M1.1 25)))), ((a 26), .inl (K.1, 32, .inl (ar (M1.1 26)))), ((a 27), .inl (K.1, 32, .inl (ar (M1.1 27)))), ((a 28), .inl (K.2.1, 8, .inl (ar (M1.1 28)))), ((a 29), .inl (K.1, 8, .inl (ar (M1.1 29)))), ((a 30), .inl (K.1, 8, .inl (ar (M1.1 30)))), ((a 31), .inl (K.1, 10, .inl (ar (M1.1 31)))), ((a 32), .inl (K.1, 10, .inl (ar (M1.1 32)))), ((a 33), .inl (K.1, 10, .inl (ar (M1.1 33)))), ((a 35), .inl (K.1, 13711, .inl (ar (M1.1 35)))), ((a 39), .inl (K.1, 4, .inl (ar (M1.1 39)))), ((a 40), .inl (K.1, 4, .inl (ar (M1.1 40))))]) rfl (z_lv (lv2 := [(0, .ref h), (1, vZ (M.2 34)), (2, vZ 0), (3, vZ 0)]) ⟨rfl, rfl, rfl, rfl, trivial⟩ ?_)
                refine lp_79 _ 0 0 (-1) ?_ ?_ ?_ ?_ (Nat.lt_succ_self _)
                · skip
                  omega
                · skip
                  rfl
                · skip
                  have q : aMi (A1.1 3) (0 : Int).toNat = 0 := rfl
                  rw [q]
                  omega
                · skip
                  omega
              · skip
                refine z_iconst ZC dX8_foresees_71 ?_
                refine z_goto ZC 76 dX8_foresees_72 (by decide) ?_
                refine z_istore_n ZC 2 dX8_foresees_76 rfl (by decide) ?_
                refine z_iconst ZC dX8_foresees_77 ?_
                refine z_istore_n ZC 3 dX8_foresees_78 rfl (by decide) ?_
                have lp_79 : ∀ (n_79 : Nat) (some : Int) (c : Int) (fl : Int), (0 ≤ c ∧ c ≤ Cr.2 3) → (fl = aMx (A1.1 3) c.toNat) → ((some = 1 ∧ 0 < Cr.2 3 ∧ 0 ≤ aMi (A1.1 3) c.toNat) ∨ (some = 0 ∧ (Cr.2 3 = 0 ∨ aMi (A1.1 3) c.toNat < 0))) → (-1 ≤ fl ∧ fl ≤ 200) → ((Cr.2 3 - c).toNat) < n_79 → Zw zp zl ze zR zs zm zargs zbelow zmeth zc D zA 4 zQ (0 + 0) (0 + 0) ([(h, .inr (8, [vZ (M1.2 0), .ref (a 1), .ref (a 2), vZ (M1.2 3), vZ (M1.2 4), .ref (a 5), .ref (a 6), .ref (a 7), .ref (a 8), .ref (a 9), .ref (a 10), .ref (a 11), vZ (M1.2 12), .ref (a 13), .ref (a 14), .ref (a 15), .ref (a 16), .ref (a 17), .ref (a 18), .ref (a 19), vZ (M1.2 20), vZ (M1.2 21), .ref (a 22), .ref (a 23), .ref (a 24), .ref (a 25), .ref (a 26), .ref (a 27), .ref (a 28), .ref (a 29), .ref (a 30), .ref (a 31), .ref (a 32), .ref (a 33), vZ (M1.2 34), .ref (a 35), vZ (M1.2 36), vZ fl, vZ ((M1.2 34) - (M.2 34)), .ref (a 39), .ref (a 40), vZ (M1.2 41), vZ (M1.2 42), vZ (M1.2 43)])), ((a 1), .inl (K.1, 10, .inl (ar (M1.1 1)))), ((a 2), .inl (K.1, 10, .inl (ar (M1.1 2)))), ((a 5), .inl (K.1, 16, .inl (ar (M1.1 5)))), ((a 6), .inl (K.1, 16, .inl (ar (M1.1 6)))), ((a 7), .inl (K.1, 16, .inl (ar (M1.1 7)))), ((a 8), .inl (K.1, 16, .inl (ar (M1.1 8)))), ((a 9), .inl (K.1, 16, .inl (ar (M1.1 9)))), ((a 10), .inl (K.1, 16, .inl (ar (M1.1 10)))), ((a 11), .inl (K.1, 100, .inl (ar (M1.1 11)))), ((a 13), .inl (K.1, 8, .inl (ar (M1.1 13)))), ((a 14), .inl (K.1, 8, .inl (ar (M1.1 14)))), ((a 15), .inl (K.1, 8, .inl (ar (M1.1 15)))), ((a 16), .inl (K.1, 8, .inl (ar (M1.1 16)))), ((a 17), .inl (K.1, 3200, .inl (ar (M1.1 17)))), ((a 18), .inl (K.1, 3200, .inl (ar (M1.1 18)))), ((a 19), .inl (K.2.1, 3200, .inl (ar (M1.1 19)))), ((a 22), .inl (K.1, 3400, .inl (ar (M1.1 22)))), ((a 23), .inl (K.1, 3400, .inl (ar (M1.1 23)))), ((a 24), .inl (K.1, 3400, .inl (ar (M1.1 24)))), ((a 25), .inl (K.1, 3400, .inl (ar (M1.1 25)))), ((a 26), .inl (K.1, 32, .inl (ar (M1.1 26)))), ((a 27), .inl (K.1, 32, .inl (ar (M1.1 27)))), ((a 28), .inl (K.2.1, 8, .inl (ar (M1.1 28)))), ((a 29), .inl (K.1, 8, .inl (ar (M1.1 29)))), ((a 30), .inl (K.1, 8, .inl (ar (M1.1 30)))), ((a 31), .inl (K.1, 10, .inl (ar (M1.1 31)))), ((a 32), .inl (K.1, 10, .inl (ar (M1.1 32)))), ((a 33), .inl (K.1, 10, .inl (ar (M1.1 33)))), ((a 35), .inl (K.1, 13711, .inl (ar (M1.1 35)))), ((a 39), .inl (K.1, 4, .inl (ar (M1.1 39)))), ((a 40), .inl (K.1, 4, .inl (ar (M1.1 40))))]) 79 [(0, .ref h), (1, vZ (M.2 34)), (2, vZ some), (3, vZ c)] [] := by
                  intro n_79
                  induction n_79 with
                  | zero => intro some c fl s0 s1 s2 s3 hm_79; exact absurd hm_79 (Nat.not_lt_zero _)
                  | succ n_79 ih_79 =>
                    intro some c fl s0 s1 s2 s3 hm_79
                    refine z_iload_n ZC 3 dX8_foresees_79 rfl rfl ?_
                    refine z_aload_n ZC 0 dX8_foresees_80 rfl rfl ?_
                    refine z_get ZC inUX8 0 rfl rfl 12 (by decide) uF_X8_121 rfl dX8_foresees_81 ?_
                    refine z_icmp_ge ZC 136 dX8_foresees_84 (by decide) (by omega) (by omega) (fun c_84 => ?_) (fun c_84 => ?_)
                    · skip
                      have ec : (Cr.2 3).toNat = c.toNat := by omega
                      refine z_iload_n ZC 2 dX8_foresees_136 rfl rfl ?_
                      refine z_if_ne ZC 145 dX8_foresees_137 (by decide) (by omega) (fun c_137 => ?_) (fun c_137 => ?_)
                      · skip
                        refine z_aload_n ZC 0 dX8_foresees_145 rfl rfl ?_
                        refine z_iconst ZC dX8_foresees_146 ?_
                        have hy_hus_147_2 : 0 ≤ M.2 21 ∧ M.2 21 ≤ 3400 := by omega
                        have hy_hof_147_2 : ∀ c : Int, 0 ≤ c → c < 8 → 0 ≤ M.1 28 c ∧ M.1 28 c ≤ 1 := hof0
                        have hy_hcu_147_2 : ∀ c : Int, 0 ≤ c → c < 8 → 0 ≤ (M1.1 28) c ∧ (M1.1 28) c ≤ 1 := mx_off i1 i4
                        have hy_hks_147_2 : KSp ((M1.1 35)) M (M.2 21) 32 8 10 := by show KSp (M1.1 35) M (M.2 21) 32 8 10; rw [i10]; exact hks_2
                        refine z_callV ZC 1 (c_X8_all1 zl D K h a (M1.1, (upf (upf M1.2 37 fl) 38 ((M1.2 34) - (M.2 34)))) M (hy_hus_147_2) (hy_hof_147_2) (hy_hcu_147_2) (hy_hks_147_2)) (gdV uM_X8_197 uI_X8_all uS_X8_all uN_X8 uC_X8_all) (by decide +kernel) rfl ⟨by omega, by omega⟩ ⟨by omega, by omega⟩ (Nat.le_of_ble_eq_true rfl) [0, 1, 2, 3, 4, 5, 6, 7, 8, 9, 10, 11, 12, 13, 14, 15, 16, 17, 18, 19, 20, 21, 22, 23, 24, 25, 26, 27, 28, 29, 30, 31] rfl (by decide) rfl rfl rfl rfl dX8_foresees_147 (fun r w2 gc_147_2 gs_147_2 hp => ?_)
                        obtain ⟨M2_147_2, rfl, rfl, rfl, rfl, hkp_147_2, hz_147_2, hA1_147_2, hA2_147_2, hA3_147_2, hA4_147_2⟩ := hp
                        have hkp_147_2 : KP [22, 23, 24, 25, 26, 27, 28, 29, 30, 31, 32] [20, 21, 34, 36] (M1.1, (upf (upf M1.2 37 fl) 38 ((M1.2 34) - (M.2 34)))) M2_147_2 := hkp_147_2
                        have hz_147_2 : M2_147_2.2 20 = M.2 20 ∧ M2_147_2.2 21 = M.2 21 ∧ M2_147_2.2 34 = M.2 34 := hz_147_2
                        have hA1_147_2 : ∀ j : Int, 0 ≤ j → j < M.2 21 → M2_147_2.1 22 j = M.1 22 j ∧ M2_147_2.1 23 j = M.1 23 j ∧ M2_147_2.1 24 j = M.1 24 j ∧ M2_147_2.1 25 j = M.1 25 j := hA1_147_2
                        have hA2_147_2 : ∀ j : Int, 0 ≤ j → j < 32 → M2_147_2.1 26 j = M.1 26 j ∧ M2_147_2.1 27 j = M.1 27 j := hA2_147_2
                        have hA3_147_2 : ∀ j : Int, 0 ≤ j → j < 8 → M2_147_2.1 28 j = M.1 28 j ∧ M2_147_2.1 29 j = M.1 29 j ∧ M2_147_2.1 30 j = M.1 30 j := hA3_147_2
                        have hA4_147_2 : ∀ j : Int, 0 ≤ j → j < 10 → M2_147_2.1 31 j = M.1 31 j ∧ M2_147_2.1 32 j = M.1 32 j := hA4_147_2
                        refine z_ws (ws2 := [(h, .inr (8, [vZ (M2_147_2.2 0), .ref (a 1), .ref (a 2), vZ (M2_147_2.2 3), vZ (M2_147_2.2 4), .ref (a 5), .ref (a 6), .ref (a 7), .ref (a 8), .ref (a 9), .ref (a 10), .ref (a 11), vZ (M2_147_2.2 12), .ref (a 13), .ref (a 14), .ref (a 15), .ref (a 16), .ref (a 17), .ref (a 18), .ref (a 19), vZ (M2_147_2.2 20), vZ (M2_147_2.2 21), .ref (a 22), .ref (a 23), .ref (a 24), .ref (a 25), .ref (a 26), .ref (a 27), .ref (a 28), .ref (a 29), .ref (a 30), .ref (a 31), .ref (a 32), .ref (a 33), vZ (M2_147_2.2 34), .ref (a 35), vZ (M2_147_2.2 36), vZ (M2_147_2.2 37), vZ (M2_147_2.2 38), .ref (a 39), .ref (a 40), vZ (M2_147_2.2 41), vZ (M2_147_2.2 42), vZ (M2_147_2.2 43)])), ((a 1), .inl (K.1, 10, .inl (ar (M2_147_2.1 1)))), ((a 2), .inl (K.1, 10, .inl (ar (M2_147_2.1 2)))), ((a 5), .inl (K.1, 16, .inl (ar (M2_147_2.1 5)))), ((a 6), .inl (K.1, 16, .inl (ar (M2_147_2.1 6)))), ((a 7), .inl (K.1, 16, .inl (ar (M2_147_2.1 7)))), ((a 8), .inl (K.1, 16, .inl (ar (M2_147_2.1 8)))), ((a 9), .inl (K.1, 16, .inl (ar (M2_147_2.1 9)))), ((a 10), .inl (K.1, 16, .inl (ar (M2_147_2.1 10)))), ((a 11), .inl (K.1, 100, .inl (ar (M2_147_2.1 11)))), ((a 13), .inl (K.1, 8, .inl (ar (M2_147_2.1 13)))), ((a 14), .inl (K.1, 8, .inl (ar (M2_147_2.1 14)))), ((a 15), .inl (K.1, 8, .inl (ar (M2_147_2.1 15)))), ((a 16), .inl (K.1, 8, .inl (ar (M2_147_2.1 16)))), ((a 17), .inl (K.1, 3200, .inl (ar (M2_147_2.1 17)))), ((a 18), .inl (K.1, 3200, .inl (ar (M2_147_2.1 18)))), ((a 19), .inl (K.2.1, 3200, .inl (ar (M2_147_2.1 19)))), ((a 22), .inl (K.1, 3400, .inl (ar (M2_147_2.1 22)))), ((a 23), .inl (K.1, 3400, .inl (ar (M2_147_2.1 23)))), ((a 24), .inl (K.1, 3400, .inl (ar (M2_147_2.1 24)))), ((a 25), .inl (K.1, 3400, .inl (ar (M2_147_2.1 25)))), ((a 26), .inl (K.1, 32, .inl (ar (M2_147_2.1 26)))), ((a 27), .inl (K.1, 32, .inl (ar (M2_147_2.1 27)))), ((a 28), .inl (K.2.1, 8, .inl (ar (M2_147_2.1 28)))), ((a 29), .inl (K.1, 8, .inl (ar (M2_147_2.1 29)))), ((a 30), .inl (K.1, 8, .inl (ar (M2_147_2.1 30)))), ((a 31), .inl (K.1, 10, .inl (ar (M2_147_2.1 31)))), ((a 32), .inl (K.1, 10, .inl (ar (M2_147_2.1 32)))), ((a 33), .inl (K.1, 10, .inl (ar (M2_147_2.1 33)))), ((a 35), .inl (K.1, 13711, .inl (ar (M2_147_2.1 35)))), ((a 39), .inl (K.1, 4, .inl (ar (M2_147_2.1 39)))), ((a 40), .inl (K.1, 4, .inl (ar (M2_147_2.1 40))))]) rfl ?_
                        refine z_st (st2 := []) rfl ?_
                        refine z_vret ZC ZE dX8_foresees_150 (by omega) (by omega) (Nat.le_of_ble_eq_true rfl) ⟨M2_147_2, rfl, rfl, by omega, by omega, ?_, ?_, ?_, ?_, ?_, ?_⟩
                        · skip
                          exact mx_back hmx hcf.2.1.2 ((hkp_147_2.1 16 rfl).trans (i9.1 16 rfl)) hz_147_2 hA1_147_2 hA2_147_2 hA3_147_2 hA4_147_2
                        · skip
                          exact KP.trans i9 (KP.trans (la := [22, 23, 24, 25, 26, 27, 28, 29, 30, 31, 32, 33, 35]) (lz := [20, 21, 34, 36, 37, 38]) (show KP [22, 23, 24, 25, 26, 27, 28, 29, 30, 31, 32, 33, 35] [20, 21, 34, 36, 37, 38] M1 (M1.1, (upf (upf M1.2 37 fl) 38 ((M1.2 34) - (M.2 34)))) from ⟨fun k hk => rfl, fun k hk => (upf_out hk rfl).trans (upf_out hk rfl)⟩) hkp_147_2 rfl rfl rfl rfl) rfl rfl rfl rfl
                        · skip
                          rw [hkp_147_2.2 37 rfl, ← eF]
                          show fl = aFl Cr A1
                          unfold aFl
                          rw [if_neg (by rw [ec]; omega), ec]; exact s1
                        · skip
                          rw [hkp_147_2.2 38 rfl, ← eF]
                          show M1.2 34 - M.2 34 = _
                          rw [i1.2.2.2.2.1, hmx.2.2.2.2.1]
                        · skip
                          intro x x1 x2
                          rw [hkp_147_2.1 33 rfl, i11 x x1 x2, eN]
                        · skip
                          intro x x1 x2
                          rw [hkp_147_2.1 33 rfl]
                          exact i12 x x1 x2
                      · skip
                        refine z_aload_n ZC 0 dX8_foresees_140 rfl rfl ?_
                        refine z_iconst ZC dX8_foresees_141 ?_
                        refine z_put ZC inUX8 tyX8_ok nmX8 0 rfl rfl 37 (by decide) uF_X8_203 rfl (rfl) (rfl) (Nat.le_of_ble_eq_true rfl) dX8_foresees_142 ?_
                        refine z_aload_n ZC 0 dX8_foresees_145 rfl rfl ?_
                        refine z_iconst ZC dX8_foresees_146 ?_
                        refine z_ws (ws2 := [(h, .inr (8, [vZ (M1.2 0), .ref (a 1), .ref (a 2), vZ (M1.2 3), vZ (M1.2 4), .ref (a 5), .ref (a 6), .ref (a 7), .ref (a 8), .ref (a 9), .ref (a 10), .ref (a 11), vZ (M1.2 12), .ref (a 13), .ref (a 14), .ref (a 15), .ref (a 16), .ref (a 17), .ref (a 18), .ref (a 19), vZ (M1.2 20), vZ (M1.2 21), .ref (a 22), .ref (a 23), .ref (a 24), .ref (a 25), .ref (a 26), .ref (a 27), .ref (a 28), .ref (a 29), .ref (a 30), .ref (a 31), .ref (a 32), .ref (a 33), vZ (M1.2 34), .ref (a 35), vZ (M1.2 36), vZ (-1), vZ ((M1.2 34) - (M.2 34)), .ref (a 39), .ref (a 40), vZ (M1.2 41), vZ (M1.2 42), vZ (M1.2 43)])), ((a 1), .inl (K.1, 10, .inl (ar (M1.1 1)))), ((a 2), .inl (K.1, 10, .inl (ar (M1.1 2)))), ((a 5), .inl (K.1, 16, .inl (ar (M1.1 5)))), ((a 6), .inl (K.1, 16, .inl (ar (M1.1 6)))), ((a 7), .inl (K.1, 16, .inl (ar (M1.1 7)))), ((a 8), .inl (K.1, 16, .inl (ar (M1.1 8)))), ((a 9), .inl (K.1, 16, .inl (ar (M1.1 9)))), ((a 10), .inl (K.1, 16, .inl (ar (M1.1 10)))), ((a 11), .inl (K.1, 100, .inl (ar (M1.1 11)))), ((a 13), .inl (K.1, 8, .inl (ar (M1.1 13)))), ((a 14), .inl (K.1, 8, .inl (ar (M1.1 14)))), ((a 15), .inl (K.1, 8, .inl (ar (M1.1 15)))), ((a 16), .inl (K.1, 8, .inl (ar (M1.1 16)))), ((a 17), .inl (K.1, 3200, .inl (ar (M1.1 17)))), ((a 18), .inl (K.1, 3200, .inl (ar (M1.1 18)))), ((a 19), .inl (K.2.1, 3200, .inl (ar (M1.1 19)))), ((a 22), .inl (K.1, 3400, .inl (ar (M1.1 22)))), ((a 23), .inl (K.1, 3400, .inl (ar (M1.1 23)))), ((a 24), .inl (K.1, 3400, .inl (ar (M1.1 24)))), ((a 25), .inl (K.1, 3400, .inl (ar (M1.1 25)))), ((a 26), .inl (K.1, 32, .inl (ar (M1.1 26)))), ((a 27), .inl (K.1, 32, .inl (ar (M1.1 27)))), ((a 28), .inl (K.2.1, 8, .inl (ar (M1.1 28)))), ((a 29), .inl (K.1, 8, .inl (ar (M1.1 29)))), ((a 30), .inl (K.1, 8, .inl (ar (M1.1 30)))), ((a 31), .inl (K.1, 10, .inl (ar (M1.1 31)))), ((a 32), .inl (K.1, 10, .inl (ar (M1.1 32)))), ((a 33), .inl (K.1, 10, .inl (ar (M1.1 33)))), ((a 35), .inl (K.1, 13711, .inl (ar (M1.1 35)))), ((a 39), .inl (K.1, 4, .inl (ar (M1.1 39)))), ((a 40), .inl (K.1, 4, .inl (ar (M1.1 40))))]) rfl ?_
                        have hy_hus_147_3 : 0 ≤ M.2 21 ∧ M.2 21 ≤ 3400 := by omega
                        have hy_hof_147_3 : ∀ c : Int, 0 ≤ c → c < 8 → 0 ≤ M.1 28 c ∧ M.1 28 c ≤ 1 := hof0
                        have hy_hcu_147_3 : ∀ c : Int, 0 ≤ c → c < 8 → 0 ≤ (M1.1 28) c ∧ (M1.1 28) c ≤ 1 := mx_off i1 i4
                        have hy_hks_147_3 : KSp ((M1.1 35)) M (M.2 21) 32 8 10 := by show KSp (M1.1 35) M (M.2 21) 32 8 10; rw [i10]; exact hks_2
                        refine z_callV ZC 1 (c_X8_all1 zl D K h a (M1.1, (upf (upf M1.2 37 (-1)) 38 ((M1.2 34) - (M.2 34)))) M (hy_hus_147_3) (hy_hof_147_3) (hy_hcu_147_3) (hy_hks_147_3)) (gdV uM_X8_197 uI_X8_all uS_X8_all uN_X8 uC_X8_all) (by decide +kernel) rfl ⟨by omega, by omega⟩ ⟨by omega, by omega⟩ (Nat.le_of_ble_eq_true rfl) [0, 1, 2, 3, 4, 5, 6, 7, 8, 9, 10, 11, 12, 13, 14, 15, 16, 17, 18, 19, 20, 21, 22, 23, 24, 25, 26, 27, 28, 29, 30, 31] rfl (by decide) rfl rfl rfl rfl dX8_foresees_147 (fun r w2 gc_147_3 gs_147_3 hp => ?_)
                        obtain ⟨M2_147_3, rfl, rfl, rfl, rfl, hkp_147_3, hz_147_3, hA1_147_3, hA2_147_3, hA3_147_3, hA4_147_3⟩ := hp
                        have hkp_147_3 : KP [22, 23, 24, 25, 26, 27, 28, 29, 30, 31, 32] [20, 21, 34, 36] (M1.1, (upf (upf M1.2 37 (-1)) 38 ((M1.2 34) - (M.2 34)))) M2_147_3 := hkp_147_3
                        have hz_147_3 : M2_147_3.2 20 = M.2 20 ∧ M2_147_3.2 21 = M.2 21 ∧ M2_147_3.2 34 = M.2 34 := hz_147_3
                        have hA1_147_3 : ∀ j : Int, 0 ≤ j → j < M.2 21 → M2_147_3.1 22 j = M.1 22 j ∧ M2_147_3.1 23 j = M.1 23 j ∧ M2_147_3.1 24 j = M.1 24 j ∧ M2_147_3.1 25 j = M.1 25 j := hA1_147_3
                        have hA2_147_3 : ∀ j : Int, 0 ≤ j → j < 32 → M2_147_3.1 26 j = M.1 26 j ∧ M2_147_3.1 27 j = M.1 27 j := hA2_147_3
                        have hA3_147_3 : ∀ j : Int, 0 ≤ j → j < 8 → M2_147_3.1 28 j = M.1 28 j ∧ M2_147_3.1 29 j = M.1 29 j ∧ M2_147_3.1 30 j = M.1 30 j := hA3_147_3
                        have hA4_147_3 : ∀ j : Int, 0 ≤ j → j < 10 → M2_147_3.1 31 j = M.1 31 j ∧ M2_147_3.1 32 j = M.1 32 j := hA4_147_3
                        refine z_ws (ws2 := [(h, .inr (8, [vZ (M2_147_3.2 0), .ref (a 1), .ref (a 2), vZ (M2_147_3.2 3), vZ (M2_147_3.2 4), .ref (a 5), .ref (a 6), .ref (a 7), .ref (a 8), .ref (a 9), .ref (a 10), .ref (a 11), vZ (M2_147_3.2 12), .ref (a 13), .ref (a 14), .ref (a 15), .ref (a 16), .ref (a 17), .ref (a 18), .ref (a 19), vZ (M2_147_3.2 20), vZ (M2_147_3.2 21), .ref (a 22), .ref (a 23), .ref (a 24), .ref (a 25), .ref (a 26), .ref (a 27), .ref (a 28), .ref (a 29), .ref (a 30), .ref (a 31), .ref (a 32), .ref (a 33), vZ (M2_147_3.2 34), .ref (a 35), vZ (M2_147_3.2 36), vZ (M2_147_3.2 37), vZ (M2_147_3.2 38), .ref (a 39), .ref (a 40), vZ (M2_147_3.2 41), vZ (M2_147_3.2 42), vZ (M2_147_3.2 43)])), ((a 1), .inl (K.1, 10, .inl (ar (M2_147_3.1 1)))), ((a 2), .inl (K.1, 10, .inl (ar (M2_147_3.1 2)))), ((a 5), .inl (K.1, 16, .inl (ar (M2_147_3.1 5)))), ((a 6), .inl (K.1, 16, .inl (ar (M2_147_3.1 6)))), ((a 7), .inl (K.1, 16, .inl (ar (M2_147_3.1 7)))), ((a 8), .inl (K.1, 16, .inl (ar (M2_147_3.1 8)))), ((a 9), .inl (K.1, 16, .inl (ar (M2_147_3.1 9)))), ((a 10), .inl (K.1, 16, .inl (ar (M2_147_3.1 10)))), ((a 11), .inl (K.1, 100, .inl (ar (M2_147_3.1 11)))), ((a 13), .inl (K.1, 8, .inl (ar (M2_147_3.1 13)))), ((a 14), .inl (K.1, 8, .inl (ar (M2_147_3.1 14)))), ((a 15), .inl (K.1, 8, .inl (ar (M2_147_3.1 15)))), ((a 16), .inl (K.1, 8, .inl (ar (M2_147_3.1 16)))), ((a 17), .inl (K.1, 3200, .inl (ar (M2_147_3.1 17)))), ((a 18), .inl (K.1, 3200, .inl (ar (M2_147_3.1 18)))), ((a 19), .inl (K.2.1, 3200, .inl (ar (M2_147_3.1 19)))), ((a 22), .inl (K.1, 3400, .inl (ar (M2_147_3.1 22)))), ((a 23), .inl (K.1, 3400, .inl (ar (M2_147_3.1 23)))), ((a 24), .inl (K.1, 3400, .inl (ar (M2_147_3.1 24)))), ((a 25), .inl (K.1, 3400, .inl (ar (M2_147_3.1 25)))), ((a 26), .inl (K.1, 32, .inl (ar (M2_147_3.1 26)))), ((a 27), .inl (K.1, 32, .inl (ar (M2_147_3.1 27)))), ((a 28), .inl (K.2.1, 8, .inl (ar (M2_147_3.1 28)))), ((a 29), .inl (K.1, 8, .inl (ar (M2_147_3.1 29)))), ((a 30), .inl (K.1, 8, .inl (ar (M2_147_3.1 30)))), ((a 31), .inl (K.1, 10, .inl (ar (M2_147_3.1 31)))), ((a 32), .inl (K.1, 10, .inl (ar (M2_147_3.1 32)))), ((a 33), .inl (K.1, 10, .inl (ar (M2_147_3.1 33)))), ((a 35), .inl (K.1, 13711, .inl (ar (M2_147_3.1 35)))), ((a 39), .inl (K.1, 4, .inl (ar (M2_147_3.1 39)))), ((a 40), .inl (K.1, 4, .inl (ar (M2_147_3.1 40))))]) rfl ?_
                        refine z_st (st2 := []) rfl ?_
                        refine z_vret ZC ZE dX8_foresees_150 (by omega) (by omega) (Nat.le_of_ble_eq_true rfl) ⟨M2_147_3, rfl, rfl, by omega, by omega, ?_, ?_, ?_, ?_, ?_, ?_⟩
                        · skip
                          exact mx_back hmx hcf.2.1.2 ((hkp_147_3.1 16 rfl).trans (i9.1 16 rfl)) hz_147_3 hA1_147_3 hA2_147_3 hA3_147_3 hA4_147_3
                        · skip
                          exact KP.trans i9 (KP.trans (la := [22, 23, 24, 25, 26, 27, 28, 29, 30, 31, 32, 33, 35]) (lz := [20, 21, 34, 36, 37, 38]) (show KP [22, 23, 24, 25, 26, 27, 28, 29, 30, 31, 32, 33, 35] [20, 21, 34, 36, 37, 38] M1 (M1.1, (upf (upf M1.2 37 (-1)) 38 ((M1.2 34) - (M.2 34)))) from ⟨fun k hk => rfl, fun k hk => (upf_out hk rfl).trans (upf_out hk rfl)⟩) hkp_147_3 rfl rfl rfl rfl) rfl rfl rfl rfl
                        · skip
                          rw [hkp_147_3.2 37 rfl, ← eF]
                          show -1 = aFl Cr A1
                          unfold aFl
                          by_cases z : aMi (A1.1 3) (Cr.2 3).toNat < 0
                          · rw [if_pos z]
                          · rw [if_neg z]
                            rw [ec] at z ⊢
                            have z0 : Cr.2 3 = 0 := by omega
                            rw [show c.toNat = 0 by omega]
                            rfl
                        · skip
                          rw [hkp_147_3.2 38 rfl, ← eF]
                          show M1.2 34 - M.2 34 = _
                          rw [i1.2.2.2.2.1, hmx.2.2.2.2.1]
                        · skip
                          intro x x1 x2
                          rw [hkp_147_3.1 33 rfl, i11 x x1 x2, eN]
                        · skip
                          intro x x1 x2
                          rw [hkp_147_3.1 33 rfl]
                          exact i12 x x1 x2
                    · skip
                      have hla := i1.1.2.2.2 c s0.1 (by omega)
                      have har1 := i3 c s0.1 (by omega)
                      refine z_iload_n ZC 2 dX8_foresees_87 rfl rfl ?_
                      refine z_if_eq ZC 105 dX8_foresees_88 (by decide) (by omega) (fun c_88 => ?_) (fun c_88 => ?_)
                      · skip
                        refine z_iconst ZC dX8_foresees_105 ?_
                        refine z_istore_n ZC 2 dX8_foresees_106 rfl (by decide) ?_
                        refine z_aload_n ZC 0 dX8_foresees_107 rfl rfl ?_
                        refine z_get ZC inUX8 0 rfl rfl 30 (by decide) uF_X8_87 rfl dX8_foresees_108 ?_
                        refine z_iload_n ZC 3 dX8_foresees_111 rfl rfl ?_
                        refine z_iald ZC 25 rfl dX8_foresees_112 (by omega) ?_
                        refine z_aload_n ZC 0 dX8_foresees_113 rfl rfl ?_
                        refine z_get ZC inUX8 0 rfl rfl 37 (by decide) uF_X8_203 rfl dX8_foresees_114 ?_
                        refine z_icmp_le ZC 130 dX8_foresees_117 (by decide) (by omega) (by omega) (fun c_117 => ?_) (fun c_117 => ?_)
                        · skip
                          refine z_iinc ZC dX8_foresees_130 rfl (by decide) ?_
                          refine z_goto ZC 79 dX8_foresees_133 (by decide) ?_
                          refine z_ws (ws2 := [(h, .inr (8, [vZ (M1.2 0), .ref (a 1), .ref (a 2), vZ (M1.2 3), vZ (M1.2 4), .ref (a 5), .ref (a 6), .ref (a 7), .ref (a 8), .ref (a 9), .ref (a 10), .ref (a 11), vZ (M1.2 12), .ref (a 13), .ref (a 14), .ref (a 15), .ref (a 16), .ref (a 17), .ref (a 18), .ref (a 19), vZ (M1.2 20), vZ (M1.2 21), .ref (a 22), .ref (a 23), .ref (a 24), .ref (a 25), .ref (a 26), .ref (a 27), .ref (a 28), .ref (a 29), .ref (a 30), .ref (a 31), .ref (a 32), .ref (a 33), vZ (M1.2 34), .ref (a 35), vZ (M1.2 36), vZ fl, vZ ((M1.2 34) - (M.2 34)), .ref (a 39), .ref (a 40), vZ (M1.2 41), vZ (M1.2 42), vZ (M1.2 43)])), ((a 1), .inl (K.1, 10, .inl (ar (M1.1 1)))), ((a 2), .inl (K.1, 10, .inl (ar (M1.1 2)))), ((a 5), .inl (K.1, 16, .inl (ar (M1.1 5)))), ((a 6), .inl (K.1, 16, .inl (ar (M1.1 6)))), ((a 7), .inl (K.1, 16, .inl (ar (M1.1 7)))), ((a 8), .inl (K.1, 16, .inl (ar (M1.1 8)))), ((a 9), .inl (K.1, 16, .inl (ar (M1.1 9)))), ((a 10), .inl (K.1, 16, .inl (ar (M1.1 10)))), ((a 11), .inl (K.1, 100, .inl (ar (M1.1 11)))), ((a 13), .inl (K.1, 8, .inl (ar (M1.1 13)))), ((a 14), .inl (K.1, 8, .inl (ar (M1.1 14)))), ((a 15), .inl (K.1, 8, .inl (ar (M1.1 15)))), ((a 16), .inl (K.1, 8, .inl (ar (M1.1 16)))), ((a 17), .inl (K.1, 3200, .inl (ar (M1.1 17)))), ((a 18), .inl (K.1, 3200, .inl (ar (M1.1 18)))), ((a 19), .inl (K.2.1, 3200, .inl (ar (M1.1 19)))), ((a 22), .inl (K.1, 3400, .inl (ar (M1.1 22)))), ((a 23), .inl (K.1, 3400, .inl (ar (M1.1 23)))), ((a 24), .inl (K.1, 3400, .inl (ar (M1.1 24)))), ((a 25), .inl (K.1, 3400, .inl (ar (M1.1 25)))), ((a 26), .inl (K.1, 32, .inl (ar (M1.1 26)))), ((a 27), .inl (K.1, 32, .inl (ar (M1.1 27)))), ((a 28), .inl (K.2.1, 8, .inl (ar (M1.1 28)))), ((a 29), .inl (K.1, 8, .inl (ar (M1.1 29)))), ((a 30), .inl (K.1, 8, .inl (ar (M1.1 30)))), ((a 31), .inl (K.1, 10, .inl (ar (M1.1 31)))), ((a 32), .inl (K.1, 10, .inl (ar (M1.1 32)))), ((a 33), .inl (K.1, 10, .inl (ar (M1.1 33)))), ((a 35), .inl (K.1, 13711, .inl (ar (M1.1 35)))), ((a 39), .inl (K.1, 4, .inl (ar (M1.1 39)))), ((a 40), .inl (K.1, 4, .inl (ar (M1.1 40))))]) rfl (z_lv (lv2 := [(0, .ref h), (1, vZ (M.2 34)), (2, vZ 0), (3, vZ (c + 1))]) ⟨rfl, rfl, rfl, rfl, trivial⟩ ?_)
                          refine ih_79 0 (c + 1) fl ?_ ?_ ?_ ?_ (dec_lt hm_79 (by omega))
                          · skip
                            omega
                          · skip
                            rw [aMx_next s0.1, ← s1]
                            omega
                          · skip
                            rw [aMi_next s0.1]
                            omega
                          · skip
                            omega
                        · skip
                          refine z_aload_n ZC 0 dX8_foresees_120 rfl rfl ?_
                          refine z_aload_n ZC 0 dX8_foresees_121 rfl rfl ?_
                          refine z_get ZC inUX8 0 rfl rfl 30 (by decide) uF_X8_87 rfl dX8_foresees_122 ?_
                          refine z_iload_n ZC 3 dX8_foresees_125 rfl rfl ?_
                          refine z_iald ZC 25 rfl dX8_foresees_126 (by omega) ?_
                          refine z_put ZC inUX8 tyX8_ok nmX8 0 rfl rfl 37 (by decide) uF_X8_203 rfl (rfl) (rfl) (Nat.le_of_ble_eq_true rfl) dX8_foresees_127 ?_
                          refine z_iinc ZC dX8_foresees_130 rfl (by decide) ?_
                          refine z_goto ZC 79 dX8_foresees_133 (by decide) ?_
                          refine z_ws (ws2 := [(h, .inr (8, [vZ (M1.2 0), .ref (a 1), .ref (a 2), vZ (M1.2 3), vZ (M1.2 4), .ref (a 5), .ref (a 6), .ref (a 7), .ref (a 8), .ref (a 9), .ref (a 10), .ref (a 11), vZ (M1.2 12), .ref (a 13), .ref (a 14), .ref (a 15), .ref (a 16), .ref (a 17), .ref (a 18), .ref (a 19), vZ (M1.2 20), vZ (M1.2 21), .ref (a 22), .ref (a 23), .ref (a 24), .ref (a 25), .ref (a 26), .ref (a 27), .ref (a 28), .ref (a 29), .ref (a 30), .ref (a 31), .ref (a 32), .ref (a 33), vZ (M1.2 34), .ref (a 35), vZ (M1.2 36), vZ ((M1.1 30) c), vZ ((M1.2 34) - (M.2 34)), .ref (a 39), .ref (a 40), vZ (M1.2 41), vZ (M1.2 42), vZ (M1.2 43)])), ((a 1), .inl (K.1, 10, .inl (ar (M1.1 1)))), ((a 2), .inl (K.1, 10, .inl (ar (M1.1 2)))), ((a 5), .inl (K.1, 16, .inl (ar (M1.1 5)))), ((a 6), .inl (K.1, 16, .inl (ar (M1.1 6)))), ((a 7), .inl (K.1, 16, .inl (ar (M1.1 7)))), ((a 8), .inl (K.1, 16, .inl (ar (M1.1 8)))), ((a 9), .inl (K.1, 16, .inl (ar (M1.1 9)))), ((a 10), .inl (K.1, 16, .inl (ar (M1.1 10)))), ((a 11), .inl (K.1, 100, .inl (ar (M1.1 11)))), ((a 13), .inl (K.1, 8, .inl (ar (M1.1 13)))), ((a 14), .inl (K.1, 8, .inl (ar (M1.1 14)))), ((a 15), .inl (K.1, 8, .inl (ar (M1.1 15)))), ((a 16), .inl (K.1, 8, .inl (ar (M1.1 16)))), ((a 17), .inl (K.1, 3200, .inl (ar (M1.1 17)))), ((a 18), .inl (K.1, 3200, .inl (ar (M1.1 18)))), ((a 19), .inl (K.2.1, 3200, .inl (ar (M1.1 19)))), ((a 22), .inl (K.1, 3400, .inl (ar (M1.1 22)))), ((a 23), .inl (K.1, 3400, .inl (ar (M1.1 23)))), ((a 24), .inl (K.1, 3400, .inl (ar (M1.1 24)))), ((a 25), .inl (K.1, 3400, .inl (ar (M1.1 25)))), ((a 26), .inl (K.1, 32, .inl (ar (M1.1 26)))), ((a 27), .inl (K.1, 32, .inl (ar (M1.1 27)))), ((a 28), .inl (K.2.1, 8, .inl (ar (M1.1 28)))), ((a 29), .inl (K.1, 8, .inl (ar (M1.1 29)))), ((a 30), .inl (K.1, 8, .inl (ar (M1.1 30)))), ((a 31), .inl (K.1, 10, .inl (ar (M1.1 31)))), ((a 32), .inl (K.1, 10, .inl (ar (M1.1 32)))), ((a 33), .inl (K.1, 10, .inl (ar (M1.1 33)))), ((a 35), .inl (K.1, 13711, .inl (ar (M1.1 35)))), ((a 39), .inl (K.1, 4, .inl (ar (M1.1 39)))), ((a 40), .inl (K.1, 4, .inl (ar (M1.1 40))))]) rfl (z_lv (lv2 := [(0, .ref h), (1, vZ (M.2 34)), (2, vZ 0), (3, vZ (c + 1))]) ⟨rfl, rfl, rfl, rfl, trivial⟩ ?_)
                          refine ih_79 0 (c + 1) ((M1.1 30) c) ?_ ?_ ?_ ?_ (dec_lt hm_79 (by omega))
                          · skip
                            omega
                          · skip
                            rw [aMx_next s0.1, ← s1]
                            omega
                          · skip
                            rw [aMi_next s0.1]
                            omega
                          · skip
                            omega
                      · skip
                        refine z_aload_n ZC 0 dX8_foresees_91 rfl rfl ?_
                        refine z_get ZC inUX8 0 rfl rfl 30 (by decide) uF_X8_87 rfl dX8_foresees_92 ?_
                        refine z_iload_n ZC 3 dX8_foresees_95 rfl rfl ?_
                        refine z_iald ZC 25 rfl dX8_foresees_96 (by omega) ?_
                        refine z_iconst ZC dX8_foresees_97 ?_
                        refine z_icmp_eq ZC 105 dX8_foresees_98 (by decide) (by omega) (by omega) (fun c_98 => ?_) (fun c_98 => ?_)
                        · skip
                          refine z_iconst ZC dX8_foresees_105 ?_
                          refine z_istore_n ZC 2 dX8_foresees_106 rfl (by decide) ?_
                          refine z_aload_n ZC 0 dX8_foresees_107 rfl rfl ?_
                          refine z_get ZC inUX8 0 rfl rfl 30 (by decide) uF_X8_87 rfl dX8_foresees_108 ?_
                          refine z_iload_n ZC 3 dX8_foresees_111 rfl rfl ?_
                          refine z_iald ZC 25 rfl dX8_foresees_112 (by omega) ?_
                          refine z_aload_n ZC 0 dX8_foresees_113 rfl rfl ?_
                          refine z_get ZC inUX8 0 rfl rfl 37 (by decide) uF_X8_203 rfl dX8_foresees_114 ?_
                          refine z_icmp_le ZC 130 dX8_foresees_117 (by decide) (by omega) (by omega) (fun c_117 => ?_) (fun c_117 => ?_)
                          · skip
                            refine z_iinc ZC dX8_foresees_130 rfl (by decide) ?_
                            refine z_goto ZC 79 dX8_foresees_133 (by decide) ?_
                            refine z_ws (ws2 := [(h, .inr (8, [vZ (M1.2 0), .ref (a 1), .ref (a 2), vZ (M1.2 3), vZ (M1.2 4), .ref (a 5), .ref (a 6), .ref (a 7), .ref (a 8), .ref (a 9), .ref (a 10), .ref (a 11), vZ (M1.2 12), .ref (a 13), .ref (a 14), .ref (a 15), .ref (a 16), .ref (a 17), .ref (a 18), .ref (a 19), vZ (M1.2 20), vZ (M1.2 21), .ref (a 22), .ref (a 23), .ref (a 24), .ref (a 25), .ref (a 26), .ref (a 27), .ref (a 28), .ref (a 29), .ref (a 30), .ref (a 31), .ref (a 32), .ref (a 33), vZ (M1.2 34), .ref (a 35), vZ (M1.2 36), vZ fl, vZ ((M1.2 34) - (M.2 34)), .ref (a 39), .ref (a 40), vZ (M1.2 41), vZ (M1.2 42), vZ (M1.2 43)])), ((a 1), .inl (K.1, 10, .inl (ar (M1.1 1)))), ((a 2), .inl (K.1, 10, .inl (ar (M1.1 2)))), ((a 5), .inl (K.1, 16, .inl (ar (M1.1 5)))), ((a 6), .inl (K.1, 16, .inl (ar (M1.1 6)))), ((a 7), .inl (K.1, 16, .inl (ar (M1.1 7)))), ((a 8), .inl (K.1, 16, .inl (ar (M1.1 8)))), ((a 9), .inl (K.1, 16, .inl (ar (M1.1 9)))), ((a 10), .inl (K.1, 16, .inl (ar (M1.1 10)))), ((a 11), .inl (K.1, 100, .inl (ar (M1.1 11)))), ((a 13), .inl (K.1, 8, .inl (ar (M1.1 13)))), ((a 14), .inl (K.1, 8, .inl (ar (M1.1 14)))), ((a 15), .inl (K.1, 8, .inl (ar (M1.1 15)))), ((a 16), .inl (K.1, 8, .inl (ar (M1.1 16)))), ((a 17), .inl (K.1, 3200, .inl (ar (M1.1 17)))), ((a 18), .inl (K.1, 3200, .inl (ar (M1.1 18)))), ((a 19), .inl (K.2.1, 3200, .inl (ar (M1.1 19)))), ((a 22), .inl (K.1, 3400, .inl (ar (M1.1 22)))), ((a 23), .inl (K.1, 3400, .inl (ar (M1.1 23)))), ((a 24), .inl (K.1, 3400, .inl (ar (M1.1 24)))), ((a 25), .inl (K.1, 3400, .inl (ar (M1.1 25)))), ((a 26), .inl (K.1, 32, .inl (ar (M1.1 26)))), ((a 27), .inl (K.1, 32, .inl (ar (M1.1 27)))), ((a 28), .inl (K.2.1, 8, .inl (ar (M1.1 28)))), ((a 29), .inl (K.1, 8, .inl (ar (M1.1 29)))), ((a 30), .inl (K.1, 8, .inl (ar (M1.1 30)))), ((a 31), .inl (K.1, 10, .inl (ar (M1.1 31)))), ((a 32), .inl (K.1, 10, .inl (ar (M1.1 32)))), ((a 33), .inl (K.1, 10, .inl (ar (M1.1 33)))), ((a 35), .inl (K.1, 13711, .inl (ar (M1.1 35)))), ((a 39), .inl (K.1, 4, .inl (ar (M1.1 39)))), ((a 40), .inl (K.1, 4, .inl (ar (M1.1 40))))]) rfl (z_lv (lv2 := [(0, .ref h), (1, vZ (M.2 34)), (2, vZ 0), (3, vZ (c + 1))]) ⟨rfl, rfl, rfl, rfl, trivial⟩ ?_)
                            refine ih_79 0 (c + 1) fl ?_ ?_ ?_ ?_ (dec_lt hm_79 (by omega))
                            · skip
                              omega
                            · skip
                              rw [aMx_next s0.1, ← s1]
                              omega
                            · skip
                              rw [aMi_next s0.1]
                              omega
                            · skip
                              omega
                          · skip
                            refine z_aload_n ZC 0 dX8_foresees_120 rfl rfl ?_
                            refine z_aload_n ZC 0 dX8_foresees_121 rfl rfl ?_
                            refine z_get ZC inUX8 0 rfl rfl 30 (by decide) uF_X8_87 rfl dX8_foresees_122 ?_
                            refine z_iload_n ZC 3 dX8_foresees_125 rfl rfl ?_
                            refine z_iald ZC 25 rfl dX8_foresees_126 (by omega) ?_
                            refine z_put ZC inUX8 tyX8_ok nmX8 0 rfl rfl 37 (by decide) uF_X8_203 rfl (rfl) (rfl) (Nat.le_of_ble_eq_true rfl) dX8_foresees_127 ?_
                            refine z_iinc ZC dX8_foresees_130 rfl (by decide) ?_
                            refine z_goto ZC 79 dX8_foresees_133 (by decide) ?_
                            refine z_ws (ws2 := [(h, .inr (8, [vZ (M1.2 0), .ref (a 1), .ref (a 2), vZ (M1.2 3), vZ (M1.2 4), .ref (a 5), .ref (a 6), .ref (a 7), .ref (a 8), .ref (a 9), .ref (a 10), .ref (a 11), vZ (M1.2 12), .ref (a 13), .ref (a 14), .ref (a 15), .ref (a 16), .ref (a 17), .ref (a 18), .ref (a 19), vZ (M1.2 20), vZ (M1.2 21), .ref (a 22), .ref (a 23), .ref (a 24), .ref (a 25), .ref (a 26), .ref (a 27), .ref (a 28), .ref (a 29), .ref (a 30), .ref (a 31), .ref (a 32), .ref (a 33), vZ (M1.2 34), .ref (a 35), vZ (M1.2 36), vZ ((M1.1 30) c), vZ ((M1.2 34) - (M.2 34)), .ref (a 39), .ref (a 40), vZ (M1.2 41), vZ (M1.2 42), vZ (M1.2 43)])), ((a 1), .inl (K.1, 10, .inl (ar (M1.1 1)))), ((a 2), .inl (K.1, 10, .inl (ar (M1.1 2)))), ((a 5), .inl (K.1, 16, .inl (ar (M1.1 5)))), ((a 6), .inl (K.1, 16, .inl (ar (M1.1 6)))), ((a 7), .inl (K.1, 16, .inl (ar (M1.1 7)))), ((a 8), .inl (K.1, 16, .inl (ar (M1.1 8)))), ((a 9), .inl (K.1, 16, .inl (ar (M1.1 9)))), ((a 10), .inl (K.1, 16, .inl (ar (M1.1 10)))), ((a 11), .inl (K.1, 100, .inl (ar (M1.1 11)))), ((a 13), .inl (K.1, 8, .inl (ar (M1.1 13)))), ((a 14), .inl (K.1, 8, .inl (ar (M1.1 14)))), ((a 15), .inl (K.1, 8, .inl (ar (M1.1 15)))), ((a 16), .inl (K.1, 8, .inl (ar (M1.1 16)))), ((a 17), .inl (K.1, 3200, .inl (ar (M1.1 17)))), ((a 18), .inl (K.1, 3200, .inl (ar (M1.1 18)))), ((a 19), .inl (K.2.1, 3200, .inl (ar (M1.1 19)))), ((a 22), .inl (K.1, 3400, .inl (ar (M1.1 22)))), ((a 23), .inl (K.1, 3400, .inl (ar (M1.1 23)))), ((a 24), .inl (K.1, 3400, .inl (ar (M1.1 24)))), ((a 25), .inl (K.1, 3400, .inl (ar (M1.1 25)))), ((a 26), .inl (K.1, 32, .inl (ar (M1.1 26)))), ((a 27), .inl (K.1, 32, .inl (ar (M1.1 27)))), ((a 28), .inl (K.2.1, 8, .inl (ar (M1.1 28)))), ((a 29), .inl (K.1, 8, .inl (ar (M1.1 29)))), ((a 30), .inl (K.1, 8, .inl (ar (M1.1 30)))), ((a 31), .inl (K.1, 10, .inl (ar (M1.1 31)))), ((a 32), .inl (K.1, 10, .inl (ar (M1.1 32)))), ((a 33), .inl (K.1, 10, .inl (ar (M1.1 33)))), ((a 35), .inl (K.1, 13711, .inl (ar (M1.1 35)))), ((a 39), .inl (K.1, 4, .inl (ar (M1.1 39)))), ((a 40), .inl (K.1, 4, .inl (ar (M1.1 40))))]) rfl (z_lv (lv2 := [(0, .ref h), (1, vZ (M.2 34)), (2, vZ 0), (3, vZ (c + 1))]) ⟨rfl, rfl, rfl, rfl, trivial⟩ ?_)
                            refine ih_79 0 (c + 1) ((M1.1 30) c) ?_ ?_ ?_ ?_ (dec_lt hm_79 (by omega))
                            · skip
                              omega
                            · skip
                              rw [aMx_next s0.1, ← s1]
                              omega
                            · skip
                              rw [aMi_next s0.1]
                              omega
                            · skip
                              omega
                        · skip
                          refine z_iconst ZC dX8_foresees_101 ?_
                          refine z_goto ZC 106 dX8_foresees_102 (by decide) ?_
                          refine z_istore_n ZC 2 dX8_foresees_106 rfl (by decide) ?_
                          refine z_aload_n ZC 0 dX8_foresees_107 rfl rfl ?_
                          refine z_get ZC inUX8 0 rfl rfl 30 (by decide) uF_X8_87 rfl dX8_foresees_108 ?_
                          refine z_iload_n ZC 3 dX8_foresees_111 rfl rfl ?_
                          refine z_iald ZC 25 rfl dX8_foresees_112 (by omega) ?_
                          refine z_aload_n ZC 0 dX8_foresees_113 rfl rfl ?_
                          refine z_get ZC inUX8 0 rfl rfl 37 (by decide) uF_X8_203 rfl dX8_foresees_114 ?_
                          refine z_icmp_le ZC 130 dX8_foresees_117 (by decide) (by omega) (by omega) (fun c_117 => ?_) (fun c_117 => ?_)
                          · skip
                            refine z_iinc ZC dX8_foresees_130 rfl (by decide) ?_
                            refine z_goto ZC 79 dX8_foresees_133 (by decide) ?_
                            refine z_ws (ws2 := [(h, .inr (8, [vZ (M1.2 0), .ref (a 1), .ref (a 2), vZ (M1.2 3), vZ (M1.2 4), .ref (a 5), .ref (a 6), .ref (a 7), .ref (a 8), .ref (a 9), .ref (a 10), .ref (a 11), vZ (M1.2 12), .ref (a 13), .ref (a 14), .ref (a 15), .ref (a 16), .ref (a 17), .ref (a 18), .ref (a 19), vZ (M1.2 20), vZ (M1.2 21), .ref (a 22), .ref (a 23), .ref (a 24), .ref (a 25), .ref (a 26), .ref (a 27), .ref (a 28), .ref (a 29), .ref (a 30), .ref (a 31), .ref (a 32), .ref (a 33), vZ (M1.2 34), .ref (a 35), vZ (M1.2 36), vZ fl, vZ ((M1.2 34) - (M.2 34)), .ref (a 39), .ref (a 40), vZ (M1.2 41), vZ (M1.2 42), vZ (M1.2 43)])), ((a 1), .inl (K.1, 10, .inl (ar (M1.1 1)))), ((a 2), .inl (K.1, 10, .inl (ar (M1.1 2)))), ((a 5), .inl (K.1, 16, .inl (ar (M1.1 5)))), ((a 6), .inl (K.1, 16, .inl (ar (M1.1 6)))), ((a 7), .inl (K.1, 16, .inl (ar (M1.1 7)))), ((a 8), .inl (K.1, 16, .inl (ar (M1.1 8)))), ((a 9), .inl (K.1, 16, .inl (ar (M1.1 9)))), ((a 10), .inl (K.1, 16, .inl (ar (M1.1 10)))), ((a 11), .inl (K.1, 100, .inl (ar (M1.1 11)))), ((a 13), .inl (K.1, 8, .inl (ar (M1.1 13)))), ((a 14), .inl (K.1, 8, .inl (ar (M1.1 14)))), ((a 15), .inl (K.1, 8, .inl (ar (M1.1 15)))), ((a 16), .inl (K.1, 8, .inl (ar (M1.1 16)))), ((a 17), .inl (K.1, 3200, .inl (ar (M1.1 17)))), ((a 18), .inl (K.1, 3200, .inl (ar (M1.1 18)))), ((a 19), .inl (K.2.1, 3200, .inl (ar (M1.1 19)))), ((a 22), .inl (K.1, 3400, .inl (ar (M1.1 22)))), ((a 23), .inl (K.1, 3400, .inl (ar (M1.1 23)))), ((a 24), .inl (K.1, 3400, .inl (ar (M1.1 24)))), ((a 25), .inl (K.1, 3400, .inl (ar (M1.1 25)))), ((a 26), .inl (K.1, 32, .inl (ar (M1.1 26)))), ((a 27), .inl (K.1, 32, .inl (ar (M1.1 27)))), ((a 28), .inl (K.2.1, 8, .inl (ar (M1.1 28)))), ((a 29), .inl (K.1, 8, .inl (ar (M1.1 29)))), ((a 30), .inl (K.1, 8, .inl (ar (M1.1 30)))), ((a 31), .inl (K.1, 10, .inl (ar (M1.1 31)))), ((a 32), .inl (K.1, 10, .inl (ar (M1.1 32)))), ((a 33), .inl (K.1, 10, .inl (ar (M1.1 33)))), ((a 35), .inl (K.1, 13711, .inl (ar (M1.1 35)))), ((a 39), .inl (K.1, 4, .inl (ar (M1.1 39)))), ((a 40), .inl (K.1, 4, .inl (ar (M1.1 40))))]) rfl (z_lv (lv2 := [(0, .ref h), (1, vZ (M.2 34)), (2, vZ 1), (3, vZ (c + 1))]) ⟨rfl, rfl, rfl, rfl, trivial⟩ ?_)
                            refine ih_79 1 (c + 1) fl ?_ ?_ ?_ ?_ (dec_lt hm_79 (by omega))
                            · skip
                              omega
                            · skip
                              rw [aMx_next s0.1, ← s1]
                              omega
                            · skip
                              rw [aMi_next s0.1]
                              omega
                            · skip
                              omega
                          · skip
                            refine z_aload_n ZC 0 dX8_foresees_120 rfl rfl ?_
                            refine z_aload_n ZC 0 dX8_foresees_121 rfl rfl ?_
                            refine z_get ZC inUX8 0 rfl rfl 30 (by decide) uF_X8_87 rfl dX8_foresees_122 ?_
                            refine z_iload_n ZC 3 dX8_foresees_125 rfl rfl ?_
                            refine z_iald ZC 25 rfl dX8_foresees_126 (by omega) ?_
                            refine z_put ZC inUX8 tyX8_ok nmX8 0 rfl rfl 37 (by decide) uF_X8_203 rfl (rfl) (rfl) (Nat.le_of_ble_eq_true rfl) dX8_foresees_127 ?_
                            refine z_iinc ZC dX8_foresees_130 rfl (by decide) ?_
                            refine z_goto ZC 79 dX8_foresees_133 (by decide) ?_
                            refine z_ws (ws2 := [(h, .inr (8, [vZ (M1.2 0), .ref (a 1), .ref (a 2), vZ (M1.2 3), vZ (M1.2 4), .ref (a 5), .ref (a 6), .ref (a 7), .ref (a 8), .ref (a 9), .ref (a 10), .ref (a 11), vZ (M1.2 12), .ref (a 13), .ref (a 14), .ref (a 15), .ref (a 16), .ref (a 17), .ref (a 18), .ref (a 19), vZ (M1.2 20), vZ (M1.2 21), .ref (a 22), .ref (a 23), .ref (a 24), .ref (a 25), .ref (a 26), .ref (a 27), .ref (a 28), .ref (a 29), .ref (a 30), .ref (a 31), .ref (a 32), .ref (a 33), vZ (M1.2 34), .ref (a 35), vZ (M1.2 36), vZ ((M1.1 30) c), vZ ((M1.2 34) - (M.2 34)), .ref (a 39), .ref (a 40), vZ (M1.2 41), vZ (M1.2 42), vZ (M1.2 43)])), ((a 1), .inl (K.1, 10, .inl (ar (M1.1 1)))), ((a 2), .inl (K.1, 10, .inl (ar (M1.1 2)))), ((a 5), .inl (K.1, 16, .inl (ar (M1.1 5)))), ((a 6), .inl (K.1, 16, .inl (ar (M1.1 6)))), ((a 7), .inl (K.1, 16, .inl (ar (M1.1 7)))), ((a 8), .inl (K.1, 16, .inl (ar (M1.1 8)))), ((a 9), .inl (K.1, 16, .inl (ar (M1.1 9)))), ((a 10), .inl (K.1, 16, .inl (ar (M1.1 10)))), ((a 11), .inl (K.1, 100, .inl (ar (M1.1 11)))), ((a 13), .inl (K.1, 8, .inl (ar (M1.1 13)))), ((a 14), .inl (K.1, 8, .inl (ar (M1.1 14)))), ((a 15), .inl (K.1, 8, .inl (ar (M1.1 15)))), ((a 16), .inl (K.1, 8, .inl (ar (M1.1 16)))), ((a 17), .inl (K.1, 3200, .inl (ar (M1.1 17)))), ((a 18), .inl (K.1, 3200, .inl (ar (M1.1 18)))), ((a 19), .inl (K.2.1, 3200, .inl (ar (M1.1 19)))), ((a 22), .inl (K.1, 3400, .inl (ar (M1.1 22)))), ((a 23), .inl (K.1, 3400, .inl (ar (M1.1 23)))), ((a 24), .inl (K.1, 3400, .inl (ar (M1.1 24)))), ((a 25), .inl (K.1, 3400, .inl (ar (M1.1 25)))), ((a 26), .inl (K.1, 32, .inl (ar (M1.1 26)))), ((a 27), .inl (K.1, 32, .inl (ar (M1.1 27)))), ((a 28), .inl (K.2.1, 8, .inl (ar (M1.1 28)))), ((a 29), .inl (K.1, 8, .inl (ar (M1.1 29)))), ((a 30), .inl (K.1, 8, .inl (ar (M1.1 30)))), ((a 31), .inl (K.1, 10, .inl (ar (M1.1 31)))), ((a 32), .inl (K.1, 10, .inl (ar (M1.1 32)))), ((a 33), .inl (K.1, 10, .inl (ar (M1.1 33)))), ((a 35), .inl (K.1, 13711, .inl (ar (M1.1 35)))), ((a 39), .inl (K.1, 4, .inl (ar (M1.1 39)))), ((a 40), .inl (K.1, 4, .inl (ar (M1.1 40))))]) rfl (z_lv (lv2 := [(0, .ref h), (1, vZ (M.2 34)), (2, vZ 1), (3, vZ (c + 1))]) ⟨rfl, rfl, rfl, rfl, trivial⟩ ?_)
                            refine ih_79 1 (c + 1) ((M1.1 30) c) ?_ ?_ ?_ ?_ (dec_lt hm_79 (by omega))
                            · skip
                              omega
                            · skip
                              rw [aMx_next s0.1, ← s1]
                              omega
                            · skip
                              rw [aMi_next s0.1]
                              omega
                            · skip
                              omega
                refine z_ws (ws2 := [(h, .inr (8, [vZ (M1.2 0), .ref (a 1), .ref (a 2), vZ (M1.2 3), vZ (M1.2 4), .ref (a 5), .ref (a 6), .ref (a 7), .ref (a 8), .ref (a 9), .ref (a 10), .ref (a 11), vZ (M1.2 12), .ref (a 13), .ref (a 14), .ref (a 15), .ref (a 16), .ref (a 17), .ref (a 18), .ref (a 19), vZ (M1.2 20), vZ (M1.2 21), .ref (a 22), .ref (a 23), .ref (a 24), .ref (a 25), .ref (a 26), .ref (a 27), .ref (a 28), .ref (a 29), .ref (a 30), .ref (a 31), .ref (a 32), .ref (a 33), vZ (M1.2 34), .ref (a 35), vZ (M1.2 36), vZ (-1), vZ ((M1.2 34) - (M.2 34)), .ref (a 39), .ref (a 40), vZ (M1.2 41), vZ (M1.2 42), vZ (M1.2 43)])), ((a 1), .inl (K.1, 10, .inl (ar (M1.1 1)))), ((a 2), .inl (K.1, 10, .inl (ar (M1.1 2)))), ((a 5), .inl (K.1, 16, .inl (ar (M1.1 5)))), ((a 6), .inl (K.1, 16, .inl (ar (M1.1 6)))), ((a 7), .inl (K.1, 16, .inl (ar (M1.1 7)))), ((a 8), .inl (K.1, 16, .inl (ar (M1.1 8)))), ((a 9), .inl (K.1, 16, .inl (ar (M1.1 9)))), ((a 10), .inl (K.1, 16, .inl (ar (M1.1 10)))), ((a 11), .inl (K.1, 100, .inl (ar (M1.1 11)))), ((a 13), .inl (K.1, 8, .inl (ar (M1.1 13)))), ((a 14), .inl (K.1, 8, .inl (ar (M1.1 14)))), ((a 15), .inl (K.1, 8, .inl (ar (M1.1 15)))), ((a 16), .inl (K.1, 8, .inl (ar (M1.1 16)))), ((a 17), .inl (K.1, 3200, .inl (ar (M1.1 17)))), ((a 18), .inl (K.1, 3200, .inl (ar (M1.1 18)))), ((a 19), .inl (K.2.1, 3200, .inl (ar (M1.1 19)))), ((a 22), .inl (K.1, 3400, .inl (ar (M1.1 22)))), ((a 23), .inl (K.1, 3400, .inl (ar (M1.1 23)))), ((a 24), .inl (K.1, 3400, .inl (ar (M1.1 24)))), ((a 25), .inl (K.1, 3400, .inl (ar (M1.1 25)))), ((a 26), .inl (K.1, 32, .inl (ar (M1.1 26)))), ((a 27), .inl (K.1, 32, .inl (ar (M1.1 27)))), ((a 28), .inl (K.2.1, 8, .inl (ar (M1.1 28)))), ((a 29), .inl (K.1, 8, .inl (ar (M1.1 29)))), ((a 30), .inl (K.1, 8, .inl (ar (M1.1 30)))), ((a 31), .inl (K.1, 10, .inl (ar (M1.1 31)))), ((a 32), .inl (K.1, 10, .inl (ar (M1.1 32)))), ((a 33), .inl (K.1, 10, .inl (ar (M1.1 33)))), ((a 35), .inl (K.1, 13711, .inl (ar (M1.1 35)))), ((a 39), .inl (K.1, 4, .inl (ar (M1.1 39)))), ((a 40), .inl (K.1, 4, .inl (ar (M1.1 40))))]) rfl (z_lv (lv2 := [(0, .ref h), (1, vZ (M.2 34)), (2, vZ 1), (3, vZ 0)]) ⟨rfl, rfl, rfl, rfl, trivial⟩ ?_)
                refine lp_79 _ 1 0 (-1) ?_ ?_ ?_ ?_ (Nat.lt_succ_self _)
                · skip
                  omega
                · skip
                  rfl
                · skip
                  have q : aMi (A1.1 3) (0 : Int).toNat = 0 := rfl
                  rw [q]
                  omega
                · skip
                  omega
            · skip
              have hms1 : MS To Ne Cr M1 := ms_keep hms i9 rfl rfl
              refine z_aload_n ZC 0 dX8_foresees_41 rfl rfl ?_
              refine z_iconst ZC dX8_foresees_42 ?_
              refine z_callV ZC 1 (c_X8_hour zl D K h a M1 To Ne Cr A1 C1 0 (hcf) (hnw) (hms1) (hto) (i2) (i1) (by omega) (i12) (Or.inl rfl)) (gdV uM_X8_186 uI_X8_hour uS_X8_hour uN_X8 uC_X8_hour) (by decide +kernel) rfl ⟨by omega, by omega⟩ ⟨by omega, by omega⟩ (Nat.le_of_ble_eq_true rfl) [0, 1, 2, 3, 4, 5, 6, 7, 8, 9, 10, 11, 12, 13, 14, 15, 16, 17, 18, 19, 20, 21, 22, 23, 24, 25, 26, 27, 28, 29, 30, 31] rfl (by decide) rfl rfl rfl rfl dX8_foresees_43 (fun r w2 gc_43 gs_43 hp => ?_)
              obtain ⟨M2_43, C2_43, rfl, rfl, rfl, rfl, hmx2_43, hkp_43, hli2_43, hl0_43, hl1_43⟩ := hp
              refine z_ws (ws2 := [(h, .inr (8, [vZ (M2_43.2 0), .ref (a 1), .ref (a 2), vZ (M2_43.2 3), vZ (M2_43.2 4), .ref (a 5), .ref (a 6), .ref (a 7), .ref (a 8), .ref (a 9), .ref (a 10), .ref (a 11), vZ (M2_43.2 12), .ref (a 13), .ref (a 14), .ref (a 15), .ref (a 16), .ref (a 17), .ref (a 18), .ref (a 19), vZ (M2_43.2 20), vZ (M2_43.2 21), .ref (a 22), .ref (a 23), .ref (a 24), .ref (a 25), .ref (a 26), .ref (a 27), .ref (a 28), .ref (a 29), .ref (a 30), .ref (a 31), .ref (a 32), .ref (a 33), vZ (M2_43.2 34), .ref (a 35), vZ (M2_43.2 36), vZ (M2_43.2 37), vZ (M2_43.2 38), .ref (a 39), .ref (a 40), vZ (M2_43.2 41), vZ (M2_43.2 42), vZ (M2_43.2 43)])), ((a 1), .inl (K.1, 10, .inl (ar (M2_43.1 1)))), ((a 2), .inl (K.1, 10, .inl (ar (M2_43.1 2)))), ((a 5), .inl (K.1, 16, .inl (ar (M2_43.1 5)))), ((a 6), .inl (K.1, 16, .inl (ar (M2_43.1 6)))), ((a 7), .inl (K.1, 16, .inl (ar (M2_43.1 7)))), ((a 8), .inl (K.1, 16, .inl (ar (M2_43.1 8)))), ((a 9), .inl (K.1, 16, .inl (ar (M2_43.1 9)))), ((a 10), .inl (K.1, 16, .inl (ar (M2_43.1 10)))), ((a 11), .inl (K.1, 100, .inl (ar (M2_43.1 11)))), ((a 13), .inl (K.1, 8, .inl (ar (M2_43.1 13)))), ((a 14), .inl (K.1, 8, .inl (ar (M2_43.1 14)))), ((a 15), .inl (K.1, 8, .inl (ar (M2_43.1 15)))), ((a 16), .inl (K.1, 8, .inl (ar (M2_43.1 16)))), ((a 17), .inl (K.1, 3200, .inl (ar (M2_43.1 17)))), ((a 18), .inl (K.1, 3200, .inl (ar (M2_43.1 18)))), ((a 19), .inl (K.2.1, 3200, .inl (ar (M2_43.1 19)))), ((a 22), .inl (K.1, 3400, .inl (ar (M2_43.1 22)))), ((a 23), .inl (K.1, 3400, .inl (ar (M2_43.1 23)))), ((a 24), .inl (K.1, 3400, .inl (ar (M2_43.1 24)))), ((a 25), .inl (K.1, 3400, .inl (ar (M2_43.1 25)))), ((a 26), .inl (K.1, 32, .inl (ar (M2_43.1 26)))), ((a 27), .inl (K.1, 32, .inl (ar (M2_43.1 27)))), ((a 28), .inl (K.2.1, 8, .inl (ar (M2_43.1 28)))), ((a 29), .inl (K.1, 8, .inl (ar (M2_43.1 29)))), ((a 30), .inl (K.1, 8, .inl (ar (M2_43.1 30)))), ((a 31), .inl (K.1, 10, .inl (ar (M2_43.1 31)))), ((a 32), .inl (K.1, 10, .inl (ar (M2_43.1 32)))), ((a 33), .inl (K.1, 10, .inl (ar (M2_43.1 33)))), ((a 35), .inl (K.1, 13711, .inl (ar (M2_43.1 35)))), ((a 39), .inl (K.1, 4, .inl (ar (M2_43.1 39)))), ((a 40), .inl (K.1, 4, .inl (ar (M2_43.1 40))))]) rfl ?_
              refine z_st (st2 := []) rfl ?_
              refine z_goto ZC 31 dX8_foresees_46 (by decide) ?_
              refine z_ws (ws2 := [(h, .inr (8, [vZ (M2_43.2 0), .ref (a 1), .ref (a 2), vZ (M2_43.2 3), vZ (M2_43.2 4), .ref (a 5), .ref (a 6), .ref (a 7), .ref (a 8), .ref (a 9), .ref (a 10), .ref (a 11), vZ (M2_43.2 12), .ref (a 13), .ref (a 14), .ref (a 15), .ref (a 16), .ref (a 17), .ref (a 18), .ref (a 19), vZ (M2_43.2 20), vZ (M2_43.2 21), .ref (a 22), .ref (a 23), .ref (a 24), .ref (a 25), .ref (a 26), .ref (a 27), .ref (a 28), .ref (a 29), .ref (a 30), .ref (a 31), .ref (a 32), .ref (a 33), vZ (M2_43.2 34), .ref (a 35), vZ (M2_43.2 36), vZ (M2_43.2 37), vZ (M2_43.2 38), .ref (a 39), .ref (a 40), vZ (M2_43.2 41), vZ (M2_43.2 42), vZ (M2_43.2 43)])), ((a 1), .inl (K.1, 10, .inl (ar (M2_43.1 1)))), ((a 2), .inl (K.1, 10, .inl (ar (M2_43.1 2)))), ((a 5), .inl (K.1, 16, .inl (ar (M2_43.1 5)))), ((a 6), .inl (K.1, 16, .inl (ar (M2_43.1 6)))), ((a 7), .inl (K.1, 16, .inl (ar (M2_43.1 7)))), ((a 8), .inl (K.1, 16, .inl (ar (M2_43.1 8)))), ((a 9), .inl (K.1, 16, .inl (ar (M2_43.1 9)))), ((a 10), .inl (K.1, 16, .inl (ar (M2_43.1 10)))), ((a 11), .inl (K.1, 100, .inl (ar (M2_43.1 11)))), ((a 13), .inl (K.1, 8, .inl (ar (M2_43.1 13)))), ((a 14), .inl (K.1, 8, .inl (ar (M2_43.1 14)))), ((a 15), .inl (K.1, 8, .inl (ar (M2_43.1 15)))), ((a 16), .inl (K.1, 8, .inl (ar (M2_43.1 16)))), ((a 17), .inl (K.1, 3200, .inl (ar (M2_43.1 17)))), ((a 18), .inl (K.1, 3200, .inl (ar (M2_43.1 18)))), ((a 19), .inl (K.2.1, 3200, .inl (ar (M2_43.1 19)))), ((a 22), .inl (K.1, 3400, .inl (ar (M2_43.1 22)))), ((a 23), .inl (K.1, 3400, .inl (ar (M2_43.1 23)))), ((a 24), .inl (K.1, 3400, .inl (ar (M2_43.1 24)))), ((a 25), .inl (K.1, 3400, .inl (ar (M2_43.1 25)))), ((a 26), .inl (K.1, 32, .inl (ar (M2_43.1 26)))), ((a 27), .inl (K.1, 32, .inl (ar (M2_43.1 27)))), ((a 28), .inl (K.2.1, 8, .inl (ar (M2_43.1 28)))), ((a 29), .inl (K.1, 8, .inl (ar (M2_43.1 29)))), ((a 30), .inl (K.1, 8, .inl (ar (M2_43.1 30)))), ((a 31), .inl (K.1, 10, .inl (ar (M2_43.1 31)))), ((a 32), .inl (K.1, 10, .inl (ar (M2_43.1 32)))), ((a 33), .inl (K.1, 10, .inl (ar (M2_43.1 33)))), ((a 35), .inl (K.1, 13711, .inl (ar (M2_43.1 35)))), ((a 39), .inl (K.1, 4, .inl (ar (M2_43.1 39)))), ((a 40), .inl (K.1, 4, .inl (ar (M2_43.1 40))))]) rfl (z_lv (lv2 := [(0, .ref h), (1, vZ (M.2 34))]) ⟨rfl, rfl, trivial⟩ ?_)
              refine ih_31 M2_43 (aHour To Ne Cr A1) C2_43 ?_ ?_ ?_ ?_ ?_ ?_ ?_ ?_ ?_ ?_ (dec_lt hm_31 (by omega))
              · skip
                exact hmx2_43
              · skip
                exact ab_hour hcf hto i2 (by omega)
              · skip
                exact ar_hour i3 (by omega)
              · skip
                exact ao_hour i4
              · skip
                show aHour To Ne Cr A1 = aHrs To Ne Cr A (A1.2.1 0 + 1 - A.2.1 0).toNat
                rw [aHrs_next i8, ← i5]
              · skip
                show A.2.1 0 ≤ A1.2.1 0 + 1
                omega
              · skip
                exact KP.trans i9 (kp_1819 hkp_43 (hl0_43 rfl).1 (hl0_43 rfl).2) rfl rfl rfl rfl
              · skip
                exact (hkp_43.1 35 rfl).trans i10
              · skip
                intro x x1 x2
                show _ = aLk To Ne Cr A (A1.2.1 0 + 1 - A.2.1 0).toNat x
                rw [hli2_43 x x1 (by omega), aLk_next i8, ← i5, ← i11 x x1 x2]
                by_cases z : M1.1 33 x = -1 ∧ A1.1 4 x < aAt Ne Cr (aDrive Ne Cr A1) x
                · rw [if_pos z, if_pos ⟨x2, z⟩]
                · rw [if_neg z, if_neg (fun q => z q.2)]
              · skip
                intro x x1 x2
                rw [hli2_43 x x1 x2]
                have := i12 x x1 x2
                split <;> omega
        refine z_ws (ws2 := [(h, .inr (8, [vZ (M.2 0), .ref (a 1), .ref (a 2), vZ (M.2 3), vZ (M.2 4), .ref (a 5), .ref (a 6), .ref (a 7), .ref (a 8), .ref (a 9), .ref (a 10), .ref (a 11), vZ (M.2 12), .ref (a 13), .ref (a 14), .ref (a 15), .ref (a 16), .ref (a 17), .ref (a 18), .ref (a 19), vZ (M.2 20), vZ (M.2 21), .ref (a 22), .ref (a 23), .ref (a 24), .ref (a 25), .ref (a 26), .ref (a 27), .ref (a 28), .ref (a 29), .ref (a 30), .ref (a 31), .ref (a 32), .ref (a 33), vZ (M.2 34), .ref (a 35), vZ s2_2, vZ (M.2 37), vZ (M.2 38), .ref (a 39), .ref (a 40), vZ (M.2 41), vZ (M.2 42), vZ (M.2 43)])), ((a 1), .inl (K.1, 10, .inl (ar (M.1 1)))), ((a 2), .inl (K.1, 10, .inl (ar (M.1 2)))), ((a 5), .inl (K.1, 16, .inl (ar (M.1 5)))), ((a 6), .inl (K.1, 16, .inl (ar (M.1 6)))), ((a 7), .inl (K.1, 16, .inl (ar (M.1 7)))), ((a 8), .inl (K.1, 16, .inl (ar (M.1 8)))), ((a 9), .inl (K.1, 16, .inl (ar (M.1 9)))), ((a 10), .inl (K.1, 16, .inl (ar (M.1 10)))), ((a 11), .inl (K.1, 100, .inl (ar (M.1 11)))), ((a 13), .inl (K.1, 8, .inl (ar (M.1 13)))), ((a 14), .inl (K.1, 8, .inl (ar (M.1 14)))), ((a 15), .inl (K.1, 8, .inl (ar (M.1 15)))), ((a 16), .inl (K.1, 8, .inl (ar (M.1 16)))), ((a 17), .inl (K.1, 3200, .inl (ar (M.1 17)))), ((a 18), .inl (K.1, 3200, .inl (ar (M.1 18)))), ((a 19), .inl (K.2.1, 3200, .inl (ar (M.1 19)))), ((a 22), .inl (K.1, 3400, .inl (ar (M.1 22)))), ((a 23), .inl (K.1, 3400, .inl (ar (M.1 23)))), ((a 24), .inl (K.1, 3400, .inl (ar (M.1 24)))), ((a 25), .inl (K.1, 3400, .inl (ar (M.1 25)))), ((a 26), .inl (K.1, 32, .inl (ar (M.1 26)))), ((a 27), .inl (K.1, 32, .inl (ar (M.1 27)))), ((a 28), .inl (K.2.1, 8, .inl (ar (M.1 28)))), ((a 29), .inl (K.1, 8, .inl (ar (M.1 29)))), ((a 30), .inl (K.1, 8, .inl (ar (M.1 30)))), ((a 31), .inl (K.1, 10, .inl (ar (M.1 31)))), ((a 32), .inl (K.1, 10, .inl (ar (M.1 32)))), ((a 33), .inl (K.1, 10, .inl (ar Li))), ((a 35), .inl (K.1, 13711, .inl (ar K2_2))), ((a 39), .inl (K.1, 4, .inl (ar (M.1 39)))), ((a 40), .inl (K.1, 4, .inl (ar (M.1 40))))]) rfl (z_lv (lv2 := [(0, .ref h), (1, vZ (M.2 34))]) ⟨rfl, rfl, trivial⟩ ?_)
        refine lp_31 _ ((upf (upf M.1 33 Li) 35 K2_2), (upf M.2 36 s2_2)) A C ?_ ?_ ?_ ?_ ?_ ?_ ?_ ?_ ?_ ?_ (Nat.lt_succ_self _)
        · skip
          exact hmx
        · skip
          exact hab
        · skip
          exact har
        · skip
          exact hao
        · skip
          rw [show (A.2.1 0 - A.2.1 0).toNat = 0 by omega]; rfl
        · skip
          omega
        · skip
          exact ⟨fun k hk => (upf_out hk rfl).trans (upf_out hk rfl), fun k hk => upf_out hk rfl⟩
        · skip
          rfl
        · skip
          intro x x1 x2
          rw [show (A.2.1 0 - A.2.1 0).toNat = 0 by omega]
          exact hL x x1 (by omega)
        · skip
          intro x x1 x2
          show -1 ≤ Li x ∧ Li x ≤ 1000
          rw [hL x x1 (by omega)]
          omega
      · skip
        refine z_aload_n ZC 0 dX8_foresees_18 rfl rfl ?_
        refine z_get ZC inUX8 0 rfl rfl 33 (by decide) uF_X8_96 rfl dX8_foresees_19 ?_
        refine z_iload_n ZC 2 dX8_foresees_22 rfl rfl ?_
        refine z_iconst ZC dX8_foresees_23 ?_
        refine z_iast ZC 28 rfl dX8_foresees_24 (by omega) ?_
        refine z_iinc ZC dX8_foresees_25 rfl (by decide) ?_
        refine z_goto ZC 12 dX8_foresees_28 (by decide) ?_
        refine z_ws (ws2 := [(h, .inr (8, [vZ (M.2 0), .ref (a 1), .ref (a 2), vZ (M.2 3), vZ (M.2 4), .ref (a 5), .ref (a 6), .ref (a 7), .ref (a 8), .ref (a 9), .ref (a 10), .ref (a 11), vZ (M.2 12), .ref (a 13), .ref (a 14), .ref (a 15), .ref (a 16), .ref (a 17), .ref (a 18), .ref (a 19), vZ (M.2 20), vZ (M.2 21), .ref (a 22), .ref (a 23), .ref (a 24), .ref (a 25), .ref (a 26), .ref (a 27), .ref (a 28), .ref (a 29), .ref (a 30), .ref (a 31), .ref (a 32), .ref (a 33), vZ (M.2 34), .ref (a 35), vZ s2_2, vZ (M.2 37), vZ (M.2 38), .ref (a 39), .ref (a 40), vZ (M.2 41), vZ (M.2 42), vZ (M.2 43)])), ((a 1), .inl (K.1, 10, .inl (ar (M.1 1)))), ((a 2), .inl (K.1, 10, .inl (ar (M.1 2)))), ((a 5), .inl (K.1, 16, .inl (ar (M.1 5)))), ((a 6), .inl (K.1, 16, .inl (ar (M.1 6)))), ((a 7), .inl (K.1, 16, .inl (ar (M.1 7)))), ((a 8), .inl (K.1, 16, .inl (ar (M.1 8)))), ((a 9), .inl (K.1, 16, .inl (ar (M.1 9)))), ((a 10), .inl (K.1, 16, .inl (ar (M.1 10)))), ((a 11), .inl (K.1, 100, .inl (ar (M.1 11)))), ((a 13), .inl (K.1, 8, .inl (ar (M.1 13)))), ((a 14), .inl (K.1, 8, .inl (ar (M.1 14)))), ((a 15), .inl (K.1, 8, .inl (ar (M.1 15)))), ((a 16), .inl (K.1, 8, .inl (ar (M.1 16)))), ((a 17), .inl (K.1, 3200, .inl (ar (M.1 17)))), ((a 18), .inl (K.1, 3200, .inl (ar (M.1 18)))), ((a 19), .inl (K.2.1, 3200, .inl (ar (M.1 19)))), ((a 22), .inl (K.1, 3400, .inl (ar (M.1 22)))), ((a 23), .inl (K.1, 3400, .inl (ar (M.1 23)))), ((a 24), .inl (K.1, 3400, .inl (ar (M.1 24)))), ((a 25), .inl (K.1, 3400, .inl (ar (M.1 25)))), ((a 26), .inl (K.1, 32, .inl (ar (M.1 26)))), ((a 27), .inl (K.1, 32, .inl (ar (M.1 27)))), ((a 28), .inl (K.2.1, 8, .inl (ar (M.1 28)))), ((a 29), .inl (K.1, 8, .inl (ar (M.1 29)))), ((a 30), .inl (K.1, 8, .inl (ar (M.1 30)))), ((a 31), .inl (K.1, 10, .inl (ar (M.1 31)))), ((a 32), .inl (K.1, 10, .inl (ar (M.1 32)))), ((a 33), .inl (K.1, 10, .inl (ar (upz Li t (-1))))), ((a 35), .inl (K.1, 13711, .inl (ar K2_2))), ((a 39), .inl (K.1, 4, .inl (ar (M.1 39)))), ((a 40), .inl (K.1, 4, .inl (ar (M.1 40))))]) rfl (z_lv (lv2 := [(0, .ref h), (1, vZ (M.2 34)), (2, vZ (t + 1))]) ⟨rfl, rfl, rfl, trivial⟩ ?_)
        refine ih_12 (t + 1) (upz Li t (-1)) ?_ ?_ (by omega)
        · skip
          omega
        · skip
          intro j a b
          unfold upz
          split
          · rfl
          · exact hL j a (by omega)
  refine z_ws (ws2 := [(h, .inr (8, [vZ (M.2 0), .ref (a 1), .ref (a 2), vZ (M.2 3), vZ (M.2 4), .ref (a 5), .ref (a 6), .ref (a 7), .ref (a 8), .ref (a 9), .ref (a 10), .ref (a 11), vZ (M.2 12), .ref (a 13), .ref (a 14), .ref (a 15), .ref (a 16), .ref (a 17), .ref (a 18), .ref (a 19), vZ (M.2 20), vZ (M.2 21), .ref (a 22), .ref (a 23), .ref (a 24), .ref (a 25), .ref (a 26), .ref (a 27), .ref (a 28), .ref (a 29), .ref (a 30), .ref (a 31), .ref (a 32), .ref (a 33), vZ (M.2 34), .ref (a 35), vZ s2_2, vZ (M.2 37), vZ (M.2 38), .ref (a 39), .ref (a 40), vZ (M.2 41), vZ (M.2 42), vZ (M.2 43)])), ((a 1), .inl (K.1, 10, .inl (ar (M.1 1)))), ((a 2), .inl (K.1, 10, .inl (ar (M.1 2)))), ((a 5), .inl (K.1, 16, .inl (ar (M.1 5)))), ((a 6), .inl (K.1, 16, .inl (ar (M.1 6)))), ((a 7), .inl (K.1, 16, .inl (ar (M.1 7)))), ((a 8), .inl (K.1, 16, .inl (ar (M.1 8)))), ((a 9), .inl (K.1, 16, .inl (ar (M.1 9)))), ((a 10), .inl (K.1, 16, .inl (ar (M.1 10)))), ((a 11), .inl (K.1, 100, .inl (ar (M.1 11)))), ((a 13), .inl (K.1, 8, .inl (ar (M.1 13)))), ((a 14), .inl (K.1, 8, .inl (ar (M.1 14)))), ((a 15), .inl (K.1, 8, .inl (ar (M.1 15)))), ((a 16), .inl (K.1, 8, .inl (ar (M.1 16)))), ((a 17), .inl (K.1, 3200, .inl (ar (M.1 17)))), ((a 18), .inl (K.1, 3200, .inl (ar (M.1 18)))), ((a 19), .inl (K.2.1, 3200, .inl (ar (M.1 19)))), ((a 22), .inl (K.1, 3400, .inl (ar (M.1 22)))), ((a 23), .inl (K.1, 3400, .inl (ar (M.1 23)))), ((a 24), .inl (K.1, 3400, .inl (ar (M.1 24)))), ((a 25), .inl (K.1, 3400, .inl (ar (M.1 25)))), ((a 26), .inl (K.1, 32, .inl (ar (M.1 26)))), ((a 27), .inl (K.1, 32, .inl (ar (M.1 27)))), ((a 28), .inl (K.2.1, 8, .inl (ar (M.1 28)))), ((a 29), .inl (K.1, 8, .inl (ar (M.1 29)))), ((a 30), .inl (K.1, 8, .inl (ar (M.1 30)))), ((a 31), .inl (K.1, 10, .inl (ar (M.1 31)))), ((a 32), .inl (K.1, 10, .inl (ar (M.1 32)))), ((a 33), .inl (K.1, 10, .inl (ar (M.1 33)))), ((a 35), .inl (K.1, 13711, .inl (ar K2_2))), ((a 39), .inl (K.1, 4, .inl (ar (M.1 39)))), ((a 40), .inl (K.1, 4, .inl (ar (M.1 40))))]) rfl (z_lv (lv2 := [(0, .ref h), (1, vZ (M.2 34)), (2, vZ 0)]) ⟨rfl, rfl, rfl, trivial⟩ ?_)
  refine lp_12 _ 0 (M.1 33) ?_ ?_ (Nat.lt_succ_self _)
  · skip
    omega
  · skip
    intro j a b; omega

set_option maxHeartbeats 4000000 in
set_option maxRecDepth 100000 in
theorem c_X8_foretold (zl : Launch) (D : va_G) (K : tyK) (h : Nat) (a : Nat → Nat) (M : Bd) (To : Bd) (Ne : Bd) (Cr : Bd) (A : Ab) (C : Int → List Pt3) (what : Int) (hz_what : -2147483648 ≤ what ∧ what < 2147483648) (hcf : Cfg Ne Cr) (hnw : NW Ne) (hms : MS To Ne Cr M) (hto : 0 ≤ To.2 3 ∧ To.2 3 ≤ 10) (hab : AB Ne Cr A) (hmx : MX Cr A M C) (har : AR Cr A) (hao : AO A) (hli : ∀ t : Int, 0 ≤ t → t < 10 → -1 ≤ M.1 33 t ∧ M.1 33 t ≤ 1000) : Mz zl yX8_foretold cX8_foretold 2 (some .int) 5 114 0 0 D K [.ref h, vZ what] (wMo K h a M) (fun r_ w2_ gc gs => ∃ (M2 : Bd), ∃ (v : Int), r_ = some (vZ v) ∧ w2_ = (wMo K h a M2) ∧ gc = 0 ∧ gs = 0 ∧ ((what = 0 ∧ v = aFl Cr (aHrs To Ne Cr A (200 - A.2.1 0).toNat)) ∨ (what = 1 ∧ v = (aHrs To Ne Cr A (200 - A.2.1 0).toNat).2.1 1 - A.2.1 1) ∨ (¬ (what = 0 ∨ what = 1) ∧ v = -1)) ∧ (MX Cr A M2 C) ∧ (KP [22, 23, 24, 25, 26, 27, 28, 29, 30, 31, 32, 33, 35] [20, 21, 34, 36, 37, 38] M M2) ∧ (∀ t : Int, 0 ≤ t → t < 10 → -1 ≤ M2.1 33 t ∧ M2.1 33 t ≤ 1000)) := by
  refine Mz.ofZ (by decide) rfl (Nat.le_of_ble_eq_true rfl) ?_
  intro zp ze zR zs zm zargs zbelow zmeth zc zA zQ ZC ZE hRf hRc hRs hRl
  refine z_iload_n ZC 1 dX8_foretold_0 rfl rfl ?_
  refine z_iconst ZC dX8_foretold_1 ?_
  refine z_iconst ZC dX8_foretold_2 ?_
  refine z_callS ZC 3 (c_X8_in zl D K what 0 1 (by omega) (by omega) (by omega)) (gdS uM_X8_114 uZ_X8_in uN_X8 uC_X8_in) (by decide +kernel) rfl ⟨by omega, by omega⟩ ⟨by omega, by omega⟩ (Nat.le_of_ble_eq_true rfl) [] rfl (by decide) rfl dX8_foretold_3 (fun r w2 gc_3 gs_3 hp => ?_)
  obtain ⟨b_3, rfl, rfl, rfl, rfl, hb_3⟩ := hp
  refine z_st (st2 := [vZ b_3]) rfl ?_
  refine z_if_ne ZC 11 dX8_foretold_6 (by decide) (by omega) (fun c_6 => ?_) (fun c_6 => ?_)
  · skip
    refine z_aload_n ZC 0 dX8_foretold_11 rfl rfl ?_
    refine z_callV ZC 0 (c_X8_foresees zl D K h a M To Ne Cr A C (hcf) (hnw) (hms) (hto) (hab) (hmx) (har) (hao)) (gdV uM_X8_206 uI_X8_foresees uS_X8_foresees uN_X8 uC_X8_foresees) (by decide +kernel) rfl ⟨by omega, by omega⟩ ⟨by omega, by omega⟩ (Nat.le_of_ble_eq_true rfl) [0, 1, 2, 3, 4, 5, 6, 7, 8, 9, 10, 11, 12, 13, 14, 15, 16, 17, 18, 19, 20, 21, 22, 23, 24, 25, 26, 27, 28, 29, 30, 31] rfl (by decide) rfl rfl rfl rfl dX8_foretold_12 (fun r w2 gc_12 gs_12 hp => ?_)
    obtain ⟨M2_12, rfl, rfl, rfl, rfl, hmx2_12, hkp_12, h37_12, h38_12, hlk_12, hli2_12⟩ := hp
    refine z_ws (ws2 := [(h, .inr (8, [vZ (M2_12.2 0), .ref (a 1), .ref (a 2), vZ (M2_12.2 3), vZ (M2_12.2 4), .ref (a 5), .ref (a 6), .ref (a 7), .ref (a 8), .ref (a 9), .ref (a 10), .ref (a 11), vZ (M2_12.2 12), .ref (a 13), .ref (a 14), .ref (a 15), .ref (a 16), .ref (a 17), .ref (a 18), .ref (a 19), vZ (M2_12.2 20), vZ (M2_12.2 21), .ref (a 22), .ref (a 23), .ref (a 24), .ref (a 25), .ref (a 26), .ref (a 27), .ref (a 28), .ref (a 29), .ref (a 30), .ref (a 31), .ref (a 32), .ref (a 33), vZ (M2_12.2 34), .ref (a 35), vZ (M2_12.2 36), vZ (M2_12.2 37), vZ (M2_12.2 38), .ref (a 39), .ref (a 40), vZ (M2_12.2 41), vZ (M2_12.2 42), vZ (M2_12.2 43)])), ((a 1), .inl (K.1, 10, .inl (ar (M2_12.1 1)))), ((a 2), .inl (K.1, 10, .inl (ar (M2_12.1 2)))), ((a 5), .inl (K.1, 16, .inl (ar (M2_12.1 5)))), ((a 6), .inl (K.1, 16, .inl (ar (M2_12.1 6)))), ((a 7), .inl (K.1, 16, .inl (ar (M2_12.1 7)))), ((a 8), .inl (K.1, 16, .inl (ar (M2_12.1 8)))), ((a 9), .inl (K.1, 16, .inl (ar (M2_12.1 9)))), ((a 10), .inl (K.1, 16, .inl (ar (M2_12.1 10)))), ((a 11), .inl (K.1, 100, .inl (ar (M2_12.1 11)))), ((a 13), .inl (K.1, 8, .inl (ar (M2_12.1 13)))), ((a 14), .inl (K.1, 8, .inl (ar (M2_12.1 14)))), ((a 15), .inl (K.1, 8, .inl (ar (M2_12.1 15)))), ((a 16), .inl (K.1, 8, .inl (ar (M2_12.1 16)))), ((a 17), .inl (K.1, 3200, .inl (ar (M2_12.1 17)))), ((a 18), .inl (K.1, 3200, .inl (ar (M2_12.1 18)))), ((a 19), .inl (K.2.1, 3200, .inl (ar (M2_12.1 19)))), ((a 22), .inl (K.1, 3400, .inl (ar (M2_12.1 22)))), ((a 23), .inl (K.1, 3400, .inl (ar (M2_12.1 23)))), ((a 24), .inl (K.1, 3400, .inl (ar (M2_12.1 24)))), ((a 25), .inl (K.1, 3400, .inl (ar (M2_12.1 25)))), ((a 26), .inl (K.1, 32, .inl (ar (M2_12.1 26)))), ((a 27), .inl (K.1, 32, .inl (ar (M2_12.1 27)))), ((a 28), .inl (K.2.1, 8, .inl (ar (M2_12.1 28)))), ((a 29), .inl (K.1, 8, .inl (ar (M2_12.1 29)))), ((a 30), .inl (K.1, 8, .inl (ar (M2_12.1 30)))), ((a 31), .inl (K.1, 10, .inl (ar (M2_12.1 31)))), ((a 32), .inl (K.1, 10, .inl (ar (M2_12.1 32)))), ((a 33), .inl (K.1, 10, .inl (ar (M2_12.1 33)))), ((a 35), .inl (K.1, 13711, .inl (ar (M2_12.1 35)))), ((a 39), .inl (K.1, 4, .inl (ar (M2_12.1 39)))), ((a 40), .inl (K.1, 4, .inl (ar (M2_12.1 40))))]) rfl ?_
    refine z_st (st2 := []) rfl ?_
    refine z_iload_n ZC 1 dX8_foretold_15 rfl rfl ?_
    refine z_if_ne ZC 26 dX8_foretold_16 (by decide) (by omega) (fun c_16 => ?_) (fun c_16 => ?_)
    · skip
      refine z_aload_n ZC 0 dX8_foretold_26 rfl rfl ?_
      refine z_get ZC inUX8 0 rfl rfl 38 (by decide) uF_X8_200 rfl dX8_foretold_27 ?_
      refine z_iret ZC ZE dX8_foretold_30 (by omega) (by omega) (Nat.le_of_ble_eq_true rfl) ⟨M2_12, (M2_12.2 38), rfl, rfl, by omega, by omega, ?_, ?_, ?_, ?_⟩
      · skip
        exact Or.inr (Or.inl ⟨by omega, h38_12⟩)
      · skip
        exact hmx2_12
      · skip
        exact hkp_12
      · skip
        exact hli2_12
    · skip
      refine z_aload_n ZC 0 dX8_foretold_19 rfl rfl ?_
      refine z_get ZC inUX8 0 rfl rfl 37 (by decide) uF_X8_203 rfl dX8_foretold_20 ?_
      refine z_goto ZC 30 dX8_foretold_23 (by decide) ?_
      refine z_iret ZC ZE dX8_foretold_30 (by omega) (by omega) (Nat.le_of_ble_eq_true rfl) ⟨M2_12, (M2_12.2 37), rfl, rfl, by omega, by omega, ?_, ?_, ?_, ?_⟩
      · skip
        exact Or.inl ⟨by omega, h37_12⟩
      · skip
        exact hmx2_12
      · skip
        exact hkp_12
      · skip
        exact hli2_12
  · skip
    refine z_iconst ZC dX8_foretold_9 ?_
    refine z_iret ZC ZE dX8_foretold_10 (by omega) (by omega) (Nat.le_of_ble_eq_true rfl) ⟨M, (-1), rfl, rfl, by omega, by omega, ?_, ?_, ?_, ?_⟩
    · skip
      exact Or.inr (Or.inr ⟨by omega, rfl⟩)
    · skip
      exact hmx
    · skip
      exact KP.refl _ _ _
    · skip
      exact hli

set_option maxHeartbeats 4000000 in
set_option maxRecDepth 100000 in
theorem c_X8_lacks (zl : Launch) (D : va_G) (K : tyK) (h : Nat) (a : Nat → Nat) (M : Bd) (To : Bd) (Ne : Bd) (Cr : Bd) (A : Ab) (C : Int → List Pt3) (t : Int) (hz_t : -2147483648 ≤ t ∧ t < 2147483648) (hcf : Cfg Ne Cr) (hnw : NW Ne) (hms : MS To Ne Cr M) (hto : 0 ≤ To.2 3 ∧ To.2 3 ≤ 10) (hab : AB Ne Cr A) (hmx : MX Cr A M C) (har : AR Cr A) (hao : AO A) (hli : ∀ t : Int, 0 ≤ t → t < 10 → -1 ≤ M.1 33 t ∧ M.1 33 t ≤ 1000) : Mz zl yX8_lacks cX8_lacks 2 (some .int) 5 114 0 0 D K [.ref h, vZ t] (wMo K h a M) (fun r_ w2_ gc gs => ∃ (M2 : Bd), ∃ (v : Int), r_ = some (vZ v) ∧ w2_ = (wMo K h a M2) ∧ gc = 0 ∧ gs = 0 ∧ (((0 ≤ t ∧ t < To.2 3) ∧ v = aLk To Ne Cr A (200 - A.2.1 0).toNat t) ∨ (¬ (0 ≤ t ∧ t < To.2 3) ∧ v = -1)) ∧ (MX Cr A M2 C) ∧ (KP [22, 23, 24, 25, 26, 27, 28, 29, 30, 31, 32, 33, 35] [20, 21, 34, 36, 37, 38] M M2) ∧ (∀ t : Int, 0 ≤ t → t < 10 → -1 ≤ M2.1 33 t ∧ M2.1 33 t ≤ 1000)) := by
  refine Mz.ofZ (by decide) rfl (Nat.le_of_ble_eq_true rfl) ?_
  intro zp ze zR zs zm zargs zbelow zmeth zc zA zQ ZC ZE hRf hRc hRs hRl
  have e0 : M.2 0 = To.2 3 := hms.1.1
  refine z_aload_n ZC 0 dX8_lacks_0 rfl rfl ?_
  refine z_iload_n ZC 1 dX8_lacks_1 rfl rfl ?_
  refine z_callV ZC 1 (c_X8_isTown zl D K h a M t (by omega) (by omega)) (gdV uM_X8_125 uI_X8_isTown uS_X8_isTown uN_X8 uC_X8_isTown) (by decide +kernel) rfl ⟨by omega, by omega⟩ ⟨by omega, by omega⟩ (Nat.le_of_ble_eq_true rfl) [0, 1, 2, 3, 4, 5, 6, 7, 8, 9, 10, 11, 12, 13, 14, 15, 16, 17, 18, 19, 20, 21, 22, 23, 24, 25, 26, 27, 28, 29, 30, 31] rfl (by decide) rfl rfl rfl rfl dX8_lacks_2 (fun r w2 gc_2 gs_2 hp => ?_)
  obtain ⟨v_2, rfl, rfl, rfl, rfl, hb_2⟩ := hp
  refine z_ws (ws2 := [(h, .inr (8, [vZ (M.2 0), .ref (a 1), .ref (a 2), vZ (M.2 3), vZ (M.2 4), .ref (a 5), .ref (a 6), .ref (a 7), .ref (a 8), .ref (a 9), .ref (a 10), .ref (a 11), vZ (M.2 12), .ref (a 13), .ref (a 14), .ref (a 15), .ref (a 16), .ref (a 17), .ref (a 18), .ref (a 19), vZ (M.2 20), vZ (M.2 21), .ref (a 22), .ref (a 23), .ref (a 24), .ref (a 25), .ref (a 26), .ref (a 27), .ref (a 28), .ref (a 29), .ref (a 30), .ref (a 31), .ref (a 32), .ref (a 33), vZ (M.2 34), .ref (a 35), vZ (M.2 36), vZ (M.2 37), vZ (M.2 38), .ref (a 39), .ref (a 40), vZ (M.2 41), vZ (M.2 42), vZ (M.2 43)])), ((a 1), .inl (K.1, 10, .inl (ar (M.1 1)))), ((a 2), .inl (K.1, 10, .inl (ar (M.1 2)))), ((a 5), .inl (K.1, 16, .inl (ar (M.1 5)))), ((a 6), .inl (K.1, 16, .inl (ar (M.1 6)))), ((a 7), .inl (K.1, 16, .inl (ar (M.1 7)))), ((a 8), .inl (K.1, 16, .inl (ar (M.1 8)))), ((a 9), .inl (K.1, 16, .inl (ar (M.1 9)))), ((a 10), .inl (K.1, 16, .inl (ar (M.1 10)))), ((a 11), .inl (K.1, 100, .inl (ar (M.1 11)))), ((a 13), .inl (K.1, 8, .inl (ar (M.1 13)))), ((a 14), .inl (K.1, 8, .inl (ar (M.1 14)))), ((a 15), .inl (K.1, 8, .inl (ar (M.1 15)))), ((a 16), .inl (K.1, 8, .inl (ar (M.1 16)))), ((a 17), .inl (K.1, 3200, .inl (ar (M.1 17)))), ((a 18), .inl (K.1, 3200, .inl (ar (M.1 18)))), ((a 19), .inl (K.2.1, 3200, .inl (ar (M.1 19)))), ((a 22), .inl (K.1, 3400, .inl (ar (M.1 22)))), ((a 23), .inl (K.1, 3400, .inl (ar (M.1 23)))), ((a 24), .inl (K.1, 3400, .inl (ar (M.1 24)))), ((a 25), .inl (K.1, 3400, .inl (ar (M.1 25)))), ((a 26), .inl (K.1, 32, .inl (ar (M.1 26)))), ((a 27), .inl (K.1, 32, .inl (ar (M.1 27)))), ((a 28), .inl (K.2.1, 8, .inl (ar (M.1 28)))), ((a 29), .inl (K.1, 8, .inl (ar (M.1 29)))), ((a 30), .inl (K.1, 8, .inl (ar (M.1 30)))), ((a 31), .inl (K.1, 10, .inl (ar (M.1 31)))), ((a 32), .inl (K.1, 10, .inl (ar (M.1 32)))), ((a 33), .inl (K.1, 10, .inl (ar (M.1 33)))), ((a 35), .inl (K.1, 13711, .inl (ar (M.1 35)))), ((a 39), .inl (K.1, 4, .inl (ar (M.1 39)))), ((a 40), .inl (K.1, 4, .inl (ar (M.1 40))))]) rfl ?_
  refine z_st (st2 := [vZ v_2]) rfl ?_
  refine z_if_ne ZC 10 dX8_lacks_5 (by decide) (by omega) (fun c_5 => ?_) (fun c_5 => ?_)
  · skip
    refine z_aload_n ZC 0 dX8_lacks_10 rfl rfl ?_
    refine z_callV ZC 0 (c_X8_foresees zl D K h a M To Ne Cr A C (hcf) (hnw) (hms) (hto) (hab) (hmx) (har) (hao)) (gdV uM_X8_206 uI_X8_foresees uS_X8_foresees uN_X8 uC_X8_foresees) (by decide +kernel) rfl ⟨by omega, by omega⟩ ⟨by omega, by omega⟩ (Nat.le_of_ble_eq_true rfl) [0, 1, 2, 3, 4, 5, 6, 7, 8, 9, 10, 11, 12, 13, 14, 15, 16, 17, 18, 19, 20, 21, 22, 23, 24, 25, 26, 27, 28, 29, 30, 31] rfl (by decide) rfl rfl rfl rfl dX8_lacks_11 (fun r w2 gc_11 gs_11 hp => ?_)
    obtain ⟨M2_11, rfl, rfl, rfl, rfl, hmx2_11, hkp_11, h37_11, h38_11, hlk_11, hli2_11⟩ := hp
    refine z_ws (ws2 := [(h, .inr (8, [vZ (M2_11.2 0), .ref (a 1), .ref (a 2), vZ (M2_11.2 3), vZ (M2_11.2 4), .ref (a 5), .ref (a 6), .ref (a 7), .ref (a 8), .ref (a 9), .ref (a 10), .ref (a 11), vZ (M2_11.2 12), .ref (a 13), .ref (a 14), .ref (a 15), .ref (a 16), .ref (a 17), .ref (a 18), .ref (a 19), vZ (M2_11.2 20), vZ (M2_11.2 21), .ref (a 22), .ref (a 23), .ref (a 24), .ref (a 25), .ref (a 26), .ref (a 27), .ref (a 28), .ref (a 29), .ref (a 30), .ref (a 31), .ref (a 32), .ref (a 33), vZ (M2_11.2 34), .ref (a 35), vZ (M2_11.2 36), vZ (M2_11.2 37), vZ (M2_11.2 38), .ref (a 39), .ref (a 40), vZ (M2_11.2 41), vZ (M2_11.2 42), vZ (M2_11.2 43)])), ((a 1), .inl (K.1, 10, .inl (ar (M2_11.1 1)))), ((a 2), .inl (K.1, 10, .inl (ar (M2_11.1 2)))), ((a 5), .inl (K.1, 16, .inl (ar (M2_11.1 5)))), ((a 6), .inl (K.1, 16, .inl (ar (M2_11.1 6)))), ((a 7), .inl (K.1, 16, .inl (ar (M2_11.1 7)))), ((a 8), .inl (K.1, 16, .inl (ar (M2_11.1 8)))), ((a 9), .inl (K.1, 16, .inl (ar (M2_11.1 9)))), ((a 10), .inl (K.1, 16, .inl (ar (M2_11.1 10)))), ((a 11), .inl (K.1, 100, .inl (ar (M2_11.1 11)))), ((a 13), .inl (K.1, 8, .inl (ar (M2_11.1 13)))), ((a 14), .inl (K.1, 8, .inl (ar (M2_11.1 14)))), ((a 15), .inl (K.1, 8, .inl (ar (M2_11.1 15)))), ((a 16), .inl (K.1, 8, .inl (ar (M2_11.1 16)))), ((a 17), .inl (K.1, 3200, .inl (ar (M2_11.1 17)))), ((a 18), .inl (K.1, 3200, .inl (ar (M2_11.1 18)))), ((a 19), .inl (K.2.1, 3200, .inl (ar (M2_11.1 19)))), ((a 22), .inl (K.1, 3400, .inl (ar (M2_11.1 22)))), ((a 23), .inl (K.1, 3400, .inl (ar (M2_11.1 23)))), ((a 24), .inl (K.1, 3400, .inl (ar (M2_11.1 24)))), ((a 25), .inl (K.1, 3400, .inl (ar (M2_11.1 25)))), ((a 26), .inl (K.1, 32, .inl (ar (M2_11.1 26)))), ((a 27), .inl (K.1, 32, .inl (ar (M2_11.1 27)))), ((a 28), .inl (K.2.1, 8, .inl (ar (M2_11.1 28)))), ((a 29), .inl (K.1, 8, .inl (ar (M2_11.1 29)))), ((a 30), .inl (K.1, 8, .inl (ar (M2_11.1 30)))), ((a 31), .inl (K.1, 10, .inl (ar (M2_11.1 31)))), ((a 32), .inl (K.1, 10, .inl (ar (M2_11.1 32)))), ((a 33), .inl (K.1, 10, .inl (ar (M2_11.1 33)))), ((a 35), .inl (K.1, 13711, .inl (ar (M2_11.1 35)))), ((a 39), .inl (K.1, 4, .inl (ar (M2_11.1 39)))), ((a 40), .inl (K.1, 4, .inl (ar (M2_11.1 40))))]) rfl ?_
    refine z_st (st2 := []) rfl ?_
    refine z_aload_n ZC 0 dX8_lacks_14 rfl rfl ?_
    refine z_get ZC inUX8 0 rfl rfl 33 (by decide) uF_X8_96 rfl dX8_lacks_15 ?_
    refine z_iload_n ZC 1 dX8_lacks_18 rfl rfl ?_
    refine z_iald ZC 28 rfl dX8_lacks_19 (by omega) ?_
    refine z_iret ZC ZE dX8_lacks_20 (by omega) (by omega) (Nat.le_of_ble_eq_true rfl) ⟨M2_11, ((M2_11.1 33) t), rfl, rfl, by omega, by omega, ?_, ?_, ?_, ?_⟩
    · skip
      exact Or.inl ⟨by omega, hlk_11 t (by omega) (by omega)⟩
    · skip
      exact hmx2_11
    · skip
      exact hkp_11
    · skip
      exact hli2_11
  · skip
    refine z_iconst ZC dX8_lacks_8 ?_
    refine z_iret ZC ZE dX8_lacks_9 (by omega) (by omega) (Nat.le_of_ble_eq_true rfl) ⟨M, (-1), rfl, rfl, by omega, by omega, ?_, ?_, ?_, ?_⟩
    · skip
      exact Or.inr ⟨by omega, rfl⟩
    · skip
      exact hmx
    · skip
      exact KP.refl _ _ _
    · skip
      exact hli

set_option maxHeartbeats 4000000 in
set_option maxRecDepth 100000 in
theorem c_X8_queue (zl : Launch) (D : va_G) (K : tyK) (h : Nat) (a : Nat → Nat) (M : Bd) (Ne : Bd) (Cr : Bd) (A : Ab) (C : Int → List Pt3) (rd : Int) (hz_rd : -2147483648 ≤ rd ∧ rd < 2147483648) (hcf : Cfg Ne Cr) (hnw : NW Ne) (hmn : MSn Ne M) (hmc : MSc Cr M) (hmd : MD Cr A M C []) (hus : M.2 21 ≤ 3400) (hok : AOK Ne Cr A) : Mz zl yX8_queue cX8_queue 2 (some .int) 2 43 0 0 D K [.ref h, vZ rd] (wMo K h a M) (fun r_ w2_ gc gs => ∃ (v : Int), r_ = some (vZ v) ∧ w2_ = (wMo K h a M) ∧ gc = 0 ∧ gs = 0 ∧ (((0 ≤ rd ∧ rd < Ne.2 8) ∧ v = ((A.2.2.1 rd).length : Int) ∧ True) ∨ (¬ (0 ≤ rd ∧ rd < Ne.2 8) ∧ v = -1 ∧ True))) := by
  refine Mz.ofZ (by decide) rfl (Nat.le_of_ble_eq_true rfl) ?_
  intro zp ze zR zs zm zargs zbelow zmeth zc zA zQ ZC ZE hRf hRc hRs hRl
  have hr8 := hcf.1
  have e4 : M.2 4 = Ne.2 8 := hmn.1
  refine z_aload_n ZC 0 dX8_queue_0 rfl rfl ?_
  refine z_iload_n ZC 1 dX8_queue_1 rfl rfl ?_
  refine z_callV ZC 1 (c_X8_isRoad zl D K h a M rd (by omega) (by omega)) (gdV uM_X8_145 uI_X8_isRoad uS_X8_isRoad uN_X8 uC_X8_isRoad) (by decide +kernel) rfl ⟨by omega, by omega⟩ ⟨by omega, by omega⟩ (Nat.le_of_ble_eq_true rfl) [0, 1, 2, 3, 4, 5, 6, 7, 8, 9, 10, 11, 12, 13, 14, 15, 16, 17, 18, 19, 20, 21, 22, 23, 24, 25, 26, 27, 28, 29, 30, 31] rfl (by decide) rfl rfl rfl rfl dX8_queue_2 (fun r w2 gc_2 gs_2 hp => ?_)
  obtain ⟨v_2, rfl, rfl, rfl, rfl, hb_2⟩ := hp
  refine z_ws (ws2 := [(h, .inr (8, [vZ (M.2 0), .ref (a 1), .ref (a 2), vZ (M.2 3), vZ (M.2 4), .ref (a 5), .ref (a 6), .ref (a 7), .ref (a 8), .ref (a 9), .ref (a 10), .ref (a 11), vZ (M.2 12), .ref (a 13), .ref (a 14), .ref (a 15), .ref (a 16), .ref (a 17), .ref (a 18), .ref (a 19), vZ (M.2 20), vZ (M.2 21), .ref (a 22), .ref (a 23), .ref (a 24), .ref (a 25), .ref (a 26), .ref (a 27), .ref (a 28), .ref (a 29), .ref (a 30), .ref (a 31), .ref (a 32), .ref (a 33), vZ (M.2 34), .ref (a 35), vZ (M.2 36), vZ (M.2 37), vZ (M.2 38), .ref (a 39), .ref (a 40), vZ (M.2 41), vZ (M.2 42), vZ (M.2 43)])), ((a 1), .inl (K.1, 10, .inl (ar (M.1 1)))), ((a 2), .inl (K.1, 10, .inl (ar (M.1 2)))), ((a 5), .inl (K.1, 16, .inl (ar (M.1 5)))), ((a 6), .inl (K.1, 16, .inl (ar (M.1 6)))), ((a 7), .inl (K.1, 16, .inl (ar (M.1 7)))), ((a 8), .inl (K.1, 16, .inl (ar (M.1 8)))), ((a 9), .inl (K.1, 16, .inl (ar (M.1 9)))), ((a 10), .inl (K.1, 16, .inl (ar (M.1 10)))), ((a 11), .inl (K.1, 100, .inl (ar (M.1 11)))), ((a 13), .inl (K.1, 8, .inl (ar (M.1 13)))), ((a 14), .inl (K.1, 8, .inl (ar (M.1 14)))), ((a 15), .inl (K.1, 8, .inl (ar (M.1 15)))), ((a 16), .inl (K.1, 8, .inl (ar (M.1 16)))), ((a 17), .inl (K.1, 3200, .inl (ar (M.1 17)))), ((a 18), .inl (K.1, 3200, .inl (ar (M.1 18)))), ((a 19), .inl (K.2.1, 3200, .inl (ar (M.1 19)))), ((a 22), .inl (K.1, 3400, .inl (ar (M.1 22)))), ((a 23), .inl (K.1, 3400, .inl (ar (M.1 23)))), ((a 24), .inl (K.1, 3400, .inl (ar (M.1 24)))), ((a 25), .inl (K.1, 3400, .inl (ar (M.1 25)))), ((a 26), .inl (K.1, 32, .inl (ar (M.1 26)))), ((a 27), .inl (K.1, 32, .inl (ar (M.1 27)))), ((a 28), .inl (K.2.1, 8, .inl (ar (M.1 28)))), ((a 29), .inl (K.1, 8, .inl (ar (M.1 29)))), ((a 30), .inl (K.1, 8, .inl (ar (M.1 30)))), ((a 31), .inl (K.1, 10, .inl (ar (M.1 31)))), ((a 32), .inl (K.1, 10, .inl (ar (M.1 32)))), ((a 33), .inl (K.1, 10, .inl (ar (M.1 33)))), ((a 35), .inl (K.1, 13711, .inl (ar (M.1 35)))), ((a 39), .inl (K.1, 4, .inl (ar (M.1 39)))), ((a 40), .inl (K.1, 4, .inl (ar (M.1 40))))]) rfl ?_
  refine z_st (st2 := [vZ v_2]) rfl ?_
  refine z_if_eq ZC 16 dX8_queue_5 (by decide) (by omega) (fun c_5 => ?_) (fun c_5 => ?_)
  · skip
    refine z_iconst ZC dX8_queue_16 ?_
    refine z_iret ZC ZE dX8_queue_17 (by omega) (by omega) (Nat.le_of_ble_eq_true rfl) ⟨(-1), rfl, rfl, by omega, by omega, ?_⟩
    · skip
      right; exact ⟨by omega, rfl, trivial⟩
  · skip
    refine z_aload_n ZC 0 dX8_queue_8 rfl rfl ?_
    refine z_iload_n ZC 1 dX8_queue_9 rfl rfl ?_
    refine z_callV ZC 1 (c_X8_carsIn zl D K h a M C rd (by omega) (hmd.1) (by omega)) (gdV uM_X8_164 uI_X8_carsIn uS_X8_carsIn uN_X8 uC_X8_carsIn) (by decide +kernel) rfl ⟨by omega, by omega⟩ ⟨by omega, by omega⟩ (Nat.le_of_ble_eq_true rfl) [0, 1, 2, 3, 4, 5, 6, 7, 8, 9, 10, 11, 12, 13, 14, 15, 16, 17, 18, 19, 20, 21, 22, 23, 24, 25, 26, 27, 28, 29, 30, 31] rfl (by decide) rfl rfl rfl rfl dX8_queue_10 (fun r w2 gc_10 gs_10 hp => ?_)
    obtain ⟨rfl, rfl, rfl, rfl⟩ := hp
    refine z_ws (ws2 := [(h, .inr (8, [vZ (M.2 0), .ref (a 1), .ref (a 2), vZ (M.2 3), vZ (M.2 4), .ref (a 5), .ref (a 6), .ref (a 7), .ref (a 8), .ref (a 9), .ref (a 10), .ref (a 11), vZ (M.2 12), .ref (a 13), .ref (a 14), .ref (a 15), .ref (a 16), .ref (a 17), .ref (a 18), .ref (a 19), vZ (M.2 20), vZ (M.2 21), .ref (a 22), .ref (a 23), .ref (a 24), .ref (a 25), .ref (a 26), .ref (a 27), .ref (a 28), .ref (a 29), .ref (a 30), .ref (a 31), .ref (a 32), .ref (a 33), vZ (M.2 34), .ref (a 35), vZ (M.2 36), vZ (M.2 37), vZ (M.2 38), .ref (a 39), .ref (a 40), vZ (M.2 41), vZ (M.2 42), vZ (M.2 43)])), ((a 1), .inl (K.1, 10, .inl (ar (M.1 1)))), ((a 2), .inl (K.1, 10, .inl (ar (M.1 2)))), ((a 5), .inl (K.1, 16, .inl (ar (M.1 5)))), ((a 6), .inl (K.1, 16, .inl (ar (M.1 6)))), ((a 7), .inl (K.1, 16, .inl (ar (M.1 7)))), ((a 8), .inl (K.1, 16, .inl (ar (M.1 8)))), ((a 9), .inl (K.1, 16, .inl (ar (M.1 9)))), ((a 10), .inl (K.1, 16, .inl (ar (M.1 10)))), ((a 11), .inl (K.1, 100, .inl (ar (M.1 11)))), ((a 13), .inl (K.1, 8, .inl (ar (M.1 13)))), ((a 14), .inl (K.1, 8, .inl (ar (M.1 14)))), ((a 15), .inl (K.1, 8, .inl (ar (M.1 15)))), ((a 16), .inl (K.1, 8, .inl (ar (M.1 16)))), ((a 17), .inl (K.1, 3200, .inl (ar (M.1 17)))), ((a 18), .inl (K.1, 3200, .inl (ar (M.1 18)))), ((a 19), .inl (K.2.1, 3200, .inl (ar (M.1 19)))), ((a 22), .inl (K.1, 3400, .inl (ar (M.1 22)))), ((a 23), .inl (K.1, 3400, .inl (ar (M.1 23)))), ((a 24), .inl (K.1, 3400, .inl (ar (M.1 24)))), ((a 25), .inl (K.1, 3400, .inl (ar (M.1 25)))), ((a 26), .inl (K.1, 32, .inl (ar (M.1 26)))), ((a 27), .inl (K.1, 32, .inl (ar (M.1 27)))), ((a 28), .inl (K.2.1, 8, .inl (ar (M.1 28)))), ((a 29), .inl (K.1, 8, .inl (ar (M.1 29)))), ((a 30), .inl (K.1, 8, .inl (ar (M.1 30)))), ((a 31), .inl (K.1, 10, .inl (ar (M.1 31)))), ((a 32), .inl (K.1, 10, .inl (ar (M.1 32)))), ((a 33), .inl (K.1, 10, .inl (ar (M.1 33)))), ((a 35), .inl (K.1, 13711, .inl (ar (M.1 35)))), ((a 39), .inl (K.1, 4, .inl (ar (M.1 39)))), ((a 40), .inl (K.1, 4, .inl (ar (M.1 40))))]) rfl ?_
    refine z_st (st2 := [vZ (csum (C rd))]) rfl ?_
    refine z_goto ZC 17 dX8_queue_13 (by decide) ?_
    refine z_iret ZC ZE dX8_queue_17 (by omega) (by omega) (Nat.le_of_ble_eq_true rfl) ⟨(csum (C rd)), rfl, rfl, by omega, by omega, ?_⟩
    · skip
      left
      refine ⟨by omega, ?_, trivial⟩
      rw [csum_fq _ (mo_pos hmd.1 (k := rd) (by omega)), (hmd.2.1 rd (by omega) (by omega)).1]

set_option maxHeartbeats 4000000 in
set_option maxRecDepth 100000 in
theorem c_X8_on (zl : Launch) (D : va_G) (K : tyK) (h : Nat) (a : Nat → Nat) (M : Bd) (Ne : Bd) (Cr : Bd) (A : Ab) (C : Int → List Pt3) (rd : Int) (hz_rd : -2147483648 ≤ rd ∧ rd < 2147483648) (hcf : Cfg Ne Cr) (hnw : NW Ne) (hmn : MSn Ne M) (hmc : MSc Cr M) (hmd : MD Cr A M C []) (hus : M.2 21 ≤ 3400) (hok : AOK Ne Cr A) : Mz zl yX8_on cX8_on 2 (some .int) 2 43 0 0 D K [.ref h, vZ rd] (wMo K h a M) (fun r_ w2_ gc gs => ∃ (v : Int), r_ = some (vZ v) ∧ w2_ = (wMo K h a M) ∧ gc = 0 ∧ gs = 0 ∧ (((0 ≤ rd ∧ rd < Ne.2 8) ∧ v = ((A.2.2.2 rd).length : Int) ∧ True) ∨ (¬ (0 ≤ rd ∧ rd < Ne.2 8) ∧ v = -1 ∧ True))) := by
  refine Mz.ofZ (by decide) rfl (Nat.le_of_ble_eq_true rfl) ?_
  intro zp ze zR zs zm zargs zbelow zmeth zc zA zQ ZC ZE hRf hRc hRs hRl
  have hr8 := hcf.1
  have e4 : M.2 4 = Ne.2 8 := hmn.1
  refine z_aload_n ZC 0 dX8_on_0 rfl rfl ?_
  refine z_iload_n ZC 1 dX8_on_1 rfl rfl ?_
  refine z_callV ZC 1 (c_X8_isRoad zl D K h a M rd (by omega) (by omega)) (gdV uM_X8_145 uI_X8_isRoad uS_X8_isRoad uN_X8 uC_X8_isRoad) (by decide +kernel) rfl ⟨by omega, by omega⟩ ⟨by omega, by omega⟩ (Nat.le_of_ble_eq_true rfl) [0, 1, 2, 3, 4, 5, 6, 7, 8, 9, 10, 11, 12, 13, 14, 15, 16, 17, 18, 19, 20, 21, 22, 23, 24, 25, 26, 27, 28, 29, 30, 31] rfl (by decide) rfl rfl rfl rfl dX8_on_2 (fun r w2 gc_2 gs_2 hp => ?_)
  obtain ⟨v_2, rfl, rfl, rfl, rfl, hb_2⟩ := hp
  refine z_ws (ws2 := [(h, .inr (8, [vZ (M.2 0), .ref (a 1), .ref (a 2), vZ (M.2 3), vZ (M.2 4), .ref (a 5), .ref (a 6), .ref (a 7), .ref (a 8), .ref (a 9), .ref (a 10), .ref (a 11), vZ (M.2 12), .ref (a 13), .ref (a 14), .ref (a 15), .ref (a 16), .ref (a 17), .ref (a 18), .ref (a 19), vZ (M.2 20), vZ (M.2 21), .ref (a 22), .ref (a 23), .ref (a 24), .ref (a 25), .ref (a 26), .ref (a 27), .ref (a 28), .ref (a 29), .ref (a 30), .ref (a 31), .ref (a 32), .ref (a 33), vZ (M.2 34), .ref (a 35), vZ (M.2 36), vZ (M.2 37), vZ (M.2 38), .ref (a 39), .ref (a 40), vZ (M.2 41), vZ (M.2 42), vZ (M.2 43)])), ((a 1), .inl (K.1, 10, .inl (ar (M.1 1)))), ((a 2), .inl (K.1, 10, .inl (ar (M.1 2)))), ((a 5), .inl (K.1, 16, .inl (ar (M.1 5)))), ((a 6), .inl (K.1, 16, .inl (ar (M.1 6)))), ((a 7), .inl (K.1, 16, .inl (ar (M.1 7)))), ((a 8), .inl (K.1, 16, .inl (ar (M.1 8)))), ((a 9), .inl (K.1, 16, .inl (ar (M.1 9)))), ((a 10), .inl (K.1, 16, .inl (ar (M.1 10)))), ((a 11), .inl (K.1, 100, .inl (ar (M.1 11)))), ((a 13), .inl (K.1, 8, .inl (ar (M.1 13)))), ((a 14), .inl (K.1, 8, .inl (ar (M.1 14)))), ((a 15), .inl (K.1, 8, .inl (ar (M.1 15)))), ((a 16), .inl (K.1, 8, .inl (ar (M.1 16)))), ((a 17), .inl (K.1, 3200, .inl (ar (M.1 17)))), ((a 18), .inl (K.1, 3200, .inl (ar (M.1 18)))), ((a 19), .inl (K.2.1, 3200, .inl (ar (M.1 19)))), ((a 22), .inl (K.1, 3400, .inl (ar (M.1 22)))), ((a 23), .inl (K.1, 3400, .inl (ar (M.1 23)))), ((a 24), .inl (K.1, 3400, .inl (ar (M.1 24)))), ((a 25), .inl (K.1, 3400, .inl (ar (M.1 25)))), ((a 26), .inl (K.1, 32, .inl (ar (M.1 26)))), ((a 27), .inl (K.1, 32, .inl (ar (M.1 27)))), ((a 28), .inl (K.2.1, 8, .inl (ar (M.1 28)))), ((a 29), .inl (K.1, 8, .inl (ar (M.1 29)))), ((a 30), .inl (K.1, 8, .inl (ar (M.1 30)))), ((a 31), .inl (K.1, 10, .inl (ar (M.1 31)))), ((a 32), .inl (K.1, 10, .inl (ar (M.1 32)))), ((a 33), .inl (K.1, 10, .inl (ar (M.1 33)))), ((a 35), .inl (K.1, 13711, .inl (ar (M.1 35)))), ((a 39), .inl (K.1, 4, .inl (ar (M.1 39)))), ((a 40), .inl (K.1, 4, .inl (ar (M.1 40))))]) rfl ?_
  refine z_st (st2 := [vZ v_2]) rfl ?_
  refine z_if_eq ZC 19 dX8_on_5 (by decide) (by omega) (fun c_5 => ?_) (fun c_5 => ?_)
  · skip
    refine z_iconst ZC dX8_on_19 ?_
    refine z_iret ZC ZE dX8_on_20 (by omega) (by omega) (Nat.le_of_ble_eq_true rfl) ⟨(-1), rfl, rfl, by omega, by omega, ?_⟩
    · skip
      right; exact ⟨by omega, rfl, trivial⟩
  · skip
    refine z_aload_n ZC 0 dX8_on_8 rfl rfl ?_
    refine z_bipush ZC dX8_on_9 (by decide) ?_
    refine z_iload_n ZC 1 dX8_on_11 rfl rfl ?_
    refine z_iadd ZC dX8_on_12 ?_
    refine z_callV ZC 1 (c_X8_carsIn zl D K h a M C (16 + rd) (by omega) (hmd.1) (by omega)) (gdV uM_X8_164 uI_X8_carsIn uS_X8_carsIn uN_X8 uC_X8_carsIn) (by decide +kernel) rfl ⟨by omega, by omega⟩ ⟨by omega, by omega⟩ (Nat.le_of_ble_eq_true rfl) [0, 1, 2, 3, 4, 5, 6, 7, 8, 9, 10, 11, 12, 13, 14, 15, 16, 17, 18, 19, 20, 21, 22, 23, 24, 25, 26, 27, 28, 29, 30, 31] rfl (by decide) rfl rfl rfl rfl dX8_on_13 (fun r w2 gc_13 gs_13 hp => ?_)
    obtain ⟨rfl, rfl, rfl, rfl⟩ := hp
    refine z_ws (ws2 := [(h, .inr (8, [vZ (M.2 0), .ref (a 1), .ref (a 2), vZ (M.2 3), vZ (M.2 4), .ref (a 5), .ref (a 6), .ref (a 7), .ref (a 8), .ref (a 9), .ref (a 10), .ref (a 11), vZ (M.2 12), .ref (a 13), .ref (a 14), .ref (a 15), .ref (a 16), .ref (a 17), .ref (a 18), .ref (a 19), vZ (M.2 20), vZ (M.2 21), .ref (a 22), .ref (a 23), .ref (a 24), .ref (a 25), .ref (a 26), .ref (a 27), .ref (a 28), .ref (a 29), .ref (a 30), .ref (a 31), .ref (a 32), .ref (a 33), vZ (M.2 34), .ref (a 35), vZ (M.2 36), vZ (M.2 37), vZ (M.2 38), .ref (a 39), .ref (a 40), vZ (M.2 41), vZ (M.2 42), vZ (M.2 43)])), ((a 1), .inl (K.1, 10, .inl (ar (M.1 1)))), ((a 2), .inl (K.1, 10, .inl (ar (M.1 2)))), ((a 5), .inl (K.1, 16, .inl (ar (M.1 5)))), ((a 6), .inl (K.1, 16, .inl (ar (M.1 6)))), ((a 7), .inl (K.1, 16, .inl (ar (M.1 7)))), ((a 8), .inl (K.1, 16, .inl (ar (M.1 8)))), ((a 9), .inl (K.1, 16, .inl (ar (M.1 9)))), ((a 10), .inl (K.1, 16, .inl (ar (M.1 10)))), ((a 11), .inl (K.1, 100, .inl (ar (M.1 11)))), ((a 13), .inl (K.1, 8, .inl (ar (M.1 13)))), ((a 14), .inl (K.1, 8, .inl (ar (M.1 14)))), ((a 15), .inl (K.1, 8, .inl (ar (M.1 15)))), ((a 16), .inl (K.1, 8, .inl (ar (M.1 16)))), ((a 17), .inl (K.1, 3200, .inl (ar (M.1 17)))), ((a 18), .inl (K.1, 3200, .inl (ar (M.1 18)))), ((a 19), .inl (K.2.1, 3200, .inl (ar (M.1 19)))), ((a 22), .inl (K.1, 3400, .inl (ar (M.1 22)))), ((a 23), .inl (K.1, 3400, .inl (ar (M.1 23)))), ((a 24), .inl (K.1, 3400, .inl (ar (M.1 24)))), ((a 25), .inl (K.1, 3400, .inl (ar (M.1 25)))), ((a 26), .inl (K.1, 32, .inl (ar (M.1 26)))), ((a 27), .inl (K.1, 32, .inl (ar (M.1 27)))), ((a 28), .inl (K.2.1, 8, .inl (ar (M.1 28)))), ((a 29), .inl (K.1, 8, .inl (ar (M.1 29)))), ((a 30), .inl (K.1, 8, .inl (ar (M.1 30)))), ((a 31), .inl (K.1, 10, .inl (ar (M.1 31)))), ((a 32), .inl (K.1, 10, .inl (ar (M.1 32)))), ((a 33), .inl (K.1, 10, .inl (ar (M.1 33)))), ((a 35), .inl (K.1, 13711, .inl (ar (M.1 35)))), ((a 39), .inl (K.1, 4, .inl (ar (M.1 39)))), ((a 40), .inl (K.1, 4, .inl (ar (M.1 40))))]) rfl ?_
    refine z_st (st2 := [vZ (csum (C (16 + rd)))]) rfl ?_
    refine z_goto ZC 20 dX8_on_16 (by decide) ?_
    refine z_iret ZC ZE dX8_on_20 (by omega) (by omega) (Nat.le_of_ble_eq_true rfl) ⟨(csum (C (16 + rd))), rfl, rfl, by omega, by omega, ?_⟩
    · skip
      left
      refine ⟨by omega, ?_, trivial⟩
      rw [csum_fd _ (mo_pos hmd.1 (k := 16 + rd) (by omega)), (hmd.2.1 rd (by omega) (by omega)).2]

set_option maxHeartbeats 4000000 in
set_option maxRecDepth 100000 in
theorem c_X8_told (zl : Launch) (D : va_G) (K : tyK) (h : Nat) (a : Nat → Nat) (M : Bd) (Cr : Bd) (A : Ab) (C : Int → List Pt3) (cw : Int) (what : Int) (hz_cw : -2147483648 ≤ cw ∧ cw < 2147483648) (hz_what : -2147483648 ≤ what ∧ what < 2147483648) (hmc : MSc Cr M) (hc8 : 0 ≤ Cr.2 3 ∧ Cr.2 3 ≤ 8) (hmx : MX Cr A M C) : Mz zl yX8_told cX8_told 3 (some .int) 2 43 0 0 D K [.ref h, vZ cw, vZ what] (wMo K h a M) (fun r_ w2_ gc gs => ∃ (v : Int), r_ = some (vZ v) ∧ w2_ = (wMo K h a M) ∧ gc = 0 ∧ gs = 0 ∧ (((0 ≤ cw ∧ cw < Cr.2 3) ∧ v = (if what = 0 then Cr.1 0 cw else if what = 1 then Cr.1 1 cw else if what = 2 then Cr.1 2 cw else if what = 3 then A.1 0 cw else if what = 4 then A.1 2 cw else if what = 5 then A.1 3 cw else -1) ∧ True) ∨ (¬ (0 ≤ cw ∧ cw < Cr.2 3) ∧ v = -1 ∧ True))) := by
  refine Mz.ofZ (by decide) rfl (Nat.le_of_ble_eq_true rfl) ?_
  intro zp ze zR zs zm zargs zbelow zmeth zc zA zQ ZC ZE hRf hRc hRs hRl
  have e12 : M.2 12 = Cr.2 3 := hmc.1
  refine z_aload_n ZC 0 dX8_told_0 rfl rfl ?_
  refine z_iload_n ZC 1 dX8_told_1 rfl rfl ?_
  refine z_callV ZC 1 (c_X8_isCrowd zl D K h a M cw (by omega) (by omega)) (gdV uM_X8_142 uI_X8_isCrowd uS_X8_isCrowd uN_X8 uC_X8_isCrowd) (by decide +kernel) rfl ⟨by omega, by omega⟩ ⟨by omega, by omega⟩ (Nat.le_of_ble_eq_true rfl) [0, 1, 2, 3, 4, 5, 6, 7, 8, 9, 10, 11, 12, 13, 14, 15, 16, 17, 18, 19, 20, 21, 22, 23, 24, 25, 26, 27, 28, 29, 30, 31] rfl (by decide) rfl rfl rfl rfl dX8_told_2 (fun r w2 gc_2 gs_2 hp => ?_)
  obtain ⟨v_2, rfl, rfl, rfl, rfl, hb_2⟩ := hp
  refine z_ws (ws2 := [(h, .inr (8, [vZ (M.2 0), .ref (a 1), .ref (a 2), vZ (M.2 3), vZ (M.2 4), .ref (a 5), .ref (a 6), .ref (a 7), .ref (a 8), .ref (a 9), .ref (a 10), .ref (a 11), vZ (M.2 12), .ref (a 13), .ref (a 14), .ref (a 15), .ref (a 16), .ref (a 17), .ref (a 18), .ref (a 19), vZ (M.2 20), vZ (M.2 21), .ref (a 22), .ref (a 23), .ref (a 24), .ref (a 25), .ref (a 26), .ref (a 27), .ref (a 28), .ref (a 29), .ref (a 30), .ref (a 31), .ref (a 32), .ref (a 33), vZ (M.2 34), .ref (a 35), vZ (M.2 36), vZ (M.2 37), vZ (M.2 38), .ref (a 39), .ref (a 40), vZ (M.2 41), vZ (M.2 42), vZ (M.2 43)])), ((a 1), .inl (K.1, 10, .inl (ar (M.1 1)))), ((a 2), .inl (K.1, 10, .inl (ar (M.1 2)))), ((a 5), .inl (K.1, 16, .inl (ar (M.1 5)))), ((a 6), .inl (K.1, 16, .inl (ar (M.1 6)))), ((a 7), .inl (K.1, 16, .inl (ar (M.1 7)))), ((a 8), .inl (K.1, 16, .inl (ar (M.1 8)))), ((a 9), .inl (K.1, 16, .inl (ar (M.1 9)))), ((a 10), .inl (K.1, 16, .inl (ar (M.1 10)))), ((a 11), .inl (K.1, 100, .inl (ar (M.1 11)))), ((a 13), .inl (K.1, 8, .inl (ar (M.1 13)))), ((a 14), .inl (K.1, 8, .inl (ar (M.1 14)))), ((a 15), .inl (K.1, 8, .inl (ar (M.1 15)))), ((a 16), .inl (K.1, 8, .inl (ar (M.1 16)))), ((a 17), .inl (K.1, 3200, .inl (ar (M.1 17)))), ((a 18), .inl (K.1, 3200, .inl (ar (M.1 18)))), ((a 19), .inl (K.2.1, 3200, .inl (ar (M.1 19)))), ((a 22), .inl (K.1, 3400, .inl (ar (M.1 22)))), ((a 23), .inl (K.1, 3400, .inl (ar (M.1 23)))), ((a 24), .inl (K.1, 3400, .inl (ar (M.1 24)))), ((a 25), .inl (K.1, 3400, .inl (ar (M.1 25)))), ((a 26), .inl (K.1, 32, .inl (ar (M.1 26)))), ((a 27), .inl (K.1, 32, .inl (ar (M.1 27)))), ((a 28), .inl (K.2.1, 8, .inl (ar (M.1 28)))), ((a 29), .inl (K.1, 8, .inl (ar (M.1 29)))), ((a 30), .inl (K.1, 8, .inl (ar (M.1 30)))), ((a 31), .inl (K.1, 10, .inl (ar (M.1 31)))), ((a 32), .inl (K.1, 10, .inl (ar (M.1 32)))), ((a 33), .inl (K.1, 10, .inl (ar (M.1 33)))), ((a 35), .inl (K.1, 13711, .inl (ar (M.1 35)))), ((a 39), .inl (K.1, 4, .inl (ar (M.1 39)))), ((a 40), .inl (K.1, 4, .inl (ar (M.1 40))))]) rfl ?_
  refine z_st (st2 := [vZ v_2]) rfl ?_
  refine z_if_ne ZC 10 dX8_told_5 (by decide) (by omega) (fun c_5 => ?_) (fun c_5 => ?_)
  · skip
    have hq := hmc.2 cw (by omega) (by omega)
    have h3 := hmx.1.2.2.1 cw (by omega) (by omega)
    have h4 := hmx.1.2.2.2 cw (by omega) (by omega)
    have h16 := hmx.2.1 cw (by omega) (by omega)
    refine z_iload_n ZC 2 dX8_told_10 rfl rfl ?_
    rcases (show what = 0 ∨ what = 1 ∨ what = 2 ∨ what = 3 ∨ what = 4 ∨ what = 5 ∨ (what < 0 ∨ 5 < what) by omega) with rfl | rfl | rfl | rfl | rfl | rfl | hsw_11
    · skip
      refine z_tabIn ZC (off := 37) 48 dX8_told_11 (by omega) (by decide) (by decide) (by decide) (by decide) ?_
      refine z_aload_n ZC 0 dX8_told_48 rfl rfl ?_
      refine z_get ZC inUX8 0 rfl rfl 13 (by decide) uF_X8_41 rfl dX8_told_49 ?_
      refine z_iload_n ZC 1 dX8_told_52 rfl rfl ?_
      refine z_iald ZC 10 rfl dX8_told_53 (by omega) ?_
      refine z_iret ZC ZE dX8_told_54 (by omega) (by omega) (Nat.le_of_ble_eq_true rfl) ⟨((M.1 13) cw), rfl, rfl, by omega, by omega, ?_⟩
      · skip
        left; exact ⟨by omega, hq.1, trivial⟩
    · skip
      refine z_tabIn ZC (off := 44) 55 dX8_told_11 (by omega) (by decide) (by decide) (by decide) (by decide) ?_
      refine z_aload_n ZC 0 dX8_told_55 rfl rfl ?_
      refine z_get ZC inUX8 0 rfl rfl 14 (by decide) uF_X8_44 rfl dX8_told_56 ?_
      refine z_iload_n ZC 1 dX8_told_59 rfl rfl ?_
      refine z_iald ZC 11 rfl dX8_told_60 (by omega) ?_
      refine z_iret ZC ZE dX8_told_61 (by omega) (by omega) (Nat.le_of_ble_eq_true rfl) ⟨((M.1 14) cw), rfl, rfl, by omega, by omega, ?_⟩
      · skip
        left; exact ⟨by omega, hq.2.1, trivial⟩
    · skip
      refine z_tabIn ZC (off := 51) 62 dX8_told_11 (by omega) (by decide) (by decide) (by decide) (by decide) ?_
      refine z_aload_n ZC 0 dX8_told_62 rfl rfl ?_
      refine z_get ZC inUX8 0 rfl rfl 15 (by decide) uF_X8_47 rfl dX8_told_63 ?_
      refine z_iload_n ZC 1 dX8_told_66 rfl rfl ?_
      refine z_iald ZC 12 rfl dX8_told_67 (by omega) ?_
      refine z_iret ZC ZE dX8_told_68 (by omega) (by omega) (Nat.le_of_ble_eq_true rfl) ⟨((M.1 15) cw), rfl, rfl, by omega, by omega, ?_⟩
      · skip
        left; exact ⟨by omega, hq.2.2, trivial⟩
    · skip
      refine z_tabIn ZC (off := 58) 69 dX8_told_11 (by omega) (by decide) (by decide) (by decide) (by decide) ?_
      refine z_aload_n ZC 0 dX8_told_69 rfl rfl ?_
      refine z_get ZC inUX8 0 rfl rfl 16 (by decide) uF_X8_50 rfl dX8_told_70 ?_
      refine z_iload_n ZC 1 dX8_told_73 rfl rfl ?_
      refine z_iald ZC 13 rfl dX8_told_74 (by omega) ?_
      refine z_iret ZC ZE dX8_told_75 (by omega) (by omega) (Nat.le_of_ble_eq_true rfl) ⟨((M.1 16) cw), rfl, rfl, by omega, by omega, ?_⟩
      · skip
        left; exact ⟨by omega, h16, trivial⟩
    · skip
      refine z_tabIn ZC (off := 65) 76 dX8_told_11 (by omega) (by decide) (by decide) (by decide) (by decide) ?_
      refine z_aload_n ZC 0 dX8_told_76 rfl rfl ?_
      refine z_get ZC inUX8 0 rfl rfl 29 (by decide) uF_X8_84 rfl dX8_told_77 ?_
      refine z_iload_n ZC 1 dX8_told_80 rfl rfl ?_
      refine z_iald ZC 24 rfl dX8_told_81 (by omega) ?_
      refine z_iret ZC ZE dX8_told_82 (by omega) (by omega) (Nat.le_of_ble_eq_true rfl) ⟨((M.1 29) cw), rfl, rfl, by omega, by omega, ?_⟩
      · skip
        left; exact ⟨by omega, h3.2, trivial⟩
    · skip
      refine z_tabIn ZC (off := 72) 83 dX8_told_11 (by omega) (by decide) (by decide) (by decide) (by decide) ?_
      refine z_aload_n ZC 0 dX8_told_83 rfl rfl ?_
      refine z_get ZC inUX8 0 rfl rfl 30 (by decide) uF_X8_87 rfl dX8_told_84 ?_
      refine z_iload_n ZC 1 dX8_told_87 rfl rfl ?_
      refine z_iald ZC 25 rfl dX8_told_88 (by omega) ?_
      refine z_iret ZC ZE dX8_told_89 (by omega) (by omega) (Nat.le_of_ble_eq_true rfl) ⟨((M.1 30) cw), rfl, rfl, by omega, by omega, ?_⟩
      · skip
        left; exact ⟨by omega, h4, trivial⟩
    · skip
      refine z_tabOut ZC 90 dX8_told_11 (by omega) (by omega) (by decide) ?_
      refine z_iconst ZC dX8_told_90 ?_
      refine z_iret ZC ZE dX8_told_91 (by omega) (by omega) (Nat.le_of_ble_eq_true rfl) ⟨(-1), rfl, rfl, by omega, by omega, ?_⟩
      · skip
        left; refine ⟨by omega, ?_, trivial⟩
        rw [if_neg (by omega), if_neg (by omega), if_neg (by omega), if_neg (by omega), if_neg (by omega), if_neg (by omega)]
  · skip
    refine z_iconst ZC dX8_told_8 ?_
    refine z_iret ZC ZE dX8_told_9 (by omega) (by omega) (Nat.le_of_ble_eq_true rfl) ⟨(-1), rfl, rfl, by omega, by omega, ?_⟩
    · skip
      right; exact ⟨by omega, rfl, trivial⟩

set_option maxHeartbeats 4000000 in
set_option maxRecDepth 100000 in
theorem c_X8_at (zl : Launch) (D : va_G) (K : tyK) (h : Nat) (a : Nat → Nat) (M : Bd) (To : Bd) (Ne : Bd) (Cr : Bd) (A : Ab) (C : Int → List Pt3) (t : Int) (what : Int) (hz_t : -2147483648 ≤ t ∧ t < 2147483648) (hz_what : -2147483648 ≤ what ∧ what < 2147483648) (hms : MS To Ne Cr M) (hcf : Cfg Ne Cr) (hnw : NW Ne) (hto : 0 ≤ To.2 3 ∧ To.2 3 ≤ 10) (hab : AB Ne Cr A) (hmx : MX Cr A M C) : Mz zl yX8_at cX8_at 3 (some .int) 2 46 0 0 D K [.ref h, vZ t, vZ what] (wMo K h a M) (fun r_ w2_ gc gs => ∃ (v : Int), r_ = some (vZ v) ∧ w2_ = (wMo K h a M) ∧ gc = 0 ∧ gs = 0 ∧ (((0 ≤ t ∧ t < To.2 3) ∧ v = (if what = 0 then A.1 4 t else if what = 1 then aAt Ne Cr A t else if what = 2 then A.1 5 t else -1) ∧ True) ∨ (¬ (0 ≤ t ∧ t < To.2 3) ∧ v = -1 ∧ True))) := by
  refine Mz.ofZ (by decide) rfl (Nat.le_of_ble_eq_true rfl) ?_
  intro zp ze zR zs zm zargs zbelow zmeth zc zA zQ ZC ZE hRf hRc hRs hRl
  have e0 : M.2 0 = To.2 3 := hms.1.1
  have hus0 := mx_us hmx hcf hab
  refine z_aload_n ZC 0 dX8_at_0 rfl rfl ?_
  refine z_iload_n ZC 1 dX8_at_1 rfl rfl ?_
  refine z_callV ZC 1 (c_X8_isTown zl D K h a M t (by omega) (by omega)) (gdV uM_X8_125 uI_X8_isTown uS_X8_isTown uN_X8 uC_X8_isTown) (by decide +kernel) rfl ⟨by omega, by omega⟩ ⟨by omega, by omega⟩ (Nat.le_of_ble_eq_true rfl) [0, 1, 2, 3, 4, 5, 6, 7, 8, 9, 10, 11, 12, 13, 14, 15, 16, 17, 18, 19, 20, 21, 22, 23, 24, 25, 26, 27, 28, 29, 30, 31] rfl (by decide) rfl rfl rfl rfl dX8_at_2 (fun r w2 gc_2 gs_2 hp => ?_)
  obtain ⟨v_2, rfl, rfl, rfl, rfl, hb_2⟩ := hp
  refine z_ws (ws2 := [(h, .inr (8, [vZ (M.2 0), .ref (a 1), .ref (a 2), vZ (M.2 3), vZ (M.2 4), .ref (a 5), .ref (a 6), .ref (a 7), .ref (a 8), .ref (a 9), .ref (a 10), .ref (a 11), vZ (M.2 12), .ref (a 13), .ref (a 14), .ref (a 15), .ref (a 16), .ref (a 17), .ref (a 18), .ref (a 19), vZ (M.2 20), vZ (M.2 21), .ref (a 22), .ref (a 23), .ref (a 24), .ref (a 25), .ref (a 26), .ref (a 27), .ref (a 28), .ref (a 29), .ref (a 30), .ref (a 31), .ref (a 32), .ref (a 33), vZ (M.2 34), .ref (a 35), vZ (M.2 36), vZ (M.2 37), vZ (M.2 38), .ref (a 39), .ref (a 40), vZ (M.2 41), vZ (M.2 42), vZ (M.2 43)])), ((a 1), .inl (K.1, 10, .inl (ar (M.1 1)))), ((a 2), .inl (K.1, 10, .inl (ar (M.1 2)))), ((a 5), .inl (K.1, 16, .inl (ar (M.1 5)))), ((a 6), .inl (K.1, 16, .inl (ar (M.1 6)))), ((a 7), .inl (K.1, 16, .inl (ar (M.1 7)))), ((a 8), .inl (K.1, 16, .inl (ar (M.1 8)))), ((a 9), .inl (K.1, 16, .inl (ar (M.1 9)))), ((a 10), .inl (K.1, 16, .inl (ar (M.1 10)))), ((a 11), .inl (K.1, 100, .inl (ar (M.1 11)))), ((a 13), .inl (K.1, 8, .inl (ar (M.1 13)))), ((a 14), .inl (K.1, 8, .inl (ar (M.1 14)))), ((a 15), .inl (K.1, 8, .inl (ar (M.1 15)))), ((a 16), .inl (K.1, 8, .inl (ar (M.1 16)))), ((a 17), .inl (K.1, 3200, .inl (ar (M.1 17)))), ((a 18), .inl (K.1, 3200, .inl (ar (M.1 18)))), ((a 19), .inl (K.2.1, 3200, .inl (ar (M.1 19)))), ((a 22), .inl (K.1, 3400, .inl (ar (M.1 22)))), ((a 23), .inl (K.1, 3400, .inl (ar (M.1 23)))), ((a 24), .inl (K.1, 3400, .inl (ar (M.1 24)))), ((a 25), .inl (K.1, 3400, .inl (ar (M.1 25)))), ((a 26), .inl (K.1, 32, .inl (ar (M.1 26)))), ((a 27), .inl (K.1, 32, .inl (ar (M.1 27)))), ((a 28), .inl (K.2.1, 8, .inl (ar (M.1 28)))), ((a 29), .inl (K.1, 8, .inl (ar (M.1 29)))), ((a 30), .inl (K.1, 8, .inl (ar (M.1 30)))), ((a 31), .inl (K.1, 10, .inl (ar (M.1 31)))), ((a 32), .inl (K.1, 10, .inl (ar (M.1 32)))), ((a 33), .inl (K.1, 10, .inl (ar (M.1 33)))), ((a 35), .inl (K.1, 13711, .inl (ar (M.1 35)))), ((a 39), .inl (K.1, 4, .inl (ar (M.1 39)))), ((a 40), .inl (K.1, 4, .inl (ar (M.1 40))))]) rfl ?_
  refine z_st (st2 := [vZ v_2]) rfl ?_
  refine z_if_ne ZC 10 dX8_at_5 (by decide) (by omega) (fun c_5 => ?_) (fun c_5 => ?_)
  · skip
    have hw := hmx.2.2.1 t (by omega) (by omega)
    refine z_iload_n ZC 2 dX8_at_10 rfl rfl ?_
    rcases (show what = 0 ∨ what = 1 ∨ what = 2 ∨ (what < 0 ∨ 2 < what) by omega) with rfl | rfl | rfl | hsw_11
    · skip
      refine z_tabIn ZC (off := 25) 36 dX8_at_11 (by omega) (by decide) (by decide) (by decide) (by decide) ?_
      refine z_aload_n ZC 0 dX8_at_36 rfl rfl ?_
      refine z_get ZC inUX8 0 rfl rfl 31 (by decide) uF_X8_90 rfl dX8_at_37 ?_
      refine z_iload_n ZC 1 dX8_at_40 rfl rfl ?_
      refine z_iald ZC 26 rfl dX8_at_41 (by omega) ?_
      refine z_iret ZC ZE dX8_at_42 (by omega) (by omega) (Nat.le_of_ble_eq_true rfl) ⟨((M.1 31) t), rfl, rfl, by omega, by omega, ?_⟩
      · skip
        left; exact ⟨by omega, hw.1, trivial⟩
    · skip
      refine z_tabIn ZC (off := 32) 43 dX8_at_11 (by omega) (by decide) (by decide) (by decide) (by decide) ?_
      refine z_aload_n ZC 0 dX8_at_43 rfl rfl ?_
      refine z_iload_n ZC 1 dX8_at_44 rfl rfl ?_
      refine z_callV ZC 1 (c_X8_carsAt zl D K h a M Ne Cr A C t (hcf) (hnw) (hms.2.1) (hms.2.2) (hmx.1) (by omega) (by omega) (hab.1)) (gdV uM_X8_183 uI_X8_carsAt uS_X8_carsAt uN_X8 uC_X8_carsAt) (by decide +kernel) rfl ⟨by omega, by omega⟩ ⟨by omega, by omega⟩ (Nat.le_of_ble_eq_true rfl) [0, 1, 2, 3, 4, 5, 6, 7, 8, 9, 10, 11, 12, 13, 14, 15, 16, 17, 18, 19, 20, 21, 22, 23, 24, 25, 26, 27, 28, 29, 30, 31] rfl (by decide) rfl rfl rfl rfl dX8_at_45 (fun r w2 gc_45 gs_45 hp => ?_)
      obtain ⟨rfl, rfl, rfl, rfl⟩ := hp
      refine z_ws (ws2 := [(h, .inr (8, [vZ (M.2 0), .ref (a 1), .ref (a 2), vZ (M.2 3), vZ (M.2 4), .ref (a 5), .ref (a 6), .ref (a 7), .ref (a 8), .ref (a 9), .ref (a 10), .ref (a 11), vZ (M.2 12), .ref (a 13), .ref (a 14), .ref (a 15), .ref (a 16), .ref (a 17), .ref (a 18), .ref (a 19), vZ (M.2 20), vZ (M.2 21), .ref (a 22), .ref (a 23), .ref (a 24), .ref (a 25), .ref (a 26), .ref (a 27), .ref (a 28), .ref (a 29), .ref (a 30), .ref (a 31), .ref (a 32), .ref (a 33), vZ (M.2 34), .ref (a 35), vZ (M.2 36), vZ (M.2 37), vZ (M.2 38), .ref (a 39), .ref (a 40), vZ (M.2 41), vZ (M.2 42), vZ (M.2 43)])), ((a 1), .inl (K.1, 10, .inl (ar (M.1 1)))), ((a 2), .inl (K.1, 10, .inl (ar (M.1 2)))), ((a 5), .inl (K.1, 16, .inl (ar (M.1 5)))), ((a 6), .inl (K.1, 16, .inl (ar (M.1 6)))), ((a 7), .inl (K.1, 16, .inl (ar (M.1 7)))), ((a 8), .inl (K.1, 16, .inl (ar (M.1 8)))), ((a 9), .inl (K.1, 16, .inl (ar (M.1 9)))), ((a 10), .inl (K.1, 16, .inl (ar (M.1 10)))), ((a 11), .inl (K.1, 100, .inl (ar (M.1 11)))), ((a 13), .inl (K.1, 8, .inl (ar (M.1 13)))), ((a 14), .inl (K.1, 8, .inl (ar (M.1 14)))), ((a 15), .inl (K.1, 8, .inl (ar (M.1 15)))), ((a 16), .inl (K.1, 8, .inl (ar (M.1 16)))), ((a 17), .inl (K.1, 3200, .inl (ar (M.1 17)))), ((a 18), .inl (K.1, 3200, .inl (ar (M.1 18)))), ((a 19), .inl (K.2.1, 3200, .inl (ar (M.1 19)))), ((a 22), .inl (K.1, 3400, .inl (ar (M.1 22)))), ((a 23), .inl (K.1, 3400, .inl (ar (M.1 23)))), ((a 24), .inl (K.1, 3400, .inl (ar (M.1 24)))), ((a 25), .inl (K.1, 3400, .inl (ar (M.1 25)))), ((a 26), .inl (K.1, 32, .inl (ar (M.1 26)))), ((a 27), .inl (K.1, 32, .inl (ar (M.1 27)))), ((a 28), .inl (K.2.1, 8, .inl (ar (M.1 28)))), ((a 29), .inl (K.1, 8, .inl (ar (M.1 29)))), ((a 30), .inl (K.1, 8, .inl (ar (M.1 30)))), ((a 31), .inl (K.1, 10, .inl (ar (M.1 31)))), ((a 32), .inl (K.1, 10, .inl (ar (M.1 32)))), ((a 33), .inl (K.1, 10, .inl (ar (M.1 33)))), ((a 35), .inl (K.1, 13711, .inl (ar (M.1 35)))), ((a 39), .inl (K.1, 4, .inl (ar (M.1 39)))), ((a 40), .inl (K.1, 4, .inl (ar (M.1 40))))]) rfl ?_
      refine z_st (st2 := [vZ (aAt Ne Cr A t)]) rfl ?_
      refine z_iret ZC ZE dX8_at_48 (by omega) (by omega) (Nat.le_of_ble_eq_true rfl) ⟨(aAt Ne Cr A t), rfl, rfl, by omega, by omega, ?_⟩
      · skip
        left; exact ⟨by omega, rfl, trivial⟩
    · skip
      refine z_tabIn ZC (off := 38) 49 dX8_at_11 (by omega) (by decide) (by decide) (by decide) (by decide) ?_
      refine z_aload_n ZC 0 dX8_at_49 rfl rfl ?_
      refine z_get ZC inUX8 0 rfl rfl 32 (by decide) uF_X8_93 rfl dX8_at_50 ?_
      refine z_iload_n ZC 1 dX8_at_53 rfl rfl ?_
      refine z_iald ZC 27 rfl dX8_at_54 (by omega) ?_
      refine z_iret ZC ZE dX8_at_55 (by omega) (by omega) (Nat.le_of_ble_eq_true rfl) ⟨((M.1 32) t), rfl, rfl, by omega, by omega, ?_⟩
      · skip
        left; exact ⟨by omega, hw.2, trivial⟩
    · skip
      refine z_tabOut ZC 56 dX8_at_11 (by omega) (by omega) (by decide) ?_
      refine z_iconst ZC dX8_at_56 ?_
      refine z_iret ZC ZE dX8_at_57 (by omega) (by omega) (Nat.le_of_ble_eq_true rfl) ⟨(-1), rfl, rfl, by omega, by omega, ?_⟩
      · skip
        left; refine ⟨by omega, ?_, trivial⟩
        rw [if_neg (by omega), if_neg (by omega), if_neg (by omega)]
  · skip
    refine z_iconst ZC dX8_at_8 ?_
    refine z_iret ZC ZE dX8_at_9 (by omega) (by omega) (Nat.le_of_ble_eq_true rfl) ⟨(-1), rfl, rfl, by omega, by omega, ?_⟩
    · skip
      right; exact ⟨by omega, rfl, trivial⟩

set_option maxHeartbeats 4000000 in
set_option maxRecDepth 100000 in
theorem c_X8_count (zl : Launch) (D : va_G) (K : tyK) (h : Nat) (a : Nat → Nat) (M : Bd) (To : Bd) (Ne : Bd) (Cr : Bd) (A : Ab) (C : Int → List Pt3) (what : Int) (hz_what : -2147483648 ≤ what ∧ what < 2147483648) (hms : MS To Ne Cr M) (hcf : Cfg Ne Cr) (hab : AB Ne Cr A) (hmx : MX Cr A M C) : Mz zl yX8_count cX8_count 4 (some .int) 1 23 0 0 D K [.ref h, vZ what] (wMo K h a M) (fun r_ w2_ gc gs => ∃ (v : Int), r_ = some (vZ v) ∧ w2_ = (wMo K h a M) ∧ gc = 0 ∧ gs = 0 ∧ (v = (if what = 0 then A.2.1 0 else if what = 1 then To.2 3 else if what = 2 then Ne.2 8 else if what = 3 then Cr.2 3 else if what = 4 then smI (A.1 2) 0 (Cr.2 3).toNat else if what = 5 then smI (fun r => ((A.2.2.1 r).length : Int)) 0 (Ne.2 8).toNat else if what = 6 then A.2.1 1 else -1))) := by
  refine Mz.ofZ (by decide) rfl (Nat.le_of_ble_eq_true rfl) ?_
  intro zp ze zR zs zm zargs zbelow zmeth zc zA zQ ZC ZE hRf hRc hRs hRl
  have e0 : M.2 0 = To.2 3 := hms.1.1
  have e4 : M.2 4 = Ne.2 8 := hms.2.1.1
  have e12 : M.2 12 = Cr.2 3 := hms.2.2.1
  have hus0 := mx_us hmx hcf hab
  have hc8 := hcf.2.1
  have hr8 := hcf.1
  refine z_iconst ZC dX8_count_0 ?_
  refine z_istore_n ZC 2 dX8_count_1 rfl (by decide) ?_
  refine z_iload_n ZC 1 dX8_count_2 rfl rfl ?_
  rcases (show what = 0 ∨ what = 1 ∨ what = 2 ∨ what = 3 ∨ what = 4 ∨ what = 5 ∨ what = 6 ∨ (what < 0 ∨ 6 < what) by omega) with rfl | rfl | rfl | rfl | rfl | rfl | rfl | hsw_3
  · skip
    refine z_tabIn ZC (off := 41) 44 dX8_count_3 (by omega) (by decide) (by decide) (by decide) (by decide) ?_
    refine z_aload_n ZC 0 dX8_count_44 rfl rfl ?_
    refine z_get ZC inUX8 0 rfl rfl 20 (by decide) uF_X8_129 rfl dX8_count_45 ?_
    refine z_iret ZC ZE dX8_count_48 (by omega) (by omega) (Nat.le_of_ble_eq_true rfl) ⟨(M.2 20), rfl, rfl, by omega, by omega, ?_⟩
    · skip
      exact hmx.2.2.2.1
  · skip
    refine z_tabIn ZC (off := 46) 49 dX8_count_3 (by omega) (by decide) (by decide) (by decide) (by decide) ?_
    refine z_aload_n ZC 0 dX8_count_49 rfl rfl ?_
    refine z_get ZC inUX8 0 rfl rfl 0 (by decide) uF_X8_111 rfl dX8_count_50 ?_
    refine z_iret ZC ZE dX8_count_53 (by omega) (by omega) (Nat.le_of_ble_eq_true rfl) ⟨(M.2 0), rfl, rfl, by omega, by omega, ?_⟩
    · skip
      exact e0
  · skip
    refine z_tabIn ZC (off := 51) 54 dX8_count_3 (by omega) (by decide) (by decide) (by decide) (by decide) ?_
    refine z_aload_n ZC 0 dX8_count_54 rfl rfl ?_
    refine z_get ZC inUX8 0 rfl rfl 4 (by decide) uF_X8_118 rfl dX8_count_55 ?_
    refine z_iret ZC ZE dX8_count_58 (by omega) (by omega) (Nat.le_of_ble_eq_true rfl) ⟨(M.2 4), rfl, rfl, by omega, by omega, ?_⟩
    · skip
      exact e4
  · skip
    refine z_tabIn ZC (off := 56) 59 dX8_count_3 (by omega) (by decide) (by decide) (by decide) (by decide) ?_
    refine z_aload_n ZC 0 dX8_count_59 rfl rfl ?_
    refine z_get ZC inUX8 0 rfl rfl 12 (by decide) uF_X8_121 rfl dX8_count_60 ?_
    refine z_iret ZC ZE dX8_count_63 (by omega) (by omega) (Nat.le_of_ble_eq_true rfl) ⟨(M.2 12), rfl, rfl, by omega, by omega, ?_⟩
    · skip
      exact e12
  · skip
    refine z_tabIn ZC (off := 61) 64 dX8_count_3 (by omega) (by decide) (by decide) (by decide) (by decide) ?_
    refine z_iconst ZC dX8_count_64 ?_
    refine z_istore_n ZC 3 dX8_count_65 rfl (by decide) ?_
    have lp_66 : ∀ (n_66 : Nat) (n : Int) (c : Int), (0 ≤ c ∧ c ≤ Cr.2 3) → (n = smI (A.1 2) 0 c.toNat) → ((Cr.2 3 - c).toNat) < n_66 → Zw zp zl ze zR zs zm zargs zbelow zmeth zc D zA 4 zQ 0 0 ([(h, .inr (8, [vZ (M.2 0), .ref (a 1), .ref (a 2), vZ (M.2 3), vZ (M.2 4), .ref (a 5), .ref (a 6), .ref (a 7), .ref (a 8), .ref (a 9), .ref (a 10), .ref (a 11), vZ (M.2 12), .ref (a 13), .ref (a 14), .ref (a 15), .ref (a 16), .ref (a 17), .ref (a 18), .ref (a 19), vZ (M.2 20), vZ (M.2 21), .ref (a 22), .ref (a 23), .ref (a 24), .ref (a 25), .ref (a 26), .ref (a 27), .ref (a 28), .ref (a 29), .ref (a 30), .ref (a 31), .ref (a 32), .ref (a 33), vZ (M.2 34), .ref (a 35), vZ (M.2 36), vZ (M.2 37), vZ (M.2 38), .ref (a 39), .ref (a 40), vZ (M.2 41), vZ (M.2 42), vZ (M.2 43)])), ((a 1), .inl (K.1, 10, .inl (ar (M.1 1)))), ((a 2), .inl (K.1, 10, .inl (ar (M.1 2)))), ((a 5), .inl (K.1, 16, .inl (ar (M.1 5)))), ((a 6), .inl (K.1, 16, .inl (ar (M.1 6)))), ((a 7), .inl (K.1, 16, .inl (ar (M.1 7)))), ((a 8), .inl (K.1, 16, .inl (ar (M.1 8)))), ((a 9), .inl (K.1, 16, .inl (ar (M.1 9)))), ((a 10), .inl (K.1, 16, .inl (ar (M.1 10)))), ((a 11), .inl (K.1, 100, .inl (ar (M.1 11)))), ((a 13), .inl (K.1, 8, .inl (ar (M.1 13)))), ((a 14), .inl (K.1, 8, .inl (ar (M.1 14)))), ((a 15), .inl (K.1, 8, .inl (ar (M.1 15)))), ((a 16), .inl (K.1, 8, .inl (ar (M.1 16)))), ((a 17), .inl (K.1, 3200, .inl (ar (M.1 17)))), ((a 18), .inl (K.1, 3200, .inl (ar (M.1 18)))), ((a 19), .inl (K.2.1, 3200, .inl (ar (M.1 19)))), ((a 22), .inl (K.1, 3400, .inl (ar (M.1 22)))), ((a 23), .inl (K.1, 3400, .inl (ar (M.1 23)))), ((a 24), .inl (K.1, 3400, .inl (ar (M.1 24)))), ((a 25), .inl (K.1, 3400, .inl (ar (M.1 25)))), ((a 26), .inl (K.1, 32, .inl (ar (M.1 26)))), ((a 27), .inl (K.1, 32, .inl (ar (M.1 27)))), ((a 28), .inl (K.2.1, 8, .inl (ar (M.1 28)))), ((a 29), .inl (K.1, 8, .inl (ar (M.1 29)))), ((a 30), .inl (K.1, 8, .inl (ar (M.1 30)))), ((a 31), .inl (K.1, 10, .inl (ar (M.1 31)))), ((a 32), .inl (K.1, 10, .inl (ar (M.1 32)))), ((a 33), .inl (K.1, 10, .inl (ar (M.1 33)))), ((a 35), .inl (K.1, 13711, .inl (ar (M.1 35)))), ((a 39), .inl (K.1, 4, .inl (ar (M.1 39)))), ((a 40), .inl (K.1, 4, .inl (ar (M.1 40))))]) 66 [(0, .ref h), (1, vZ 4), (2, vZ n), (3, vZ c)] [] := by
      intro n_66
      induction n_66 with
      | zero => intro n c h0 hn hm_66; exact absurd hm_66 (Nat.not_lt_zero _)
      | succ n_66 ih_66 =>
        intro n c h0 hn hm_66
        refine z_iload_n ZC 3 dX8_count_66 rfl rfl ?_
        refine z_aload_n ZC 0 dX8_count_67 rfl rfl ?_
        refine z_get ZC inUX8 0 rfl rfl 12 (by decide) uF_X8_121 rfl dX8_count_68 ?_
        refine z_icmp_ge ZC 89 dX8_count_71 (by decide) (by omega) (by omega) (fun c_71 => ?_) (fun c_71 => ?_)
        · skip
          refine z_iload_n ZC 2 dX8_count_89 rfl rfl ?_
          refine z_iret ZC ZE dX8_count_90 (by omega) (by omega) (Nat.le_of_ble_eq_true rfl) ⟨n, rfl, rfl, by omega, by omega, ?_⟩
          · skip
            show _ = smI (A.1 2) 0 (Cr.2 3).toNat
            rw [hn, show Cr.2 3 = c by omega]
        · skip
          have hq := (hmx.1.2.2.1 c h0.1 (by omega)).2
          refine z_iload_n ZC 2 dX8_count_74 rfl rfl ?_
          refine z_aload_n ZC 0 dX8_count_75 rfl rfl ?_
          refine z_get ZC inUX8 0 rfl rfl 29 (by decide) uF_X8_84 rfl dX8_count_76 ?_
          refine z_iload_n ZC 3 dX8_count_79 rfl rfl ?_
          refine z_iald ZC 24 rfl dX8_count_80 (by omega) ?_
          refine z_iadd ZC dX8_count_81 ?_
          refine z_istore_n ZC 2 dX8_count_82 rfl (by decide) ?_
          refine z_iinc ZC dX8_count_83 rfl (by decide) ?_
          refine z_goto ZC 66 dX8_count_86 (by decide) ?_
          refine z_ws (ws2 := [(h, .inr (8, [vZ (M.2 0), .ref (a 1), .ref (a 2), vZ (M.2 3), vZ (M.2 4), .ref (a 5), .ref (a 6), .ref (a 7), .ref (a 8), .ref (a 9), .ref (a 10), .ref (a 11), vZ (M.2 12), .ref (a 13), .ref (a 14), .ref (a 15), .ref (a 16), .ref (a 17), .ref (a 18), .ref (a 19), vZ (M.2 20), vZ (M.2 21), .ref (a 22), .ref (a 23), .ref (a 24), .ref (a 25), .ref (a 26), .ref (a 27), .ref (a 28), .ref (a 29), .ref (a 30), .ref (a 31), .ref (a 32), .ref (a 33), vZ (M.2 34), .ref (a 35), vZ (M.2 36), vZ (M.2 37), vZ (M.2 38), .ref (a 39), .ref (a 40), vZ (M.2 41), vZ (M.2 42), vZ (M.2 43)])), ((a 1), .inl (K.1, 10, .inl (ar (M.1 1)))), ((a 2), .inl (K.1, 10, .inl (ar (M.1 2)))), ((a 5), .inl (K.1, 16, .inl (ar (M.1 5)))), ((a 6), .inl (K.1, 16, .inl (ar (M.1 6)))), ((a 7), .inl (K.1, 16, .inl (ar (M.1 7)))), ((a 8), .inl (K.1, 16, .inl (ar (M.1 8)))), ((a 9), .inl (K.1, 16, .inl (ar (M.1 9)))), ((a 10), .inl (K.1, 16, .inl (ar (M.1 10)))), ((a 11), .inl (K.1, 100, .inl (ar (M.1 11)))), ((a 13), .inl (K.1, 8, .inl (ar (M.1 13)))), ((a 14), .inl (K.1, 8, .inl (ar (M.1 14)))), ((a 15), .inl (K.1, 8, .inl (ar (M.1 15)))), ((a 16), .inl (K.1, 8, .inl (ar (M.1 16)))), ((a 17), .inl (K.1, 3200, .inl (ar (M.1 17)))), ((a 18), .inl (K.1, 3200, .inl (ar (M.1 18)))), ((a 19), .inl (K.2.1, 3200, .inl (ar (M.1 19)))), ((a 22), .inl (K.1, 3400, .inl (ar (M.1 22)))), ((a 23), .inl (K.1, 3400, .inl (ar (M.1 23)))), ((a 24), .inl (K.1, 3400, .inl (ar (M.1 24)))), ((a 25), .inl (K.1, 3400, .inl (ar (M.1 25)))), ((a 26), .inl (K.1, 32, .inl (ar (M.1 26)))), ((a 27), .inl (K.1, 32, .inl (ar (M.1 27)))), ((a 28), .inl (K.2.1, 8, .inl (ar (M.1 28)))), ((a 29), .inl (K.1, 8, .inl (ar (M.1 29)))), ((a 30), .inl (K.1, 8, .inl (ar (M.1 30)))), ((a 31), .inl (K.1, 10, .inl (ar (M.1 31)))), ((a 32), .inl (K.1, 10, .inl (ar (M.1 32)))), ((a 33), .inl (K.1, 10, .inl (ar (M.1 33)))), ((a 35), .inl (K.1, 13711, .inl (ar (M.1 35)))), ((a 39), .inl (K.1, 4, .inl (ar (M.1 39)))), ((a 40), .inl (K.1, 4, .inl (ar (M.1 40))))]) rfl (z_lv (lv2 := [(0, .ref h), (1, vZ 4), (2, vZ (n + ((M.1 29) c))), (3, vZ (c + 1))]) ⟨rfl, rfl, rfl, rfl, trivial⟩ ?_)
          refine ih_66 (n + ((M.1 29) c)) (c + 1) ?_ ?_ (dec_lt hm_66 (by omega))
          · skip
            omega
          · skip
            rw [smI_s h0.1, ← hn, hq]
    refine z_ws (ws2 := [(h, .inr (8, [vZ (M.2 0), .ref (a 1), .ref (a 2), vZ (M.2 3), vZ (M.2 4), .ref (a 5), .ref (a 6), .ref (a 7), .ref (a 8), .ref (a 9), .ref (a 10), .ref (a 11), vZ (M.2 12), .ref (a 13), .ref (a 14), .ref (a 15), .ref (a 16), .ref (a 17), .ref (a 18), .ref (a 19), vZ (M.2 20), vZ (M.2 21), .ref (a 22), .ref (a 23), .ref (a 24), .ref (a 25), .ref (a 26), .ref (a 27), .ref (a 28), .ref (a 29), .ref (a 30), .ref (a 31), .ref (a 32), .ref (a 33), vZ (M.2 34), .ref (a 35), vZ (M.2 36), vZ (M.2 37), vZ (M.2 38), .ref (a 39), .ref (a 40), vZ (M.2 41), vZ (M.2 42), vZ (M.2 43)])), ((a 1), .inl (K.1, 10, .inl (ar (M.1 1)))), ((a 2), .inl (K.1, 10, .inl (ar (M.1 2)))), ((a 5), .inl (K.1, 16, .inl (ar (M.1 5)))), ((a 6), .inl (K.1, 16, .inl (ar (M.1 6)))), ((a 7), .inl (K.1, 16, .inl (ar (M.1 7)))), ((a 8), .inl (K.1, 16, .inl (ar (M.1 8)))), ((a 9), .inl (K.1, 16, .inl (ar (M.1 9)))), ((a 10), .inl (K.1, 16, .inl (ar (M.1 10)))), ((a 11), .inl (K.1, 100, .inl (ar (M.1 11)))), ((a 13), .inl (K.1, 8, .inl (ar (M.1 13)))), ((a 14), .inl (K.1, 8, .inl (ar (M.1 14)))), ((a 15), .inl (K.1, 8, .inl (ar (M.1 15)))), ((a 16), .inl (K.1, 8, .inl (ar (M.1 16)))), ((a 17), .inl (K.1, 3200, .inl (ar (M.1 17)))), ((a 18), .inl (K.1, 3200, .inl (ar (M.1 18)))), ((a 19), .inl (K.2.1, 3200, .inl (ar (M.1 19)))), ((a 22), .inl (K.1, 3400, .inl (ar (M.1 22)))), ((a 23), .inl (K.1, 3400, .inl (ar (M.1 23)))), ((a 24), .inl (K.1, 3400, .inl (ar (M.1 24)))), ((a 25), .inl (K.1, 3400, .inl (ar (M.1 25)))), ((a 26), .inl (K.1, 32, .inl (ar (M.1 26)))), ((a 27), .inl (K.1, 32, .inl (ar (M.1 27)))), ((a 28), .inl (K.2.1, 8, .inl (ar (M.1 28)))), ((a 29), .inl (K.1, 8, .inl (ar (M.1 29)))), ((a 30), .inl (K.1, 8, .inl (ar (M.1 30)))), ((a 31), .inl (K.1, 10, .inl (ar (M.1 31)))), ((a 32), .inl (K.1, 10, .inl (ar (M.1 32)))), ((a 33), .inl (K.1, 10, .inl (ar (M.1 33)))), ((a 35), .inl (K.1, 13711, .inl (ar (M.1 35)))), ((a 39), .inl (K.1, 4, .inl (ar (M.1 39)))), ((a 40), .inl (K.1, 4, .inl (ar (M.1 40))))]) rfl (z_lv (lv2 := [(0, .ref h), (1, vZ 4), (2, vZ 0), (3, vZ 0)]) ⟨rfl, rfl, rfl, rfl, trivial⟩ ?_)
    refine lp_66 _ 0 0 ?_ ?_ (Nat.lt_succ_self _)
    · skip
      omega
    · skip
      rfl
  · skip
    refine z_tabIn ZC (off := 88) 91 dX8_count_3 (by omega) (by decide) (by decide) (by decide) (by decide) ?_
    refine z_iconst ZC dX8_count_91 ?_
    refine z_istore_n ZC 3 dX8_count_92 rfl (by decide) ?_
    have lp_93 : ∀ (n_93 : Nat) (n : Int) (r : Int), (0 ≤ r ∧ r ≤ Ne.2 8) → (n = smI (fun r => ((A.2.2.1 r).length : Int)) 0 r.toNat) → ((Ne.2 8 - r).toNat) < n_93 → Zw zp zl ze zR zs zm zargs zbelow zmeth zc D zA 4 zQ 0 0 ([(h, .inr (8, [vZ (M.2 0), .ref (a 1), .ref (a 2), vZ (M.2 3), vZ (M.2 4), .ref (a 5), .ref (a 6), .ref (a 7), .ref (a 8), .ref (a 9), .ref (a 10), .ref (a 11), vZ (M.2 12), .ref (a 13), .ref (a 14), .ref (a 15), .ref (a 16), .ref (a 17), .ref (a 18), .ref (a 19), vZ (M.2 20), vZ (M.2 21), .ref (a 22), .ref (a 23), .ref (a 24), .ref (a 25), .ref (a 26), .ref (a 27), .ref (a 28), .ref (a 29), .ref (a 30), .ref (a 31), .ref (a 32), .ref (a 33), vZ (M.2 34), .ref (a 35), vZ (M.2 36), vZ (M.2 37), vZ (M.2 38), .ref (a 39), .ref (a 40), vZ (M.2 41), vZ (M.2 42), vZ (M.2 43)])), ((a 1), .inl (K.1, 10, .inl (ar (M.1 1)))), ((a 2), .inl (K.1, 10, .inl (ar (M.1 2)))), ((a 5), .inl (K.1, 16, .inl (ar (M.1 5)))), ((a 6), .inl (K.1, 16, .inl (ar (M.1 6)))), ((a 7), .inl (K.1, 16, .inl (ar (M.1 7)))), ((a 8), .inl (K.1, 16, .inl (ar (M.1 8)))), ((a 9), .inl (K.1, 16, .inl (ar (M.1 9)))), ((a 10), .inl (K.1, 16, .inl (ar (M.1 10)))), ((a 11), .inl (K.1, 100, .inl (ar (M.1 11)))), ((a 13), .inl (K.1, 8, .inl (ar (M.1 13)))), ((a 14), .inl (K.1, 8, .inl (ar (M.1 14)))), ((a 15), .inl (K.1, 8, .inl (ar (M.1 15)))), ((a 16), .inl (K.1, 8, .inl (ar (M.1 16)))), ((a 17), .inl (K.1, 3200, .inl (ar (M.1 17)))), ((a 18), .inl (K.1, 3200, .inl (ar (M.1 18)))), ((a 19), .inl (K.2.1, 3200, .inl (ar (M.1 19)))), ((a 22), .inl (K.1, 3400, .inl (ar (M.1 22)))), ((a 23), .inl (K.1, 3400, .inl (ar (M.1 23)))), ((a 24), .inl (K.1, 3400, .inl (ar (M.1 24)))), ((a 25), .inl (K.1, 3400, .inl (ar (M.1 25)))), ((a 26), .inl (K.1, 32, .inl (ar (M.1 26)))), ((a 27), .inl (K.1, 32, .inl (ar (M.1 27)))), ((a 28), .inl (K.2.1, 8, .inl (ar (M.1 28)))), ((a 29), .inl (K.1, 8, .inl (ar (M.1 29)))), ((a 30), .inl (K.1, 8, .inl (ar (M.1 30)))), ((a 31), .inl (K.1, 10, .inl (ar (M.1 31)))), ((a 32), .inl (K.1, 10, .inl (ar (M.1 32)))), ((a 33), .inl (K.1, 10, .inl (ar (M.1 33)))), ((a 35), .inl (K.1, 13711, .inl (ar (M.1 35)))), ((a 39), .inl (K.1, 4, .inl (ar (M.1 39)))), ((a 40), .inl (K.1, 4, .inl (ar (M.1 40))))]) 93 [(0, .ref h), (1, vZ 5), (2, vZ n), (3, vZ r)] [] := by
      intro n_93
      induction n_93 with
      | zero => intro n r h1 hn hm_93; exact absurd hm_93 (Nat.not_lt_zero _)
      | succ n_93 ih_93 =>
        intro n r h1 hn hm_93
        refine z_iload_n ZC 3 dX8_count_93 rfl rfl ?_
        refine z_aload_n ZC 0 dX8_count_94 rfl rfl ?_
        refine z_get ZC inUX8 0 rfl rfl 4 (by decide) uF_X8_118 rfl dX8_count_95 ?_
        refine z_icmp_ge ZC 115 dX8_count_98 (by decide) (by omega) (by omega) (fun c_98 => ?_) (fun c_98 => ?_)
        · skip
          refine z_iload_n ZC 2 dX8_count_115 rfl rfl ?_
          refine z_iret ZC ZE dX8_count_116 (by omega) (by omega) (Nat.le_of_ble_eq_true rfl) ⟨n, rfl, rfl, by omega, by omega, ?_⟩
          · skip
            show _ = smI (fun r => ((A.2.2.1 r).length : Int)) 0 (Ne.2 8).toNat
            rw [hn, show Ne.2 8 = r by omega]
        · skip
          have hq : csum (C r) = ((A.2.2.1 r).length : Int) := by rw [csum_fq _ (mo_pos hmx.1.1 (k := r) (by omega)), (hmx.1.2.1 r h1.1 (by omega)).1]
          refine z_iload_n ZC 2 dX8_count_101 rfl rfl ?_
          refine z_aload_n ZC 0 dX8_count_102 rfl rfl ?_
          refine z_iload_n ZC 3 dX8_count_103 rfl rfl ?_
          refine z_callV ZC 1 (c_X8_carsIn zl D K h a M C r (by omega) (hmx.1.1) (by omega)) (gdV uM_X8_164 uI_X8_carsIn uS_X8_carsIn uN_X8 uC_X8_carsIn) (by decide +kernel) rfl ⟨by omega, by omega⟩ ⟨by omega, by omega⟩ (Nat.le_of_ble_eq_true rfl) [0, 1, 2, 3, 4, 5, 6, 7, 8, 9, 10, 11, 12, 13, 14, 15, 16, 17, 18, 19, 20, 21, 22, 23, 24, 25, 26, 27, 28, 29, 30, 31] rfl (by decide) rfl rfl rfl rfl dX8_count_104 (fun r w2 gc_104 gs_104 hp => ?_)
          obtain ⟨rfl, rfl, rfl, rfl⟩ := hp
          refine z_ws (ws2 := [(h, .inr (8, [vZ (M.2 0), .ref (a 1), .ref (a 2), vZ (M.2 3), vZ (M.2 4), .ref (a 5), .ref (a 6), .ref (a 7), .ref (a 8), .ref (a 9), .ref (a 10), .ref (a 11), vZ (M.2 12), .ref (a 13), .ref (a 14), .ref (a 15), .ref (a 16), .ref (a 17), .ref (a 18), .ref (a 19), vZ (M.2 20), vZ (M.2 21), .ref (a 22), .ref (a 23), .ref (a 24), .ref (a 25), .ref (a 26), .ref (a 27), .ref (a 28), .ref (a 29), .ref (a 30), .ref (a 31), .ref (a 32), .ref (a 33), vZ (M.2 34), .ref (a 35), vZ (M.2 36), vZ (M.2 37), vZ (M.2 38), .ref (a 39), .ref (a 40), vZ (M.2 41), vZ (M.2 42), vZ (M.2 43)])), ((a 1), .inl (K.1, 10, .inl (ar (M.1 1)))), ((a 2), .inl (K.1, 10, .inl (ar (M.1 2)))), ((a 5), .inl (K.1, 16, .inl (ar (M.1 5)))), ((a 6), .inl (K.1, 16, .inl (ar (M.1 6)))), ((a 7), .inl (K.1, 16, .inl (ar (M.1 7)))), ((a 8), .inl (K.1, 16, .inl (ar (M.1 8)))), ((a 9), .inl (K.1, 16, .inl (ar (M.1 9)))), ((a 10), .inl (K.1, 16, .inl (ar (M.1 10)))), ((a 11), .inl (K.1, 100, .inl (ar (M.1 11)))), ((a 13), .inl (K.1, 8, .inl (ar (M.1 13)))), ((a 14), .inl (K.1, 8, .inl (ar (M.1 14)))), ((a 15), .inl (K.1, 8, .inl (ar (M.1 15)))), ((a 16), .inl (K.1, 8, .inl (ar (M.1 16)))), ((a 17), .inl (K.1, 3200, .inl (ar (M.1 17)))), ((a 18), .inl (K.1, 3200, .inl (ar (M.1 18)))), ((a 19), .inl (K.2.1, 3200, .inl (ar (M.1 19)))), ((a 22), .inl (K.1, 3400, .inl (ar (M.1 22)))), ((a 23), .inl (K.1, 3400, .inl (ar (M.1 23)))), ((a 24), .inl (K.1, 3400, .inl (ar (M.1 24)))), ((a 25), .inl (K.1, 3400, .inl (ar (M.1 25)))), ((a 26), .inl (K.1, 32, .inl (ar (M.1 26)))), ((a 27), .inl (K.1, 32, .inl (ar (M.1 27)))), ((a 28), .inl (K.2.1, 8, .inl (ar (M.1 28)))), ((a 29), .inl (K.1, 8, .inl (ar (M.1 29)))), ((a 30), .inl (K.1, 8, .inl (ar (M.1 30)))), ((a 31), .inl (K.1, 10, .inl (ar (M.1 31)))), ((a 32), .inl (K.1, 10, .inl (ar (M.1 32)))), ((a 33), .inl (K.1, 10, .inl (ar (M.1 33)))), ((a 35), .inl (K.1, 13711, .inl (ar (M.1 35)))), ((a 39), .inl (K.1, 4, .inl (ar (M.1 39)))), ((a 40), .inl (K.1, 4, .inl (ar (M.1 40))))]) rfl ?_
          refine z_st (st2 := [vZ (csum (C r)), vZ n]) rfl ?_
          refine z_iadd ZC dX8_count_107 ?_
          refine z_istore_n ZC 2 dX8_count_108 rfl (by decide) ?_
          refine z_iinc ZC dX8_count_109 rfl (by decide) ?_
          refine z_goto ZC 93 dX8_count_112 (by decide) ?_
          refine z_ws (ws2 := [(h, .inr (8, [vZ (M.2 0), .ref (a 1), .ref (a 2), vZ (M.2 3), vZ (M.2 4), .ref (a 5), .ref (a 6), .ref (a 7), .ref (a 8), .ref (a 9), .ref (a 10), .ref (a 11), vZ (M.2 12), .ref (a 13), .ref (a 14), .ref (a 15), .ref (a 16), .ref (a 17), .ref (a 18), .ref (a 19), vZ (M.2 20), vZ (M.2 21), .ref (a 22), .ref (a 23), .ref (a 24), .ref (a 25), .ref (a 26), .ref (a 27), .ref (a 28), .ref (a 29), .ref (a 30), .ref (a 31), .ref (a 32), .ref (a 33), vZ (M.2 34), .ref (a 35), vZ (M.2 36), vZ (M.2 37), vZ (M.2 38), .ref (a 39), .ref (a 40), vZ (M.2 41), vZ (M.2 42), vZ (M.2 43)])), ((a 1), .inl (K.1, 10, .inl (ar (M.1 1)))), ((a 2), .inl (K.1, 10, .inl (ar (M.1 2)))), ((a 5), .inl (K.1, 16, .inl (ar (M.1 5)))), ((a 6), .inl (K.1, 16, .inl (ar (M.1 6)))), ((a 7), .inl (K.1, 16, .inl (ar (M.1 7)))), ((a 8), .inl (K.1, 16, .inl (ar (M.1 8)))), ((a 9), .inl (K.1, 16, .inl (ar (M.1 9)))), ((a 10), .inl (K.1, 16, .inl (ar (M.1 10)))), ((a 11), .inl (K.1, 100, .inl (ar (M.1 11)))), ((a 13), .inl (K.1, 8, .inl (ar (M.1 13)))), ((a 14), .inl (K.1, 8, .inl (ar (M.1 14)))), ((a 15), .inl (K.1, 8, .inl (ar (M.1 15)))), ((a 16), .inl (K.1, 8, .inl (ar (M.1 16)))), ((a 17), .inl (K.1, 3200, .inl (ar (M.1 17)))), ((a 18), .inl (K.1, 3200, .inl (ar (M.1 18)))), ((a 19), .inl (K.2.1, 3200, .inl (ar (M.1 19)))), ((a 22), .inl (K.1, 3400, .inl (ar (M.1 22)))), ((a 23), .inl (K.1, 3400, .inl (ar (M.1 23)))), ((a 24), .inl (K.1, 3400, .inl (ar (M.1 24)))), ((a 25), .inl (K.1, 3400, .inl (ar (M.1 25)))), ((a 26), .inl (K.1, 32, .inl (ar (M.1 26)))), ((a 27), .inl (K.1, 32, .inl (ar (M.1 27)))), ((a 28), .inl (K.2.1, 8, .inl (ar (M.1 28)))), ((a 29), .inl (K.1, 8, .inl (ar (M.1 29)))), ((a 30), .inl (K.1, 8, .inl (ar (M.1 30)))), ((a 31), .inl (K.1, 10, .inl (ar (M.1 31)))), ((a 32), .inl (K.1, 10, .inl (ar (M.1 32)))), ((a 33), .inl (K.1, 10, .inl (ar (M.1 33)))), ((a 35), .inl (K.1, 13711, .inl (ar (M.1 35)))), ((a 39), .inl (K.1, 4, .inl (ar (M.1 39)))), ((a 40), .inl (K.1, 4, .inl (ar (M.1 40))))]) rfl (z_lv (lv2 := [(0, .ref h), (1, vZ 5), (2, vZ (n + (csum (C r)))), (3, vZ (r + 1))]) ⟨rfl, rfl, rfl, rfl, trivial⟩ ?_)
          refine ih_93 (n + (csum (C r))) (r + 1) ?_ ?_ (dec_lt hm_93 (by omega))
          · skip
            omega
          · skip
            rw [smI_s h1.1, ← hn, hq]
    refine z_ws (ws2 := [(h, .inr (8, [vZ (M.2 0), .ref (a 1), .ref (a 2), vZ (M.2 3), vZ (M.2 4), .ref (a 5), .ref (a 6), .ref (a 7), .ref (a 8), .ref (a 9), .ref (a 10), .ref (a 11), vZ (M.2 12), .ref (a 13), .ref (a 14), .ref (a 15), .ref (a 16), .ref (a 17), .ref (a 18), .ref (a 19), vZ (M.2 20), vZ (M.2 21), .ref (a 22), .ref (a 23), .ref (a 24), .ref (a 25), .ref (a 26), .ref (a 27), .ref (a 28), .ref (a 29), .ref (a 30), .ref (a 31), .ref (a 32), .ref (a 33), vZ (M.2 34), .ref (a 35), vZ (M.2 36), vZ (M.2 37), vZ (M.2 38), .ref (a 39), .ref (a 40), vZ (M.2 41), vZ (M.2 42), vZ (M.2 43)])), ((a 1), .inl (K.1, 10, .inl (ar (M.1 1)))), ((a 2), .inl (K.1, 10, .inl (ar (M.1 2)))), ((a 5), .inl (K.1, 16, .inl (ar (M.1 5)))), ((a 6), .inl (K.1, 16, .inl (ar (M.1 6)))), ((a 7), .inl (K.1, 16, .inl (ar (M.1 7)))), ((a 8), .inl (K.1, 16, .inl (ar (M.1 8)))), ((a 9), .inl (K.1, 16, .inl (ar (M.1 9)))), ((a 10), .inl (K.1, 16, .inl (ar (M.1 10)))), ((a 11), .inl (K.1, 100, .inl (ar (M.1 11)))), ((a 13), .inl (K.1, 8, .inl (ar (M.1 13)))), ((a 14), .inl (K.1, 8, .inl (ar (M.1 14)))), ((a 15), .inl (K.1, 8, .inl (ar (M.1 15)))), ((a 16), .inl (K.1, 8, .inl (ar (M.1 16)))), ((a 17), .inl (K.1, 3200, .inl (ar (M.1 17)))), ((a 18), .inl (K.1, 3200, .inl (ar (M.1 18)))), ((a 19), .inl (K.2.1, 3200, .inl (ar (M.1 19)))), ((a 22), .inl (K.1, 3400, .inl (ar (M.1 22)))), ((a 23), .inl (K.1, 3400, .inl (ar (M.1 23)))), ((a 24), .inl (K.1, 3400, .inl (ar (M.1 24)))), ((a 25), .inl (K.1, 3400, .inl (ar (M.1 25)))), ((a 26), .inl (K.1, 32, .inl (ar (M.1 26)))), ((a 27), .inl (K.1, 32, .inl (ar (M.1 27)))), ((a 28), .inl (K.2.1, 8, .inl (ar (M.1 28)))), ((a 29), .inl (K.1, 8, .inl (ar (M.1 29)))), ((a 30), .inl (K.1, 8, .inl (ar (M.1 30)))), ((a 31), .inl (K.1, 10, .inl (ar (M.1 31)))), ((a 32), .inl (K.1, 10, .inl (ar (M.1 32)))), ((a 33), .inl (K.1, 10, .inl (ar (M.1 33)))), ((a 35), .inl (K.1, 13711, .inl (ar (M.1 35)))), ((a 39), .inl (K.1, 4, .inl (ar (M.1 39)))), ((a 40), .inl (K.1, 4, .inl (ar (M.1 40))))]) rfl (z_lv (lv2 := [(0, .ref h), (1, vZ 5), (2, vZ 0), (3, vZ 0)]) ⟨rfl, rfl, rfl, rfl, trivial⟩ ?_)
    refine lp_93 _ 0 0 ?_ ?_ (Nat.lt_succ_self _)
    · skip
      omega
    · skip
      rfl
  · skip
    refine z_tabIn ZC (off := 114) 117 dX8_count_3 (by omega) (by decide) (by decide) (by decide) (by decide) ?_
    refine z_aload_n ZC 0 dX8_count_117 rfl rfl ?_
    refine z_get ZC inUX8 0 rfl rfl 34 (by decide) uF_X8_176 rfl dX8_count_118 ?_
    refine z_iret ZC ZE dX8_count_121 (by omega) (by omega) (Nat.le_of_ble_eq_true rfl) ⟨(M.2 34), rfl, rfl, by omega, by omega, ?_⟩
    · skip
      exact hmx.2.2.2.2.1
  · skip
    refine z_tabOut ZC 122 dX8_count_3 (by omega) (by omega) (by decide) ?_
    refine z_iconst ZC dX8_count_122 ?_
    refine z_iret ZC ZE dX8_count_123 (by omega) (by omega) (Nat.le_of_ble_eq_true rfl) ⟨(-1), rfl, rfl, by omega, by omega, ?_⟩
    · skip
      rw [if_neg (by omega), if_neg (by omega), if_neg (by omega), if_neg (by omega), if_neg (by omega), if_neg (by omega), if_neg (by omega)]

