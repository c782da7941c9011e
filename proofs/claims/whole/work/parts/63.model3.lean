/-! ===== the reference: its chains, walked ===== -/
/-- but for the fields named, alike -/
def KP (la lz : List Nat) (M M2 : Bd) : Prop := (∀ k : Nat, la.contains k = false → M2.1 k = M.1 k) ∧ (∀ k : Nat, lz.contains k = false → M2.2 k = M.2 k)
theorem upf_out {α : Type} {g : Nat → α} {j k : Nat} {x : α} {la : List Nat} (hk : la.contains k = false) (hj : la.contains j = true) : upf g j x k = g k := by
  rw [upf_eq, if_neg]
  intro e
  rw [e, hj] at hk
  cases hk
theorem KP.refl (la lz : List Nat) (M : Bd) : KP la lz M M := ⟨fun _ _ => rfl, fun _ _ => rfl⟩
theorem ct_sub {la lb : List Nat} (h : lb.all (fun x => la.contains x) = true) {k : Nat} (hk : la.contains k = false) : lb.contains k = false := by
  cases e : lb.contains k with
  | false => rfl
  | true =>
    have h1 := List.all_eq_true.mp h k (by simpa using e)
    rw [hk] at h1
    cases h1
theorem KP.trans {la lz lb ly lc lx : List Nat} {M M1 M2 : Bd} (h : KP lb ly M M1) (g : KP lc lx M1 M2) (h1 : lb.all (fun x => la.contains x) = true) (h2 : ly.all (fun x => lz.contains x) = true) (h3 : lc.all (fun x => la.contains x) = true) (h4 : lx.all (fun x => lz.contains x) = true) : KP la lz M M2 :=
  ⟨fun k hk => (g.1 k (ct_sub h3 hk)).trans (h.1 k (ct_sub h1 hk)), fun k hk => (g.2 k (ct_sub h4 hk)).trans (h.2 k (ct_sub h2 hk))⟩
theorem ms_keep {la lz : List Nat} {To Ne Cr M M2 : Bd} (h : MS To Ne Cr M) (k : KP la lz M M2) (h1 : [1, 2, 5, 6, 7, 8, 9, 10, 11, 13, 14, 15].all (fun x => !la.contains x) = true) (h2 : [0, 3, 4, 12].all (fun x => !lz.contains x) = true) : MS To Ne Cr M2 := by
  have a : ∀ k ∈ [1, 2, 5, 6, 7, 8, 9, 10, 11, 13, 14, 15], M2.1 k = M.1 k := fun k' hk => k.1 k' (by have := List.all_eq_true.mp h1 k' hk; simpa using this)
  have b : ∀ k ∈ [0, 3, 4, 12], M2.2 k = M.2 k := fun k' hk => k.2 k' (by have := List.all_eq_true.mp h2 k' hk; simpa using this)
  unfold MS MSt MSn MSc at h ⊢
  rw [a 1 (by simp), a 2 (by simp), a 5 (by simp), a 6 (by simp), a 7 (by simp), a 8 (by simp), a 9 (by simp), a 10 (by simp), a 11 (by simp), a 13 (by simp), a 14 (by simp), a 15 (by simp), b 0 (by simp), b 3 (by simp), b 4 (by simp), b 12 (by simp)]
  exact h
section MO2
variable {us : Int} {cr ca du nx he ta : Int → Int} {C : Int → List Pt3} {X : List Int}
theorem mo_ta (h : MO us cr ca du nx he ta C X) {k : Int} (hk : 0 ≤ k ∧ k < 32) : -1 ≤ he k ∧ he k < us + 1 ∧ (he k ≠ -1 → 0 ≤ ta k ∧ ta k < us) := by
  obtain ⟨P, ow, ⟨h1, h2, h3⟩, hC⟩ := h
  obtain ⟨a1, a2, a3, a4⟩ := h2 k hk.1 hk.2
  cases hP : P k with
  | nil => rw [hP] at a1; have e : he k = -1 := a1; exact ⟨by omega, by omega, fun q => absurd e q⟩
  | cons x l =>
    rw [hP] at a1
    have e : he k = x := a1.1
    have b := a4 x (by rw [hP]; exact List.mem_cons_self)
    refine ⟨by omega, by omega, fun _ => ?_⟩
    have hne : P k ≠ [] := by rw [hP]; exact List.cons_ne_nil _ _
    have m : ta k ∈ P k := by
      rw [a3 hne, List.getLastD_eq_getLast?, List.getLast?_eq_some_getLast hne]
      exact List.getLast_mem _
    have c := a4 _ m
    exact ⟨c.1, c.2.1⟩
theorem mo_us (h : MO us cr ca du nx he ta C X) : 0 ≤ us := by
  obtain ⟨P, ow, ⟨h1, h2, h3⟩, hC⟩ := h
  exact h1
theorem mo_list (h : MO us cr ca du nx he ta C X) {k : Int} (hk : 0 ≤ k ∧ k < 32) : ∃ l : List Int, Chn nx (he k) l ∧ sumz ca l = csum (C k) ∧ ∀ x ∈ l, 0 ≤ x ∧ x < us := by
  obtain ⟨P, ow, ⟨h1, h2, h3⟩, hC⟩ := h
  obtain ⟨a1, a2, a3, a4⟩ := h2 k hk.1 hk.2
  refine ⟨P k, a1, ?_, fun x hx => ⟨(a4 x hx).1, (a4 x hx).2.1⟩⟩
  rw [hC k hk.1 hk.2, csum_cnt]
theorem mo_agree {us2 : Int} {cr2 ca2 du2 nx2 he2 ta2 : Int → Int} (h : MO us cr ca du nx he ta C []) (hu : us2 = us) (h1 : ∀ x : Int, 0 ≤ x → x < us → cr2 x = cr x ∧ ca2 x = ca x ∧ du2 x = du x ∧ nx2 x = nx x) (h2 : ∀ k : Int, 0 ≤ k → k < 32 → he2 k = he k ∧ ta2 k = ta k) : MO us2 cr2 ca2 du2 nx2 he2 ta2 C [] := by
  obtain ⟨P, ow, ⟨g1, g2, g3⟩, hC⟩ := h
  subst hu
  refine ⟨P, ow, ⟨g1, fun k k1 k2 => ?_, fun x hx => absurd hx List.not_mem_nil⟩, fun k k1 k2 => ?_⟩
  · obtain ⟨a1, a2, a3, a4⟩ := g2 k k1 k2
    rw [(h2 k k1 k2).1, (h2 k k1 k2).2]
    refine ⟨Chn.congr (fun x hx => (h1 x (a4 x hx).1 (a4 x hx).2.1).2.2.2) a1, a2, a3, fun x hx => ?_⟩
    rw [(h1 x (a4 x hx).1 (a4 x hx).2.1).2.1]
    exact a4 x hx
  · rw [hC k k1 k2]
    have a4 := (g2 k k1 k2).2.2.2
    exact (cnt3_congr (fun x hx => ⟨(h1 x (a4 x hx).1 (a4 x hx).2.1).1, (h1 x (a4 x hx).1 (a4 x hx).2.1).2.1, (h1 x (a4 x hx).1 (a4 x hx).2.1).2.2.1⟩)).symm
end MO2
/-- the reference's chains and crowds hold the state A -/
abbrev MD (Cr : Bd) (A : Ab) (M : Bd) (C : Int → List Pt3) (X : List Int) : Prop := MDx Cr A (M.2 21) (M.1 22) (M.1 23) (M.1 24) (M.1 25) (M.1 26) (M.1 27) (M.1 28) (M.1 29) (M.1 30) C X

set_option maxHeartbeats 4000000 in
set_option maxRecDepth 100000 in
theorem c_X8_adds (zl : Launch) (D : va_G) (K : tyK) (h : Nat) (a : Nat → Nat) (M : Bd) (ch : Int) (lu : Int) (hch : 0 ≤ ch ∧ ch < 32) (hlu : 0 ≤ lu ∧ lu < 3400) (hhe : -1 ≤ M.1 26 ch ∧ M.1 26 ch ≤ 3400) (hta : M.1 26 ch ≠ -1 → 0 ≤ M.1 27 ch ∧ M.1 27 ch < 3400) : Mz zl yX8_adds cX8_adds 3 (none) 0 0 0 0 D K [.ref h, vZ ch, vZ lu] (wMo K h a M) (fun r_ w2_ gc gs => ∃ (nx2 : Int → Int), ∃ (he2 : Int → Int), r_ = none ∧ w2_ = (wMo K h a ((upf (upf (upf M.1 25 nx2) 26 he2) 27 (upz (M.1 27) ch lu)), M.2)) ∧ gc = 0 ∧ gs = 0 ∧ ((M.1 26 ch = -1 ∧ he2 = upz (M.1 26) ch lu ∧ nx2 = upz (M.1 25) lu (-1)) ∨ (M.1 26 ch ≠ -1 ∧ he2 = M.1 26 ∧ nx2 = upz (upz (M.1 25) lu (-1)) (M.1 27 ch) lu))) := by
  refine Mz.ofZ (by decide) rfl (Nat.le_of_ble_eq_true rfl) ?_
  intro zp ze zR zs zm zargs zbelow zmeth zc zA zQ ZC ZE hRf hRc hRs hRl
  refine z_aload_n ZC 0 dX8_adds_0 rfl rfl ?_
  refine z_get ZC inUX8 0 rfl rfl 25 (by decide) uF_X8_72 rfl dX8_adds_1 ?_
  refine z_iload_n ZC 2 dX8_adds_4 rfl rfl ?_
  refine z_iconst ZC dX8_adds_5 ?_
  refine z_iast ZC 20 rfl dX8_adds_6 (by omega) ?_
  refine z_aload_n ZC 0 dX8_adds_7 rfl rfl ?_
  refine z_get ZC inUX8 0 rfl rfl 26 (by decide) uF_X8_75 rfl dX8_adds_8 ?_
  refine z_iload_n ZC 1 dX8_adds_11 rfl rfl ?_
  refine z_iald ZC 21 rfl dX8_adds_12 (by omega) ?_
  refine z_iconst ZC dX8_adds_13 ?_
  refine z_icmp_ne ZC 27 dX8_adds_14 (by decide) (by omega) (by omega) (fun c_14 => ?_) (fun c_14 => ?_)
  · skip
    have ht := hta c_14
    refine z_aload_n ZC 0 dX8_adds_27 rfl rfl ?_
    refine z_get ZC inUX8 0 rfl rfl 25 (by decide) uF_X8_72 rfl dX8_adds_28 ?_
    refine z_aload_n ZC 0 dX8_adds_31 rfl rfl ?_
    refine z_get ZC inUX8 0 rfl rfl 27 (by decide) uF_X8_78 rfl dX8_adds_32 ?_
    refine z_iload_n ZC 1 dX8_adds_35 rfl rfl ?_
    refine z_iald ZC 22 rfl dX8_adds_36 (by omega) ?_
    refine z_iload_n ZC 2 dX8_adds_37 rfl rfl ?_
    refine z_iast ZC 20 rfl dX8_adds_38 (by omega) ?_
    refine z_aload_n ZC 0 dX8_adds_39 rfl rfl ?_
    refine z_get ZC inUX8 0 rfl rfl 27 (by decide) uF_X8_78 rfl dX8_adds_40 ?_
    refine z_iload_n ZC 1 dX8_adds_43 rfl rfl ?_
    refine z_iload_n ZC 2 dX8_adds_44 rfl rfl ?_
    refine z_iast ZC 22 rfl dX8_adds_45 (by omega) ?_
    refine z_ws (ws2 := [(h, .inr (8, [vZ (M.2 0), .ref (a 1), .ref (a 2), vZ (M.2 3), vZ (M.2 4), .ref (a 5), .ref (a 6), .ref (a 7), .ref (a 8), .ref (a 9), .ref (a 10), .ref (a 11), vZ (M.2 12), .ref (a 13), .ref (a 14), .ref (a 15), .ref (a 16), .ref (a 17), .ref (a 18), .ref (a 19), vZ (M.2 20), vZ (M.2 21), .ref (a 22), .ref (a 23), .ref (a 24), .ref (a 25), .ref (a 26), .ref (a 27), .ref (a 28), .ref (a 29), .ref (a 30), .ref (a 31), .ref (a 32), .ref (a 33), vZ (M.2 34), .ref (a 35), vZ (M.2 36), vZ (M.2 37), vZ (M.2 38), .ref (a 39), .ref (a 40), vZ (M.2 41), vZ (M.2 42), vZ (M.2 43)])), ((a 1), .inl (K.1, 10, .inl (ar (M.1 1)))), ((a 2), .inl (K.1, 10, .inl (ar (M.1 2)))), ((a 5), .inl (K.1, 16, .inl (ar (M.1 5)))), ((a 6), .inl (K.1, 16, .inl (ar (M.1 6)))), ((a 7), .inl (K.1, 16, .inl (ar (M.1 7)))), ((a 8), .inl (K.1, 16, .inl (ar (M.1 8)))), ((a 9), .inl (K.1, 16, .inl (ar (M.1 9)))), ((a 10), .inl (K.1, 16, .inl (ar (M.1 10)))), ((a 11), .inl (K.1, 100, .inl (ar (M.1 11)))), ((a 13), .inl (K.1, 8, .inl (ar (M.1 13)))), ((a 14), .inl (K.1, 8, .inl (ar (M.1 14)))), ((a 15), .inl (K.1, 8, .inl (ar (M.1 15)))), ((a 16), .inl (K.1, 8, .inl (ar (M.1 16)))), ((a 17), .inl (K.1, 3200, .inl (ar (M.1 17)))), ((a 18), .inl (K.1, 3200, .inl (ar (M.1 18)))), ((a 19), .inl (K.2.1, 3200, .inl (ar (M.1 19)))), ((a 22), .inl (K.1, 3400, .inl (ar (M.1 22)))), ((a 23), .inl (K.1, 3400, .inl (ar (M.1 23)))), ((a 24), .inl (K.1, 3400, .inl (ar (M.1 24)))), ((a 25), .inl (K.1, 3400, .inl (ar (upz (upz (M.1 25) lu (-1)) ((M.1 27) ch) lu)))), ((a 26), .inl (K.1, 32, .inl (ar (M.1 26)))), ((a 27), .inl (K.1, 32, .inl (ar (upz (M.1 27) ch lu)))), ((a 28), .inl (K.2.1, 8, .inl (ar (M.1 28)))), ((a 29), .inl (K.1, 8, .inl (ar (M.1 29)))), ((a 30), .inl (K.1, 8, .inl (ar (M.1 30)))), ((a 31), .inl (K.1, 10, .inl (ar (M.1 31)))), ((a 32), .inl (K.1, 10, .inl (ar (M.1 32)))), ((a 33), .inl (K.1, 10, .inl (ar (M.1 33)))), ((a 35), .inl (K.1, 13711, .inl (ar (M.1 35)))), ((a 39), .inl (K.1, 4, .inl (ar (M.1 39)))), ((a 40), .inl (K.1, 4, .inl (ar (M.1 40))))]) rfl ?_
    refine z_vret ZC ZE dX8_adds_46 (by omega) (by omega) (Nat.le_of_ble_eq_true rfl) ⟨(upz (upz (M.1 25) lu (-1)) ((M.1 27) ch) lu), (M.1 26), rfl, rfl, by omega, by omega, ?_⟩
    · skip
      first | exact Or.inl ⟨c_14, rfl, rfl⟩ | exact Or.inl ⟨by omega, rfl, rfl⟩ | exact Or.inr ⟨c_14, rfl, rfl⟩
  · skip
    refine z_aload_n ZC 0 dX8_adds_17 rfl rfl ?_
    refine z_get ZC inUX8 0 rfl rfl 26 (by decide) uF_X8_75 rfl dX8_adds_18 ?_
    refine z_iload_n ZC 1 dX8_adds_21 rfl rfl ?_
    refine z_iload_n ZC 2 dX8_adds_22 rfl rfl ?_
    refine z_iast ZC 21 rfl dX8_adds_23 (by omega) ?_
    refine z_goto ZC 39 dX8_adds_24 (by decide) ?_
    refine z_aload_n ZC 0 dX8_adds_39 rfl rfl ?_
    refine z_get ZC inUX8 0 rfl rfl 27 (by decide) uF_X8_78 rfl dX8_adds_40 ?_
    refine z_iload_n ZC 1 dX8_adds_43 rfl rfl ?_
    refine z_iload_n ZC 2 dX8_adds_44 rfl rfl ?_
    refine z_iast ZC 22 rfl dX8_adds_45 (by omega) ?_
    refine z_ws (ws2 := [(h, .inr (8, [vZ (M.2 0), .ref (a 1), .ref (a 2), vZ (M.2 3), vZ (M.2 4), .ref (a 5), .ref (a 6), .ref (a 7), .ref (a 8), .ref (a 9), .ref (a 10), .ref (a 11), vZ (M.2 12), .ref (a 13), .ref (a 14), .ref (a 15), .ref (a 16), .ref (a 17), .ref (a 18), .ref (a 19), vZ (M.2 20), vZ (M.2 21), .ref (a 22), .ref (a 23), .ref (a 24), .ref (a 25), .ref (a 26), .ref (a 27), .ref (a 28), .ref (a 29), .ref (a 30), .ref (a 31), .ref (a 32), .ref (a 33), vZ (M.2 34), .ref (a 35), vZ (M.2 36), vZ (M.2 37), vZ (M.2 38), .ref (a 39), .ref (a 40), vZ (M.2 41), vZ (M.2 42), vZ (M.2 43)])), ((a 1), .inl (K.1, 10, .inl (ar (M.1 1)))), ((a 2), .inl (K.1, 10, .inl (ar (M.1 2)))), ((a 5), .inl (K.1, 16, .inl (ar (M.1 5)))), ((a 6), .inl (K.1, 16, .inl (ar (M.1 6)))), ((a 7), .inl (K.1, 16, .inl (ar (M.1 7)))), ((a 8), .inl (K.1, 16, .inl (ar (M.1 8)))), ((a 9), .inl (K.1, 16, .inl (ar (M.1 9)))), ((a 10), .inl (K.1, 16, .inl (ar (M.1 10)))), ((a 11), .inl (K.1, 100, .inl (ar (M.1 11)))), ((a 13), .inl (K.1, 8, .inl (ar (M.1 13)))), ((a 14), .inl (K.1, 8, .inl (ar (M.1 14)))), ((a 15), .inl (K.1, 8, .inl (ar (M.1 15)))), ((a 16), .inl (K.1, 8, .inl (ar (M.1 16)))), ((a 17), .inl (K.1, 3200, .inl (ar (M.1 17)))), ((a 18), .inl (K.1, 3200, .inl (ar (M.1 18)))), ((a 19), .inl (K.2.1, 3200, .inl (ar (M.1 19)))), ((a 22), .inl (K.1, 3400, .inl (ar (M.1 22)))), ((a 23), .inl (K.1, 3400, .inl (ar (M.1 23)))), ((a 24), .inl (K.1, 3400, .inl (ar (M.1 24)))), ((a 25), .inl (K.1, 3400, .inl (ar (upz (M.1 25) lu (-1))))), ((a 26), .inl (K.1, 32, .inl (ar (upz (M.1 26) ch lu)))), ((a 27), .inl (K.1, 32, .inl (ar (upz (M.1 27) ch lu)))), ((a 28), .inl (K.2.1, 8, .inl (ar (M.1 28)))), ((a 29), .inl (K.1, 8, .inl (ar (M.1 29)))), ((a 30), .inl (K.1, 8, .inl (ar (M.1 30)))), ((a 31), .inl (K.1, 10, .inl (ar (M.1 31)))), ((a 32), .inl (K.1, 10, .inl (ar (M.1 32)))), ((a 33), .inl (K.1, 10, .inl (ar (M.1 33)))), ((a 35), .inl (K.1, 13711, .inl (ar (M.1 35)))), ((a 39), .inl (K.1, 4, .inl (ar (M.1 39)))), ((a 40), .inl (K.1, 4, .inl (ar (M.1 40))))]) rfl ?_
    refine z_vret ZC ZE dX8_adds_46 (by omega) (by omega) (Nat.le_of_ble_eq_true rfl) ⟨(upz (M.1 25) lu (-1)), (upz (M.1 26) ch lu), rfl, rfl, by omega, by omega, ?_⟩
    · skip
      first | exact Or.inl ⟨c_14, rfl, rfl⟩ | exact Or.inl ⟨by omega, rfl, rfl⟩ | exact Or.inr ⟨c_14, rfl, rfl⟩

set_option maxHeartbeats 4000000 in
set_option maxRecDepth 100000 in
theorem c_X8_takes (zl : Launch) (D : va_G) (K : tyK) (h : Nat) (a : Nat → Nat) (M : Bd) (ch : Int) (hch : 0 ≤ ch ∧ ch < 32) (hhe : 0 ≤ M.1 26 ch ∧ M.1 26 ch < 3400) : Mz zl yX8_takes cX8_takes 3 (some .int) 0 0 0 0 D K [.ref h, vZ ch] (wMo K h a M) (fun r_ w2_ gc gs => r_ = some (vZ (M.1 26 ch)) ∧ w2_ = (wMo K h a ((upf M.1 26 (upz (M.1 26) ch (M.1 25 (M.1 26 ch)))), M.2)) ∧ gc = 0 ∧ gs = 0) := by
  refine Mz.ofZ (by decide) rfl (Nat.le_of_ble_eq_true rfl) ?_
  intro zp ze zR zs zm zargs zbelow zmeth zc zA zQ ZC ZE hRf hRc hRs hRl
  refine z_aload_n ZC 0 dX8_takes_0 rfl rfl ?_
  refine z_get ZC inUX8 0 rfl rfl 26 (by decide) uF_X8_75 rfl dX8_takes_1 ?_
  refine z_iload_n ZC 1 dX8_takes_4 rfl rfl ?_
  refine z_iald ZC 21 rfl dX8_takes_5 (by omega) ?_
  refine z_istore_n ZC 2 dX8_takes_6 rfl (by decide) ?_
  refine z_aload_n ZC 0 dX8_takes_7 rfl rfl ?_
  refine z_get ZC inUX8 0 rfl rfl 26 (by decide) uF_X8_75 rfl dX8_takes_8 ?_
  refine z_iload_n ZC 1 dX8_takes_11 rfl rfl ?_
  refine z_aload_n ZC 0 dX8_takes_12 rfl rfl ?_
  refine z_get ZC inUX8 0 rfl rfl 25 (by decide) uF_X8_72 rfl dX8_takes_13 ?_
  refine z_iload_n ZC 2 dX8_takes_16 rfl rfl ?_
  refine z_iald ZC 20 rfl dX8_takes_17 (by omega) ?_
  refine z_iast ZC 21 rfl dX8_takes_18 (by omega) ?_
  refine z_iload_n ZC 2 dX8_takes_19 rfl rfl ?_
  exact z_iret ZC ZE dX8_takes_20 (by omega) (by omega) (Nat.le_of_ble_eq_true rfl) ⟨rfl, rfl, by omega, by omega⟩

set_option maxHeartbeats 4000000 in
set_option maxRecDepth 100000 in
theorem c_X8_newLump (zl : Launch) (D : va_G) (K : tyK) (h : Nat) (a : Nat → Nat) (M : Bd) (c : Int) (n : Int) (hus : 0 ≤ M.2 21 ∧ M.2 21 < 3400) : Mz zl yX8_newLump cX8_newLump 3 (some .int) 0 0 0 0 D K [.ref h, vZ c, vZ n] (wMo K h a M) (fun r_ w2_ gc gs => r_ = some (vZ (M.2 21)) ∧ w2_ = (wMo K h a ((upf (upf M.1 22 (upz (M.1 22) (M.2 21) c)) 23 (upz (M.1 23) (M.2 21) n)), (upf M.2 21 (M.2 21 + 1)))) ∧ gc = 0 ∧ gs = 0) := by
  refine Mz.ofZ (by decide) rfl (Nat.le_of_ble_eq_true rfl) ?_
  intro zp ze zR zs zm zargs zbelow zmeth zc zA zQ ZC ZE hRf hRc hRs hRl
  refine z_aload_n ZC 0 dX8_newLump_0 rfl rfl ?_
  refine z_get ZC inUX8 0 rfl rfl 22 (by decide) uF_X8_63 rfl dX8_newLump_1 ?_
  refine z_aload_n ZC 0 dX8_newLump_4 rfl rfl ?_
  refine z_get ZC inUX8 0 rfl rfl 21 (by decide) uF_X8_148 rfl dX8_newLump_5 ?_
  refine z_iload_n ZC 1 dX8_newLump_8 rfl rfl ?_
  refine z_iast ZC 17 rfl dX8_newLump_9 (by omega) ?_
  refine z_aload_n ZC 0 dX8_newLump_10 rfl rfl ?_
  refine z_get ZC inUX8 0 rfl rfl 23 (by decide) uF_X8_66 rfl dX8_newLump_11 ?_
  refine z_aload_n ZC 0 dX8_newLump_14 rfl rfl ?_
  refine z_get ZC inUX8 0 rfl rfl 21 (by decide) uF_X8_148 rfl dX8_newLump_15 ?_
  refine z_iload_n ZC 2 dX8_newLump_18 rfl rfl ?_
  refine z_iast ZC 18 rfl dX8_newLump_19 (by omega) ?_
  refine z_aload_n ZC 0 dX8_newLump_20 rfl rfl ?_
  refine z_dup ZC dX8_newLump_21 rfl ?_
  refine z_get ZC inUX8 0 rfl rfl 21 (by decide) uF_X8_148 rfl dX8_newLump_22 ?_
  refine z_iconst ZC dX8_newLump_25 ?_
  refine z_iadd ZC dX8_newLump_26 ?_
  refine z_put ZC inUX8 tyX8_ok nmX8 0 rfl rfl 21 (by decide) uF_X8_148 rfl (rfl) (rfl) (Nat.le_of_ble_eq_true rfl) dX8_newLump_27 ?_
  refine z_ws (ws2 := [(h, .inr (8, [vZ (M.2 0), .ref (a 1), .ref (a 2), vZ (M.2 3), vZ (M.2 4), .ref (a 5), .ref (a 6), .ref (a 7), .ref (a 8), .ref (a 9), .ref (a 10), .ref (a 11), vZ (M.2 12), .ref (a 13), .ref (a 14), .ref (a 15), .ref (a 16), .ref (a 17), .ref (a 18), .ref (a 19), vZ (M.2 20), vZ ((M.2 21) + 1), .ref (a 22), .ref (a 23), .ref (a 24), .ref (a 25), .ref (a 26), .ref (a 27), .ref (a 28), .ref (a 29), .ref (a 30), .ref (a 31), .ref (a 32), .ref (a 33), vZ (M.2 34), .ref (a 35), vZ (M.2 36), vZ (M.2 37), vZ (M.2 38), .ref (a 39), .ref (a 40), vZ (M.2 41), vZ (M.2 42), vZ (M.2 43)])), ((a 1), .inl (K.1, 10, .inl (ar (M.1 1)))), ((a 2), .inl (K.1, 10, .inl (ar (M.1 2)))), ((a 5), .inl (K.1, 16, .inl (ar (M.1 5)))), ((a 6), .inl (K.1, 16, .inl (ar (M.1 6)))), ((a 7), .inl (K.1, 16, .inl (ar (M.1 7)))), ((a 8), .inl (K.1, 16, .inl (ar (M.1 8)))), ((a 9), .inl (K.1, 16, .inl (ar (M.1 9)))), ((a 10), .inl (K.1, 16, .inl (ar (M.1 10)))), ((a 11), .inl (K.1, 100, .inl (ar (M.1 11)))), ((a 13), .inl (K.1, 8, .inl (ar (M.1 13)))), ((a 14), .inl (K.1, 8, .inl (ar (M.1 14)))), ((a 15), .inl (K.1, 8, .inl (ar (M.1 15)))), ((a 16), .inl (K.1, 8, .inl (ar (M.1 16)))), ((a 17), .inl (K.1, 3200, .inl (ar (M.1 17)))), ((a 18), .inl (K.1, 3200, .inl (ar (M.1 18)))), ((a 19), .inl (K.2.1, 3200, .inl (ar (M.1 19)))), ((a 22), .inl (K.1, 3400, .inl (ar (upz (M.1 22) (M.2 21) c)))), ((a 23), .inl (K.1, 3400, .inl (ar (upz (M.1 23) (M.2 21) n)))), ((a 24), .inl (K.1, 3400, .inl (ar (M.1 24)))), ((a 25), .inl (K.1, 3400, .inl (ar (M.1 25)))), ((a 26), .inl (K.1, 32, .inl (ar (M.1 26)))), ((a 27), .inl (K.1, 32, .inl (ar (M.1 27)))), ((a 28), .inl (K.2.1, 8, .inl (ar (M.1 28)))), ((a 29), .inl (K.1, 8, .inl (ar (M.1 29)))), ((a 30), .inl (K.1, 8, .inl (ar (M.1 30)))), ((a 31), .inl (K.1, 10, .inl (ar (M.1 31)))), ((a 32), .inl (K.1, 10, .inl (ar (M.1 32)))), ((a 33), .inl (K.1, 10, .inl (ar (M.1 33)))), ((a 35), .inl (K.1, 13711, .inl (ar (M.1 35)))), ((a 39), .inl (K.1, 4, .inl (ar (M.1 39)))), ((a 40), .inl (K.1, 4, .inl (ar (M.1 40))))]) rfl ?_
  refine z_aload_n ZC 0 dX8_newLump_30 rfl rfl ?_
  refine z_get ZC inUX8 0 rfl rfl 21 (by decide) uF_X8_148 rfl dX8_newLump_31 ?_
  refine z_iconst ZC dX8_newLump_34 ?_
  refine z_isub ZC dX8_newLump_35 ?_
  refine z_top (y := M.2 21) (by omega) ?_
  exact z_iret ZC ZE dX8_newLump_36 (by omega) (by omega) (Nat.le_of_ble_eq_true rfl) ⟨rfl, rfl, by omega, by omega⟩

theorem cfg_rv {Ne Cr : Bd} (h : Cfg Ne Cr) : RV (Ne.1 0) (Ne.1 1) (Ne.1 3) (Ne.2 8) := fun r a b => ⟨(h.2.2.1 r a b).1, (h.2.2.1 r a b).2.1, (h.2.2.1 r a b).2.2.2.1⟩

set_option maxHeartbeats 4000000 in
set_option maxRecDepth 100000 in
theorem c_X8_arrives (zl : Launch) (D : va_G) (K : tyK) (h : Nat) (a : Nat → Nat) (M : Bd) (Ne : Bd) (Cr : Bd) (A : Ab) (C : Int → List Pt3) (lu : Int) (town : Int) (hcf : Cfg Ne Cr) (hnw : NW Ne) (hmn : MSn Ne M) (hmc : MSc Cr M) (hmd : MD Cr A M C [lu]) (hus : M.2 21 ≤ 3400) (htn : 0 ≤ town ∧ town < 10) (hc : 0 ≤ (M.1 22 lu) ∧ (M.1 22 lu) < Cr.2 3) (hL : Ne.1 6 (town * 10 + Cr.1 2 (M.1 22 lu)) ≠ -1) (hle : A.1 2 (M.1 22 lu) + M.1 23 lu ≤ Cr.1 1 (M.1 22 lu)) (hho : 0 ≤ A.1 2 (M.1 22 lu)) (hnow : M.2 20 = A.2.1 0) : Mz zl yX8_arrives cX8_arrives 4 (none) 1 23 0 0 D K [.ref h, vZ lu, vZ town] (wMo K h a M) (fun r_ w2_ gc gs => ∃ (M2 : Bd), ∃ (C2 : Int → List Pt3), r_ = none ∧ w2_ = (wMo K h a M2) ∧ gc = 0 ∧ gs = 0 ∧ (MD Cr (aArr Ne Cr town A (M.1 22 lu) (M.1 23 lu).toNat) M2 C2 []) ∧ (KP [25, 26, 27, 29, 30] [] M M2)) := by
  refine Mz.ofZ (by decide) rfl (Nat.le_of_ble_eq_true rfl) ?_
  intro zp ze zR zs zm zargs zbelow zmeth zc zA zQ ZC ZE hRf hRc hRs hRl
  have hlo := mo_loose hmd.1
  have hc8 := hcf.2.1
  have hmcc := hmc.2 (M.1 22 lu) hc.1 hc.2
  have hcc := hcf.2.2.2.1 (M.1 22 lu) hc.1 hc.2
  refine z_aload_n ZC 0 dX8_arrives_0 rfl rfl ?_
  refine z_get ZC inUX8 0 rfl rfl 22 (by decide) uF_X8_63 rfl dX8_arrives_1 ?_
  refine z_iload_n ZC 1 dX8_arrives_4 rfl rfl ?_
  refine z_iald ZC 17 rfl dX8_arrives_5 (by omega) ?_
  refine z_istore_n ZC 3 dX8_arrives_6 rfl (by decide) ?_
  refine z_iload_n ZC 2 dX8_arrives_7 rfl rfl ?_
  refine z_aload_n ZC 0 dX8_arrives_8 rfl rfl ?_
  refine z_get ZC inUX8 0 rfl rfl 15 (by decide) uF_X8_47 rfl dX8_arrives_9 ?_
  refine z_iload_n ZC 3 dX8_arrives_12 rfl rfl ?_
  refine z_iald ZC 12 rfl dX8_arrives_13 (by omega) ?_
  refine z_icmp_eq ZC 34 dX8_arrives_14 (by decide) (by omega) (by omega) (fun c_14 => ?_) (fun c_14 => ?_)
  · skip
    have hof := hmd.2.2.1 (M.1 22 lu) hc.1 (by omega)
    refine z_aload_n ZC 0 dX8_arrives_34 rfl rfl ?_
    refine z_get ZC inUX8 0 rfl rfl 29 (by decide) uF_X8_84 rfl dX8_arrives_35 ?_
    refine z_iload_n ZC 3 dX8_arrives_38 rfl rfl ?_
    refine z_dup2 ZC dX8_arrives_39 rfl rfl ?_
    refine z_iald ZC 24 rfl dX8_arrives_40 (by omega) ?_
    refine z_aload_n ZC 0 dX8_arrives_41 rfl rfl ?_
    refine z_get ZC inUX8 0 rfl rfl 23 (by decide) uF_X8_66 rfl dX8_arrives_42 ?_
    refine z_iload_n ZC 1 dX8_arrives_45 rfl rfl ?_
    refine z_iald ZC 18 rfl dX8_arrives_46 (by omega) ?_
    refine z_iadd ZC dX8_arrives_47 ?_
    refine z_iast ZC 24 rfl dX8_arrives_48 (by omega) ?_
    have hups : upz (M.1 29) (M.1 22 lu) (M.1 29 (M.1 22 lu) + M.1 23 lu) (M.1 22 lu) = M.1 29 (M.1 22 lu) + M.1 23 lu := upz_self _ _ _
    refine z_aload_n ZC 0 dX8_arrives_49 rfl rfl ?_
    refine z_get ZC inUX8 0 rfl rfl 29 (by decide) uF_X8_84 rfl dX8_arrives_50 ?_
    refine z_iload_n ZC 3 dX8_arrives_53 rfl rfl ?_
    refine z_iald ZC 24 rfl dX8_arrives_54 (by omega) ?_
    refine z_aload_n ZC 0 dX8_arrives_55 rfl rfl ?_
    refine z_get ZC inUX8 0 rfl rfl 14 (by decide) uF_X8_44 rfl dX8_arrives_56 ?_
    refine z_iload_n ZC 3 dX8_arrives_59 rfl rfl ?_
    refine z_iald ZC 11 rfl dX8_arrives_60 (by omega) ?_
    refine z_icmp_ne ZC 74 dX8_arrives_61 (by decide) (by omega) (by omega) (fun c_61 => ?_) (fun c_61 => ?_)
    · skip
      have hmz := md_arrH (Ne := Ne) (town := town) (now := M.2 20) hmd (by omega) ⟨hc.1, hc.2, by omega⟩ hle hnow
      refine z_vret ZC ZE dX8_arrives_74 (by omega) (by omega) (Nat.le_of_ble_eq_true rfl) ⟨((upf M.1 29 (upz (M.1 29) ((M.1 22) lu) (((M.1 29) ((M.1 22) lu)) + ((M.1 23) lu)))), M.2), C, rfl, rfl, by omega, by omega, ?_, ?_⟩
      · skip
        have e : ¬ M.1 29 (M.1 22 lu) + M.1 23 lu = Cr.1 1 (M.1 22 lu) := by omega
        rw [if_neg e] at hmz
        exact hmz
      · skip
        exact ⟨fun k hk => upf_out hk rfl, fun k hk => rfl⟩
    · skip
      refine z_aload_n ZC 0 dX8_arrives_64 rfl rfl ?_
      refine z_get ZC inUX8 0 rfl rfl 30 (by decide) uF_X8_87 rfl dX8_arrives_65 ?_
      refine z_iload_n ZC 3 dX8_arrives_68 rfl rfl ?_
      refine z_aload_n ZC 0 dX8_arrives_69 rfl rfl ?_
      refine z_get ZC inUX8 0 rfl rfl 20 (by decide) uF_X8_129 rfl dX8_arrives_70 ?_
      refine z_iast ZC 25 rfl dX8_arrives_73 (by omega) ?_
      have hmz := md_arrH (Ne := Ne) (town := town) (now := M.2 20) hmd (by omega) ⟨hc.1, hc.2, by omega⟩ hle hnow
      refine z_vret ZC ZE dX8_arrives_74 (by omega) (by omega) (Nat.le_of_ble_eq_true rfl) ⟨((upf (upf M.1 29 (upz (M.1 29) ((M.1 22) lu) (((M.1 29) ((M.1 22) lu)) + ((M.1 23) lu)))) 30 (upz (M.1 30) ((M.1 22) lu) (M.2 20))), M.2), C, rfl, rfl, by omega, by omega, ?_, ?_⟩
      · skip
        have e : M.1 29 (M.1 22 lu) + M.1 23 lu = Cr.1 1 (M.1 22 lu) := by omega
        rw [if_pos e] at hmz
        exact hmz
      · skip
        exact ⟨fun k hk => (upf_out hk rfl).trans (upf_out hk rfl), fun k hk => rfl⟩
  · skip
    obtain ⟨w1, w2, w3⟩ := cfg_way hcf htn hc.1 hc.2 hL (by omega)
    have hta := mo_ta hmd.1 (k := aWay Ne Cr town (M.1 22 lu)) (by omega)
    refine z_aload_n ZC 0 dX8_arrives_17 rfl rfl ?_
    refine z_aload_n ZC 0 dX8_arrives_18 rfl rfl ?_
    refine z_iload_n ZC 2 dX8_arrives_19 rfl rfl ?_
    refine z_aload_n ZC 0 dX8_arrives_20 rfl rfl ?_
    refine z_get ZC inUX8 0 rfl rfl 15 (by decide) uF_X8_47 rfl dX8_arrives_21 ?_
    refine z_iload_n ZC 3 dX8_arrives_24 rfl rfl ?_
    refine z_iald ZC 12 rfl dX8_arrives_25 (by omega) ?_
    refine z_top (y := (Cr.1 2 (M.1 22 lu))) (hmcc.2.2) ?_
    refine z_callV ZC 2 (c_X8_way zl D K h a M Ne town (Cr.1 2 (M.1 22 lu)) (by rw [hmn.1]; exact hcf.1) (hmn) (hnw) (cfg_rv hcf) (by omega) (by omega) (by omega) (hL)) (gdV uM_X8_151 uI_X8_way uS_X8_way uN_X8 uC_X8_way) (by decide +kernel) rfl ⟨by omega, by omega⟩ ⟨by omega, by omega⟩ (Nat.le_of_ble_eq_true rfl) [0, 1, 2, 3, 4, 5, 6, 7, 8, 9, 10, 11, 12, 13, 14, 15, 16, 17, 18, 19, 20, 21, 22, 23, 24, 25, 26, 27, 28, 29, 30, 31] rfl (by decide) rfl rfl rfl rfl dX8_arrives_26 (fun r w2 gc_26 gs_26 hp => ?_)
    obtain ⟨rfl, rfl, rfl, rfl⟩ := hp
    refine z_ws (ws2 := [(h, .inr (8, [vZ (M.2 0), .ref (a 1), .ref (a 2), vZ (M.2 3), vZ (M.2 4), .ref (a 5), .ref (a 6), .ref (a 7), .ref (a 8), .ref (a 9), .ref (a 10), .ref (a 11), vZ (M.2 12), .ref (a 13), .ref (a 14), .ref (a 15), .ref (a 16), .ref (a 17), .ref (a 18), .ref (a 19), vZ (M.2 20), vZ (M.2 21), .ref (a 22), .ref (a 23), .ref (a 24), .ref (a 25), .ref (a 26), .ref (a 27), .ref (a 28), .ref (a 29), .ref (a 30), .ref (a 31), .ref (a 32), .ref (a 33), vZ (M.2 34), .ref (a 35), vZ (M.2 36), vZ (M.2 37), vZ (M.2 38), .ref (a 39), .ref (a 40), vZ (M.2 41), vZ (M.2 42), vZ (M.2 43)])), ((a 1), .inl (K.1, 10, .inl (ar (M.1 1)))), ((a 2), .inl (K.1, 10, .inl (ar (M.1 2)))), ((a 5), .inl (K.1, 16, .inl (ar (M.1 5)))), ((a 6), .inl (K.1, 16, .inl (ar (M.1 6)))), ((a 7), .inl (K.1, 16, .inl (ar (M.1 7)))), ((a 8), .inl (K.1, 16, .inl (ar (M.1 8)))), ((a 9), .inl (K.1, 16, .inl (ar (M.1 9)))), ((a 10), .inl (K.1, 16, .inl (ar (M.1 10)))), ((a 11), .inl (K.1, 100, .inl (ar (M.1 11)))), ((a 13), .inl (K.1, 8, .inl (ar (M.1 13)))), ((a 14), .inl (K.1, 8, .inl (ar (M.1 14)))), ((a 15), .inl (K.1, 8, .inl (ar (M.1 15)))), ((a 16), .inl (K.1, 8, .inl (ar (M.1 16)))), ((a 17), .inl (K.1, 3200, .inl (ar (M.1 17)))), ((a 18), .inl (K.1, 3200, .inl (ar (M.1 18)))), ((a 19), .inl (K.2.1, 3200, .inl (ar (M.1 19)))), ((a 22), .inl (K.1, 3400, .inl (ar (M.1 22)))), ((a 23), .inl (K.1, 3400, .inl (ar (M.1 23)))), ((a 24), .inl (K.1, 3400, .inl (ar (M.1 24)))), ((a 25), .inl (K.1, 3400, .inl (ar (M.1 25)))), ((a 26), .inl (K.1, 32, .inl (ar (M.1 26)))), ((a 27), .inl (K.1, 32, .inl (ar (M.1 27)))), ((a 28), .inl (K.2.1, 8, .inl (ar (M.1 28)))), ((a 29), .inl (K.1, 8, .inl (ar (M.1 29)))), ((a 30), .inl (K.1, 8, .inl (ar (M.1 30)))), ((a 31), .inl (K.1, 10, .inl (ar (M.1 31)))), ((a 32), .inl (K.1, 10, .inl (ar (M.1 32)))), ((a 33), .inl (K.1, 10, .inl (ar (M.1 33)))), ((a 35), .inl (K.1, 13711, .inl (ar (M.1 35)))), ((a 39), .inl (K.1, 4, .inl (ar (M.1 39)))), ((a 40), .inl (K.1, 4, .inl (ar (M.1 40))))]) rfl ?_
    refine z_st (st2 := [vZ (Ne.1 7 (town * 10 + (Cr.1 2 (M.1 22 lu)))), .ref h]) rfl ?_
    refine z_top (y := (aWay Ne Cr town (M.1 22 lu))) (rfl) ?_
    refine z_iload_n ZC 1 dX8_arrives_29 rfl rfl ?_
    refine z_callV ZC 2 (c_X8_adds zl D K h a M (aWay Ne Cr town (M.1 22 lu)) lu (by omega) (by omega) (⟨hta.1, by omega⟩) (fun q => ⟨(hta.2.2 q).1, by have := (hta.2.2 q).2; omega⟩)) (gdV uM_X8_154 uI_X8_adds uS_X8_adds uN_X8 uC_X8_adds) (by decide +kernel) rfl ⟨by omega, by omega⟩ ⟨by omega, by omega⟩ (Nat.le_of_ble_eq_true rfl) [0, 1, 2, 3, 4, 5, 6, 7, 8, 9, 10, 11, 12, 13, 14, 15, 16, 17, 18, 19, 20, 21, 22, 23, 24, 25, 26, 27, 28, 29, 30, 31] rfl (by decide) rfl rfl rfl rfl dX8_arrives_30 (fun r w2 gc_30 gs_30 hp => ?_)
    obtain ⟨nx2_30, he2_30, rfl, rfl, rfl, rfl, hh_30⟩ := hp
    refine z_ws (ws2 := [(h, .inr (8, [vZ (M.2 0), .ref (a 1), .ref (a 2), vZ (M.2 3), vZ (M.2 4), .ref (a 5), .ref (a 6), .ref (a 7), .ref (a 8), .ref (a 9), .ref (a 10), .ref (a 11), vZ (M.2 12), .ref (a 13), .ref (a 14), .ref (a 15), .ref (a 16), .ref (a 17), .ref (a 18), .ref (a 19), vZ (M.2 20), vZ (M.2 21), .ref (a 22), .ref (a 23), .ref (a 24), .ref (a 25), .ref (a 26), .ref (a 27), .ref (a 28), .ref (a 29), .ref (a 30), .ref (a 31), .ref (a 32), .ref (a 33), vZ (M.2 34), .ref (a 35), vZ (M.2 36), vZ (M.2 37), vZ (M.2 38), .ref (a 39), .ref (a 40), vZ (M.2 41), vZ (M.2 42), vZ (M.2 43)])), ((a 1), .inl (K.1, 10, .inl (ar (M.1 1)))), ((a 2), .inl (K.1, 10, .inl (ar (M.1 2)))), ((a 5), .inl (K.1, 16, .inl (ar (M.1 5)))), ((a 6), .inl (K.1, 16, .inl (ar (M.1 6)))), ((a 7), .inl (K.1, 16, .inl (ar (M.1 7)))), ((a 8), .inl (K.1, 16, .inl (ar (M.1 8)))), ((a 9), .inl (K.1, 16, .inl (ar (M.1 9)))), ((a 10), .inl (K.1, 16, .inl (ar (M.1 10)))), ((a 11), .inl (K.1, 100, .inl (ar (M.1 11)))), ((a 13), .inl (K.1, 8, .inl (ar (M.1 13)))), ((a 14), .inl (K.1, 8, .inl (ar (M.1 14)))), ((a 15), .inl (K.1, 8, .inl (ar (M.1 15)))), ((a 16), .inl (K.1, 8, .inl (ar (M.1 16)))), ((a 17), .inl (K.1, 3200, .inl (ar (M.1 17)))), ((a 18), .inl (K.1, 3200, .inl (ar (M.1 18)))), ((a 19), .inl (K.2.1, 3200, .inl (ar (M.1 19)))), ((a 22), .inl (K.1, 3400, .inl (ar (M.1 22)))), ((a 23), .inl (K.1, 3400, .inl (ar (M.1 23)))), ((a 24), .inl (K.1, 3400, .inl (ar (M.1 24)))), ((a 25), .inl (K.1, 3400, .inl (ar nx2_30))), ((a 26), .inl (K.1, 32, .inl (ar he2_30))), ((a 27), .inl (K.1, 32, .inl (ar (upz (M.1 27) (aWay Ne Cr town (M.1 22 lu)) lu)))), ((a 28), .inl (K.2.1, 8, .inl (ar (M.1 28)))), ((a 29), .inl (K.1, 8, .inl (ar (M.1 29)))), ((a 30), .inl (K.1, 8, .inl (ar (M.1 30)))), ((a 31), .inl (K.1, 10, .inl (ar (M.1 31)))), ((a 32), .inl (K.1, 10, .inl (ar (M.1 32)))), ((a 33), .inl (K.1, 10, .inl (ar (M.1 33)))), ((a 35), .inl (K.1, 13711, .inl (ar (M.1 35)))), ((a 39), .inl (K.1, 4, .inl (ar (M.1 39)))), ((a 40), .inl (K.1, 4, .inl (ar (M.1 40))))]) rfl ?_
    refine z_st (st2 := []) rfl ?_
    refine z_vret ZC ZE dX8_arrives_33 (by omega) (by omega) (Nat.le_of_ble_eq_true rfl) ⟨((upf (upf (upf M.1 25 nx2_30) 26 he2_30) 27 (upz (M.1 27) (aWay Ne Cr town (M.1 22 lu)) lu)), M.2), (upL C (aWay Ne Cr town (M.1 22 lu)) (C (aWay Ne Cr town (M.1 22 lu)) ++ [((M.1 22 lu), M.1 23 lu, M.1 24 lu)])), rfl, rfl, by omega, by omega, ?_, ?_⟩
    · skip
      exact md_arrQ hmd (by omega) ⟨w1.1, w1.2.2⟩ hh_30
    · skip
      exact ⟨fun k hk => (upf_out hk rfl).trans ((upf_out hk rfl).trans (upf_out hk rfl)), fun k hk => rfl⟩

set_option maxHeartbeats 4000000 in
set_option maxRecDepth 100000 in
theorem c_X8_carsIn (zl : Launch) (D : va_G) (K : tyK) (h : Nat) (a : Nat → Nat) (M : Bd) (C : Int → List Pt3) (ch : Int) (hch : 0 ≤ ch ∧ ch < 32) (hmo : MO (M.2 21) (M.1 22) (M.1 23) (M.1 24) (M.1 25) (M.1 26) (M.1 27) C []) (hus : M.2 21 ≤ 3400) : Mz zl yX8_carsIn cX8_carsIn 4 (some .int) 0 0 0 0 D K [.ref h, vZ ch] (wMo K h a M) (fun r_ w2_ gc gs => r_ = some (vZ (csum (C ch))) ∧ w2_ = (wMo K h a M) ∧ gc = 0 ∧ gs = 0) := by
  refine Mz.ofZ (by decide) rfl (Nat.le_of_ble_eq_true rfl) ?_
  intro zp ze zR zs zm zargs zbelow zmeth zc zA zQ ZC ZE hRf hRc hRs hRl
  obtain ⟨lst0, g1, g2, g3⟩ := mo_list hmo hch
  refine z_iconst ZC dX8_carsIn_0 ?_
  refine z_istore_n ZC 2 dX8_carsIn_1 rfl (by decide) ?_
  refine z_aload_n ZC 0 dX8_carsIn_2 rfl rfl ?_
  refine z_get ZC inUX8 0 rfl rfl 26 (by decide) uF_X8_75 rfl dX8_carsIn_3 ?_
  refine z_iload_n ZC 1 dX8_carsIn_6 rfl rfl ?_
  refine z_iald ZC 21 rfl dX8_carsIn_7 (by omega) ?_
  refine z_istore_n ZC 3 dX8_carsIn_8 rfl (by decide) ?_
  have lp_9 : ∀ (n_9 : Nat) (n : Int) (l : Int) (lst : List Int), (Chn (M.1 25) l lst) → (n + sumz (M.1 23) lst = csum (C ch)) → (∀ x ∈ lst, 0 ≤ x ∧ x < M.2 21) → (lst.length) < n_9 → Zw zp zl ze zR zs zm zargs zbelow zmeth zc D zA 4 zQ 0 0 ([(h, .inr (8, [vZ (M.2 0), .ref (a 1), .ref (a 2), vZ (M.2 3), vZ (M.2 4), .ref (a 5), .ref (a 6), .ref (a 7), .ref (a 8), .ref (a 9), .ref (a 10), .ref (a 11), vZ (M.2 12), .ref (a 13), .ref (a 14), .ref (a 15), .ref (a 16), .ref (a 17), .ref (a 18), .ref (a 19), vZ (M.2 20), vZ (M.2 21), .ref (a 22), .ref (a 23), .ref (a 24), .ref (a 25), .ref (a 26), .ref (a 27), .ref (a 28), .ref (a 29), .ref (a 30), .ref (a 31), .ref (a 32), .ref (a 33), vZ (M.2 34), .ref (a 35), vZ (M.2 36), vZ (M.2 37), vZ (M.2 38), .ref (a 39), .ref (a 40), vZ (M.2 41), vZ (M.2 42), vZ (M.2 43)])), ((a 1), .inl (K.1, 10, .inl (ar (M.1 1)))), ((a 2), .inl (K.1, 10, .inl (ar (M.1 2)))), ((a 5), .inl (K.1, 16, .inl (ar (M.1 5)))), ((a 6), .inl (K.1, 16, .inl (ar (M.1 6)))), ((a 7), .inl (K.1, 16, .inl (ar (M.1 7)))), ((a 8), .inl (K.1, 16, .inl (ar (M.1 8)))), ((a 9), .inl (K.1, 16, .inl (ar (M.1 9)))), ((a 10), .inl (K.1, 16, .inl (ar (M.1 10)))), ((a 11), .inl (K.1, 100, .inl (ar (M.1 11)))), ((a 13), .inl (K.1, 8, .inl (ar (M.1 13)))), ((a 14), .inl (K.1, 8, .inl (ar (M.1 14)))), ((a 15), .inl (K.1, 8, .inl (ar (M.1 15)))), ((a 16), .inl (K.1, 8, .inl (ar (M.1 16)))), ((a 17), .inl (K.1, 3200, .inl (ar (M.1 17)))), ((a 18), .inl (K.1, 3200, .inl (ar (M.1 18)))), ((a 19), .inl (K.2.1, 3200, .inl (ar (M.1 19)))), ((a 22), .inl (K.1, 3400, .inl (ar (M.1 22)))), ((a 23), .inl (K.1, 3400, .inl (ar (M.1 23)))), ((a 24), .inl (K.1, 3400, .inl (ar (M.1 24)))), ((a 25), .inl (K.1, 3400, .inl (ar (M.1 25)))), ((a 26), .inl (K.1, 32, .inl (ar (M.1 26)))), ((a 27), .inl (K.1, 32, .inl (ar (M.1 27)))), ((a 28), .inl (K.2.1, 8, .inl (ar (M.1 28)))), ((a 29), .inl (K.1, 8, .inl (ar (M.1 29)))), ((a 30), .inl (K.1, 8, .inl (ar (M.1 30)))), ((a 31), .inl (K.1, 10, .inl (ar (M.1 31)))), ((a 32), .inl (K.1, 10, .inl (ar (M.1 32)))), ((a 33), .inl (K.1, 10, .inl (ar (M.1 33)))), ((a 35), .inl (K.1, 13711, .inl (ar (M.1 35)))), ((a 39), .inl (K.1, 4, .inl (ar (M.1 39)))), ((a 40), .inl (K.1, 4, .inl (ar (M.1 40))))]) 9 [(0, .ref h), (1, vZ ch), (2, vZ n), (3, vZ l)] [] := by
    intro n_9
    induction n_9 with
    | zero => intro n l lst i1 i2 i3 hm_9; exact absurd hm_9 (Nat.not_lt_zero _)
    | succ n_9 ih_9 =>
      intro n l lst i1 i2 i3 hm_9
      have hlr : (l = -1 ∧ lst = []) ∨ ∃ l2 : List Int, lst = l :: l2 ∧ Chn (M.1 25) (M.1 25 l) l2 ∧ 0 ≤ l ∧ l < M.2 21 := by
        cases lst with
        | nil => exact Or.inl ⟨i1, rfl⟩
        | cons x l2 =>
          have e : l = x := i1.1
          subst e
          exact Or.inr ⟨l2, rfl, i1.2, (i3 l List.mem_cons_self).1, (i3 l List.mem_cons_self).2⟩
      have hlr2 : -1 ≤ l ∧ l < 3400 := by
        rcases hlr with z | ⟨l2, z⟩ <;> omega
      refine z_iload_n ZC 3 dX8_carsIn_9 rfl rfl ?_
      refine z_iconst ZC dX8_carsIn_10 ?_
      refine z_icmp_eq ZC 33 dX8_carsIn_11 (by decide) (by omega) (by omega) (fun c_11 => ?_) (fun c_11 => ?_)
      · skip
        refine z_iload_n ZC 2 dX8_carsIn_33 rfl rfl ?_
        refine z_top (y := csum (C ch)) (by
          rcases hlr with z | ⟨l2, z⟩
          · rw [z.2] at i2
            have e4 : sumz (M.1 23) [] = 0 := rfl
            omega
          · omega) ?_
        exact z_iret ZC ZE dX8_carsIn_34 (by omega) (by omega) (Nat.le_of_ble_eq_true rfl) ⟨rfl, rfl, by omega, by omega⟩
      · skip
        obtain ⟨l2, e1, e2, e3⟩ : ∃ l2 : List Int, lst = l :: l2 ∧ Chn (M.1 25) (M.1 25 l) l2 ∧ 0 ≤ l ∧ l < M.2 21 := by
          rcases hlr with z | z
          · exact absurd z.1 c_11
          · exact z
        subst e1
        refine z_iload_n ZC 2 dX8_carsIn_14 rfl rfl ?_
        refine z_aload_n ZC 0 dX8_carsIn_15 rfl rfl ?_
        refine z_get ZC inUX8 0 rfl rfl 23 (by decide) uF_X8_66 rfl dX8_carsIn_16 ?_
        refine z_iload_n ZC 3 dX8_carsIn_19 rfl rfl ?_
        refine z_iald ZC 18 rfl dX8_carsIn_20 (by omega) ?_
        refine z_iadd ZC dX8_carsIn_21 ?_
        refine z_istore_n ZC 2 dX8_carsIn_22 rfl (by decide) ?_
        refine z_aload_n ZC 0 dX8_carsIn_23 rfl rfl ?_
        refine z_get ZC inUX8 0 rfl rfl 25 (by decide) uF_X8_72 rfl dX8_carsIn_24 ?_
        refine z_iload_n ZC 3 dX8_carsIn_27 rfl rfl ?_
        refine z_iald ZC 20 rfl dX8_carsIn_28 (by omega) ?_
        refine z_istore_n ZC 3 dX8_carsIn_29 rfl (by decide) ?_
        refine z_goto ZC 9 dX8_carsIn_30 (by decide) ?_
        refine z_ws (ws2 := [(h, .inr (8, [vZ (M.2 0), .ref (a 1), .ref (a 2), vZ (M.2 3), vZ (M.2 4), .ref (a 5), .ref (a 6), .ref (a 7), .ref (a 8), .ref (a 9), .ref (a 10), .ref (a 11), vZ (M.2 12), .ref (a 13), .ref (a 14), .ref (a 15), .ref (a 16), .ref (a 17), .ref (a 18), .ref (a 19), vZ (M.2 20), vZ (M.2 21), .ref (a 22), .ref (a 23), .ref (a 24), .ref (a 25), .ref (a 26), .ref (a 27), .ref (a 28), .ref (a 29), .ref (a 30), .ref (a 31), .ref (a 32), .ref (a 33), vZ (M.2 34), .ref (a 35), vZ (M.2 36), vZ (M.2 37), vZ (M.2 38), .ref (a 39), .ref (a 40), vZ (M.2 41), vZ (M.2 42), vZ (M.2 43)])), ((a 1), .inl (K.1, 10, .inl (ar (M.1 1)))), ((a 2), .inl (K.1, 10, .inl (ar (M.1 2)))), ((a 5), .inl (K.1, 16, .inl (ar (M.1 5)))), ((a 6), .inl (K.1, 16, .inl (ar (M.1 6)))), ((a 7), .inl (K.1, 16, .inl (ar (M.1 7)))), ((a 8), .inl (K.1, 16, .inl (ar (M.1 8)))), ((a 9), .inl (K.1, 16, .inl (ar (M.1 9)))), ((a 10), .inl (K.1, 16, .inl (ar (M.1 10)))), ((a 11), .inl (K.1, 100, .inl (ar (M.1 11)))), ((a 13), .inl (K.1, 8, .inl (ar (M.1 13)))), ((a 14), .inl (K.1, 8, .inl (ar (M.1 14)))), ((a 15), .inl (K.1, 8, .inl (ar (M.1 15)))), ((a 16), .inl (K.1, 8, .inl (ar (M.1 16)))), ((a 17), .inl (K.1, 3200, .inl (ar (M.1 17)))), ((a 18), .inl (K.1, 3200, .inl (ar (M.1 18)))), ((a 19), .inl (K.2.1, 3200, .inl (ar (M.1 19)))), ((a 22), .inl (K.1, 3400, .inl (ar (M.1 22)))), ((a 23), .inl (K.1, 3400, .inl (ar (M.1 23)))), ((a 24), .inl (K.1, 3400, .inl (ar (M.1 24)))), ((a 25), .inl (K.1, 3400, .inl (ar (M.1 25)))), ((a 26), .inl (K.1, 32, .inl (ar (M.1 26)))), ((a 27), .inl (K.1, 32, .inl (ar (M.1 27)))), ((a 28), .inl (K.2.1, 8, .inl (ar (M.1 28)))), ((a 29), .inl (K.1, 8, .inl (ar (M.1 29)))), ((a 30), .inl (K.1, 8, .inl (ar (M.1 30)))), ((a 31), .inl (K.1, 10, .inl (ar (M.1 31)))), ((a 32), .inl (K.1, 10, .inl (ar (M.1 32)))), ((a 33), .inl (K.1, 10, .inl (ar (M.1 33)))), ((a 35), .inl (K.1, 13711, .inl (ar (M.1 35)))), ((a 39), .inl (K.1, 4, .inl (ar (M.1 39)))), ((a 40), .inl (K.1, 4, .inl (ar (M.1 40))))]) rfl (z_lv (lv2 := [(0, .ref h), (1, vZ ch), (2, vZ (n + ((M.1 23) l))), (3, vZ ((M.1 25) l))]) ⟨rfl, rfl, rfl, rfl, trivial⟩ ?_)
        refine ih_9 (n + ((M.1 23) l)) ((M.1 25) l) l2 ?_ ?_ ?_ (by simp only [List.length_cons] at hm_9; omega)
        · skip
          exact e2
        · skip
          have e4 : sumz (M.1 23) (l :: l2) = M.1 23 l + sumz (M.1 23) l2 := rfl
          omega
        · skip
          exact fun x hx => i3 x (List.mem_cons_of_mem _ hx)
  refine z_ws (ws2 := [(h, .inr (8, [vZ (M.2 0), .ref (a 1), .ref (a 2), vZ (M.2 3), vZ (M.2 4), .ref (a 5), .ref (a 6), .ref (a 7), .ref (a 8), .ref (a 9), .ref (a 10), .ref (a 11), vZ (M.2 12), .ref (a 13), .ref (a 14), .ref (a 15), .ref (a 16), .ref (a 17), .ref (a 18), .ref (a 19), vZ (M.2 20), vZ (M.2 21), .ref (a 22), .ref (a 23), .ref (a 24), .ref (a 25), .ref (a 26), .ref (a 27), .ref (a 28), .ref (a 29), .ref (a 30), .ref (a 31), .ref (a 32), .ref (a 33), vZ (M.2 34), .ref (a 35), vZ (M.2 36), vZ (M.2 37), vZ (M.2 38), .ref (a 39), .ref (a 40), vZ (M.2 41), vZ (M.2 42), vZ (M.2 43)])), ((a 1), .inl (K.1, 10, .inl (ar (M.1 1)))), ((a 2), .inl (K.1, 10, .inl (ar (M.1 2)))), ((a 5), .inl (K.1, 16, .inl (ar (M.1 5)))), ((a 6), .inl (K.1, 16, .inl (ar (M.1 6)))), ((a 7), .inl (K.1, 16, .inl (ar (M.1 7)))), ((a 8), .inl (K.1, 16, .inl (ar (M.1 8)))), ((a 9), .inl (K.1, 16, .inl (ar (M.1 9)))), ((a 10), .inl (K.1, 16, .inl (ar (M.1 10)))), ((a 11), .inl (K.1, 100, .inl (ar (M.1 11)))), ((a 13), .inl (K.1, 8, .inl (ar (M.1 13)))), ((a 14), .inl (K.1, 8, .inl (ar (M.1 14)))), ((a 15), .inl (K.1, 8, .inl (ar (M.1 15)))), ((a 16), .inl (K.1, 8, .inl (ar (M.1 16)))), ((a 17), .inl (K.1, 3200, .inl (ar (M.1 17)))), ((a 18), .inl (K.1, 3200, .inl (ar (M.1 18)))), ((a 19), .inl (K.2.1, 3200, .inl (ar (M.1 19)))), ((a 22), .inl (K.1, 3400, .inl (ar (M.1 22)))), ((a 23), .inl (K.1, 3400, .inl (ar (M.1 23)))), ((a 24), .inl (K.1, 3400, .inl (ar (M.1 24)))), ((a 25), .inl (K.1, 3400, .inl (ar (M.1 25)))), ((a 26), .inl (K.1, 32, .inl (ar (M.1 26)))), ((a 27), .inl (K.1, 32, .inl (ar (M.1 27)))), ((a 28), .inl (K.2.1, 8, .inl (ar (M.1 28)))), ((a 29), .inl (K.1, 8, .inl (ar (M.1 29)))), ((a 30), .inl (K.1, 8, .inl (ar (M.1 30)))), ((a 31), .inl (K.1, 10, .inl (ar (M.1 31)))), ((a 32), .inl (K.1, 10, .inl (ar (M.1 32)))), ((a 33), .inl (K.1, 10, .inl (ar (M.1 33)))), ((a 35), .inl (K.1, 13711, .inl (ar (M.1 35)))), ((a 39), .inl (K.1, 4, .inl (ar (M.1 39)))), ((a 40), .inl (K.1, 4, .inl (ar (M.1 40))))]) rfl (z_lv (lv2 := [(0, .ref h), (1, vZ ch), (2, vZ 0), (3, vZ ((M.1 26) ch))]) ⟨rfl, rfl, rfl, rfl, trivial⟩ ?_)
  refine lp_9 _ 0 ((M.1 26) ch) lst0 ?_ ?_ ?_ (Nat.lt_succ_self _)
  · skip
    exact g1
  · skip
    rw [g2]; omega
  · skip
    exact g3

