/-! ===== the lines of a store, by what their parts hold: (crowd, cars, due) ===== -/
abbrev Pt3 : Type := Int × Int × Int
def cnt3 (cr ca du : Int → Int) (l : List Int) : List Pt3 := l.map (fun x => (cr x, ca x, du x))
theorem cnt3_congr {cr ca du cr2 ca2 du2 : Int → Int} : ∀ {l : List Int}, (∀ x ∈ l, cr2 x = cr x ∧ ca2 x = ca x ∧ du2 x = du x) → cnt3 cr2 ca2 du2 l = cnt3 cr ca du l
  | [], _ => rfl
  | x :: l, h => by
    obtain ⟨h1, h2, h3⟩ := h x List.mem_cons_self
    show (cr2 x, ca2 x, du2 x) :: cnt3 cr2 ca2 du2 l = (cr x, ca x, du x) :: cnt3 cr ca du l
    rw [h1, h2, h3, cnt3_congr (fun y hy => h y (List.mem_cons_of_mem _ hy))]
def csum : List Pt3 → Int
  | [] => 0
  | q :: l => q.2.1 + csum l
theorem csum_cnt {cr ca du : Int → Int} : ∀ l : List Int, csum (cnt3 cr ca du l) = sumz ca l
  | [] => rfl
  | x :: l => by
    show ca x + csum (cnt3 cr ca du l) = ca x + sumz ca l
    rw [csum_cnt l]
def LnO (N B : Nat) (S : Bd) (C : Int → List Pt3) (X : List Int) : Prop := ∃ (P : Int → List Int) (F : List Int) (ow : Int → Int), LnF N B (S.1 0) (S.1 1) (S.1 2) (S.1 4) (S.1 6) (S.2 7) (S.2 8) P F X ow ∧ ∀ r : Int, 0 ≤ r → r < 32 → C r = cnt3 (S.1 3) (S.1 4) (S.1 5) (P r)
section LO
variable {N B : Nat} {S : Bd} {C : Int → List Pt3} {X : List Int}
theorem pw_rng {N : Nat} (h : pw N) : 32 ≤ N ∧ N ≤ 4096 := by unfold pw at h; omega
theorem lo_rng (h : LnO N B S C X) : 0 ≤ S.2 7 ∧ S.2 7 ≤ N ∧ S.2 7 ≤ B ∧ 32 ≤ N ∧ N ≤ 4096 ∧ -1 ≤ S.2 8 ∧ S.2 8 < N := by
  obtain ⟨P, F, ow, ⟨h1, h2, h3, h4, h5⟩, hC⟩ := h
  have := pw_rng h1.1
  cases F with
  | nil =>
    have : S.2 8 = -1 := h3.1
    omega
  | cons x l =>
    have e : S.2 8 = x := h3.1.1
    have := h3.2.2 x List.mem_cons_self
    omega
theorem lo_len (h : LnO N B S C X) : ((lns C 32 : Nat) : Int) + X.length ≤ S.2 7 := by
  obtain ⟨P, F, ow, ⟨h1, h2, h3, h4, h5⟩, hC⟩ := h
  have e : lns C 32 = lns P 32 := lns_congr (fun r a b => by rw [hC r a b]; simp [cnt3])
  rw [e]; omega
theorem lo_first (h : LnO N B S C X) {r : Int} (hr : 0 ≤ r ∧ r < 32) : (C r = [] ∧ S.1 0 r = -1) ∨ ∃ l : List Pt3, C r = (S.1 3 (S.1 0 r), S.1 4 (S.1 0 r), S.1 5 (S.1 0 r)) :: l ∧ 0 ≤ S.1 0 r ∧ S.1 0 r < S.2 7 ∧ S.1 0 r < N ∧ 1 ≤ S.1 4 (S.1 0 r) := by
  obtain ⟨P, F, ow, ⟨h1, h2, h3, h4, h5⟩, hC⟩ := h
  obtain ⟨a1, a2, a3, a4, a5⟩ := h2 r hr.1 hr.2
  have hc := hC r hr.1 hr.2
  cases hP : P r with
  | nil =>
    rw [hP] at hc a1
    exact Or.inl ⟨hc, a1⟩
  | cons x l =>
    rw [hP] at hc a1 a5
    have b := a5 x List.mem_cons_self
    have e : S.1 0 r = x := a1.1
    rw [e]
    exact Or.inr ⟨_, hc, b.1, b.2.1, by omega, b.2.2.2⟩
theorem getLastD_app (l : List Int) (x : Int) : (l ++ [x]).getLastD (-1) = x := by simp
theorem lo_last (h : LnO N B S C X) {r : Int} (hr : 0 ≤ r ∧ r < 32) : (C r = [] ∧ S.1 1 r = -1) ∨ ∃ l : List Pt3, C r = l ++ [(S.1 3 (S.1 1 r), S.1 4 (S.1 1 r), S.1 5 (S.1 1 r))] ∧ 0 ≤ S.1 1 r ∧ S.1 1 r < S.2 7 ∧ S.1 1 r < N := by
  obtain ⟨P, F, ow, ⟨h1, h2, h3, h4, h5⟩, hC⟩ := h
  obtain ⟨a1, a2, a3, a4, a5⟩ := h2 r hr.1 hr.2
  have hc := hC r hr.1 hr.2
  rcases List.eq_nil_or_concat (P r) with hP | ⟨l, x, hP⟩
  · rw [hP] at hc a3
    exact Or.inl ⟨hc, a3⟩
  · rw [hP] at hc a3 a5
    rw [List.concat_eq_append] at hc a3 a5
    rw [getLastD_app] at a3
    have b := a5 x (List.mem_append_right _ List.mem_cons_self)
    rw [a3]
    exact Or.inr ⟨cnt3 (S.1 3) (S.1 4) (S.1 5) l, by rw [hc]; simp [cnt3], b.1, b.2.1, by omega⟩
theorem lo_sum (h : LnO N B S C X) {r : Int} (hr : 0 ≤ r ∧ r < 32) : S.1 2 r = csum (C r) := by
  obtain ⟨P, F, ow, ⟨h1, h2, h3, h4, h5⟩, hC⟩ := h
  rw [hC r hr.1 hr.2, csum_cnt]
  exact (h2 r hr.1 hr.2).2.2.2.1
theorem lo_pos (h : LnO N B S C X) {r : Int} (hr : 0 ≤ r ∧ r < 32) : ∀ q ∈ C r, 1 ≤ q.2.1 := by
  obtain ⟨P, F, ow, ⟨h1, h2, h3, h4, h5⟩, hC⟩ := h
  rw [hC r hr.1 hr.2]
  intro q hq
  obtain ⟨x, hx, rfl⟩ := List.mem_map.mp hq
  exact ((h2 r hr.1 hr.2).2.2.2.2 x hx).2.2.2
theorem lo_congr {C2 : Int → List Pt3} (h : LnO N B S C X) (hC2 : ∀ r : Int, 0 ≤ r → r < 32 → C2 r = C r) : LnO N B S C2 X := by
  obtain ⟨P, F, ow, h1, hC⟩ := h
  exact ⟨P, F, ow, h1, fun r a b => (hC2 r a b).trans (hC r a b)⟩
theorem lo_take1 (h : LnO N B S C X) {r p many : Int} {c n d : Int} {l : List Pt3} (hr : 0 ≤ r ∧ r < 32) (hC : C r = (c, n, d) :: l) (hp : p = S.1 0 r) (hm : many < n) : LnO N B ((upf (upf S.1 2 (upz (S.1 2) r (S.1 2 r - many))) 4 (upz (S.1 4) p (S.1 4 p - many))), S.2) (upL C r ((c, n - many, d) :: l)) X := by
  obtain ⟨P, F, ow, hL, hCC⟩ := h
  have hc := hCC r hr.1 hr.2
  rw [hC] at hc
  obtain ⟨a1, a2, a3, a4, a5⟩ := hL.2.1 r hr.1 hr.2
  cases hP : P r with
  | nil => rw [hP] at hc; cases hc
  | cons x l2 =>
    rw [hP] at hc a1
    have e : S.1 0 r = x := a1.1
    have hpx : p = x := hp.trans e
    subst hpx
    have hc1 := (List.cons.inj hc).1
    have hc2 : l = cnt3 (S.1 3) (S.1 4) (S.1 5) l2 := (List.cons.inj hc).2
    have hn : n = S.1 4 p := congrArg (fun q : Pt3 => q.2.1) hc1
    have hcc : c = S.1 3 p := congrArg (fun q : Pt3 => q.1) hc1
    have hd : d = S.1 5 p := congrArg (fun q : Pt3 => q.2.2) hc1
    refine ⟨P, F, ow, ln_take1 hL hr hP (by omega), fun j hj1 hj2 => ?_⟩
    show upL C r ((c, n - many, d) :: l) j = cnt3 (S.1 3) (upz (S.1 4) p (S.1 4 p - many)) (S.1 5) (P j)
    by_cases ej : j = r
    · subst ej
      rw [upL_self, hP]
      show _ = (S.1 3 p, upz (S.1 4) p (S.1 4 p - many) p, S.1 5 p) :: cnt3 (S.1 3) (upz (S.1 4) p (S.1 4 p - many)) (S.1 5) l2
      rw [upz_self, hcc, hn, hd, hc2]
      refine congrArg _ (cnt3_congr (fun y hy => ⟨rfl, (upz_ne _ _ (fun e2 => ?_)).symm, rfl⟩))
      rw [hP] at a2
      exact (List.nodup_cons.mp a2).1 (e2 ▸ hy)
    · rw [upL_ne _ _ ej, hCC j hj1 hj2]
      refine cnt3_congr (fun y hy => ⟨rfl, (upz_ne _ _ (fun e2 => ej ?_)).symm, rfl⟩)
      rw [← ((hL.2.1 j hj1 hj2).2.2.2.2 y hy).2.2.1, e2]
      exact (a5 p (by rw [hP]; exact List.mem_cons_self)).2.2.1
theorem lo_take2 (h : LnO N B S C X) {r p many : Int} {c n d : Int} {l : List Pt3} {la2 : Int → Int} (hr : 0 ≤ r ∧ r < 32) (hC : C r = (c, n, d) :: l) (hp : p = S.1 0 r) (hm : many = n) (hla : ∀ j : Int, la2 j = if j = r ∧ l = [] then -1 else S.1 1 j) : LnO N B ((upf (upf (upf (upf (upf S.1 0 (upz (S.1 0) r (S.1 6 p))) 1 la2) 2 (upz (S.1 2) r (S.1 2 r - many))) 4 (upz (S.1 4) p (S.1 4 p - many))) 6 (upz (S.1 6) p (S.2 8))), (upf S.2 8 p)) (upL C r l) X := by
  obtain ⟨P, F, ow, hL, hCC⟩ := h
  have hc := hCC r hr.1 hr.2
  rw [hC] at hc
  obtain ⟨a1, a2, a3, a4, a5⟩ := hL.2.1 r hr.1 hr.2
  cases hP : P r with
  | nil => rw [hP] at hc; cases hc
  | cons x l2 =>
    rw [hP] at hc a1
    have e : S.1 0 r = x := a1.1
    have hpx : p = x := hp.trans e
    subst hpx
    have hc1 := (List.cons.inj hc).1
    have hc2 : l = cnt3 (S.1 3) (S.1 4) (S.1 5) l2 := (List.cons.inj hc).2
    have hn : n = S.1 4 p := congrArg (fun q : Pt3 => q.2.1) hc1
    have hl2 : l = [] ↔ l2 = [] := by rw [hc2]; simp [cnt3]
    refine ⟨upL P r l2, p :: F, upz ow p 32, ln_take2 hL hr hP (by omega) (fun j => ?_), fun j hj1 hj2 => ?_⟩
    · show la2 j = _
      rw [hla j]
      by_cases z : j = r ∧ l = []
      · rw [if_pos z, if_pos ⟨z.1, hl2.mp z.2⟩]
      · rw [if_neg z, if_neg (fun q => z ⟨q.1, hl2.mpr q.2⟩)]
    · show upL C r l j = cnt3 (S.1 3) (upz (S.1 4) p (S.1 4 p - many)) (S.1 5) (upL P r l2 j)
      by_cases ej : j = r
      · subst ej
        rw [upL_self, upL_self, hc2]
        refine (cnt3_congr (fun y hy => ⟨rfl, upz_ne _ _ (fun e2 => ?_), rfl⟩)).symm
        rw [hP] at a2
        exact (List.nodup_cons.mp a2).1 (e2 ▸ hy)
      · rw [upL_ne _ _ ej, upL_ne _ _ ej, hCC j hj1 hj2]
        refine (cnt3_congr (fun y hy => ⟨rfl, upz_ne _ _ (fun e2 => ej ?_), rfl⟩)).symm
        rw [← ((hL.2.1 j hj1 hj2).2.2.2.2 y hy).2.2.1, e2]
        exact (a5 p (by rw [hP]; exact List.mem_cons_self)).2.2.1
theorem lo_merge (h : LnO N B S C X) {r p many : Int} {c n d : Int} {l : List Pt3} (hr : 0 ≤ r ∧ r < 32) (hC : C r = l ++ [(c, n, d)]) (hp : p = S.1 1 r) (hm : 0 ≤ many) : LnO N B ((upf (upf S.1 2 (upz (S.1 2) r (S.1 2 r + many))) 4 (upz (S.1 4) p (S.1 4 p + many))), S.2) (upL C r (l ++ [(c, n + many, d)])) X := by
  obtain ⟨P, F, ow, hL, hCC⟩ := h
  have hc := hCC r hr.1 hr.2
  rw [hC] at hc
  obtain ⟨a1, a2, a3, a4, a5⟩ := hL.2.1 r hr.1 hr.2
  rcases List.eq_nil_or_concat (P r) with hP | ⟨l2, x, hP⟩
  · rw [hP] at hc; simp [cnt3] at hc
  · rw [List.concat_eq_append] at hP
    rw [hP] at hc a3
    rw [getLastD_app] at a3
    have hpx : p = x := hp.trans a3
    subst hpx
    have hc0 : l ++ [(c, n, d)] = cnt3 (S.1 3) (S.1 4) (S.1 5) l2 ++ [(S.1 3 p, S.1 4 p, S.1 5 p)] := by rw [hc]; simp [cnt3]
    obtain ⟨hc2, hc1⟩ := List.append_inj' hc0 rfl
    have hc1 := (List.cons.inj hc1).1
    have hn : n = S.1 4 p := congrArg (fun q : Pt3 => q.2.1) hc1
    have hcc : c = S.1 3 p := congrArg (fun q : Pt3 => q.1) hc1
    have hd : d = S.1 5 p := congrArg (fun q : Pt3 => q.2.2) hc1
    have hpm : p ∈ P r := by rw [hP]; exact List.mem_append_right _ List.mem_cons_self
    refine ⟨P, F, ow, ln_merge hL hr hpm hm, fun j hj1 hj2 => ?_⟩
    show upL C r (l ++ [(c, n + many, d)]) j = cnt3 (S.1 3) (upz (S.1 4) p (S.1 4 p + many)) (S.1 5) (P j)
    by_cases ej : j = r
    · subst ej
      rw [upL_self, hP]
      rw [hP] at a2
      have hnd := List.nodup_append.mp a2
      have e1 : cnt3 (S.1 3) (upz (S.1 4) p (S.1 4 p + many)) (S.1 5) (l2 ++ [p]) = cnt3 (S.1 3) (upz (S.1 4) p (S.1 4 p + many)) (S.1 5) l2 ++ [(S.1 3 p, upz (S.1 4) p (S.1 4 p + many) p, S.1 5 p)] := by simp [cnt3]
      rw [e1, upz_self, hcc, hn, hd, hc2]
      refine congrArg (fun z => z ++ _) (cnt3_congr (fun y hy => ⟨rfl, (upz_ne _ _ (fun e2 => ?_)).symm, rfl⟩))
      exact hnd.2.2 y hy p List.mem_cons_self e2
    · rw [upL_ne _ _ ej, hCC j hj1 hj2]
      refine cnt3_congr (fun y hy => ⟨rfl, (upz_ne _ _ (fun e2 => ej ?_)).symm, rfl⟩)
      rw [← ((hL.2.1 j hj1 hj2).2.2.2.2 y hy).2.2.1, e2]
      exact (a5 p hpm).2.2.1
theorem lo_push {p : Int} (h : LnO N B S C [p]) {r many who hour : Int} {fi2 nx2 : Int → Int} (hr : 0 ≤ r ∧ r < 32) (hm : 1 ≤ many) (hfi : ∀ j : Int, fi2 j = if j = r ∧ C r = [] then p else S.1 0 j) (hnx : ∀ x : Int, nx2 x = if C r ≠ [] ∧ x = S.1 1 r then p else if x = p then -1 else S.1 6 x) :
    LnO N B ((upf (upf (upf (upf (upf (upf (upf S.1 0 fi2) 1 (upz (S.1 1) r p)) 2 (upz (S.1 2) r (S.1 2 r + many))) 3 (upz (S.1 3) p who)) 4 (upz (S.1 4) p many)) 5 (upz (S.1 5) p hour)) 6 nx2), S.2) (upL C r (C r ++ [(who, many, hour)])) [] := by
  obtain ⟨P, F, ow, hL, hCC⟩ := h
  have hc := hCC r hr.1 hr.2
  have hl2 : C r = [] ↔ P r = [] := by rw [hc]; simp [cnt3]
  have hp := hL.2.2.2.1.2 p List.mem_cons_self
  have nin : ∀ j : Int, 0 ≤ j → j < 32 → ∀ x ∈ P j, x ≠ p := by
    intro j hj1 hj2 x hx e
    have b := ((hL.2.1 j hj1 hj2).2.2.2.2 x hx).2.2.1
    rw [e, hp.2.2] at b; omega
  refine ⟨upL P r (P r ++ [p]), F, upz ow p r, ln_push hL hr hm (fun j => ?_) (fun x => ?_), fun j hj1 hj2 => ?_⟩
  · show fi2 j = _
    rw [hfi j]
    by_cases z : j = r ∧ C r = []
    · rw [if_pos z, if_pos ⟨z.1, hl2.mp z.2⟩]
    · rw [if_neg z, if_neg (fun q => z ⟨q.1, hl2.mpr q.2⟩)]
  · show nx2 x = _
    rw [hnx x]
    by_cases z : C r ≠ [] ∧ x = S.1 1 r
    · rw [if_pos z, if_pos ⟨fun q => z.1 (hl2.mpr q), z.2⟩]
    · have z2 : ¬ (P r ≠ [] ∧ x = S.1 1 r) := fun q => z ⟨fun q2 => q.1 (hl2.mp q2), q.2⟩
      rw [if_neg z, if_neg z2]
  · show upL C r (C r ++ [(who, many, hour)]) j = cnt3 (upz (S.1 3) p who) (upz (S.1 4) p many) (upz (S.1 5) p hour) (upL P r (P r ++ [p]) j)
    have key : ∀ i : Int, 0 ≤ i → i < 32 → cnt3 (upz (S.1 3) p who) (upz (S.1 4) p many) (upz (S.1 5) p hour) (P i) = C i := by
      intro i hi1 hi2
      rw [hCC i hi1 hi2]
      exact cnt3_congr (fun y hy => ⟨upz_ne _ _ (nin i hi1 hi2 y hy), upz_ne _ _ (nin i hi1 hi2 y hy), upz_ne _ _ (nin i hi1 hi2 y hy)⟩)
    by_cases ej : j = r
    · subst ej
      rw [upL_self, upL_self]
      have e1 : cnt3 (upz (S.1 3) p who) (upz (S.1 4) p many) (upz (S.1 5) p hour) (P j ++ [p]) = cnt3 (upz (S.1 3) p who) (upz (S.1 4) p many) (upz (S.1 5) p hour) (P j) ++ [(upz (S.1 3) p who p, upz (S.1 4) p many p, upz (S.1 5) p hour p)] := by simp [cnt3]
      rw [e1, key j hj1 hj2, upz_self, upz_self, upz_self]
    · rw [upL_ne _ _ ej, upL_ne _ _ ej, key j hj1 hj2]
theorem lo_new1 (h : LnO N B S C []) (hf : S.2 8 ≠ -1) : 0 ≤ S.2 8 ∧ S.2 8 < S.2 7 ∧ S.2 8 < N ∧ LnO N B (S.1, (upf S.2 8 (S.1 6 (S.2 8)))) C [S.2 8] := by
  obtain ⟨P, F, ow, hL, hCC⟩ := h
  cases F with
  | nil => exact absurd hL.2.2.1.1 hf
  | cons x F2 =>
    obtain ⟨e, hL2⟩ := ln_new1 hL rfl
    have b := hL.2.2.1.2.2 x List.mem_cons_self
    have b1 := hL.1
    rw [e]
    exact ⟨b.1, b.2.1, by omega, P, F2, _, hL2, hCC⟩
theorem lo_new2 (h : LnO N B S C []) (hf : S.2 8 = -1) (hN : S.2 7 + 1 ≤ N) (hB : ((lns C 32 : Nat) : Int) + 1 ≤ B) : LnO N B (S.1, (upf S.2 7 (S.2 7 + 1))) C [S.2 7] := by
  obtain ⟨P, F, ow, hL, hCC⟩ := h
  have e : lns C 32 = lns P 32 := lns_congr (fun r a b => by rw [hCC r a b]; simp [cnt3])
  cases F with
  | cons x F2 =>
    have b := hL.2.2.1.2.2 x List.mem_cons_self
    have e2 : S.2 8 = x := hL.2.2.1.1.1
    omega
  | nil =>
    have h5 := hL.2.2.2.2
    simp only [List.length_nil] at h5
    exact ⟨P, [], _, ln_new2 hL hN (by omega), hCC⟩
theorem lo_used (h : LnO N B S C []) (hf : S.2 8 = -1) : S.2 7 = ((lns C 32 : Nat) : Int) := by
  obtain ⟨P, F, ow, hL, hCC⟩ := h
  have e : lns C 32 = lns P 32 := lns_congr (fun r a b => by rw [hCC r a b]; simp [cnt3])
  cases F with
  | cons x F2 =>
    have b := hL.2.2.1.2.2 x List.mem_cons_self
    have e2 : S.2 8 = x := hL.2.2.1.1.1
    omega
  | nil =>
    have h5 := hL.2.2.2.2
    simp only [List.length_nil] at h5
    omega
theorem lo_agree {N2 : Nat} {S2 : Bd} (h : LnO N B S C X) (hN : pw N2) (hu : S.2 7 ≤ N2) (h7 : S2.2 7 = S.2 7) (h8 : S2.2 8 = S.2 8) (h16 : ∀ r : Int, 0 ≤ r → r < 32 → S2.1 0 r = S.1 0 r ∧ S2.1 1 r = S.1 1 r ∧ S2.1 2 r = S.1 2 r) (hx : ∀ x : Int, 0 ≤ x → x < S.2 7 → S2.1 3 x = S.1 3 x ∧ S2.1 4 x = S.1 4 x ∧ S2.1 5 x = S.1 5 x ∧ S2.1 6 x = S.1 6 x) : LnO N2 B S2 C X := by
  obtain ⟨P, F, ow, hL, hCC⟩ := h
  have hL2 := ln_agree (fi2 := S2.1 0) (la2 := S2.1 1) (su2 := S2.1 2) (ca2 := S2.1 4) (nx2 := S2.1 6) hL hN hu h16 (fun x a b => ⟨(hx x a b).2.1, (hx x a b).2.2.2⟩)
  rw [← h7, ← h8] at hL2
  refine ⟨P, F, ow, hL2, fun r a b => ?_⟩
  rw [hCC r a b]
  refine (cnt3_congr (fun y hy => ?_)).symm
  have q := (hL.2.1 r a b).2.2.2.2 y hy
  have q2 := hx y q.1 q.2.1
  exact ⟨q2.1, q2.2.1, q2.2.2.1⟩
end LO
