/-! ===== the reference: its chains of lumps, and the mathematical state ===== -/
def MOF (us : Int) (ca nx he ta : Int → Int) (P : Int → List Int) (X : List Int) (ow : Int → Int) : Prop :=
  0 ≤ us ∧ (∀ k : Int, 0 ≤ k → k < 32 → Chn nx (he k) (P k) ∧ (P k).Nodup ∧ (P k ≠ [] → ta k = (P k).getLastD (-1)) ∧ ∀ x ∈ P k, 0 ≤ x ∧ x < us ∧ ow x = k ∧ 1 ≤ ca x) ∧ (∀ x ∈ X, 0 ≤ x ∧ x < us ∧ ow x = 32 ∧ 1 ≤ ca x)
/-- the chains hold what C says; lumps X are loose -/
def MO (us : Int) (cr ca du nx he ta : Int → Int) (C : Int → List Pt3) (X : List Int) : Prop := ∃ (P : Int → List Int) (ow : Int → Int), MOF us ca nx he ta P X ow ∧ ∀ k : Int, 0 ≤ k → k < 32 → C k = cnt3 cr ca du (P k)
section MOs
variable {us : Int} {cr ca du nx he ta : Int → Int} {C : Int → List Pt3} {X : List Int}
theorem mo_first (h : MO us cr ca du nx he ta C X) {k : Int} (hk : 0 ≤ k ∧ k < 32) : (C k = [] ∧ he k = -1) ∨ ∃ l : List Pt3, C k = (cr (he k), ca (he k), du (he k)) :: l ∧ 0 ≤ he k ∧ he k < us ∧ 1 ≤ ca (he k) := by
  obtain ⟨P, ow, ⟨h1, h2, h3⟩, hC⟩ := h
  obtain ⟨a1, a2, a3, a4⟩ := h2 k hk.1 hk.2
  have hc := hC k hk.1 hk.2
  cases hP : P k with
  | nil => rw [hP] at hc a1; exact Or.inl ⟨hc, a1⟩
  | cons x l =>
    rw [hP] at hc a1 a4
    have b := a4 x List.mem_cons_self
    have e : he k = x := a1.1
    rw [e]
    exact Or.inr ⟨_, hc, b.1, b.2.1, b.2.2.2⟩
theorem mo_take (h : MO us cr ca du nx he ta C []) {k : Int} (hk : 0 ≤ k ∧ k < 32) {q : Pt3} {l : List Pt3} (hq : C k = q :: l) : MO us cr ca du nx (upz he k (nx (he k))) ta (upL C k l) [he k] ∧ (cr (he k), ca (he k), du (he k)) = q ∧ 0 ≤ he k ∧ he k < us ∧ 1 ≤ ca (he k) := by
  obtain ⟨P, ow, ⟨h1, h2, h3⟩, hC⟩ := h
  obtain ⟨a1, a2, a3, a4⟩ := h2 k hk.1 hk.2
  have hc := hC k hk.1 hk.2
  cases hP : P k with
  | nil => rw [hP, hq] at hc; cases hc
  | cons x pl =>
    rw [hP] at hc a1 a2 a3 a4
    have b := a4 x List.mem_cons_self
    have e : he k = x := a1.1
    have hnd := List.nodup_cons.mp a2
    rw [hq] at hc
    have hc1 : q = (cr x, ca x, du x) := (List.cons.inj hc).1
    have hc2 : l = cnt3 cr ca du pl := (List.cons.inj hc).2
    rw [e]
    refine ⟨⟨upL P k pl, upz ow x 32, ⟨h1, fun j j1 j2 => ?_, fun y hy => ?_⟩, fun j j1 j2 => ?_⟩, hc1.symm, b.1, b.2.1, b.2.2.2⟩
    · by_cases ej : j = k
      · subst ej
        rw [upL_self, upz_self]
        refine ⟨a1.2, hnd.2, fun hne => ?_, fun y hy => ?_⟩
        · rw [a3 (List.cons_ne_nil _ _)]
          obtain ⟨z, l2, rfl⟩ := List.exists_cons_of_ne_nil hne
          rfl
        · have c := a4 y (List.mem_cons_of_mem _ hy)
          exact ⟨c.1, c.2.1, by rw [upz_ne _ _ (show y ≠ x from fun ey => hnd.1 (ey ▸ hy))]; exact c.2.2.1, c.2.2.2⟩
      · rw [upL_ne _ _ ej, upz_ne _ _ ej]
        obtain ⟨d1, d2, d3, d4⟩ := h2 j j1 j2
        refine ⟨d1, d2, d3, fun y hy => ?_⟩
        have c := d4 y hy
        exact ⟨c.1, c.2.1, by rw [upz_ne _ _ (fun ey => ej (by rw [← c.2.2.1, ey]; exact b.2.2.1))]; exact c.2.2.1, c.2.2.2⟩
    · rw [List.mem_singleton.mp hy]
      exact ⟨b.1, b.2.1, upz_self _ _ _, b.2.2.2⟩
    · by_cases ej : j = k
      · subst ej; rw [upL_self, upL_self]; exact hc2
      · rw [upL_ne _ _ ej, upL_ne _ _ ej]; exact hC j j1 j2
theorem mo_drop (h : MO us cr ca du nx he ta C X) : MO us cr ca du nx he ta C [] := by
  obtain ⟨P, ow, ⟨h1, h2, h3⟩, hC⟩ := h
  exact ⟨P, ow, ⟨h1, h2, fun x hx => absurd hx List.not_mem_nil⟩, hC⟩
theorem mo_loose {x : Int} (h : MO us cr ca du nx he ta C [x]) : 0 ≤ x ∧ x < us ∧ 1 ≤ ca x := by
  obtain ⟨P, ow, ⟨h1, h2, h3⟩, hC⟩ := h
  have := h3 x List.mem_cons_self
  exact ⟨this.1, this.2.1, this.2.2.2⟩
theorem mo_new (h : MO us cr ca du nx he ta C []) {c n : Int} (hn : 1 ≤ n) : MO (us + 1) (upz cr us c) (upz ca us n) du nx he ta C [us] := by
  obtain ⟨P, ow, ⟨h1, h2, h3⟩, hC⟩ := h
  refine ⟨P, upz ow us 32, ⟨by omega, fun j j1 j2 => ?_, fun y hy => ?_⟩, fun j j1 j2 => ?_⟩
  · obtain ⟨d1, d2, d3, d4⟩ := h2 j j1 j2
    refine ⟨d1, d2, d3, fun y hy => ?_⟩
    have c := d4 y hy
    rw [upz_ne _ _ (by omega), upz_ne _ _ (by omega)]
    exact ⟨c.1, by omega, c.2.2.1, c.2.2.2⟩
  · rw [List.mem_singleton.mp hy, upz_self, upz_self]
    exact ⟨h1, by omega, rfl, hn⟩
  · rw [hC j j1 j2]
    refine (cnt3_congr (fun y hy => ?_)).symm
    have c := (h2 j j1 j2).2.2.2 y hy
    rw [upz_ne _ _ (by omega), upz_ne _ _ (by omega)]
    exact ⟨rfl, rfl, rfl⟩
theorem mo_cut (h : MO us cr ca du nx he ta C []) {k v : Int} (hk : 0 ≤ k ∧ k < 32) {q : Pt3} {l : List Pt3} (hq : C k = q :: l) (hv : 1 ≤ v) : MO us cr (upz ca (he k) v) du nx he ta (upL C k ((q.1, v, q.2.2) :: l)) [] := by
  obtain ⟨P, ow, ⟨h1, h2, h3⟩, hC⟩ := h
  obtain ⟨a1, a2, a3, a4⟩ := h2 k hk.1 hk.2
  have hc := hC k hk.1 hk.2
  cases hP : P k with
  | nil => rw [hP, hq] at hc; cases hc
  | cons x pl =>
    rw [hP] at hc a1 a2 a4
    have b := a4 x List.mem_cons_self
    have e : he k = x := a1.1
    have hnd := List.nodup_cons.mp a2
    rw [hq] at hc
    have hc1 : q = (cr x, ca x, du x) := (List.cons.inj hc).1
    have hc2 : l = cnt3 cr ca du pl := (List.cons.inj hc).2
    rw [e]
    refine ⟨P, ow, ⟨h1, fun j j1 j2 => ?_, fun y hy => absurd hy List.not_mem_nil⟩, fun j j1 j2 => ?_⟩
    · obtain ⟨d1, d2, d3, d4⟩ := h2 j j1 j2
      refine ⟨d1, d2, d3, fun y hy => ?_⟩
      have c := d4 y hy
      refine ⟨c.1, c.2.1, c.2.2.1, ?_⟩
      unfold upz
      split
      · exact hv
      · exact c.2.2.2
    · by_cases ej : j = k
      · subst ej
        rw [upL_self, hP]
        show _ = (cr x, upz ca x v x, du x) :: cnt3 cr (upz ca x v) du pl
        rw [upz_self, hc1, hc2, cnt3_congr (cr := cr) (ca := ca) (du := du) (cr2 := cr) (ca2 := upz ca x v) (du2 := du) (fun y hy => ⟨rfl, upz_ne _ _ (show y ≠ x from fun ey => hnd.1 (ey ▸ hy)), rfl⟩)]
      · rw [upL_ne _ _ ej, hC j j1 j2]
        refine (cnt3_congr (fun y hy => ?_)).symm
        have c := (h2 j j1 j2).2.2.2 y hy
        exact ⟨rfl, upz_ne _ _ (fun ey => ej (by rw [← c.2.2.1, ey]; exact b.2.2.1)), rfl⟩
theorem mo_comes {x : Int} (h : MO us cr ca du nx he ta C [x]) (v : Int) : MO us cr ca (upz du x v) nx he ta C [x] := by
  obtain ⟨P, ow, ⟨h1, h2, h3⟩, hC⟩ := h
  have hx := h3 x List.mem_cons_self
  refine ⟨P, ow, ⟨h1, h2, h3⟩, fun j j1 j2 => ?_⟩
  rw [hC j j1 j2]
  refine (cnt3_congr (fun y hy => ?_)).symm
  have c := (h2 j j1 j2).2.2.2 y hy
  exact ⟨rfl, rfl, upz_ne _ _ (fun ey => by have := c.2.2.1; rw [ey, hx.2.2.1] at this; omega)⟩
theorem mo_add {k x : Int} {he2 nx2 : Int → Int} (h : MO us cr ca du nx he ta C [x]) (hk : 0 ≤ k ∧ k < 32)
    (hh : (he k = -1 ∧ he2 = upz he k x ∧ nx2 = upz nx x (-1)) ∨ (he k ≠ -1 ∧ he2 = he ∧ nx2 = upz (upz nx x (-1)) (ta k) x)) : MO us cr ca du nx2 he2 (upz ta k x) (upL C k (C k ++ [(cr x, ca x, du x)])) [] := by
  obtain ⟨P, ow, ⟨h1, h2, h3⟩, hC⟩ := h
  have hx := h3 x List.mem_cons_self
  obtain ⟨a1, a2, a3, a4⟩ := h2 k hk.1 hk.2
  have nin : ∀ j : Int, 0 ≤ j → j < 32 → ∀ y ∈ P j, y ≠ x := by
    intro j j1 j2 y hy ey
    have c := ((h2 j j1 j2).2.2.2 y hy).2.2.1
    rw [ey, hx.2.2.1] at c; omega
  have hemp : he k = -1 ↔ P k = [] := by
    constructor
    · intro e
      cases hP : P k with
      | nil => rfl
      | cons y l =>
        rw [hP] at a1 a4
        have := a4 y List.mem_cons_self
        have e2 : he k = y := a1.1
        omega
    · intro e; rw [e] at a1; exact a1
  have lamem : P k ≠ [] → ta k ∈ P k := by
    intro hne
    rw [a3 hne, List.getLastD_eq_getLast?, List.getLast?_eq_some_getLast hne]
    exact List.getLast_mem _
  have other : ∀ j : Int, 0 ≤ j → j < 32 → j ≠ k → ∀ y ∈ P j, nx2 y = nx y := by
    intro j j1 j2 ej y hy
    rcases hh with ⟨z1, z2, z3⟩ | ⟨z1, z2, z3⟩
    · rw [z3, upz_ne _ _ (nin j j1 j2 y hy)]
    · rw [z3, upz_ne _ _ (fun ey => ej (by
        rw [← ((h2 j j1 j2).2.2.2 y hy).2.2.1, ey]
        exact (a4 _ (lamem (fun q => z1 (hemp.mpr q)))).2.2.1)), upz_ne _ _ (nin j j1 j2 y hy)]
  have hhe : ∀ j : Int, j ≠ k → he2 j = he j := by
    intro j ej
    rcases hh with ⟨z1, z2, z3⟩ | ⟨z1, z2, z3⟩
    · rw [z2, upz_ne _ _ ej]
    · rw [z2]
  refine ⟨upL P k (P k ++ [x]), upz ow x k, ⟨h1, fun j j1 j2 => ?_, fun y hy => absurd hy List.not_mem_nil⟩, fun j j1 j2 => ?_⟩
  · by_cases ej : j = k
    · subst ej
      rw [upL_self, upz_self]
      refine ⟨?_, ?_, fun _ => by simp, fun y hy => ?_⟩
      · rcases hh with ⟨z1, z2, z3⟩ | ⟨z1, z2, z3⟩
        · rw [hemp.mp z1, z2, upz_self, z3]
          exact ⟨rfl, upz_self _ _ _⟩
        · have hne : P j ≠ [] := fun q => z1 (hemp.mpr q)
          have hla := lamem hne
          have htx : ta j ≠ x := nin j j1 j2 _ hla
          rw [z2]
          refine Chn.snoc (nx := nx) ?_ hne a2 (fun y hy hy2 => ?_) ?_ a1
          · rw [z3, upz_ne _ _ (fun q => htx q.symm), upz_self]
          · rw [z3, upz_ne _ _ (fun q => hy2 (by rw [q]; exact a3 hne)), upz_ne _ _ (nin j j1 j2 y hy)]
          · rw [← a3 hne, z3, upz_self]
      · rw [List.nodup_append]
        exact ⟨a2, by simp, fun y hy z hz => by rw [List.mem_singleton.mp hz]; exact nin j j1 j2 y hy⟩
      · rcases List.mem_append.mp hy with q | q
        · have c := a4 y q
          exact ⟨c.1, c.2.1, by rw [upz_ne _ _ (nin j j1 j2 y q)]; exact c.2.2.1, c.2.2.2⟩
        · rw [List.mem_singleton.mp q]
          exact ⟨hx.1, hx.2.1, upz_self _ _ _, hx.2.2.2⟩
    · rw [upL_ne _ _ ej, upz_ne _ _ ej, hhe j ej]
      obtain ⟨d1, d2, d3, d4⟩ := h2 j j1 j2
      refine ⟨Chn.congr (other j j1 j2 ej) d1, d2, d3, fun y hy => ?_⟩
      have c := d4 y hy
      exact ⟨c.1, c.2.1, by rw [upz_ne _ _ (nin j j1 j2 y hy)]; exact c.2.2.1, c.2.2.2⟩
  · by_cases ej : j = k
    · subst ej
      rw [upL_self, upL_self, hC j j1 j2]
      show List.map _ _ ++ [_] = List.map _ (_ ++ [_])
      rw [List.map_append]; rfl
    · rw [upL_ne _ _ ej, upL_ne _ _ ej]; exact hC j j1 j2
theorem mo_pos (h : MO us cr ca du nx he ta C X) {k : Int} (hk : 0 ≤ k ∧ k < 32) : ∀ q ∈ C k, 1 ≤ q.2.1 := by
  obtain ⟨P, ow, ⟨h1, h2, h3⟩, hC⟩ := h
  rw [hC k hk.1 hk.2]
  intro q hq
  obtain ⟨x, hx, rfl⟩ := List.mem_map.mp hq
  exact ((h2 k hk.1 hk.2).2.2.2 x hx).2.2.2
end MOs
/-! the reference's numbers beside the state -/
def MSn (Ne M : Bd) : Prop := M.2 4 = Ne.2 8 ∧ (∀ r : Int, 0 ≤ r → r < Ne.2 8 → M.1 5 r = Ne.1 0 r ∧ M.1 6 r = Ne.1 1 r ∧ M.1 7 r = Ne.1 2 r ∧ M.1 8 r = Ne.1 3 r) ∧ (∀ r : Int, 0 ≤ r → r < 16 → M.1 9 r = Ne.1 4 r ∧ M.1 10 r = Ne.1 5 r) ∧ (∀ i j : Int, 0 ≤ i → i < 10 → 0 ≤ j → j < 10 → M.1 11 (10 * i + j) = if Ne.1 6 (i * 10 + j) = -1 then 10000 else Ne.1 6 (i * 10 + j))
def MSc (Cr M : Bd) : Prop := M.2 12 = Cr.2 3 ∧ ∀ c : Int, 0 ≤ c → c < Cr.2 3 → M.1 13 c = Cr.1 0 c ∧ M.1 14 c = Cr.1 1 c ∧ M.1 15 c = Cr.1 2 c
def MSt (To M : Bd) : Prop := M.2 0 = To.2 3 ∧ M.2 3 = To.2 2 ∧ (∀ t : Int, 0 ≤ t → t < To.2 3 → M.1 1 t = To.1 0 t) ∧ (∀ t : Int, 0 ≤ t → t < 10 → M.1 2 t = To.1 1 t)
def MDx (Cr : Bd) (A : Ab) (us : Int) (cr ca du nx he ta of ho la : Int → Int) (C : Int → List Pt3) (X : List Int) : Prop :=
  MO us cr ca du nx he ta C X ∧ (∀ r : Int, 0 ≤ r → r < 16 → fq (C r) = A.2.2.1 r ∧ fd (C (16 + r)) = A.2.2.2 r) ∧ (∀ c : Int, 0 ≤ c → c < 8 → of c = A.1 1 c ∧ ho c = A.1 2 c) ∧ (∀ c : Int, 0 ≤ c → c < Cr.2 3 → la c = A.1 3 c)
/-- the roads' own tables: least hours, and the first road of a shortest way -/
def NW (Ne : Bd) : Prop := (∀ i j : Int, 0 ≤ i → i < 10 → 0 ≤ j → j < 10 → -1 ≤ Ne.1 6 (i * 10 + j) ∧ Ne.1 6 (i * 10 + j) ≤ 1000) ∧ ∀ i j : Int, 0 ≤ i → i < 10 → 0 ≤ j → j < 10 → i ≠ j → Ne.1 6 (i * 10 + j) ≠ -1 → (0 ≤ Ne.1 7 (i * 10 + j) ∧ Ne.1 7 (i * 10 + j) < Ne.2 8) ∧ wayP (Ne.1 0) (Ne.1 1) (Ne.1 3) (Ne.1 6) i j (Ne.1 7 (i * 10 + j)) ∧ ∀ r : Int, 0 ≤ r → r < Ne.1 7 (i * 10 + j) → ¬ wayP (Ne.1 0) (Ne.1 1) (Ne.1 3) (Ne.1 6) i j r
section MDs
variable {Ne Cr : Bd} {A : Ab} {us : Int} {cr ca du nx he ta of ho la : Int → Int} {C : Int → List Pt3} {X : List Int}
theorem md_take (h : MDx Cr A us cr ca du nx he ta of ho la C []) {r : Int} (hr : 0 ≤ r ∧ r < 16) {q : Pt3} {l : List Pt3} (hq : C (16 + r) = q :: l) : MDx Cr (aD A r (fd l)) us cr ca du nx (upz he (16 + r) (nx (he (16 + r)))) ta of ho la (upL C (16 + r) l) [he (16 + r)] := by
  obtain ⟨h1, h2, h3, h4⟩ := h
  refine ⟨(mo_take h1 (by omega) hq).1, fun j j1 j2 => ?_, h3, h4⟩
  rw [upL_ne _ _ (by omega)]
  refine ⟨(h2 j j1 j2).1, ?_⟩
  show _ = upL A.2.2.2 r (fd l) j
  by_cases e : j = r
  · subst e; rw [upL_self, upL_self]
  · rw [upL_ne _ _ (by omega), upL_ne _ _ e]; exact (h2 j j1 j2).2
theorem md_arrQ {town x : Int} {he2 nx2 : Int → Int} (h : MDx Cr A us cr ca du nx he ta of ho la C [x]) (hne : town ≠ Cr.1 2 (cr x)) (hw : 0 ≤ aWay Ne Cr town (cr x) ∧ aWay Ne Cr town (cr x) < 16)
    (hh : (he (aWay Ne Cr town (cr x)) = -1 ∧ he2 = upz he (aWay Ne Cr town (cr x)) x ∧ nx2 = upz nx x (-1)) ∨ (he (aWay Ne Cr town (cr x)) ≠ -1 ∧ he2 = he ∧ nx2 = upz (upz nx x (-1)) (ta (aWay Ne Cr town (cr x))) x)) : MDx Cr (aArr Ne Cr town A (cr x) (ca x).toNat) us cr ca du nx2 he2 (upz ta (aWay Ne Cr town (cr x)) x) of ho la (upL C (aWay Ne Cr town (cr x)) (C (aWay Ne Cr town (cr x)) ++ [(cr x, ca x, du x)])) [] := by
  obtain ⟨h1, h2, h3, h4⟩ := h
  rw [aArr_queue hne]
  refine ⟨mo_add h1 (by omega) hh, fun j j1 j2 => ?_, h3, h4⟩
  show _ = upL A.2.2.1 _ _ j ∧ _ = A.2.2.2 j
  refine ⟨?_, ?_⟩
  · by_cases e : j = aWay Ne Cr town (cr x)
    · subst e
      rw [upL_self, upL_self, fq_app, (h2 _ j1 j2).1]
      show _ ++ (List.replicate (ca x).toNat (cr x) ++ []) = _
      rw [List.append_nil]
    · rw [upL_ne _ _ e, upL_ne _ _ e]; exact (h2 j j1 j2).1
  · rw [upL_ne _ _ (by omega)]; exact (h2 j j1 j2).2
theorem md_arrH {town x now : Int} (h : MDx Cr A us cr ca du nx he ta of ho la C [x]) (he0 : town = Cr.1 2 (cr x)) (hc : 0 ≤ cr x ∧ cr x < Cr.2 3 ∧ Cr.2 3 ≤ 8) (hle : A.1 2 (cr x) + (ca x) ≤ Cr.1 1 (cr x)) (hnow : now = A.2.1 0) : MDx Cr (aArr Ne Cr town A (cr x) (ca x).toNat) us cr ca du nx he ta of (upz ho (cr x) (ho (cr x) + ca x)) (if ho (cr x) + ca x = Cr.1 1 (cr x) then upz la (cr x) now else la) C [] := by
  obtain ⟨h1, h2, h3, h4⟩ := h
  have hx := mo_loose h1
  obtain ⟨i1, i2, i3, i4⟩ := aArr_home (Ne := Ne) he0 (ca x).toNat A (by omega) (by omega)
  have hoc := (h3 (cr x) hc.1 (by omega)).2
  refine ⟨mo_drop h1, fun j j1 j2 => ?_, fun c c1 c2 => ?_, fun c c1 c2 => ?_⟩
  · rw [i1]; exact h2 j j1 j2
  · rw [i2 1 (by omega) (by omega), i3]
    refine ⟨(h3 c c1 c2).1, ?_⟩
    by_cases e : c = cr x
    · rw [e, upz_self, upz_self, hoc]; omega
    · rw [upz_ne _ _ e, upz_ne _ _ e]; exact (h3 c c1 c2).2
  · rw [i4, hoc, hnow]
    by_cases z : A.1 2 (cr x) + ca x = Cr.1 1 (cr x)
    · rw [if_pos z, if_pos (by omega)]
      by_cases e : c = cr x
      · rw [e, upz_self, upz_self]
      · rw [upz_ne _ _ e, upz_ne _ _ e]; exact h4 c c1 c2
    · rw [if_neg z, if_neg (by omega)]; exact h4 c c1 c2
theorem md_let {c : Int} {he2 nx2 : Int → Int} (h : MDx Cr A us cr ca du nx he ta of ho la C []) (hz : A.1 1 c = 0 ∧ A.1 0 c = A.2.1 0) (hn : 1 ≤ Cr.1 1 c) (hw : 0 ≤ aWay Ne Cr (Cr.1 0 c) c ∧ aWay Ne Cr (Cr.1 0 c) c < 16)
    (hh : (he (aWay Ne Cr (Cr.1 0 c) c) = -1 ∧ he2 = upz he (aWay Ne Cr (Cr.1 0 c) c) us ∧ nx2 = upz nx us (-1)) ∨ (he (aWay Ne Cr (Cr.1 0 c) c) ≠ -1 ∧ he2 = he ∧ nx2 = upz (upz nx us (-1)) (ta (aWay Ne Cr (Cr.1 0 c) c)) us)) : MDx Cr (aLet1 Ne Cr A c) (us + 1) (upz cr us c) (upz ca us (Cr.1 1 c)) du nx2 he2 (upz ta (aWay Ne Cr (Cr.1 0 c) c) us) (upz of c 1) ho la (upL C (aWay Ne Cr (Cr.1 0 c) c) (C (aWay Ne Cr (Cr.1 0 c) c) ++ [(c, Cr.1 1 c, du us)])) [] := by
  obtain ⟨h1, h2, h3, h4⟩ := h
  have e0 : aLet1 Ne Cr A c = aQ (aI A 1 (upz (A.1 1) c 1)) (aWay Ne Cr (Cr.1 0 c) c) (A.2.2.1 (aWay Ne Cr (Cr.1 0 c) c) ++ List.replicate (Cr.1 1 c).toNat c) := if_pos hz
  rw [e0]
  have hm := mo_add (mo_new h1 (c := c) hn) (k := aWay Ne Cr (Cr.1 0 c) c) (by omega) hh
  rw [upz_self, upz_self] at hm
  refine ⟨hm, fun j j1 j2 => ?_, fun x c1 c2 => ?_, h4⟩
  · show _ = upL A.2.2.1 _ _ j ∧ _ = A.2.2.2 j
    refine ⟨?_, ?_⟩
    · by_cases e : j = aWay Ne Cr (Cr.1 0 c) c
      · subst e
        rw [upL_self, upL_self, fq_app, (h2 _ j1 j2).1]
        show _ ++ (List.replicate (Cr.1 1 c).toNat c ++ []) = _
        rw [List.append_nil]
      · rw [upL_ne _ _ e, upL_ne _ _ e]; exact (h2 j j1 j2).1
    · rw [upL_ne _ _ (by omega)]; exact (h2 j j1 j2).2
  · show upz of c 1 x = upz (A.1 1) c 1 x ∧ ho x = A.1 2 x
    refine ⟨?_, (h3 x c1 c2).2⟩
    by_cases e : x = c
    · rw [e, upz_self, upz_self]
    · rw [upz_ne _ _ e, upz_ne _ _ e]; exact (h3 x c1 c2).1
/-- k cars of a road's queue have set out -/
def aOk (Ne : Bd) (A : Ab) (r : Int) (k : Nat) : Ab := aD (aQ A r ((A.2.2.1 r).drop k)) r (A.2.2.2 r ++ ((A.2.2.1 r).take k).map (fun c => (c, A.2.1 0 + Ne.1 3 r)))
theorem md_ok0 (h : MDx Cr A us cr ca du nx he ta of ho la C []) {r : Int} : MDx Cr (aOk Ne A r 0) us cr ca du nx he ta of ho la C [] := by
  obtain ⟨h1, h2, h3, h4⟩ := h
  refine ⟨h1, fun j j1 j2 => ?_, h3, h4⟩
  show _ = upL A.2.2.1 r ((A.2.2.1 r).drop 0) j ∧ _ = upL A.2.2.2 r (A.2.2.2 r ++ ((A.2.2.1 r).take 0).map _) j
  rw [List.drop_zero, List.take_zero, List.map_nil, List.append_nil, upL_eq, upL_eq]
  exact h2 j j1 j2
/-- the queue's first m cars, all of a crowd, go over to the road -/
theorem md_ok {r c m : Int} {k : Nat} {rest : List Pt3} {us2 : Int} {cr2 ca2 du2 nx2 he2 ta2 : Int → Int} {C2 : Int → List Pt3} (h : MDx Cr (aOk Ne A r k) us cr ca du nx he ta of ho la C []) (hr : 0 ≤ r ∧ r < 16) (hm : 1 ≤ m) (hq : fq (C r) = List.replicate m.toNat c ++ fq rest)
    (hM : MO us2 cr2 ca2 du2 nx2 he2 ta2 C2 []) (hC : ∀ j : Int, 0 ≤ j → j < 32 → C2 j = if j = r then rest else if j = 16 + r then C (16 + r) ++ [(c, m, A.2.1 0 + Ne.1 3 r)] else C j) : MDx Cr (aOk Ne A r (k + m.toNat)) us2 cr2 ca2 du2 nx2 he2 ta2 of ho la C2 [] := by
  obtain ⟨h1, h2, h3, h4⟩ := h
  have g := h2 r hr.1 hr.2
  have g1 : fq (C r) = (A.2.2.1 r).drop k := by
    have e : (aOk Ne A r k).2.2.1 r = (A.2.2.1 r).drop k := upL_self _ _ _
    rw [← e]; exact g.1
  have g2 : fd (C (16 + r)) = A.2.2.2 r ++ ((A.2.2.1 r).take k).map (fun c => (c, A.2.1 0 + Ne.1 3 r)) := by
    have e : (aOk Ne A r k).2.2.2 r = A.2.2.2 r ++ ((A.2.2.1 r).take k).map (fun c => (c, A.2.1 0 + Ne.1 3 r)) := upL_self _ _ _
    rw [← e]; exact g.2
  rw [hq] at g1
  have d1 : (A.2.2.1 r).drop (k + m.toNat) = fq rest := by
    rw [← List.drop_drop, ← g1, List.drop_left' (by simp)]
  have t1 : (A.2.2.1 r).take (k + m.toNat) = (A.2.2.1 r).take k ++ List.replicate m.toNat c := by
    rw [List.take_add, ← g1, List.take_left' (by simp)]
  refine ⟨hM, fun j j1 j2 => ?_, h3, h4⟩
  rw [hC j j1 (by omega), hC (16 + j) (by omega) (by omega)]
  show _ = upL A.2.2.1 r _ j ∧ _ = upL A.2.2.2 r _ j
  by_cases e : j = r
  · subst e
    rw [if_pos rfl, if_neg (by omega), if_pos rfl, upL_self, upL_self, d1, t1, fd_app, g2, List.map_append, List.append_assoc, List.map_replicate]
    refine ⟨rfl, ?_⟩
    show _ ++ (_ ++ (List.replicate m.toNat (c, A.2.1 0 + Ne.1 3 j) ++ [])) = _
    rw [List.append_nil]
  · rw [if_neg e, if_neg (by omega), if_neg (by omega), if_neg (by omega), upL_ne _ _ e, upL_ne _ _ e]
    have z := h2 j j1 j2
    have z1 : (aOk Ne A r k).2.2.1 j = A.2.2.1 j := upL_ne _ _ e
    have z2 : (aOk Ne A r k).2.2.2 j = A.2.2.2 j := upL_ne _ _ e
    rw [z1, z2] at z
    exact z
theorem aK_of {r : Int} {k : Nat} (hs : ¬ (Ne.1 4 r ≤ A.2.1 0 ∧ A.2.1 0 < Ne.1 5 r)) (h1 : (k : Int) ≤ Ne.1 2 r) (h2 : (k : Int) = Ne.1 2 r ∨ (A.2.2.1 r).drop k = []) (h3 : k ≤ (A.2.2.1 r).length) : aK Ne A r = k := by
  unfold aK
  rw [if_neg hs]
  rcases h2 with h | h
  · omega
  · have := List.drop_eq_nil_iff.mp h
    omega
theorem md_out {r : Int} {k : Nat} (h : MDx Cr (aOk Ne A r k) us cr ca du nx he ta of ho la C []) (hk : aK Ne A r = k) : MDx Cr (aOut1 Ne A r) us cr ca du nx he ta of ho la C [] := by
  obtain ⟨h1, h2, h3, h4⟩ := h
  refine ⟨h1, fun j j1 j2 => ?_, h3, h4⟩
  show _ = upL A.2.2.1 r ((A.2.2.1 r).drop (aK Ne A r)) j ∧ _ = upL A.2.2.2 r (A.2.2.2 r ++ ((A.2.2.1 r).take (aK Ne A r)).map _) j
  rw [hk]
  exact h2 j j1 j2
end MDs
