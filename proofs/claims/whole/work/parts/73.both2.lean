/-! ===== class and reference: a road, a crowd, dawn, hours, forecasts, counts; the beginning ===== -/
theorem z_empty {Ne Cr : Bd} {A : Ab} (hc : Cfg Ne Cr) (hB : LgB Ne Cr A) (h0 : A.2.1 0 = 0) : (∀ r : Int, 0 ≤ r → r < 16 → A.2.2.1 r = [] ∧ A.2.2.2 r = []) ∧ ∀ c : Int, 0 ≤ c → c < Cr.2 3 → A.1 1 c = 0 ∧ A.1 2 c = 0 := by
  have b1 := hB.1
  have hz : ∀ c : Int, 0 ≤ c → c < Cr.2 3 → A.1 1 c = 0 ∧ A.1 2 c = 0 ∧ cqs A c = 0 ∧ cds A c = 0 := by
    intro c x y
    have g := b1.2.2.1 c x y
    have k := b1.1.2 c x y
    have e1 : A.1 1 c = 0 := by
      rcases k.2.2.1 with z | z
      · exact z
      · have := g.2.mp z; omega
    rw [if_pos e1] at k
    have n := cnt_nn id A c
    exact ⟨e1, by omega, by omega, by omega⟩
  refine ⟨fun r x y => ?_, fun c x y => ⟨(hz c x y).1, (hz c x y).2.1⟩⟩
  have g := b1.1.1 r x y
  refine ⟨?_, ?_⟩
  · cases hq : A.2.2.1 r with
    | nil => rfl
    | cons c l =>
      have m := g.2.1 c (by rw [hq]; exact List.mem_cons_self)
      have z := (hz c m.1 m.2.1).2.2.1
      have le := smI_le (f := fun r => ((A.2.2.1 r).count c : Int)) (k := r) (n := 16) (fun j _ _ => by omega) x (by omega)
      have p : 1 ≤ (A.2.2.1 r).count c := List.one_le_count_iff.mpr (by rw [hq]; exact List.mem_cons_self)
      unfold cqs at z
      omega
  · cases hq : A.2.2.2 r with
    | nil => rfl
    | cons q l =>
      have m := g.2.2 q (by rw [hq]; exact List.mem_cons_self)
      have z := (hz q.1 m.1 m.2.1).2.2.2
      have le := smI_le (f := fun r => (((A.2.2.2 r).map (fun q => q.1)).count q.1 : Int)) (k := r) (n := 16) (fun j _ _ => by omega) x (by omega)
      have p : 1 ≤ ((A.2.2.2 r).map (fun q => q.1)).count q.1 := List.one_le_count_iff.mpr (by rw [hq]; exact List.mem_cons_self)
      unfold cds at z
      omega
theorem least_P {P : Int → Prop} : ∀ (n : Nat), (∃ r : Int, 0 ≤ r ∧ r < n ∧ P r) → ∃ q : Int, 0 ≤ q ∧ q < n ∧ P q ∧ ∀ r : Int, 0 ≤ r → r < q → ¬ P r
  | 0, ⟨r, a, b, _⟩ => by omega
  | n + 1, ⟨r, a, b, hp⟩ => by
    by_cases h : ∃ r : Int, 0 ≤ r ∧ r < n ∧ P r
    · obtain ⟨q, q1, q2, q3, q4⟩ := least_P n h
      exact ⟨q, q1, by omega, q3, q4⟩
    · have e : r = (n : Int) := by
        apply Classical.byContradiction
        intro z
        exact h ⟨r, a, by omega, hp⟩
      exact ⟨r, a, b, hp, fun x x1 x2 px => h ⟨x, x1, by omega, px⟩⟩
theorem shv_rng {L : Int → Int} {s e t i j : Int} (ht : 1 ≤ t ∧ t ≤ 9) (h1 : -1 ≤ L (i * 10 + s) ∧ L (i * 10 + s) ≤ 1000) (h2 : -1 ≤ L (e * 10 + j) ∧ L (e * 10 + j) ≤ 1000) (h3 : -1 ≤ L (i * 10 + j) ∧ L (i * 10 + j) ≤ 1000) : -1 ≤ shv L s e t i j ∧ shv L s e t i j ≤ 2009 ∧ (L (i * 10 + j) ≠ -1 → shv L s e t i j ≠ -1) := by
  unfold shv
  split
  · rename_i q; omega
  · omega
section St2
variable {To Ne Cr U : Bd} {Nqu : Nat} {Squ : Bd} {F : Bd} {Nqt : Nat} {A : Ab} {Cq C : Int → List Pt3} {M : Bd} {f : Nat → Option Nat} {hs : Nat → Nat} {Lg : Nat → Bd} {nr : Nat}
theorem at_empty {N : Nat} {X : Int → Int} {t : Int} (h : ∀ r : Int, 0 ≤ r → r < 16 → A.2.2.1 r = []) (hN : N ≤ 16) : smI (fun r => if X r = t then ((A.2.2.1 r).length : Int) else 0) 0 N = 0 := by
  rw [smI_congr (g := fun _ => 0) (fun j a b => by rw [h j a (by omega)]; split <;> rfl)]
  have : ∀ n : Nat, smI (fun _ => 0) 0 n = 0 := by
    intro n
    induction n with
    | zero => rfl
    | succ n ih => show smI (fun _ => 0) 0 n + 0 = 0; rw [ih]; rfl
  exact this N
theorem s_road {s1 s2 cs ho : Int} {L2 W2 Lm : Int → Int} (hA : LgA To Ne Cr) (hB : LgB Ne Cr A) (hC : LgC To Ne Cr U Nqu Squ F Nqt A Cq) (hD : LgD To Ne Cr A M C) (h0 : A.2.1 0 = 0) (h16 : Ne.2 8 < 16) (h1 : 0 ≤ s1 ∧ s1 < 10) (h2 : 0 ≤ s2 ∧ s2 < 10) (hcs : 1 ≤ cs ∧ cs ≤ 5000) (hho : 1 ≤ ho ∧ ho ≤ 9)
    (hL2 : ∀ i j : Int, 0 ≤ i → i < 10 → 0 ≤ j → j < 10 → L2 (i * 10 + j) = shv (Ne.1 6) s1 s2 ho i j) (hW2 : ∀ i j : Int, 0 ≤ i → i < 10 → 0 ≤ j → j < 10 → fwp (wayP (upz (Ne.1 0) (Ne.2 8) s1) (upz (Ne.1 1) (Ne.2 8) s2) (upz (Ne.1 3) (Ne.2 8) ho) L2 i j) (-1) (Ne.2 8 + 1) (Ne.1 7 (i * 10 + j)) (W2 (i * 10 + j)))
    (hsp : SPm (upz (M.1 5) (M.2 4) s1) (upz (M.1 6) (M.2 4) s2) (upz (M.1 8) (M.2 4) ho) (M.2 4 + 1) Lm) :
    LgA To ((upf (upf (upf (upf (upf (upf Ne.1 0 (upz (Ne.1 0) (Ne.2 8) s1)) 1 (upz (Ne.1 1) (Ne.2 8) s2)) 2 (upz (Ne.1 2) (Ne.2 8) cs)) 3 (upz (Ne.1 3) (Ne.2 8) ho)) 6 L2) 7 W2), (upf Ne.2 8 (Ne.2 8 + 1))) Cr ∧ LgB ((upf (upf (upf (upf (upf (upf Ne.1 0 (upz (Ne.1 0) (Ne.2 8) s1)) 1 (upz (Ne.1 1) (Ne.2 8) s2)) 2 (upz (Ne.1 2) (Ne.2 8) cs)) 3 (upz (Ne.1 3) (Ne.2 8) ho)) 6 L2) 7 W2), (upf Ne.2 8 (Ne.2 8 + 1))) Cr A ∧ LgC To ((upf (upf (upf (upf (upf (upf Ne.1 0 (upz (Ne.1 0) (Ne.2 8) s1)) 1 (upz (Ne.1 1) (Ne.2 8) s2)) 2 (upz (Ne.1 2) (Ne.2 8) cs)) 3 (upz (Ne.1 3) (Ne.2 8) ho)) 6 L2) 7 W2), (upf Ne.2 8 (Ne.2 8 + 1))) Cr U Nqu Squ (F.1, (upf (upf F.2 5 0) 8 0)) Nqt A Cq ∧ LgD To ((upf (upf (upf (upf (upf (upf Ne.1 0 (upz (Ne.1 0) (Ne.2 8) s1)) 1 (upz (Ne.1 1) (Ne.2 8) s2)) 2 (upz (Ne.1 2) (Ne.2 8) cs)) 3 (upz (Ne.1 3) (Ne.2 8) ho)) 6 L2) 7 W2), (upf Ne.2 8 (Ne.2 8 + 1))) Cr A ((upf (upf (upf (upf (upf M.1 5 (upz (M.1 5) (M.2 4) s1)) 6 (upz (M.1 6) (M.2 4) s2)) 7 (upz (M.1 7) (M.2 4) cs)) 8 (upz (M.1 8) (M.2 4) ho)) 11 Lm), (upf M.2 4 (M.2 4 + 1))) C := by
  obtain ⟨em1, em2⟩ := z_empty hA.1 hB h0
  obtain ⟨a1, a2, a3, a4, a5, a6, a7, a8⟩ := hA
  obtain ⟨b1, b2, b3, b4, b5, b6⟩ := hB
  obtain ⟨c1, c2, c3, c4⟩ := hC
  obtain ⟨d1, d2, d3, d4⟩ := hD
  have e4 : M.2 4 = Ne.2 8 := d1.2.1.1
  have hr8 := a1.1
  have mn := d1.2.1
  have hrv : RV (M.1 5) (M.1 6) (M.1 8) (M.2 4) := by
    intro r x y
    have g := mn.2.1 r x (by omega)
    have k := a1.2.2.1 r x (by omega)
    rw [g.1, g.2.1, g.2.2.2]
    exact ⟨k.1, k.2.1, k.2.2.2.1⟩
  have hrv2 : RV (upz (M.1 5) (M.2 4) s1) (upz (M.1 6) (M.2 4) s2) (upz (M.1 8) (M.2 4) ho) (M.2 4 + 1) := by
    intro r x y
    by_cases z : r = M.2 4
    · rw [z, upz_self, upz_self, upz_self]; omega
    · rw [upz_ne _ _ z, upz_ne _ _ z, upz_ne _ _ z]; exact hrv r x (by omega)
  have hsn := sp_new (fr2 := upz (M.1 5) (M.2 4) s1) (to2 := upz (M.1 6) (M.2 4) s2) (hr2 := upz (M.1 8) (M.2 4) ho) (Lm2 := fun k => mL L2 (k / 10) (k % 10)) (by omega) hrv d4 (L := Ne.1 6) (fun i j i1 i2 j1 j2 => ⟨(a2.1 i j i1 i2 j1 j2).1, (a2.1 i j i1 i2 j1 j2).2, mn.2.2.2 i j i1 i2 j1 j2⟩) hL2 h1 h2 hho (fun r x y => by rw [upz_ne _ _ (by omega), upz_ne _ _ (by omega), upz_ne _ _ (by omega)]; exact ⟨rfl, rfl, rfl⟩) ⟨upz_self _ _ _, upz_self _ _ _, upz_self _ _ _⟩ (fun i j i1 i2 j1 j2 => by
    show mL L2 ((10 * i + j) / 10) ((10 * i + j) % 10) = _
    rw [show (10 * i + j) / 10 = i by omega, show (10 * i + j) % 10 = j by omega])
  have tab : ∀ i j : Int, 0 ≤ i → i < 10 → 0 ≤ j → j < 10 → Lm (10 * i + j) = if L2 (i * 10 + j) = -1 then 10000 else L2 (i * 10 + j) := by
    intro i j i1 i2 j1 j2
    rw [sp_uniq hrv2 hsp hsn i1 i2 j1 j2]
    show mL L2 ((10 * i + j) / 10) ((10 * i + j) % 10) = _
    rw [show (10 * i + j) / 10 = i by omega, show (10 * i + j) % 10 = j by omega]
    rfl
  have rg2 : ∀ i j : Int, 0 ≤ i → i < 10 → 0 ≤ j → j < 10 → -1 ≤ L2 (i * 10 + j) ∧ L2 (i * 10 + j) ≤ 1000 ∧ (Ne.1 6 (i * 10 + j) ≠ -1 → L2 (i * 10 + j) ≠ -1) := by
    intro i j i1 i2 j1 j2
    have q := shv_rng (L := Ne.1 6) (s := s1) (e := s2) (t := ho) (i := i) (j := j) hho (a2.1 i s1 i1 i2 h1.1 h1.2) (a2.1 s2 j h2.1 h2.2 j1 j2) (a2.1 i j i1 i2 j1 j2)
    have t := tab i j i1 i2 j1 j2
    rw [← hL2 i j i1 i2 j1 j2] at q
    refine ⟨q.1, ?_, q.2.2⟩
    by_cases z : L2 (i * 10 + j) = -1
    · omega
    · rw [if_neg z] at t
      have := sp_90 hrv2 hsp i1 i2 j1 j2 (by omega)
      omega
  have frq : ∀ r : Int, 0 ≤ r → r < Ne.2 8 + 1 → upz (M.1 5) (M.2 4) s1 r = upz (Ne.1 0) (Ne.2 8) s1 r ∧ upz (M.1 6) (M.2 4) s2 r = upz (Ne.1 1) (Ne.2 8) s2 r ∧ upz (M.1 7) (M.2 4) cs r = upz (Ne.1 2) (Ne.2 8) cs r ∧ upz (M.1 8) (M.2 4) ho r = upz (Ne.1 3) (Ne.2 8) ho r := by
    intro r x y
    rw [e4]
    by_cases z : r = Ne.2 8
    · rw [z, upz_self, upz_self, upz_self, upz_self, upz_self, upz_self, upz_self, upz_self]; exact ⟨rfl, rfl, rfl, rfl⟩
    · rw [upz_ne _ _ z, upz_ne _ _ z, upz_ne _ _ z, upz_ne _ _ z, upz_ne _ _ z, upz_ne _ _ z, upz_ne _ _ z, upz_ne _ _ z]
      exact mn.2.1 r x (by omega)
  have nw2 : ∀ i j : Int, 0 ≤ i → i < 10 → 0 ≤ j → j < 10 → i ≠ j → L2 (i * 10 + j) ≠ -1 → (0 ≤ W2 (i * 10 + j) ∧ W2 (i * 10 + j) < Ne.2 8 + 1) ∧ wayP (upz (Ne.1 0) (Ne.2 8) s1) (upz (Ne.1 1) (Ne.2 8) s2) (upz (Ne.1 3) (Ne.2 8) ho) L2 i j (W2 (i * 10 + j)) ∧ ∀ r : Int, 0 ≤ r → r < W2 (i * 10 + j) → ¬ wayP (upz (Ne.1 0) (Ne.2 8) s1) (upz (Ne.1 1) (Ne.2 8) s2) (upz (Ne.1 3) (Ne.2 8) ho) L2 i j r := by
    intro i j i1 i2 j1 j2 hne hfi
    have t := tab i j i1 i2 j1 j2
    rw [if_neg hfi] at t
    have r2 := rg2 i j i1 i2 j1 j2
    obtain ⟨r, x1, x2, x3, x4⟩ := hsp.2.2.2 i j i1 i2 j1 j2 hne (by omega)
    have k := frq r x1 (by omega)
    have v := hrv2 r x1 x2
    have tt := tab (upz (M.1 6) (M.2 4) s2 r) j v.2.1.1 v.2.1.2 j1 j2
    have hex : ∃ r : Int, 0 ≤ r ∧ r < ((Ne.2 8 + 1).toNat : Nat) ∧ wayP (upz (Ne.1 0) (Ne.2 8) s1) (upz (Ne.1 1) (Ne.2 8) s2) (upz (Ne.1 3) (Ne.2 8) ho) L2 i j r := by
      refine ⟨r, x1, by omega, by rw [← k.1]; exact x3, ?_, ?_⟩
      · rw [← k.2.1]
        intro z
        rw [if_pos z] at tt
        omega
      · rw [← k.2.1, ← k.2.2.2]
        by_cases z : L2 (upz (M.1 6) (M.2 4) s2 r * 10 + j) = -1
        · rw [if_pos z] at tt; omega
        · rw [if_neg z] at tt; omega
    obtain ⟨q, q1, q2, q3, q4⟩ := least_P (Ne.2 8 + 1).toNat hex
    have w := (hW2 i j i1 i2 j1 j2).2 q (by omega) (by omega) q3 (fun r y1 y2 => q4 r (by omega) y2)
    rw [w]
    exact ⟨⟨q1, by omega⟩, q3, q4⟩
  refine ⟨⟨⟨?_, a1.2.1, fun r x y => ?_, fun c x y => ?_, fun i j i1 i2 j1 j2 hne hfi => ?_⟩, ⟨fun i j i1 i2 j1 j2 => ⟨(rg2 i j i1 i2 j1 j2).1, (rg2 i j i1 i2 j1 j2).2.1⟩, nw2⟩, a3, a4, a5, a6, a7, a8⟩, ⟨⟨⟨fun r x y => ?_, b1.1.2⟩, b1.2⟩, b2, b3, b4, b5, b6⟩, ⟨?_, c2, c3, foi_0⟩, ⟨⟨d1.1, ⟨?_, frq, mn.2.2.1, tab⟩, d1.2.2⟩, d2, d3, hsp⟩⟩
  · show 0 ≤ Ne.2 8 + 1 ∧ Ne.2 8 + 1 ≤ 16; omega
  · have y2 : r < Ne.2 8 + 1 := y
    show (0 ≤ upz (Ne.1 0) (Ne.2 8) s1 r ∧ upz (Ne.1 0) (Ne.2 8) s1 r < 10) ∧ (0 ≤ upz (Ne.1 1) (Ne.2 8) s2 r ∧ upz (Ne.1 1) (Ne.2 8) s2 r < 10) ∧ (1 ≤ upz (Ne.1 2) (Ne.2 8) cs r ∧ upz (Ne.1 2) (Ne.2 8) cs r ≤ 5000) ∧ (1 ≤ upz (Ne.1 3) (Ne.2 8) ho r ∧ upz (Ne.1 3) (Ne.2 8) ho r ≤ 9) ∧ (0 ≤ Ne.1 4 r ∧ Ne.1 4 r < 2147483648) ∧ (0 ≤ Ne.1 5 r ∧ Ne.1 5 r < 2147483648)
    by_cases z : r = Ne.2 8
    · rw [z, upz_self, upz_self, upz_self, upz_self]
      have q := a8 (Ne.2 8) (by omega) (by omega)
      exact ⟨h1, h2, hcs, hho, q⟩
    · rw [upz_ne _ _ z, upz_ne _ _ z, upz_ne _ _ z, upz_ne _ _ z]
      exact a1.2.2.1 r x (by omega)
  · have g := a1.2.2.2.1 c x y
    exact ⟨g.1, g.2.1, g.2.2.1, g.2.2.2.1, (rg2 _ _ g.1.1 g.1.2 g.2.1.1 g.2.1.2).2.2 g.2.2.2.2⟩
  · have q := nw2 i j i1 i2 j1 j2 hne hfi
    exact ⟨q.1, q.2.1.1, q.2.1.2.1⟩
  · have e := em1 r x y
    show (Ne.2 8 + 1 ≤ r → _) ∧ (∀ c ∈ A.2.2.1 r, _) ∧ ∀ q ∈ A.2.2.2 r, _
    rw [e.1, e.2]
    exact ⟨fun _ => ⟨rfl, rfl⟩, fun c hc => absurd hc List.not_mem_nil, fun c hc => absurd hc List.not_mem_nil⟩
  · obtain ⟨t1, t2, t3, t4, t5, t6⟩ := c1
    refine ⟨t1, t2, t3, fun t x y => ?_, t5, t6⟩
    have g := t4 t x y
    refine ⟨?_, g.2⟩
    rw [g.1]
    unfold aAt
    show _ + smI (fun r => if Ne.1 0 r = t then ((A.2.2.1 r).length : Int) else 0) 0 (Ne.2 8).toNat = _ + smI (fun r => if upz (Ne.1 0) (Ne.2 8) s1 r = t then ((A.2.2.1 r).length : Int) else 0) 0 (Ne.2 8 + 1).toNat
    rw [at_empty (fun r x y => (em1 r x y).1) (by omega), at_empty (fun r x y => (em1 r x y).1) (by omega)]
  · show M.2 4 + 1 = Ne.2 8 + 1; omega
theorem s_crowd {s1 s2 cs : Int} (hA : LgA To Ne Cr) (hB : LgB Ne Cr A) (hC : LgC To Ne Cr U Nqu Squ F Nqt A Cq) (hD : LgD To Ne Cr A M C) (h0 : A.2.1 0 = 0) (h8 : Cr.2 3 < 8) (h1 : 0 ≤ s1 ∧ s1 < To.2 3) (h2 : 0 ≤ s2 ∧ s2 < To.2 3) (hne : s1 ≠ s2) (hcs : 1 ≤ cs ∧ cs ≤ 20000) (hfi : Ne.1 6 (s1 * 10 + s2) ≠ -1) :
    LgA To Ne ((upf (upf (upf Cr.1 0 (upz (Cr.1 0) (Cr.2 3) s1)) 1 (upz (Cr.1 1) (Cr.2 3) cs)) 2 (upz (Cr.1 2) (Cr.2 3) s2)), (upf (upf Cr.2 3 (Cr.2 3 + 1)) 4 (Cr.2 4 + cs))) ∧ LgB Ne ((upf (upf (upf Cr.1 0 (upz (Cr.1 0) (Cr.2 3) s1)) 1 (upz (Cr.1 1) (Cr.2 3) cs)) 2 (upz (Cr.1 2) (Cr.2 3) s2)), (upf (upf Cr.2 3 (Cr.2 3 + 1)) 4 (Cr.2 4 + cs))) (aI A 3 (upz (A.1 3) (Cr.2 3) (-1))) ∧ LgC To Ne ((upf (upf (upf Cr.1 0 (upz (Cr.1 0) (Cr.2 3) s1)) 1 (upz (Cr.1 1) (Cr.2 3) cs)) 2 (upz (Cr.1 2) (Cr.2 3) s2)), (upf (upf Cr.2 3 (Cr.2 3 + 1)) 4 (Cr.2 4 + cs))) ((upf U.1 8 (upz (U.1 8) s1 (U.1 8 s1 + cs))), U.2) Nqu Squ (F.1, (upf (upf F.2 5 0) 8 0)) Nqt (aI A 3 (upz (A.1 3) (Cr.2 3) (-1))) Cq ∧ LgD To Ne ((upf (upf (upf Cr.1 0 (upz (Cr.1 0) (Cr.2 3) s1)) 1 (upz (Cr.1 1) (Cr.2 3) cs)) 2 (upz (Cr.1 2) (Cr.2 3) s2)), (upf (upf Cr.2 3 (Cr.2 3 + 1)) 4 (Cr.2 4 + cs))) (aI A 3 (upz (A.1 3) (Cr.2 3) (-1))) ((upf (upf (upf (upf M.1 13 (upz (M.1 13) (M.2 12) s1)) 14 (upz (M.1 14) (M.2 12) cs)) 15 (upz (M.1 15) (M.2 12) s2)) 30 (upz (M.1 30) (M.2 12) (-1))), (upf M.2 12 (M.2 12 + 1))) C := by
  obtain ⟨em1, em2⟩ := z_empty hA.1 hB h0
  obtain ⟨a1, a2, a3, a4, a5, a6, a7, a8⟩ := hA
  obtain ⟨b1, b2, b3, b4, b5, b6⟩ := hB
  obtain ⟨c1, c2, c3, c4⟩ := hC
  obtain ⟨d1, d2, d3, d4⟩ := hD
  have e12 : M.2 12 = Cr.2 3 := d1.2.2.1
  have hc8 := a1.2.1
  have un := b6 h0 (Cr.2 3) (by omega) h8
  have hn1 : (Cr.2 3 + 1).toNat = (Cr.2 3).toNat + 1 := by omega
  have sm1 : ∀ g : Int → Int, ∀ v : Int, smI (upz g (Cr.2 3) v) 0 (Cr.2 3 + 1).toNat = smI g 0 (Cr.2 3).toNat + v := by
    intro g v
    rw [smI_s hc8.1, upz_self, smI_congr (g := g) (fun j x y => upz_ne _ _ (by omega))]
  obtain ⟨t1, t2, t3, t4, t5, t6⟩ := c1
  refine ⟨⟨⟨a1.1, ?_, a1.2.2.1, fun c x y => ?_, a1.2.2.2.2⟩, a2, a3, a4, a5, fun c x y => ?_, ?_, a8⟩, ⟨⟨⟨fun r x y => ?_, fun c x y => ?_⟩, b1.2.1, fun c x y => ?_, b1.2.2.2⟩, fun c x y z => ?_, fun c x y => ?_, b4, fun c x y => ?_, fun z c x y => ?_⟩, ⟨⟨t1, t2, fun c x y => ?_, fun t x y => ?_, ?_, ?_⟩, ?_, c3, foi_0⟩, ⟨⟨d1.1, d1.2.1, ?_, fun c x y => ?_⟩, ⟨⟨d2.1.1, d2.1.2.1, d2.1.2.2.1, fun c x y => ?_⟩, d2.2.1, d2.2.2.1, d2.2.2.2.1, d2.2.2.2.2.1, ?_⟩, d3, d4⟩⟩
  · show 0 ≤ Cr.2 3 + 1 ∧ Cr.2 3 + 1 ≤ 8; omega
  · have y2 : c < Cr.2 3 + 1 := y
    show (0 ≤ upz (Cr.1 0) (Cr.2 3) s1 c ∧ upz (Cr.1 0) (Cr.2 3) s1 c < 10) ∧ (0 ≤ upz (Cr.1 2) (Cr.2 3) s2 c ∧ upz (Cr.1 2) (Cr.2 3) s2 c < 10) ∧ upz (Cr.1 0) (Cr.2 3) s1 c ≠ upz (Cr.1 2) (Cr.2 3) s2 c ∧ (1 ≤ upz (Cr.1 1) (Cr.2 3) cs c ∧ upz (Cr.1 1) (Cr.2 3) cs c ≤ 20000) ∧ Ne.1 6 (upz (Cr.1 0) (Cr.2 3) s1 c * 10 + upz (Cr.1 2) (Cr.2 3) s2 c) ≠ -1
    by_cases e : c = Cr.2 3
    · rw [e, upz_self, upz_self, upz_self]; exact ⟨by omega, by omega, hne, hcs, hfi⟩
    · rw [upz_ne _ _ e, upz_ne _ _ e, upz_ne _ _ e]; exact a1.2.2.2.1 c x (by omega)
  · have y2 : c < Cr.2 3 + 1 := y
    show (0 ≤ upz (Cr.1 0) (Cr.2 3) s1 c ∧ upz (Cr.1 0) (Cr.2 3) s1 c < To.2 3) ∧ (0 ≤ upz (Cr.1 2) (Cr.2 3) s2 c ∧ upz (Cr.1 2) (Cr.2 3) s2 c < To.2 3)
    by_cases e : c = Cr.2 3
    · rw [e, upz_self, upz_self]; exact ⟨h1, h2⟩
    · rw [upz_ne _ _ e, upz_ne _ _ e]; exact a6 c x (by omega)
  · show Cr.2 4 + cs = smI (upz (Cr.1 1) (Cr.2 3) cs) 0 (Cr.2 3 + 1).toNat
    rw [sm1, a7]
  · have e := em1 r x y
    show (Ne.2 8 ≤ r → A.2.2.1 r = [] ∧ A.2.2.2 r = []) ∧ (∀ c ∈ A.2.2.1 r, _) ∧ ∀ q ∈ A.2.2.2 r, _
    rw [e.1, e.2]
    exact ⟨fun _ => ⟨rfl, rfl⟩, fun c hc => absurd hc List.not_mem_nil, fun c hc => absurd hc List.not_mem_nil⟩
  · have y2 : c < Cr.2 3 + 1 := y
    show cqs A c + cds A c + A.1 2 c + (if A.1 1 c = 0 then upz (Cr.1 1) (Cr.2 3) cs c else 0) = upz (Cr.1 1) (Cr.2 3) cs c ∧ 0 ≤ A.1 2 c ∧ (A.1 1 c = 0 ∨ A.1 1 c = 1) ∧ (A.1 2 c ≠ upz (Cr.1 1) (Cr.2 3) cs c → upz (A.1 3) (Cr.2 3) (-1) c = -1)
    by_cases e : c = Cr.2 3
    · rw [e, upz_self, upz_self, un.2.1, un.2.2, if_pos rfl]
      have z1 : cqs A (Cr.2 3) = 0 := by
        unfold cqs
        rw [smI_congr (g := fun _ => 0) (fun j p q => by rw [(em1 j p (by omega)).1]; rfl)]
        rfl
      have z2 : cds A (Cr.2 3) = 0 := by
        unfold cds
        rw [smI_congr (g := fun _ => 0) (fun j p q => by rw [(em1 j p (by omega)).2]; rfl)]
        rfl
      rw [z1, z2]
      exact ⟨by omega, by omega, Or.inl rfl, fun _ => rfl⟩
    · rw [upz_ne _ _ e, upz_ne _ _ e]; exact b1.1.2 c x (by omega)
  · have y2 : c < Cr.2 3 + 1 := y
    show (0 ≤ A.1 0 c ∧ A.1 0 c ≤ 300) ∧ (A.1 1 c = 1 ↔ A.1 0 c < A.2.1 0)
    by_cases e : c = Cr.2 3
    · rw [e, un.1, un.2.1, h0]; omega
    · exact b1.2.2.1 c x (by omega)
  · have y2 : c < Cr.2 3 + 1 := y
    have z2 : A.1 2 c = upz (Cr.1 1) (Cr.2 3) cs c := z
    show 0 ≤ upz (A.1 3) (Cr.2 3) (-1) c
    by_cases e : c = Cr.2 3
    · rw [e, upz_self, un.2.2] at z2; omega
    · rw [upz_ne _ _ e] at z2 ⊢; exact b2 c x (by omega) z2
  · have y2 : c < Cr.2 3 + 1 := y
    show -1 ≤ upz (A.1 3) (Cr.2 3) (-1) c ∧ upz (A.1 3) (Cr.2 3) (-1) c ≤ 200
    by_cases e : c = Cr.2 3
    · rw [e, upz_self]; omega
    · rw [upz_ne _ _ e]; exact b3 c x (by omega)
  · have y2 : c < Cr.2 3 + 1 := y
    show A.1 0 c ≤ 199
    by_cases e : c = Cr.2 3
    · rw [e, un.1]; omega
    · exact b5 c x (by omega)
  · have x2 : Cr.2 3 + 1 ≤ c := x
    exact b6 h0 c (by omega) y
  · have g := t3 c x y
    refine ⟨g.1, g.2.1, fun q1 q2 => ?_⟩
    have q1 : c < Cr.2 3 + 1 := q1
    have q2 : A.1 2 c = upz (Cr.1 1) (Cr.2 3) cs c := q2
    show U.1 7 c = upz (A.1 3) (Cr.2 3) (-1) c
    by_cases e : c = Cr.2 3
    · rw [e, upz_self, un.2.2] at q2; omega
    · rw [upz_ne _ _ e] at q2 ⊢; exact g.2.2 (by omega) q2
  · have g := t4 t x y
    refine ⟨?_, g.2⟩
    show upz (U.1 8) s1 (U.1 8 s1 + cs) t = _
    unfold aAt
    show _ = smI (fun c => (if A.1 1 c = 0 ∧ upz (Cr.1 0) (Cr.2 3) s1 c = t then upz (Cr.1 1) (Cr.2 3) cs c else 0) + (if upz (Cr.1 2) (Cr.2 3) s2 c = t then A.1 2 c else 0)) 0 (Cr.2 3 + 1).toNat + smI (fun r => if Ne.1 0 r = t then ((A.2.2.1 r).length : Int) else 0) 0 (Ne.2 8).toNat
    rw [smI_s hc8.1, smI_congr (g := fun c => (if A.1 1 c = 0 ∧ Cr.1 0 c = t then Cr.1 1 c else 0) + (if Cr.1 2 c = t then A.1 2 c else 0)) (fun j p q => by rw [upz_ne _ _ (by omega), upz_ne _ _ (by omega), upz_ne _ _ (by omega)]), upz_self, upz_self, upz_self, un.2.1, un.2.2]
    have g1 := g.1
    unfold aAt at g1
    have gs := (t4 s1 h1.1 (by omega)).1
    by_cases e : s1 = t
    · rw [e, upz_self, if_pos ⟨rfl, rfl⟩]
      have : (if s2 = t then (0 : Int) else 0) = 0 := by split <;> rfl
      rw [this, g1]
      omega
    · rw [upz_ne _ _ (fun q => e q.symm), if_neg (fun q => e q.2)]
      have : (if s2 = t then (0 : Int) else 0) = 0 := by split <;> rfl
      rw [this, g1]
      omega
  · refine ⟨t5.1, t5.2.1, ?_⟩
    show U.2 13 = smI (A.1 2) 0 (Cr.2 3 + 1).toNat
    rw [smI_s hc8.1, un.2.2, t5.2.2]; omega
  · refine ⟨fun c x y z => ?_, ?_, t6.2.2⟩
    · have y2 : c < Cr.2 3 + 1 := y
      by_cases e : c = Cr.2 3
      · rw [e] at z
        have z2 : 1 ≤ A.1 2 (Cr.2 3) := z
        rw [un.2.2] at z2; omega
      · exact t6.1 c x (by omega) z
    · rcases t6.2.1 with ⟨c, z1, z2, z3⟩ | ⟨z1, z2⟩
      · exact Or.inl ⟨c, z1, show c < Cr.2 3 + 1 by omega, z3⟩
      · refine Or.inr ⟨z1, fun c x y => ?_⟩
        have y2 : c < Cr.2 3 + 1 := y
        by_cases e : c = Cr.2 3
        · rw [e]; exact un.2.2
        · exact z2 c x (by omega)
  · have eo : oc ((upf (upf (upf Cr.1 0 (upz (Cr.1 0) (Cr.2 3) s1)) 1 (upz (Cr.1 1) (Cr.2 3) cs)) 2 (upz (Cr.1 2) (Cr.2 3) s2)), (upf (upf Cr.2 3 (Cr.2 3 + 1)) 4 (Cr.2 4 + cs))) (aI A 3 (upz (A.1 3) (Cr.2 3) (-1))) = oc Cr A := by
      show smI (A.1 1) 0 (Cr.2 3 + 1).toNat = smI (A.1 1) 0 (Cr.2 3).toNat
      rw [smI_s hc8.1, un.2.1]; omega
    rw [eo]
    exact c2
  · show M.2 12 + 1 = Cr.2 3 + 1; omega
  · have y2 : c < Cr.2 3 + 1 := y
    show upz (M.1 13) (M.2 12) s1 c = upz (Cr.1 0) (Cr.2 3) s1 c ∧ upz (M.1 14) (M.2 12) cs c = upz (Cr.1 1) (Cr.2 3) cs c ∧ upz (M.1 15) (M.2 12) s2 c = upz (Cr.1 2) (Cr.2 3) s2 c
    rw [e12]
    by_cases e : c = Cr.2 3
    · rw [e, upz_self, upz_self, upz_self, upz_self, upz_self, upz_self]; exact ⟨rfl, rfl, rfl⟩
    · rw [upz_ne _ _ e, upz_ne _ _ e, upz_ne _ _ e, upz_ne _ _ e, upz_ne _ _ e, upz_ne _ _ e]; exact d1.2.2.2 c x (by omega)
  · have y2 : c < Cr.2 3 + 1 := y
    show upz (M.1 30) (M.2 12) (-1) c = upz (A.1 3) (Cr.2 3) (-1) c
    rw [e12]
    by_cases e : c = Cr.2 3
    · rw [e, upz_self, upz_self]
    · rw [upz_ne _ _ e, upz_ne _ _ e]; exact d2.1.2.2.2 c x (by omega)
  · have eo : oc ((upf (upf (upf Cr.1 0 (upz (Cr.1 0) (Cr.2 3) s1)) 1 (upz (Cr.1 1) (Cr.2 3) cs)) 2 (upz (Cr.1 2) (Cr.2 3) s2)), (upf (upf Cr.2 3 (Cr.2 3 + 1)) 4 (Cr.2 4 + cs))) (aI A 3 (upz (A.1 3) (Cr.2 3) (-1))) = oc Cr A := by
      show smI (A.1 1) 0 (Cr.2 3 + 1).toNat = smI (A.1 1) 0 (Cr.2 3).toNat
      rw [smI_s hc8.1, un.2.1]; omega
    rw [eo]
    exact d2.2.2.2.2.2
end St2

