/-! ===== an arrival, in the class's traffic ===== -/
theorem smI_pt2 {f g : Int → Int} {k : Int} {n : Nat} {v : Int} (h0 : 0 ≤ k) (hk : k < n) (h : ∀ j : Int, 0 ≤ j → j < n → j ≠ k → f j = g j) (hv : f k = g k + v) : smI f 0 n = smI g 0 n + v := by
  rw [smI_pt h0 hk h]; omega
theorem aAt_D {Ne Cr : Bd} {A : Ab} {r : Int} {l : List (Int × Int)} (t : Int) : aAt Ne Cr (aD A r l) t = aAt Ne Cr A t := rfl
theorem aAt_Q {Ne Cr : Bd} {A : Ab} {w : Int} {l : List Int} (hw : 0 ≤ w ∧ w < Ne.2 8) (t : Int) : aAt Ne Cr (aQ A w l) t = aAt Ne Cr A t + (if Ne.1 0 w = t then (l.length : Int) - ((A.2.2.1 w).length : Int) else 0) := by
  have e : smI (fun r => if Ne.1 0 r = t then (((aQ A w l).2.2.1 r).length : Int) else 0) 0 (Ne.2 8).toNat = smI (fun r => if Ne.1 0 r = t then ((A.2.2.1 r).length : Int) else 0) 0 (Ne.2 8).toNat + ((if Ne.1 0 w = t then (l.length : Int) else 0) - (if Ne.1 0 w = t then ((A.2.2.1 w).length : Int) else 0)) := by
    rw [smI_pt (g := fun r => if Ne.1 0 r = t then ((A.2.2.1 r).length : Int) else 0) (k := w) hw.1 (by omega) (fun j _ _ e => by show (if Ne.1 0 j = t then ((upL A.2.2.1 w l j).length : Int) else 0) = _; rw [upL_ne _ _ e])]
    show _ + ((if Ne.1 0 w = t then ((upL A.2.2.1 w l w).length : Int) else 0) - _) = _
    rw [upL_self]
  show smI (fun c => (if A.1 1 c = 0 ∧ Cr.1 0 c = t then Cr.1 1 c else 0) + (if Cr.1 2 c = t then A.1 2 c else 0)) 0 (Cr.2 3).toNat + smI (fun r => if Ne.1 0 r = t then (((aQ A w l).2.2.1 r).length : Int) else 0) 0 (Ne.2 8).toNat = _
  rw [e]
  unfold aAt
  split <;> omega
theorem tr_arr {Ne Cr : Bd} {B : Nat} {T T2 : Bd} {Nq : Nat} {Sq Sq2 : Bd} {Cq Cq2 : Int → List Pt3} {A : Ab} {r c n : Int} {l : List Pt3} (hcf : Cfg Ne Cr) (hok : AOK Ne Cr A) (h : TrR Ne Cr B T Nq Sq Cq A) (hr : 0 ≤ r ∧ r < Ne.2 8) (hC : Cq (16 + r) = (c, n, A.2.1 0) :: l) (hn : 1 ≤ n)
    (hq : LnO Nq B Sq2 Cq2 [])
    (hT : (Ne.1 1 r = Cr.1 2 c ∧ T2 = ((upf (upf (upf T.1 6 (upz (T.1 6) c (T.1 6 c + n))) 7 (upz (T.1 7) c (T.2 12))) 8 (upz (T.1 8) (Ne.1 1 r) (T.1 8 (Ne.1 1 r) + n))), (upf (upf T.2 13 (T.2 13 + n)) 14 (T.2 12))) ∧ Cq2 = upL Cq (16 + r) l) ∨ (Ne.1 1 r ≠ Cr.1 2 c ∧ T2 = ((upf T.1 8 (upz (T.1 8) (Ne.1 1 r) (T.1 8 (Ne.1 1 r) + n))), T.2) ∧ Cq2 = upL (upL Cq (16 + r) l) (aWay Ne Cr (Ne.1 1 r) c) (ap3 (upL Cq (16 + r) l (aWay Ne Cr (Ne.1 1 r) c)) c n 0))) :
    TrR Ne Cr B T2 Nq Sq2 Cq2 (aArr Ne Cr (Ne.1 1 r) (aD A r (fd l)) c n.toNat) := by
  obtain ⟨k1, k3, k4, k5, k6, k7⟩ := h
  have hr16 : r < 16 := by have := hcf.1; omega
  have hdd : A.2.2.2 r = List.replicate n.toNat (c, A.2.1 0) ++ fd l := by
    rw [← (k3 r hr.1 hr16).2.1, hC]; rfl
  obtain ⟨⟨q1, q2, q3, -, -⟩, hle, -⟩ := aok_arr hcf hok hr (by omega) hdd
  have hc8 : c < 8 := by have := hcf.2.1; omega
  have hnn : ((n.toNat : Nat) : Int) = n := by omega
  have hton := (hcf.2.2.1 r hr.1 hr.2).2.1
  have hfd : ∀ j : Int, 0 ≤ j → j < 16 → fd (upL Cq (16 + r) l (16 + j)) = upL A.2.2.2 r (fd l) j := by
    intro j a b
    by_cases e : j = r
    · subst e; rw [upL_self, upL_self]
    · rw [upL_ne _ _ (by omega), upL_ne _ _ e]; exact (k3 j a b).2.1
  have hqq : ∀ j : Int, 0 ≤ j → j < 16 → upL Cq (16 + r) l j = Cq j := fun j a b => upL_ne _ _ (by omega)
  rcases hT with ⟨hh, rfl, rfl⟩ | ⟨hh, rfl, rfl⟩
  · obtain ⟨i1, i2, i3, i4⟩ := aArr_home (Ne := Ne) hh n.toNat (aD A r (fd l)) (by omega) hle
    rw [hnn] at i3 i4
    have i3' : (aArr Ne Cr (Ne.1 1 r) (aD A r (fd l)) c n.toNat).1 2 = upz (A.1 2) c (A.1 2 c + n) := i3
    have i4' : (aArr Ne Cr (Ne.1 1 r) (aD A r (fd l)) c n.toNat).1 3 = (if A.1 2 c + n = Cr.1 1 c then upz (A.1 3) c (A.2.1 0) else A.1 3) := i4
    have i2' : ∀ k, k ≠ 2 → k ≠ 3 → (aArr Ne Cr (Ne.1 1 r) (aD A r (fd l)) c n.toNat).1 k = A.1 k := i2
    refine ⟨hq, fun j a b => ?_, fun x a b => ?_, fun t a b => ?_, ⟨?_, ?_, ?_⟩, ⟨fun x a b z => ?_, ?_, ?_, ?_⟩⟩
    · rw [i1, hqq j a b]
      exact ⟨(k3 j a b).1, hfd j a b, (k3 j a b).2.2⟩
    · rw [i2' 0 (by omega) (by omega), i3', i4']
      show T.1 5 x = A.1 0 x ∧ upz (T.1 6) c (T.1 6 c + n) x = upz (A.1 2) c (A.1 2 c + n) x ∧ (x < Cr.2 3 → upz (A.1 2) c (A.1 2 c + n) x = Cr.1 1 x → upz (T.1 7) c (T.2 12) x = (if A.1 2 c + n = Cr.1 1 c then upz (A.1 3) c (A.2.1 0) else A.1 3) x)
      obtain ⟨g1, g2, g3⟩ := k4 x a b
      refine ⟨g1, ?_, fun z1 z2 => ?_⟩
      · by_cases e : x = c
        · subst e; rw [upz_self, upz_self, g2]
        · rw [upz_ne _ _ e, upz_ne _ _ e, g2]
      · by_cases e : x = c
        · subst e
          rw [upz_self] at z2
          rw [if_pos z2, upz_self, upz_self, k6.1]
        · rw [upz_ne _ _ e] at z2
          rw [upz_ne _ _ e, g3 z1 z2]
          split
          · rw [upz_ne _ _ e]
          · rfl
    · have ea : aAt Ne Cr (aArr Ne Cr (Ne.1 1 r) (aD A r (fd l)) c n.toNat) t = aAt Ne Cr A t + (if Cr.1 2 c = t then n else 0) := by
        unfold aAt
        rw [i1, i3', i2' 1 (by omega) (by omega)]
        rw [smI_pt2 (g := fun c => (if A.1 1 c = 0 ∧ Cr.1 0 c = t then Cr.1 1 c else 0) + (if Cr.1 2 c = t then A.1 2 c else 0)) (k := c) (v := if Cr.1 2 c = t then n else 0) q1 (by omega) (fun j _ _ e => by rw [upz_ne _ _ e]) (by rw [upz_self]; split <;> omega)]
        show _ + smI (fun r_1 => if Ne.1 0 r_1 = t then ((A.2.2.1 r_1).length : Int) else 0) 0 _ = _
        omega
      rw [ea, i2' 4 (by omega) (by omega), i2' 5 (by omega) (by omega)]
      show upz (T.1 8) (Ne.1 1 r) (T.1 8 (Ne.1 1 r) + n) t = _ ∧ T.1 9 t = A.1 4 t ∧ T.1 10 t = A.1 5 t
      obtain ⟨g1, g2, g3⟩ := k5 t a b
      refine ⟨?_, g2, g3⟩
      by_cases e : t = Ne.1 1 r
      · rw [e, upz_self, if_pos hh.symm, ← e, g1]
      · rw [upz_ne _ _ e, if_neg (fun z => e (by rw [hh]; exact z.symm)), g1]; omega
    · rw [i1]; exact k6.1
    · rw [i1]; exact k6.2.1
    · rw [i3']
      show T.2 13 + n = _
      rw [k6.2.2, smI_pt2 (g := A.1 2) (k := c) (v := n) q1 (by omega) (fun j _ _ e => upz_ne _ _ e) (upz_self _ _ _)]
    · rw [i3'] at z
      show upz (T.1 7) c (T.2 12) x ≤ T.2 12
      by_cases e : x = c
      · subst e; rw [upz_self]; omega
      · rw [upz_ne _ _ e] at z ⊢
        have := k7.1 x a b z
        have := k7.2.2.2
        have := k6.1
        omega
    · rw [i3']
      left
      refine ⟨c, q1, q2, ?_, ?_⟩
      · rw [upz_self]
        have := (hok.2 c q1 q2).2.1
        omega
      · show upz (T.1 7) c (T.2 12) c = T.2 12
        exact upz_self _ _ _
    · show -1 ≤ T.2 12
      have := k7.2.2.1; have := k7.2.2.2; have := k6.1; omega
    · rw [i1]
      show T.2 12 ≤ A.2.1 0
      have := k6.1; omega
  · obtain ⟨w1, w2, w3⟩ := cfg_way hcf hton q1 q2 q3 hh
    rw [aArr_queue hh]
    have hpos := lo_pos k1 (r := aWay Ne Cr (Ne.1 1 r) c) ⟨w1.1, by omega⟩
    rw [hqq _ w1.1 w1.2.2] at hq ⊢
    refine ⟨hq, fun j a b => ?_, k4, fun t a b => ?_, k6, k7⟩
    · show fq (upL (upL Cq _ _) _ _ j) = upL A.2.2.1 _ _ j ∧ fd (upL (upL Cq _ _) _ _ (16 + j)) = upL A.2.2.2 r (fd l) j ∧ ∀ q ∈ upL (upL Cq _ _) _ _ j, q.2.2 = 0
      refine ⟨?_, by rw [upL_ne _ _ (by omega)]; exact hfd j a b, ?_⟩
      · by_cases e : j = aWay Ne Cr (Ne.1 1 r) c
        · subst e
          rw [upL_self, upL_self, fq_ap3 _ _ _ _ (by omega) hpos, (k3 _ a b).1]
          rfl
        · rw [upL_ne _ _ e, upL_ne _ _ e, hqq j a b]; exact (k3 j a b).1
      · by_cases e : j = aWay Ne Cr (Ne.1 1 r) c
        · subst e
          rw [upL_self]
          exact ap3_due (k3 _ a b).2.2
        · rw [upL_ne _ _ e, hqq j a b]; exact (k3 j a b).2.2
    · have e := aAt_Q (Ne := Ne) (Cr := Cr) (A := aD A r (fd l)) (w := aWay Ne Cr (Ne.1 1 r) c) (l := (aD A r (fd l)).2.2.1 (aWay Ne Cr (Ne.1 1 r) c) ++ List.replicate n.toNat c) ⟨w1.1, w1.2.1⟩ t
      rw [e, aAt_D, w2, List.length_append, List.length_replicate]
      show upz (T.1 8) (Ne.1 1 r) (T.1 8 (Ne.1 1 r) + n) t = _ ∧ T.1 9 t = A.1 4 t ∧ T.1 10 t = A.1 5 t
      obtain ⟨g1, g2, g3⟩ := k5 t a b
      refine ⟨?_, g2, g3⟩
      by_cases e : t = Ne.1 1 r
      · rw [e, upz_self, if_pos rfl, ← e, g1]; omega
      · rw [upz_ne _ _ e, if_neg (fun z => e z.symm), g1]; omega
