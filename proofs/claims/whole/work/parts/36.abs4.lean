/-! ===== crowds let go; cars set out: the mathematical state, and the class's traffic ===== -/
theorem aLet_keep (Ne Cr : Bd) (A : Ab) : ∀ (n : Nat), (aLet Ne Cr A n).2.1 = A.2.1 ∧ (aLet Ne Cr A n).1 0 = A.1 0 ∧ (∀ k, k ≠ 1 → (aLet Ne Cr A n).1 k = A.1 k) ∧ (aLet Ne Cr A n).2.2.2 = A.2.2.2 ∧ ∀ c : Int, (n : Int) ≤ c → (aLet Ne Cr A n).1 1 c = A.1 1 c
  | 0 => ⟨rfl, rfl, fun _ _ => rfl, rfl, fun _ _ => rfl⟩
  | n + 1 => by
    obtain ⟨h1, h2, h3, h4, h5⟩ := aLet_keep Ne Cr A n
    show (aLet1 Ne Cr (aLet Ne Cr A n) (n : Int)).2.1 = _ ∧ (aLet1 Ne Cr (aLet Ne Cr A n) (n : Int)).1 0 = _ ∧ (∀ k, k ≠ 1 → (aLet1 Ne Cr (aLet Ne Cr A n) (n : Int)).1 k = A.1 k) ∧ (aLet1 Ne Cr (aLet Ne Cr A n) (n : Int)).2.2.2 = _ ∧ ∀ c : Int, ((n + 1 : Nat) : Int) ≤ c → (aLet1 Ne Cr (aLet Ne Cr A n) (n : Int)).1 1 c = A.1 1 c
    unfold aLet1
    split
    · refine ⟨h1, h2, fun k hk => ?_, h4, fun c hc => ?_⟩
      · show upf (aLet Ne Cr A n).1 1 _ k = _
        rw [upf_eq, if_neg hk, h3 k hk]
      · show upz ((aLet Ne Cr A n).1 1) (n : Int) 1 c = _
        rw [upz_ne _ _ (by omega), h5 c (by omega)]
    · exact ⟨h1, h2, h3, h4, fun c hc => h5 c (by omega)⟩
theorem aLet_next {Ne Cr : Bd} {A : Ab} {c : Int} (h : 0 ≤ c) : aLet Ne Cr A (c + 1).toNat = aLet1 Ne Cr (aLet Ne Cr A c.toNat) c := by
  rw [show (c + 1).toNat = c.toNat + 1 by omega]
  show aLet1 Ne Cr _ ((c.toNat : Nat) : Int) = _
  rw [show ((c.toNat : Nat) : Int) = c by omega]
theorem cfg_way0 {Ne Cr : Bd} (hc : Cfg Ne Cr) {c : Int} (h1 : 0 ≤ c) (h2 : c < Cr.2 3) : (0 ≤ aWay Ne Cr (Cr.1 0 c) c ∧ aWay Ne Cr (Cr.1 0 c) c < Ne.2 8 ∧ aWay Ne Cr (Cr.1 0 c) c < 16) ∧ Ne.1 0 (aWay Ne Cr (Cr.1 0 c) c) = Cr.1 0 c ∧ Ne.1 6 (Ne.1 1 (aWay Ne Cr (Cr.1 0 c) c) * 10 + Cr.1 2 c) ≠ -1 :=
  cfg_way hc (hc.2.2.2.1 c h1 h2).1 h1 h2 (hc.2.2.2.1 c h1 h2).2.2.2.2 (hc.2.2.2.1 c h1 h2).2.2.1
theorem aok_let {Ne Cr : Bd} {A : Ab} {c : Int} (hc : Cfg Ne Cr) (h : AOK Ne Cr A) (h1 : 0 ≤ c) (h2 : c < Cr.2 3) : AOK Ne Cr (aLet1 Ne Cr A c) := by
  unfold aLet1
  split
  · rename_i hz
    obtain ⟨w1, w2, w3⟩ := cfg_way0 hc h1 h2
    have hcar := (hc.2.2.2.1 c h1 h2).2.2.2.1
    refine ⟨fun j a b => ?_, fun x a b => ?_⟩
    · have g := h.1 j a b
      show (Ne.2 8 ≤ j → upL A.2.2.1 _ _ j = [] ∧ A.2.2.2 j = []) ∧ (∀ x ∈ upL A.2.2.1 _ _ j, _) ∧ (∀ q ∈ A.2.2.2 j, _)
      by_cases e : j = aWay Ne Cr (Cr.1 0 c) c
      · subst e
        rw [upL_self]
        refine ⟨fun z => by omega, fun x hx => ?_, g.2.2⟩
        rcases List.mem_append.mp hx with hx | hx
        · exact g.2.1 x hx
        · rw [(List.mem_replicate.mp hx).2]
          exact ⟨h1, h2, w3⟩
      · rw [upL_ne _ _ e]
        exact g
    · have g := h.2 x a b
      have e1 := cqs_Q (A := aI A 1 (upz (A.1 1) c 1)) (r := aWay Ne Cr (Cr.1 0 c) c) (c := x) (l := A.2.2.1 (aWay Ne Cr (Cr.1 0 c) c) ++ List.replicate (Cr.1 1 c).toNat c) w1.1 w1.2.2
      rw [List.count_append, List.count_replicate] at e1
      have e3 : cqs (aI A 1 (upz (A.1 1) c 1)) x = cqs A x := rfl
      have e4 : (aI A 1 (upz (A.1 1) c 1)).2.2.1 (aWay Ne Cr (Cr.1 0 c) c) = A.2.2.1 (aWay Ne Cr (Cr.1 0 c) c) := rfl
      rw [e4] at e1
      rw [e1, e3]
      show _ + cds A x + A.1 2 x + (if upz (A.1 1) c 1 x = 0 then Cr.1 1 x else 0) = Cr.1 1 x ∧ 0 ≤ A.1 2 x ∧ (upz (A.1 1) c 1 x = 0 ∨ upz (A.1 1) c 1 x = 1) ∧ (A.1 2 x ≠ Cr.1 1 x → A.1 3 x = -1)
      by_cases e : x = c
      · subst e
        rw [upz_self]
        rw [if_pos hz.1] at g
        refine ⟨?_, g.2.1, Or.inr rfl, g.2.2.2⟩
        simp only [beq_self_eq_true, if_true]
        rw [if_neg (show ¬ (1 : Int) = 0 by omega)]
        omega
      · have hb : (c == x) = false := by simp; exact fun z => e z.symm
        rw [upz_ne _ _ e, hb]
        refine ⟨?_, g.2⟩
        simp only [Bool.false_eq_true, if_false]
        omega
  · exact h
theorem tr_let {Ne Cr : Bd} {B : Nat} {T : Bd} {Nq Nq2 : Nat} {Sq Sq2 : Bd} {Cq : Int → List Pt3} {A : Ab} {c : Int} (hcf : Cfg Ne Cr) (h : TrR Ne Cr B T Nq Sq Cq A) (h1 : 0 ≤ c) (h2 : c < Cr.2 3) (hz : A.1 1 c = 0 ∧ A.1 0 c = A.2.1 0)
    (hq : LnO Nq2 B Sq2 (upL Cq (aWay Ne Cr (Cr.1 0 c) c) (ap3 (Cq (aWay Ne Cr (Cr.1 0 c) c)) c (Cr.1 1 c) 0)) []) : TrR Ne Cr B T Nq2 Sq2 (upL Cq (aWay Ne Cr (Cr.1 0 c) c) (ap3 (Cq (aWay Ne Cr (Cr.1 0 c) c)) c (Cr.1 1 c) 0)) (aLet1 Ne Cr A c) := by
  obtain ⟨k1, k3, k4, k5, k6, k7⟩ := h
  obtain ⟨w1, w2, w3⟩ := cfg_way0 hcf h1 h2
  have hcar := (hcf.2.2.2.1 c h1 h2).2.2.2.1
  have hpos := lo_pos k1 (r := aWay Ne Cr (Cr.1 0 c) c) ⟨w1.1, by omega⟩
  have e0 : aLet1 Ne Cr A c = aQ (aI A 1 (upz (A.1 1) c 1)) (aWay Ne Cr (Cr.1 0 c) c) (A.2.2.1 (aWay Ne Cr (Cr.1 0 c) c) ++ List.replicate (Cr.1 1 c).toNat c) := if_pos hz
  rw [e0]
  refine ⟨hq, fun j a b => ?_, k4, fun t a b => ?_, k6, k7⟩
  · show fq (upL Cq _ _ j) = upL A.2.2.1 _ _ j ∧ fd (upL Cq _ _ (16 + j)) = A.2.2.2 j ∧ ∀ q ∈ upL Cq _ _ j, q.2.2 = 0
    refine ⟨?_, by rw [upL_ne _ _ (by omega)]; exact (k3 j a b).2.1, ?_⟩
    · by_cases e : j = aWay Ne Cr (Cr.1 0 c) c
      · subst e
        rw [upL_self, upL_self, fq_ap3 _ _ _ _ (by omega) hpos, (k3 _ a b).1]
      · rw [upL_ne _ _ e, upL_ne _ _ e]; exact (k3 j a b).1
    · by_cases e : j = aWay Ne Cr (Cr.1 0 c) c
      · subst e
        rw [upL_self]
        exact ap3_due (k3 _ a b).2.2
      · rw [upL_ne _ _ e]; exact (k3 j a b).2.2
  · have e := aAt_Q (Ne := Ne) (Cr := Cr) (A := aI A 1 (upz (A.1 1) c 1)) (w := aWay Ne Cr (Cr.1 0 c) c) (l := A.2.2.1 (aWay Ne Cr (Cr.1 0 c) c) ++ List.replicate (Cr.1 1 c).toNat c) ⟨w1.1, w1.2.1⟩ t
    have e4 : (aI A 1 (upz (A.1 1) c 1)).2.2.1 (aWay Ne Cr (Cr.1 0 c) c) = A.2.2.1 (aWay Ne Cr (Cr.1 0 c) c) := rfl
    rw [e4, w2, List.length_append, List.length_replicate] at e
    have e5 : aAt Ne Cr (aI A 1 (upz (A.1 1) c 1)) t = aAt Ne Cr A t + (if Cr.1 0 c = t then - Cr.1 1 c else 0) := by
      show smI (fun x => (if upz (A.1 1) c 1 x = 0 ∧ Cr.1 0 x = t then Cr.1 1 x else 0) + (if Cr.1 2 x = t then A.1 2 x else 0)) 0 (Cr.2 3).toNat + smI (fun r => if Ne.1 0 r = t then ((A.2.2.1 r).length : Int) else 0) 0 (Ne.2 8).toNat = _
      rw [smI_pt2 (g := fun x => (if A.1 1 x = 0 ∧ Cr.1 0 x = t then Cr.1 1 x else 0) + (if Cr.1 2 x = t then A.1 2 x else 0)) (k := c) (v := if Cr.1 0 c = t then - Cr.1 1 c else 0) h1 (by omega) (fun j _ _ e => by rw [upz_ne _ _ e]) (by
        rw [upz_self, if_neg (fun q => absurd q.1 (by omega))]
        by_cases z : Cr.1 0 c = t
        · rw [if_pos (show A.1 1 c = 0 ∧ Cr.1 0 c = t from ⟨hz.1, z⟩), if_pos z]; omega
        · rw [if_neg (show ¬ (A.1 1 c = 0 ∧ Cr.1 0 c = t) from fun q => z q.2), if_neg z]; omega)]
      unfold aAt
      omega
    rw [e, e5]
    obtain ⟨g1, g2, g3⟩ := k5 t a b
    refine ⟨?_, g2, g3⟩
    rw [g1]
    split <;> omega
/-! setting out -/
theorem aOut_next {Ne : Bd} {A : Ab} {r : Int} (h : 0 ≤ r) : aOut Ne A (r + 1).toNat = aOut1 Ne (aOut Ne A r.toNat) r := by
  rw [show (r + 1).toNat = r.toNat + 1 by omega]
  show aOut1 Ne _ ((r.toNat : Nat) : Int) = _
  rw [show ((r.toNat : Nat) : Int) = r by omega]
theorem aOut_keep (Ne : Bd) (A : Ab) : ∀ (n : Nat), (aOut Ne A n).1 = A.1 ∧ (aOut Ne A n).2.1 0 = A.2.1 0 ∧ ∀ r : Int, (n : Int) ≤ r → (aOut Ne A n).2.2.1 r = A.2.2.1 r ∧ (aOut Ne A n).2.2.2 r = A.2.2.2 r
  | 0 => ⟨rfl, rfl, fun _ _ => ⟨rfl, rfl⟩⟩
  | n + 1 => by
    obtain ⟨h1, h2, h3⟩ := aOut_keep Ne A n
    refine ⟨h1, h2, fun r hr => ?_⟩
    show upL (aOut Ne A n).2.2.1 (n : Int) _ r = _ ∧ upL (aOut Ne A n).2.2.2 (n : Int) _ r = _
    rw [upL_ne _ _ (by omega), upL_ne _ _ (by omega)]
    exact h3 r (by omega)
theorem aok_out {Ne Cr : Bd} {A : Ab} {r : Int} (hc : Cfg Ne Cr) (h : AOK Ne Cr A) (hr : 0 ≤ r ∧ r < Ne.2 8) (hnow : 0 ≤ A.2.1 0 ∧ A.2.1 0 ≤ 200) : AOK Ne Cr (aOut1 Ne A r) := by
  have hr16 : r < 16 := by have := hc.1; omega
  have hh := (hc.2.2.1 r hr.1 hr.2).2.2.2.1
  refine ⟨fun j a b => ?_, fun x a b => ?_⟩
  · have g := h.1 j a b
    show (Ne.2 8 ≤ j → upL A.2.2.1 r _ j = [] ∧ upL A.2.2.2 r _ j = []) ∧ (∀ x ∈ upL A.2.2.1 r _ j, _) ∧ (∀ q ∈ upL A.2.2.2 r _ j, _)
    by_cases e : j = r
    · subst e
      rw [upL_self, upL_self]
      refine ⟨fun z => by omega, fun x hx => g.2.1 x (List.mem_of_mem_drop hx), fun q hq => ?_⟩
      rcases List.mem_append.mp hq with hq | hq
      · exact g.2.2 q hq
      · obtain ⟨x, hx, rfl⟩ := List.mem_map.mp hq
        have := g.2.1 x (List.mem_of_mem_take hx)
        exact ⟨this.1, this.2.1, this.2.2, by show 0 ≤ A.2.1 0 + Ne.1 3 j; omega, by show A.2.1 0 + Ne.1 3 j ≤ 300; omega⟩
    · rw [upL_ne _ _ e, upL_ne _ _ e]
      exact g
  · have g := h.2 x a b
    have e1 : cqs (aOut1 Ne A r) x = cqs (aQ A r ((A.2.2.1 r).drop (aK Ne A r))) x := rfl
    have e2 : cds (aOut1 Ne A r) x = cds (aD A r (A.2.2.2 r ++ ((A.2.2.1 r).take (aK Ne A r)).map (fun c => (c, A.2.1 0 + Ne.1 3 r)))) x := rfl
    rw [e1, e2, cqs_Q hr.1 hr16, cds_D hr.1 hr16, List.map_append, List.count_append, List.map_map]
    have e3 : (List.map ((fun q : Int × Int => q.1) ∘ fun c => (c, A.2.1 0 + Ne.1 3 r)) ((A.2.2.1 r).take (aK Ne A r))) = (A.2.2.1 r).take (aK Ne A r) := by
      show List.map (fun c => c) _ = _
      rw [List.map_id']
    have e4 : ((A.2.2.1 r).count x : Int) = (((A.2.2.1 r).take (aK Ne A r)).count x : Int) + (((A.2.2.1 r).drop (aK Ne A r)).count x : Int) := by
      have := List.count_append (a := x) (l₁ := (A.2.2.1 r).take (aK Ne A r)) (l₂ := (A.2.2.1 r).drop (aK Ne A r))
      rw [List.take_append_drop] at this
      omega
    rw [e3]
    refine ⟨?_, g.2⟩
    show _ + _ + A.1 2 x + (if A.1 1 x = 0 then Cr.1 1 x else 0) = Cr.1 1 x
    omega
theorem tr_out {Ne Cr : Bd} {B : Nat} {T : Bd} {Nq Nq2 : Nat} {Sq Sq2 : Bd} {Cq Cq2 : Int → List Pt3} {A : Ab} {r : Int} {f8 f11 : Int → Int} (hcf : Cfg Ne Cr) (h : TrR Ne Cr B T Nq Sq Cq A) (hr : 0 ≤ r ∧ r < Ne.2 8) (hf8 : ∀ t : Int, 0 ≤ t → t < 10 → f8 t = upz (T.1 8) (Ne.1 0 r) (T.1 8 (Ne.1 0 r) - (aK Ne A r : Int)) t)
    (hq : LnO Nq2 B Sq2 Cq2 []) (hCq : ∀ j : Int, 0 ≤ j → j < 16 → fq (Cq2 j) = (if j = r then (A.2.2.1 r).drop (aK Ne A r) else A.2.2.1 j) ∧ ∀ q ∈ Cq2 j, q.2.2 = 0)
    (hCd : ∀ j : Int, 0 ≤ j → j < 16 → fd (Cq2 (16 + j)) = if j = r then A.2.2.2 r ++ ((A.2.2.1 r).take (aK Ne A r)).map (fun c => (c, A.2.1 0 + Ne.1 3 r)) else A.2.2.2 j) :
    TrR Ne Cr B ((upf (upf T.1 8 f8) 11 f11), (upf T.2 15 (T.2 15 + Sq2.1 2 r))) Nq2 Sq2 Cq2 (aOut1 Ne A r) := by
  obtain ⟨k1, k3, k4, k5, k6, k7⟩ := h
  have hr16 : r < 16 := by have := hcf.1; omega
  have hkl : aK Ne A r ≤ (A.2.2.1 r).length := by unfold aK; split <;> omega
  have hsum : Sq2.1 2 r = (((A.2.2.1 r).drop (aK Ne A r)).length : Int) := by
    rw [lo_sum hq (r := r) ⟨hr.1, by omega⟩, csum_fq _ (lo_pos hq (r := r) ⟨hr.1, by omega⟩), (hCq r hr.1 hr16).1, if_pos rfl]
  refine ⟨hq, fun j a b => ?_, k4, fun t a b => ?_, ⟨k6.1, ?_, k6.2.2⟩, k7⟩
  · show fq (Cq2 j) = upL A.2.2.1 r _ j ∧ fd (Cq2 (16 + j)) = upL A.2.2.2 r _ j ∧ _
    refine ⟨(hCq j a b).1, hCd j a b, (hCq j a b).2⟩
  · have e := aAt_Q (Ne := Ne) (Cr := Cr) (A := A) (w := r) (l := (A.2.2.1 r).drop (aK Ne A r)) hr t
    have e2 : aAt Ne Cr (aOut1 Ne A r) t = aAt Ne Cr (aQ A r ((A.2.2.1 r).drop (aK Ne A r))) t := rfl
    rw [e2, e, List.length_drop]
    obtain ⟨g1, g2, g3⟩ := k5 t a b
    refine ⟨?_, g2, g3⟩
    show f8 t = _
    rw [hf8 t a b]
    by_cases z : t = Ne.1 0 r
    · rw [z, upz_self, if_pos rfl, ← z, g1]; omega
    · rw [upz_ne _ _ z, if_neg (fun q => z q.symm), g1]; omega
  · show T.2 15 + Sq2.1 2 r = A.2.1 1 + _
    rw [k6.2.1, hsum]
