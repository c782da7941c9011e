/-! ===== drinking, the next hour, a copy; the last hour ===== -/
theorem tr_drink {To Ne Cr : Bd} {B : Nat} {T : Bd} {Nq : Nat} {Sq : Bd} {Cq : Int → List Pt3} {A : Ab} {Wt Lk : Int → Int} (h : TrR Ne Cr B T Nq Sq Cq A) (hto : 0 ≤ To.2 3 ∧ To.2 3 ≤ 10)
    (hw : ∀ t : Int, (0 ≤ t ∧ t < To.2 3 → Wt t = T.1 9 t - min (T.1 8 t) (T.1 9 t) ∧ Lk t = T.1 10 t + (T.1 8 t - min (T.1 8 t) (T.1 9 t))) ∧ (¬ (0 ≤ t ∧ t < To.2 3) → Wt t = T.1 9 t ∧ Lk t = T.1 10 t)) : TrR Ne Cr B ((upf (upf T.1 9 Wt) 10 Lk), T.2) Nq Sq Cq (aDr To Ne Cr A) := by
  obtain ⟨k1, k3, k4, k5, k6, k7⟩ := h
  refine ⟨k1, k3, k4, fun t a b => ?_, k6, k7⟩
  have e : aAt Ne Cr (aDr To Ne Cr A) t = aAt Ne Cr A t := rfl
  obtain ⟨g1, g2, g3⟩ := k5 t a b
  rw [e]
  refine ⟨g1, ?_, ?_⟩
  · show Wt t = (if 0 ≤ t ∧ t < To.2 3 then A.1 4 t - min (aAt Ne Cr A t) (A.1 4 t) else A.1 4 t)
    by_cases z : 0 ≤ t ∧ t < To.2 3
    · rw [if_pos z, ((hw t).1 z).1, g1, g2]
    · rw [if_neg z, ((hw t).2 z).1, g2]
  · show Lk t = (if 0 ≤ t ∧ t < To.2 3 then A.1 5 t + (aAt Ne Cr A t - min (aAt Ne Cr A t) (A.1 4 t)) else A.1 5 t)
    by_cases z : 0 ≤ t ∧ t < To.2 3
    · rw [if_pos z, ((hw t).1 z).2, g1, g2, g3]
    · rw [if_neg z, ((hw t).2 z).2, g3]
theorem tr_now {Ne Cr : Bd} {B : Nat} {T : Bd} {Nq : Nat} {Sq : Bd} {Cq : Int → List Pt3} {A : Ab} (h : TrR Ne Cr B T Nq Sq Cq A) : TrR Ne Cr B (T.1, (upf T.2 12 (T.2 12 + 1))) Nq Sq Cq (aS A 0 (A.2.1 0 + 1)) := by
  obtain ⟨k1, k3, k4, k5, k6, k7⟩ := h
  refine ⟨k1, k3, k4, k5, ⟨?_, k6.2.1, k6.2.2⟩, ⟨k7.1, k7.2.1, k7.2.2.1, ?_⟩⟩
  · show T.2 12 + 1 = A.2.1 0 + 1
    rw [k6.1]
  · show T.2 14 ≤ A.2.1 0 + 1
    have := k7.2.2.2; omega
theorem tr_copy {Ne Cr : Bd} {B : Nat} {T V : Bd} {Nq Nq2 : Nat} {Sq Sq2 : Bd} {Cq : Int → List Pt3} {A : Ab} (h : TrR Ne Cr B T Nq Sq Cq A) (hq : LnO Nq2 B Sq2 Cq []) : TrR Ne Cr B ((upf (upf (upf (upf (upf (upf V.1 5 (T.1 5)) 6 (T.1 6)) 7 (T.1 7)) 8 (T.1 8)) 9 (T.1 9)) 10 (T.1 10)), (upf (upf (upf (upf V.2 12 (T.2 12)) 13 (T.2 13)) 14 (T.2 14)) 15 (T.2 15))) Nq2 Sq2 Cq A := by
  obtain ⟨k1, k3, k4, k5, k6, k7⟩ := h
  exact ⟨hq, k3, k4, k5, k6, k7⟩
def AL (Cr : Bd) (A : Ab) : Prop := ∀ c : Int, 0 ≤ c → c < Cr.2 3 → A.1 2 c = Cr.1 1 c → 0 ≤ A.1 3 c
theorem al_arr1 {Ne Cr : Bd} {town c : Int} {A : Ab} (h : AL Cr A) (hn : 0 ≤ A.2.1 0) : AL Cr (aArr1 Ne Cr town A c) := by
  intro x a b
  unfold aArr1
  split
  · split
    · rename_i z
      show upz (A.1 2) c (A.1 2 c + 1) x = Cr.1 1 x → 0 ≤ upz (A.1 3) c (A.2.1 0) x
      by_cases e : x = c
      · subst e; rw [upz_self, upz_self]; intro _; exact hn
      · rw [upz_ne _ _ e, upz_ne _ _ e]; exact h x a b
    · rename_i z
      show upz (A.1 2) c (A.1 2 c + 1) x = Cr.1 1 x → 0 ≤ A.1 3 x
      by_cases e : x = c
      · subst e; rw [upz_self]; intro q; exact absurd q z
      · rw [upz_ne _ _ e]; exact h x a b
  · exact h x a b
theorem al_fold {Ne Cr : Bd} {town : Int} : ∀ (cs : List Int) (A : Ab), AL Cr A → 0 ≤ A.2.1 0 → AL Cr (cs.foldl (aArr1 Ne Cr town) A)
  | [], A, h, _ => h
  | c :: cs, A, h, hn => al_fold cs _ (al_arr1 h hn) (by rw [(aArr1_keep Ne Cr town A c).1]; exact hn)
theorem al_come {Ne Cr : Bd} {A : Ab} (h : AL Cr A) (hn : 0 ≤ A.2.1 0) : ∀ n : Nat, AL Cr (aCome Ne Cr A n)
  | 0 => h
  | n + 1 => al_fold _ _ (al_come h hn n) (by show 0 ≤ (aCome Ne Cr A n).2.1 0; rw [(aCome_keep Ne Cr A n).1]; exact hn)
theorem al_drive {Ne Cr : Bd} {A : Ab} (h : AL Cr A) (hn : 0 ≤ A.2.1 0) : AL Cr (aDrive Ne Cr A) := by
  have g := al_come (Ne := Ne) h hn (Ne.2 8).toNat
  have k2 := aLet_keep Ne Cr (aCome Ne Cr A (Ne.2 8).toNat) (Cr.2 3).toNat
  have k3 := aOut_keep Ne (aLet Ne Cr (aCome Ne Cr A (Ne.2 8).toNat) (Cr.2 3).toNat) (Ne.2 8).toNat
  intro c a b
  unfold aDrive
  rw [k3.1, k2.2.2.1 2 (by omega), k2.2.2.1 3 (by omega)]
  exact g c a b
def aMx (f : Int → Int) : Nat → Int
  | 0 => -1
  | n + 1 => max (aMx f n) (f (n : Int))
def aMi (f : Int → Int) : Nat → Int
  | 0 => 0
  | n + 1 => min (aMi f n) (f (n : Int))
/-- the hour in which the last of all was home; -1 if not all are -/
def aFl (Cr : Bd) (A : Ab) : Int := if aMi (A.1 3) (Cr.2 3).toNat < 0 then -1 else aMx (A.1 3) (Cr.2 3).toNat
theorem aMi_neg {f : Int → Int} {c : Int} : ∀ {n : Nat}, 0 ≤ c → c < n → f c < 0 → aMi f n < 0
  | 0, h1, h2, _ => by omega
  | n + 1, h1, h2, h3 => by
    show min (aMi f n) (f (n : Int)) < 0
    by_cases e : c = (n : Int)
    · subst e; omega
    · have := aMi_neg (f := f) (c := c) (n := n) h1 (by omega) h3; omega
theorem aMi_nn {f : Int → Int} : ∀ {n : Nat}, (∀ c : Int, 0 ≤ c → c < n → 0 ≤ f c) → 0 ≤ aMi f n
  | 0, _ => Int.le_refl 0
  | n + 1, h => by
    have h1 := aMi_nn (f := f) (n := n) (fun c a b => h c a (by omega))
    have h2 := h (n : Int) (by omega) (by omega)
    show 0 ≤ min (aMi f n) (f (n : Int))
    omega
theorem aMx_is {f : Int → Int} {v : Int} : ∀ {n : Nat}, -1 ≤ v → (∀ c : Int, 0 ≤ c → c < n → f c ≤ v) → (v = -1 ∨ ∃ c : Int, 0 ≤ c ∧ c < n ∧ f c = v) → aMx f n = v
  | 0, h0, _, h2 => by
    rcases h2 with h2 | ⟨c, a, b, _⟩
    · exact h2.symm
    · omega
  | n + 1, h0, h1, h2 => by
    have hb : ∀ m : Nat, (m : Int) ≤ n + 1 → aMx f m ≤ v := by
      intro m
      induction m with
      | zero => intro _; exact h0
      | succ m ih =>
        intro hm
        have := ih (by omega)
        have := h1 (m : Int) (by omega) (by omega)
        show max (aMx f m) (f (m : Int)) ≤ v
        omega
    have hlow : ∀ m : Nat, -1 ≤ aMx f m := by
      intro m
      induction m with
      | zero => exact Int.le_refl _
      | succ m ih => show -1 ≤ max (aMx f m) (f (m : Int)); omega
    have hge : ∀ (m : Nat) (c : Int), 0 ≤ c → c < m → f c ≤ aMx f m := by
      intro m
      induction m with
      | zero => intro c a b; omega
      | succ m ih =>
        intro c a b
        show f c ≤ max (aMx f m) (f (m : Int))
        by_cases e : c = (m : Int)
        · subst e; omega
        · have := ih c a (by omega); omega
    have u := hb (n + 1) (by omega)
    rcases h2 with h2 | ⟨c, a, b, e⟩
    · have := hlow (n + 1); omega
    · have := hge (n + 1) c a b; omega
theorem smI_all {f g : Int → Int} : ∀ {n : Nat}, (∀ j : Int, 0 ≤ j → j < n → f j ≤ g j) → smI f 0 n = smI g 0 n → ∀ j : Int, 0 ≤ j → j < n → f j = g j
  | 0, _, _, j, a, b => by omega
  | n + 1, h, e, j, a, b => by
    have h1 := smI_mono (f := f) (g := g) (n := n) (fun j a b => h j a (by omega))
    have h2 := h (0 + (n : Int)) (by omega) (by omega)
    have e : smI f 0 n + f (0 + (n : Int)) = smI g 0 n + g (0 + (n : Int)) := e
    by_cases z : j = (n : Int)
    · subst z
      have : f (0 + (n : Int)) = g (0 + (n : Int)) := by omega
      rwa [show (0 : Int) + (n : Int) = (n : Int) by omega] at this
    · exact smI_all (n := n) (fun j a b => h j a (by omega)) (by omega) j a (by omega)
theorem tr_last {Ne Cr : Bd} {B : Nat} {T : Bd} {Nq : Nat} {Sq : Bd} {Cq : Int → List Pt3} {A : Ab} (hc : Cfg Ne Cr) (hok : AOK Ne Cr A) (hal : AL Cr A) (hac : Cr.2 4 = smI (Cr.1 1) 0 (Cr.2 3).toNat) (h : TrR Ne Cr B T Nq Sq Cq A) : (if T.2 13 = Cr.2 4 then T.2 14 else -1) = aFl Cr A ∧ (T.2 13 = Cr.2 4 ↔ ∀ c : Int, 0 ≤ c → c < Cr.2 3 → A.1 2 c = Cr.1 1 c) := by
  obtain ⟨k1, k3, k4, k5, k6, k7⟩ := h
  have h8 := hc.2.1
  have hle : ∀ j : Int, 0 ≤ j → j < ((Cr.2 3).toNat : Int) → A.1 2 j ≤ Cr.1 1 j := by
    intro j a b
    have g := aok_home hok a (show j < Cr.2 3 by omega)
    have cc := (hc.2.2.2.1 j a (by omega)).2.2.2.1
    omega
  have hiff : T.2 13 = Cr.2 4 ↔ ∀ c : Int, 0 ≤ c → c < Cr.2 3 → A.1 2 c = Cr.1 1 c := by
    rw [k6.2.2, hac]
    exact ⟨fun e c a b => smI_all hle e c a (by omega), fun q => smI_congr (fun j a b => q j a (by omega))⟩
  refine ⟨?_, hiff⟩
  by_cases z : T.2 13 = Cr.2 4
  · have all := hiff.mp z
    rw [if_pos z]
    unfold aFl
    rw [if_neg (by have := aMi_nn (f := A.1 3) (n := (Cr.2 3).toNat) (fun c a b => hal c a (by omega) (all c a (by omega))); omega)]
    refine (aMx_is k7.2.2.1 (fun c a b => ?_) ?_).symm
    · have g := (k4 c a (by omega)).2.2 (by omega) (all c a (by omega))
      have cc := (hc.2.2.2.1 c a (by omega)).2.2.2.1
      rw [← g]
      exact k7.1 c a (by omega) (by rw [all c a (by omega)]; omega)
    · rcases k7.2.1 with ⟨c, a, b, -, e⟩ | ⟨e, -⟩
      · right
        refine ⟨c, a, by omega, ?_⟩
        rw [← e]
        exact ((k4 c a (by omega)).2.2 b (all c a b)).symm
      · exact Or.inl e
  · rw [if_neg z]
    unfold aFl
    have ⟨c, a, b, e⟩ : ∃ c : Int, 0 ≤ c ∧ c < Cr.2 3 ∧ A.1 2 c ≠ Cr.1 1 c := by
      apply Classical.byContradiction
      intro q
      apply z
      rw [hiff]
      intro c a b
      apply Classical.byContradiction
      intro e
      exact q ⟨c, a, b, e⟩
    have g := (hok.2 c a b).2.2.2 e
    rw [if_pos (aMi_neg a (by omega) (by rw [g]; omega))]
