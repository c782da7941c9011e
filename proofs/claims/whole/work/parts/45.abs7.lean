/-! ===== a plan's way, tried: with or without the drinking; all home; not yet home ===== -/
def aHds (Ne Cr : Bd) (A : Ab) : Nat → Ab
  | 0 => A
  | n + 1 => aHd Ne Cr (aHds Ne Cr A n)
/-- alike but for the water -/
def eqv (A B : Ab) : Prop := A.2 = B.2 ∧ ∀ k, k ≠ 4 → k ≠ 5 → A.1 k = B.1 k
theorem eqv_I {A B : Ab} (h : eqv A B) (k : Nat) (f : Int → Int) : eqv (aI A k f) (aI B k f) := by
  refine ⟨h.1, fun j a b => ?_⟩
  show upf A.1 k f j = upf B.1 k f j
  rw [upf_eq, upf_eq]
  split
  · rfl
  · exact h.2 j a b
theorem eqv_arr1 {Ne Cr : Bd} {town c : Int} {A B : Ab} (h : eqv A B) : eqv (aArr1 Ne Cr town A c) (aArr1 Ne Cr town B c) := by
  unfold aArr1
  rw [h.2 2 (by omega) (by omega), h.2 3 (by omega) (by omega), h.1]
  split
  · split
    · exact eqv_I (eqv_I h _ _) _ _
    · exact eqv_I h _ _
  · exact ⟨by show (A.2.1, upL A.2.2.1 _ _, A.2.2.2) = (B.2.1, upL B.2.2.1 _ _, B.2.2.2); rw [h.1], h.2⟩
theorem eqv_fold {Ne Cr : Bd} {town : Int} : ∀ (cs : List Int) {A B : Ab}, eqv A B → eqv (cs.foldl (aArr1 Ne Cr town) A) (cs.foldl (aArr1 Ne Cr town) B)
  | [], _, _, h => h
  | c :: cs, _, _, h => eqv_fold cs (eqv_arr1 h)
theorem eqv_come {Ne Cr : Bd} {A B : Ab} (h : eqv A B) : ∀ n : Nat, eqv (aCome Ne Cr A n) (aCome Ne Cr B n)
  | 0 => h
  | n + 1 => by
    have ih := eqv_come (Ne := Ne) (Cr := Cr) h n
    show eqv (aCome1 Ne Cr (n : Int) (aCome Ne Cr A n)) (aCome1 Ne Cr (n : Int) (aCome Ne Cr B n))
    unfold aCome1
    rw [ih.1]
    refine eqv_fold _ ⟨?_, ih.2⟩
    show ((aCome Ne Cr A n).2.1, (aCome Ne Cr A n).2.2.1, upL (aCome Ne Cr A n).2.2.2 _ _) = ((aCome Ne Cr B n).2.1, (aCome Ne Cr B n).2.2.1, upL (aCome Ne Cr B n).2.2.2 _ _)
    rw [ih.1]
theorem eqv_let {Ne Cr : Bd} {A B : Ab} (h : eqv A B) : ∀ n : Nat, eqv (aLet Ne Cr A n) (aLet Ne Cr B n)
  | 0 => h
  | n + 1 => by
    have ih := eqv_let (Ne := Ne) (Cr := Cr) h n
    show eqv (aLet1 Ne Cr (aLet Ne Cr A n) (n : Int)) (aLet1 Ne Cr (aLet Ne Cr B n) (n : Int))
    unfold aLet1
    rw [ih.2 1 (by omega) (by omega), ih.2 0 (by omega) (by omega), ih.1]
    split
    · refine ⟨?_, (eqv_I ih 1 _).2⟩
      show ((aLet Ne Cr A n).2.1, upL (aLet Ne Cr A n).2.2.1 _ _, (aLet Ne Cr A n).2.2.2) = ((aLet Ne Cr B n).2.1, upL (aLet Ne Cr B n).2.2.1 _ _, (aLet Ne Cr B n).2.2.2)
      rw [ih.1]
    · exact ih
theorem eqv_out {Ne : Bd} {A B : Ab} (h : eqv A B) : ∀ n : Nat, eqv (aOut Ne A n) (aOut Ne B n)
  | 0 => h
  | n + 1 => by
    have ih := eqv_out (Ne := Ne) h n
    refine ⟨?_, ih.2⟩
    show ((aOut1 Ne (aOut Ne A n) (n : Int)).2) = (aOut1 Ne (aOut Ne B n) (n : Int)).2
    unfold aOut1 aK
    rw [ih.1]
    show (upf (aOut Ne A n).2.1 1 _, upL (aOut Ne A n).2.2.1 _ _, upL (aOut Ne A n).2.2.2 _ _) = (upf (aOut Ne B n).2.1 1 _, upL (aOut Ne B n).2.2.1 _ _, upL (aOut Ne B n).2.2.2 _ _)
    rw [ih.1]
theorem eqv_hour {To Ne Cr : Bd} {A B : Ab} (h : eqv A B) : eqv (aHour To Ne Cr A) (aHd Ne Cr B) := by
  have g : eqv (aDrive Ne Cr A) (aDrive Ne Cr B) := eqv_out (eqv_let (eqv_come h _) _) _
  refine ⟨?_, fun k a b => ?_⟩
  · show (upf (aDrive Ne Cr A).2.1 0 (A.2.1 0 + 1), (aDrive Ne Cr A).2.2) = (upf (aDrive Ne Cr B).2.1 0 (B.2.1 0 + 1), (aDrive Ne Cr B).2.2)
    rw [g.1, h.1]
  · show upf (upf (aDrive Ne Cr A).1 4 _) 5 _ k = (aDrive Ne Cr B).1 k
    rw [upf_eq, if_neg b, upf_eq, if_neg a]
    exact g.2 k a b
theorem eqv_hours {To Ne Cr : Bd} {A B : Ab} (h : eqv A B) : ∀ n : Nat, eqv (aHrs To Ne Cr A n) (aHds Ne Cr B n)
  | 0 => h
  | n + 1 => eqv_hour (eqv_hours h n)
/-! all home: nothing more happens -/
def allH (Cr : Bd) (A : Ab) : Prop := ∀ c : Int, 0 ≤ c → c < Cr.2 3 → A.1 2 c = Cr.1 1 c
theorem allH_empty {Ne Cr : Bd} {A : Ab} (hc : Cfg Ne Cr) (h : AOK Ne Cr A) (hh : allH Cr A) : (∀ r : Int, 0 ≤ r → r < 16 → A.2.2.1 r = [] ∧ A.2.2.2 r = []) ∧ ∀ c : Int, 0 ≤ c → c < Cr.2 3 → A.1 1 c ≠ 0 := by
  have key : ∀ c : Int, 0 ≤ c → c < Cr.2 3 → cqs A c = 0 ∧ cds A c = 0 ∧ A.1 1 c ≠ 0 := by
    intro c a b
    have g := (h.2 c a b).1
    have n := cnt_nn id A c
    have cc := (hc.2.2.2.1 c a b).2.2.2.1
    rw [hh c a b] at g
    by_cases o : A.1 1 c = 0
    · rw [if_pos o] at g; omega
    · rw [if_neg o] at g; exact ⟨by omega, by omega, o⟩
  refine ⟨fun r a b => ⟨?_, ?_⟩, fun c a b => (key c a b).2.2⟩
  · cases hq : A.2.2.1 r with
    | nil => rfl
    | cons x l =>
      have k := (h.1 r a b).2.1 x (by rw [hq]; exact List.mem_cons_self)
      have s := smI_le (f := fun r => ((A.2.2.1 r).count x : Int)) (k := r) (n := 16) (fun j _ _ => by omega) a (by omega)
      have e : cqs A x = smI (fun r => ((A.2.2.1 r).count x : Int)) 0 16 := rfl
      have z := (key x k.1 k.2.1).1
      have s2 : ((A.2.2.1 r).count x : Int) ≤ cqs A x := by rw [e]; exact s
      rw [hq, List.count_cons_self] at s2
      omega
  · cases hq : A.2.2.2 r with
    | nil => rfl
    | cons x l =>
      have k := (h.1 r a b).2.2 x (by rw [hq]; exact List.mem_cons_self)
      have s := smI_le (f := fun r => (((A.2.2.2 r).map (fun q => q.1)).count x.1 : Int)) (k := r) (n := 16) (fun j _ _ => by omega) a (by omega)
      have e : cds A x.1 = smI (fun r => (((A.2.2.2 r).map (fun q => q.1)).count x.1 : Int)) 0 16 := rfl
      have z := (key x.1 k.1 k.2.1).2.1
      have s2 : (((A.2.2.2 r).map (fun q => q.1)).count x.1 : Int) ≤ cds A x.1 := by rw [e]; exact s
      rw [hq, List.map_cons, List.count_cons_self] at s2
      omega
theorem allH_drive {Ne Cr : Bd} {A : Ab} (hc : Cfg Ne Cr) (h : AOK Ne Cr A) (hh : allH Cr A) : (aDrive Ne Cr A).1 = A.1 ∧ (aDrive Ne Cr A).2.1 1 = A.2.1 1 := by
  obtain ⟨e1, e2⟩ := allH_empty hc h hh
  have h1 := hc.1
  have h2 := hc.2.1
  have c1 : ∀ n : Nat, (n : Int) ≤ 16 → aCome Ne Cr A n = A := by
    intro n
    induction n with
    | zero => intro _; rfl
    | succ n ih =>
      intro hn
      show aCome1 Ne Cr (n : Int) (aCome Ne Cr A n) = A
      rw [ih (by omega)]
      exact aCome1_done (fun q l e => by rw [(e1 (n : Int) (by omega) (by omega)).2] at e; cases e)
  have c2 : ∀ n : Nat, (n : Int) ≤ Cr.2 3 → aLet Ne Cr A n = A := by
    intro n
    induction n with
    | zero => intro _; rfl
    | succ n ih =>
      intro hn
      show aLet1 Ne Cr (aLet Ne Cr A n) (n : Int) = A
      rw [ih (by omega)]
      exact if_neg (fun q => e2 (n : Int) (by omega) (by omega) q.1)
  unfold aDrive
  rw [c1 _ (by omega), c2 _ (by omega)]
  refine ⟨(aOut_keep Ne A _).1, ?_⟩
  rw [aOut_wait]
  have e : smI (fun r => (((A.2.2.1 r).drop (aK Ne A r)).length : Int)) 0 (Ne.2 8).toNat = smI (fun _ => 0) 0 (Ne.2 8).toNat := smI_congr (fun r a b => by rw [(e1 r a (by omega)).1]; simp)
  rw [e, smI_const]
  omega
theorem allH_hds {Ne Cr : Bd} {A : Ab} (hc : Cfg Ne Cr) : ∀ (n : Nat), AB Ne Cr A → allH Cr A → A.2.1 0 + n ≤ 200 → (aHds Ne Cr A n).1 = A.1 ∧ (aHds Ne Cr A n).2.1 1 = A.2.1 1 ∧ AB Ne Cr (aHds Ne Cr A n) ∧ (aHds Ne Cr A n).2.1 0 = A.2.1 0 + n
  | 0, hab, _, _ => ⟨rfl, rfl, hab, by show A.2.1 0 = A.2.1 0 + 0; omega⟩
  | n + 1, hab, hh, hn => by
    obtain ⟨i1, i2, i3, i4⟩ := allH_hds hc n hab hh (by omega)
    have hh2 : allH Cr (aHds Ne Cr A n) := by
      intro c a b
      rw [i1]; exact hh c a b
    have d := allH_drive hc i3.1 hh2
    refine ⟨d.1.trans i1, d.2.trans i2, ab_hd hc i3 (by omega), ?_⟩
    show (aHds Ne Cr A n).2.1 0 + 1 = A.2.1 0 + ((n + 1 : Nat) : Int)
    rw [i4]; omega
theorem ab_hds {Ne Cr : Bd} {A : Ab} (hc : Cfg Ne Cr) (hab : AB Ne Cr A) : ∀ (n : Nat), A.2.1 0 + n ≤ 200 → AB Ne Cr (aHds Ne Cr A n) ∧ (aHds Ne Cr A n).2.1 0 = A.2.1 0 + n
  | 0, _ => ⟨hab, by show A.2.1 0 = A.2.1 0 + 0; omega⟩
  | n + 1, hn => by
    obtain ⟨i3, i4⟩ := ab_hds hc hab n (by omega)
    refine ⟨ab_hd hc i3 (by omega), ?_⟩
    show (aHds Ne Cr A n).2.1 0 + 1 = A.2.1 0 + ((n + 1 : Nat) : Int)
    rw [i4]; omega
theorem aHds_add {Ne Cr : Bd} {A : Ab} (k : Nat) : ∀ n : Nat, aHds Ne Cr A (k + n) = aHds Ne Cr (aHds Ne Cr A k) n
  | 0 => rfl
  | n + 1 => by
    show aHd Ne Cr (aHds Ne Cr A (k + n)) = aHd Ne Cr (aHds Ne Cr (aHds Ne Cr A k) n)
    rw [aHds_add k n]
/-! not home yet: it will be later -/
def AL2 (Cr : Bd) (h0 c : Int) (A : Ab) : Prop := A.1 2 c = Cr.1 1 c → h0 ≤ A.1 3 c
theorem al2_arr1 {Ne Cr : Bd} {town c h0 x : Int} {A : Ab} (h : AL2 Cr h0 x A) (hn : h0 ≤ A.2.1 0) : AL2 Cr h0 x (aArr1 Ne Cr town A c) := by
  unfold AL2 aArr1
  split
  · split
    · show upz (A.1 2) c (A.1 2 c + 1) x = Cr.1 1 x → h0 ≤ upz (A.1 3) c (A.2.1 0) x
      by_cases e : x = c
      · subst e; rw [upz_self, upz_self]; intro _; exact hn
      · rw [upz_ne _ _ e, upz_ne _ _ e]; exact h
    · rename_i z
      show upz (A.1 2) c (A.1 2 c + 1) x = Cr.1 1 x → h0 ≤ A.1 3 x
      by_cases e : x = c
      · subst e; rw [upz_self]; intro q; exact absurd q z
      · rw [upz_ne _ _ e]; exact h
  · exact h
theorem al2_fold {Ne Cr : Bd} {town h0 x : Int} : ∀ (cs : List Int) (A : Ab), AL2 Cr h0 x A → h0 ≤ A.2.1 0 → AL2 Cr h0 x (cs.foldl (aArr1 Ne Cr town) A)
  | [], A, h, _ => h
  | c :: cs, A, h, hn => al2_fold cs _ (al2_arr1 h hn) (by rw [(aArr1_keep Ne Cr town A c).1]; exact hn)
theorem al2_come {Ne Cr : Bd} {h0 x : Int} {A : Ab} (h : AL2 Cr h0 x A) (hn : h0 ≤ A.2.1 0) : ∀ n : Nat, AL2 Cr h0 x (aCome Ne Cr A n)
  | 0 => h
  | n + 1 => al2_fold _ _ (al2_come h hn n) (by show h0 ≤ (aCome Ne Cr A n).2.1 0; rw [(aCome_keep Ne Cr A n).1]; exact hn)
theorem al2_hd {Ne Cr : Bd} {h0 x : Int} {A : Ab} (h : AL2 Cr h0 x A) (hn : h0 ≤ A.2.1 0) : AL2 Cr h0 x (aHd Ne Cr A) := by
  have g := al2_come (Ne := Ne) h hn (Ne.2 8).toNat
  have k2 := aLet_keep Ne Cr (aCome Ne Cr A (Ne.2 8).toNat) (Cr.2 3).toNat
  have k3 := aOut_keep Ne (aLet Ne Cr (aCome Ne Cr A (Ne.2 8).toNat) (Cr.2 3).toNat) (Ne.2 8).toNat
  show (aDrive Ne Cr A).1 2 x = Cr.1 1 x → h0 ≤ (aDrive Ne Cr A).1 3 x
  unfold aDrive
  rw [k3.1, k2.2.2.1 2 (by omega), k2.2.2.1 3 (by omega)]
  exact g
theorem al2_hds {Ne Cr : Bd} {h0 x : Int} {A : Ab} (h : AL2 Cr h0 x A) (hn : h0 ≤ A.2.1 0) : ∀ n : Nat, AL2 Cr h0 x (aHds Ne Cr A n) ∧ h0 ≤ (aHds Ne Cr A n).2.1 0
  | 0 => ⟨h, hn⟩
  | n + 1 => by
    have ih := al2_hds (Ne := Ne) h hn n
    exact ⟨al2_hd ih.1 ih.2, by show h0 ≤ (aHds Ne Cr A n).2.1 0 + 1; omega⟩
def pEnd (Cr : Bd) (A : Ab) : Int := if aFl Cr A = -1 then 200 else aFl Cr A
theorem aMi_low {f : Int → Int} {c : Int} : ∀ {n : Nat}, 0 ≤ c → c < n → aMi f n ≤ f c
  | 0, h1, h2 => by omega
  | n + 1, h1, h2 => by
    show min (aMi f n) (f (n : Int)) ≤ f c
    by_cases e : c = (n : Int)
    · subst e; omega
    · have := aMi_low (f := f) (c := c) (n := n) h1 (by omega); omega
theorem aMx_high {f : Int → Int} {c : Int} : ∀ {n : Nat}, 0 ≤ c → c < n → f c ≤ aMx f n
  | 0, h1, h2 => by omega
  | n + 1, h1, h2 => by
    show f c ≤ max (aMx f n) (f (n : Int))
    by_cases e : c = (n : Int)
    · subst e; omega
    · have := aMx_high (f := f) (c := c) (n := n) h1 (by omega); omega
theorem notyet {Ne Cr : Bd} {A : Ab} (hc : Cfg Ne Cr) (hab : AB Ne Cr A) (hnot : ¬ allH Cr A) (hh : A.2.1 0 ≤ 200) : ∀ n : Nat, A.2.1 0 + n ≤ 200 → A.2.1 0 ≤ pEnd Cr (aHds Ne Cr A n) := by
  intro n hn
  have ⟨c, a, b, e⟩ : ∃ c : Int, 0 ≤ c ∧ c < Cr.2 3 ∧ A.1 2 c ≠ Cr.1 1 c := by
    apply Classical.byContradiction
    intro q
    apply hnot
    intro c a b
    apply Classical.byContradiction
    intro e
    exact q ⟨c, a, b, e⟩
  have g := (al2_hds (Ne := Ne) (h0 := A.2.1 0) (x := c) (fun q => absurd q e) (Int.le_refl _) n).1
  have hb := (ab_hds hc hab n hn).1
  unfold pEnd aFl
  by_cases z : aMi ((aHds Ne Cr A n).1 3) (Cr.2 3).toNat < 0
  · rw [if_pos z, if_pos rfl]; exact hh
  · rw [if_neg z]
    have hm := aMi_low (f := (aHds Ne Cr A n).1 3) (c := c) (n := (Cr.2 3).toNat) a (by omega)
    have hx := aMx_high (f := (aHds Ne Cr A n).1 3) (c := c) (n := (Cr.2 3).toNat) a (by omega)
    have hfull : (aHds Ne Cr A n).1 2 c = Cr.1 1 c := by
      apply Classical.byContradiction
      intro q
      have := (hb.1.2 c a b).2.2.2 q
      omega
    have := g hfull
    split <;> omega
theorem pEnd_eqv {Cr : Bd} {A B : Ab} (h : eqv A B) : pEnd Cr A = pEnd Cr B ∧ A.2.1 1 = B.2.1 1 := by
  unfold pEnd aFl
  rw [h.2 3 (by omega) (by omega), h.1]
  exact ⟨rfl, rfl⟩
