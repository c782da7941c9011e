/-! ===== hours: what holds between them ===== -/
theorem smI_add {f g : Int → Int} : ∀ {n : Nat}, smI (fun j => f j + g j) 0 n = smI f 0 n + smI g 0 n
  | 0 => rfl
  | n + 1 => by
    show smI (fun j => f j + g j) 0 n + (f (0 + (n : Int)) + g (0 + (n : Int))) = smI f 0 n + f (0 + (n : Int)) + (smI g 0 n + g (0 + (n : Int)))
    rw [smI_add]; omega
theorem smI_swap (f : Int → Int → Int) (m : Nat) : ∀ n : Nat, smI (fun i => smI (fun j => f i j) 0 m) 0 n = smI (fun j => smI (fun i => f i j) 0 n) 0 m
  | 0 => by
    show (0 : Int) = smI (fun _ => 0) 0 m
    rw [smI_const]; omega
  | n + 1 => by
    show smI (fun i => smI (fun j => f i j) 0 m) 0 n + smI (fun j => f (0 + (n : Int)) j) 0 m = smI (fun j => smI (fun i => f i j) 0 n + f (0 + (n : Int)) j) 0 m
    rw [smI_swap f m n, smI_add]
theorem len_cnt {n : Nat} : ∀ {l : List Int}, (∀ x ∈ l, 0 ≤ x ∧ x < n) → (l.length : Int) = smI (fun c => (l.count c : Int)) 0 n
  | [], _ => by
    show (0 : Int) = smI (fun _ => ((List.count _ [] : Nat) : Int)) 0 n
    have e : smI (fun c => ((List.count c ([] : List Int) : Nat) : Int)) 0 n = smI (fun _ => 0) 0 n := smI_congr (fun j _ _ => by simp)
    rw [e, smI_const]; omega
  | x :: l, h => by
    have ih := len_cnt (n := n) (l := l) (fun y hy => h y (List.mem_cons_of_mem _ hy))
    have hx := h x List.mem_cons_self
    have e := smI_pt2 (f := fun c => ((x :: l).count c : Int)) (g := fun c => (l.count c : Int)) (k := x) (n := n) (v := 1) hx.1 hx.2 (fun j _ _ ej => by
      show (((x :: l).count j : Nat) : Int) = ((l.count j : Nat) : Int)
      rw [List.count_cons_of_ne (fun q => ej q.symm)]) (by
      show (((x :: l).count x : Nat) : Int) = ((l.count x : Nat) : Int) + 1
      rw [List.count_cons_self]; omega)
    rw [e, ← ih]
    simp
theorem qlen_le {Ne Cr : Bd} {A : Ab} (hc : Cfg Ne Cr) (h : AOK Ne Cr A) : 0 ≤ smI (fun r => ((A.2.2.1 r).length : Int)) 0 16 ∧ smI (fun r => ((A.2.2.1 r).length : Int)) 0 16 ≤ 160000 := by
  refine ⟨smI_nn (fun j _ _ => by omega), ?_⟩
  have h8 := hc.2.1
  have e1 : smI (fun r => ((A.2.2.1 r).length : Int)) 0 16 = smI (fun r => smI (fun c => ((A.2.2.1 r).count c : Int)) 0 (Cr.2 3).toNat) 0 16 := smI_congr (fun r a b => len_cnt (fun x hx => by have := (h.1 r a b).2.1 x hx; omega))
  rw [e1, smI_swap]
  have e2 := smI_mono (f := fun c => smI (fun r => ((A.2.2.1 r).count c : Int)) 0 16) (g := fun _ => 20000) (n := (Cr.2 3).toNat) (fun c a b => by
    have g := h.2 c a (by omega)
    have n := cnt_nn id A c
    have cc := (hc.2.2.2.1 c a (by omega)).2.2.2.1
    show cqs A c ≤ 20000
    by_cases o : A.1 1 c = 0
    · rw [if_pos o] at g; omega
    · rw [if_neg o] at g; omega)
  rw [smI_const] at e2
  omega
theorem smI_pre {f : Int → Int} (hf : ∀ j : Int, 0 ≤ j → 0 ≤ f j) : ∀ {m n : Nat}, m ≤ n → smI f 0 m ≤ smI f 0 n
  | m, 0, h => by rw [Nat.le_zero.mp h]; exact Int.le_refl _
  | m, n + 1, h => by
    rcases Nat.lt_or_ge m (n + 1) with q | q
    · have := smI_pre hf (m := m) (n := n) (by omega)
      have := hf (0 + (n : Int)) (by omega)
      show smI f 0 m ≤ smI f 0 n + f (0 + (n : Int))
      omega
    · rw [show m = n + 1 by omega]; exact Int.le_refl _
theorem aAt_rng {Ne Cr : Bd} {A : Ab} (hc : Cfg Ne Cr) (h : AOK Ne Cr A) (t : Int) : 0 ≤ aAt Ne Cr A t ∧ aAt Ne Cr A t ≤ 500000 := by
  have h8 := hc.2.1
  have h16 := hc.1
  have key : ∀ c : Int, 0 ≤ c → c < ((Cr.2 3).toNat : Int) → 0 ≤ (if A.1 1 c = 0 ∧ Cr.1 0 c = t then Cr.1 1 c else 0) + (if Cr.1 2 c = t then A.1 2 c else 0) ∧ (if A.1 1 c = 0 ∧ Cr.1 0 c = t then Cr.1 1 c else 0) + (if Cr.1 2 c = t then A.1 2 c else 0) ≤ 40000 := by
    intro c a b
    have g := aok_home h a (show c < Cr.2 3 by omega)
    have cc := (hc.2.2.2.1 c a (by omega)).2.2.2.1
    split <;> split <;> omega
  have k2 : smI (fun r => if Ne.1 0 r = t then ((A.2.2.1 r).length : Int) else 0) 0 (Ne.2 8).toNat ≤ smI (fun r => ((A.2.2.1 r).length : Int)) 0 (Ne.2 8).toNat := smI_mono (fun j _ _ => by split <;> omega)
  have k3 : smI (fun r => ((A.2.2.1 r).length : Int)) 0 (Ne.2 8).toNat ≤ smI (fun r => ((A.2.2.1 r).length : Int)) 0 16 := smI_pre (fun j _ => by omega) (by omega)
  have k4 := (qlen_le hc h).2
  have k5 : 0 ≤ smI (fun r => if Ne.1 0 r = t then ((A.2.2.1 r).length : Int) else 0) 0 (Ne.2 8).toNat := smI_nn (fun j _ _ => by split <;> omega)
  have k6 := smI_mono (f := fun c => (if A.1 1 c = 0 ∧ Cr.1 0 c = t then Cr.1 1 c else 0) + (if Cr.1 2 c = t then A.1 2 c else 0)) (g := fun _ => 40000) (n := (Cr.2 3).toNat) (fun c a b => (key c a b).2)
  rw [smI_const] at k6
  have k7 := smI_nn (f := fun c => (if A.1 1 c = 0 ∧ Cr.1 0 c = t then Cr.1 1 c else 0) + (if Cr.1 2 c = t then A.1 2 c else 0)) (n := (Cr.2 3).toNat) (fun c a b => (key c a b).1)
  unfold aAt
  omega
theorem aok_come {Ne Cr : Bd} {A : Ab} {r : Int} (hc : Cfg Ne Cr) (hr : 0 ≤ r ∧ r < Ne.2 8) : ∀ (m : Nat) (A : Ab), (A.2.2.2 r).length ≤ m → AOK Ne Cr A → AOK Ne Cr (aCome1 Ne Cr r A)
  | m, A, hm, h => by
    cases hd : A.2.2.2 r with
    | nil =>
      rw [aCome1_done (fun q l e => by rw [hd] at e; cases e)]
      exact h
    | cons q l =>
      by_cases hq : q.2 = A.2.1 0
      · have e : A.2.2.2 r = List.replicate 1 (q.1, A.2.1 0) ++ l := by rw [hd, ← hq]; rfl
        cases m with
        | zero => rw [hd] at hm; simp at hm
        | succ m =>
          rw [aCome1_step e]
          have k := fold_keep Ne Cr (Ne.1 1 r) (List.replicate 1 q.1) (aD A r l)
          have e2 : (aArr Ne Cr (Ne.1 1 r) (aD A r l) q.1 1).2.2.2 r = l := by
            rw [show (aArr Ne Cr (Ne.1 1 r) (aD A r l) q.1 1).2.2.2 = (aD A r l).2.2.2 from k.2.1]; exact upL_self _ _ _
          refine aok_come (A := A) hc hr m _ ?_ (aok_arr hc h hr (by omega) e).2.2
          rw [e2]
          rw [hd] at hm
          simpa using hm
      · rw [aCome1_done (fun p l2 e => by rw [hd] at e; cases e; exact hq)]
        exact h
theorem aok_comes {Ne Cr : Bd} {A : Ab} (hc : Cfg Ne Cr) (h : AOK Ne Cr A) : ∀ n : Nat, (n : Int) ≤ Ne.2 8 → AOK Ne Cr (aCome Ne Cr A n)
  | 0, _ => h
  | n + 1, hn => aok_come (A := A) hc ⟨by omega, by omega⟩ _ _ (Nat.le_refl _) (aok_comes hc h n (by omega))
theorem aok_lets {Ne Cr : Bd} {A : Ab} (hc : Cfg Ne Cr) (h : AOK Ne Cr A) : ∀ n : Nat, (n : Int) ≤ Cr.2 3 → AOK Ne Cr (aLet Ne Cr A n)
  | 0, _ => h
  | n + 1, hn => aok_let hc (aok_lets hc h n (by omega)) (by omega) (by omega)
theorem aok_outs {Ne Cr : Bd} {A : Ab} (hc : Cfg Ne Cr) (h : AOK Ne Cr A) (hnow : 0 ≤ A.2.1 0 ∧ A.2.1 0 ≤ 200) : ∀ n : Nat, (n : Int) ≤ Ne.2 8 → AOK Ne Cr (aOut Ne A n)
  | 0, _ => h
  | n + 1, hn => aok_out hc (aok_outs hc h hnow n (by omega)) ⟨by omega, by omega⟩ (by rw [(aOut_keep Ne A n).2.1]; exact hnow)
theorem aok_drive {Ne Cr : Bd} {A : Ab} (hc : Cfg Ne Cr) (h : AOK Ne Cr A) (hnow : 0 ≤ A.2.1 0 ∧ A.2.1 0 ≤ 200) : AOK Ne Cr (aDrive Ne Cr A) := by
  have h1 := hc.1
  have h2 := hc.2.1
  unfold aDrive
  have k1 := aCome_keep Ne Cr A (Ne.2 8).toNat
  have k2 := aLet_keep Ne Cr (aCome Ne Cr A (Ne.2 8).toNat) (Cr.2 3).toNat
  exact aok_outs hc (aok_lets hc (aok_comes hc h _ (by omega)) _ (by omega)) (by rw [k2.1, k1.1]; exact hnow) _ (by omega)
theorem aDrive_keep (Ne Cr : Bd) (A : Ab) : (aDrive Ne Cr A).2.1 0 = A.2.1 0 ∧ (aDrive Ne Cr A).1 0 = A.1 0 ∧ (aDrive Ne Cr A).1 4 = A.1 4 ∧ (aDrive Ne Cr A).1 5 = A.1 5 := by
  unfold aDrive
  have k1 := aCome_keep Ne Cr A (Ne.2 8).toNat
  have k2 := aLet_keep Ne Cr (aCome Ne Cr A (Ne.2 8).toNat) (Cr.2 3).toNat
  have k3 := aOut_keep Ne (aLet Ne Cr (aCome Ne Cr A (Ne.2 8).toNat) (Cr.2 3).toNat) (Ne.2 8).toNat
  refine ⟨by rw [k3.2.1, k2.1, k1.1], ?_, ?_, ?_⟩
  · rw [k3.1, k2.2.1, k1.2.1]
  · rw [k3.1, k2.2.2.1 4 (by omega), k1.2.2.2.1]
  · rw [k3.1, k2.2.2.1 5 (by omega), k1.2.2.2.2]
theorem aLet_off {Ne Cr : Bd} {A : Ab} : ∀ (n : Nat) (c : Int), 0 ≤ c → c < n → (A.1 0 c = A.2.1 0 → A.1 1 c = 0) → (aLet Ne Cr A n).1 1 c = if A.1 0 c = A.2.1 0 then 1 else A.1 1 c
  | 0, c, h1, h2, _ => by omega
  | n + 1, c, h1, h2, h3 => by
    obtain ⟨k1, k2, k3, k4, k5⟩ := aLet_keep Ne Cr A n
    show (aLet1 Ne Cr (aLet Ne Cr A n) (n : Int)).1 1 c = _
    by_cases e : c = (n : Int)
    · subst e
      unfold aLet1
      rw [k5 _ (Int.le_refl _), k1, k2]
      by_cases z : A.1 0 (n : Int) = A.2.1 0
      · rw [if_pos ⟨h3 z, z⟩, if_pos z]
        exact upz_self _ _ _
      · rw [if_neg (fun q => z q.2), if_neg z]
        exact k5 _ (Int.le_refl _)
    · have ih := aLet_off (Ne := Ne) (Cr := Cr) (A := A) n c h1 (by omega) h3
      unfold aLet1
      split
      · show upz ((aLet Ne Cr A n).1 1) (n : Int) 1 c = _
        rw [upz_ne _ _ e]; exact ih
      · exact ih
theorem aOut_wait (Ne : Bd) (A : Ab) : ∀ n : Nat, (aOut Ne A n).2.1 1 = A.2.1 1 + smI (fun r => (((A.2.2.1 r).drop (aK Ne A r)).length : Int)) 0 n
  | 0 => by show A.2.1 1 = A.2.1 1 + 0; omega
  | n + 1 => by
    have ih := aOut_wait Ne A n
    have k := aOut_keep Ne A n
    show (aOut Ne A n).2.1 1 + ((((aOut Ne A n).2.2.1 (n : Int)).drop (aK Ne (aOut Ne A n) (n : Int))).length : Int) = A.2.1 1 + (smI (fun r => (((A.2.2.1 r).drop (aK Ne A r)).length : Int)) 0 n + (((A.2.2.1 (0 + (n : Int))).drop (aK Ne A (0 + (n : Int)))).length : Int))
    rw [ih, aK_keep (Int.le_refl _), (k.2.2 _ (Int.le_refl _)).1, show (0 : Int) + (n : Int) = (n : Int) by omega]
    omega
/-- between hours -/
def AB (Ne Cr : Bd) (A : Ab) : Prop :=
  AOK Ne Cr A ∧ (0 ≤ A.2.1 0 ∧ A.2.1 0 ≤ 200) ∧ (∀ c : Int, 0 ≤ c → c < Cr.2 3 → (0 ≤ A.1 0 c ∧ A.1 0 c ≤ 300) ∧ (A.1 1 c = 1 ↔ A.1 0 c < A.2.1 0)) ∧ (∀ t : Int, 0 ≤ t → t < 10 → 0 ≤ A.1 4 t ∧ A.1 4 t ≤ 1000000) ∧ (0 ≤ A.2.1 1 ∧ A.2.1 1 ≤ 160000 * A.2.1 0)
theorem ab_off {Ne Cr : Bd} {A : Ab} (h : AB Ne Cr A) : ∀ c : Int, 0 ≤ c → c < Cr.2 3 → A.1 0 c = A.2.1 0 → A.1 1 c = 0 := by
  intro c h1 h2 h3
  have g := (h.2.2.1 c h1 h2).2
  have k := (h.1.2 c h1 h2).2.2.1
  rcases k with k | k
  · exact k
  · have := g.mp k; omega
/-- an hour without the drinking -/
def aHd (Ne Cr : Bd) (A : Ab) : Ab := aS (aDrive Ne Cr A) 0 (A.2.1 0 + 1)
theorem ab_hd {Ne Cr : Bd} {A : Ab} (hc : Cfg Ne Cr) (h : AB Ne Cr A) (hn : A.2.1 0 < 200) : AB Ne Cr (aHd Ne Cr A) := by
  have k := aDrive_keep Ne Cr A
  have hok := aok_drive hc h.1 h.2.1
  have hoff := ab_off h
  have hnow := h.2.1
  have h1 := hc.1
  have h2 := hc.2.1
  refine ⟨hok, ⟨by show 0 ≤ A.2.1 0 + 1; omega, by show A.2.1 0 + 1 ≤ 200; omega⟩, fun c a b => ?_, fun t a b => ?_, ?_⟩
  · have g := h.2.2.1 c a b
    have kk := (h.1.2 c a b).2.2.1
    have k1 := aCome_keep Ne Cr A (Ne.2 8).toNat
    have k3 := aOut_keep Ne (aLet Ne Cr (aCome Ne Cr A (Ne.2 8).toNat) (Cr.2 3).toNat) (Ne.2 8).toNat
    have e : (aDrive Ne Cr A).1 1 c = if A.1 0 c = A.2.1 0 then 1 else A.1 1 c := by
      unfold aDrive
      rw [k3.1, aLet_off _ c a (by omega) (by rw [k1.2.1, k1.1, k1.2.2.1]; exact hoff c a b), k1.2.1, k1.1, k1.2.2.1]
    show (0 ≤ (aDrive Ne Cr A).1 0 c ∧ (aDrive Ne Cr A).1 0 c ≤ 300) ∧ ((aDrive Ne Cr A).1 1 c = 1 ↔ (aDrive Ne Cr A).1 0 c < A.2.1 0 + 1)
    rw [k.2.1, e]
    refine ⟨g.1, ?_⟩
    split
    · constructor <;> intro _ <;> omega
    · rw [g.2]; constructor <;> intro _ <;> omega
  · show 0 ≤ (aDrive Ne Cr A).1 4 t ∧ (aDrive Ne Cr A).1 4 t ≤ 1000000
    rw [k.2.2.1]; exact h.2.2.2.1 t a b
  · show 0 ≤ (aDrive Ne Cr A).2.1 1 ∧ (aDrive Ne Cr A).2.1 1 ≤ 160000 * (A.2.1 0 + 1)
    have k1 := aCome_keep Ne Cr A (Ne.2 8).toNat
    have k2 := aLet_keep Ne Cr (aCome Ne Cr A (Ne.2 8).toNat) (Cr.2 3).toNat
    have hL := aok_lets hc (aok_comes hc h.1 (Ne.2 8).toNat (by omega)) (Cr.2 3).toNat (by omega)
    have w := aOut_wait Ne (aLet Ne Cr (aCome Ne Cr A (Ne.2 8).toNat) (Cr.2 3).toNat) (Ne.2 8).toNat
    have e : (aDrive Ne Cr A).2.1 1 = (aOut Ne (aLet Ne Cr (aCome Ne Cr A (Ne.2 8).toNat) (Cr.2 3).toNat) (Ne.2 8).toNat).2.1 1 := rfl
    rw [e, w, k2.1, k1.1]
    have q := qlen_le hc hL
    have m1 := smI_mono (f := fun r => ((((aLet Ne Cr (aCome Ne Cr A (Ne.2 8).toNat) (Cr.2 3).toNat).2.2.1 r).drop (aK Ne (aLet Ne Cr (aCome Ne Cr A (Ne.2 8).toNat) (Cr.2 3).toNat) r)).length : Int)) (g := fun r => (((aLet Ne Cr (aCome Ne Cr A (Ne.2 8).toNat) (Cr.2 3).toNat).2.2.1 r).length : Int)) (n := (Ne.2 8).toNat) (fun j _ _ => by rw [List.length_drop]; omega)
    have m2 := smI_pre (f := fun r => (((aLet Ne Cr (aCome Ne Cr A (Ne.2 8).toNat) (Cr.2 3).toNat).2.2.1 r).length : Int)) (fun j _ => by omega) (m := (Ne.2 8).toNat) (n := 16) (by omega)
    have m3 := smI_nn (f := fun r => ((((aLet Ne Cr (aCome Ne Cr A (Ne.2 8).toNat) (Cr.2 3).toNat).2.2.1 r).drop (aK Ne (aLet Ne Cr (aCome Ne Cr A (Ne.2 8).toNat) (Cr.2 3).toNat) r)).length : Int)) (n := (Ne.2 8).toNat) (fun j _ _ => by omega)
    have hw := h.2.2.2.2
    omega
theorem ab_hour {To Ne Cr : Bd} {A : Ab} (hc : Cfg Ne Cr) (hto : 0 ≤ To.2 3 ∧ To.2 3 ≤ 10) (h : AB Ne Cr A) (hn : A.2.1 0 < 200) : AB Ne Cr (aHour To Ne Cr A) := by
  have g := ab_hd hc h hn
  have hok := aok_drive hc h.1 h.2.1
  refine ⟨g.1, g.2.1, g.2.2.1, fun t a b => ?_, g.2.2.2.2⟩
  have w := g.2.2.2.1 t a b
  have w2 : 0 ≤ (aDrive Ne Cr A).1 4 t ∧ (aDrive Ne Cr A).1 4 t ≤ 1000000 := w
  have r := aAt_rng hc hok t
  show 0 ≤ (if 0 ≤ t ∧ t < To.2 3 then (aDrive Ne Cr A).1 4 t - min (aAt Ne Cr (aDrive Ne Cr A) t) ((aDrive Ne Cr A).1 4 t) else (aDrive Ne Cr A).1 4 t) ∧ (if 0 ≤ t ∧ t < To.2 3 then (aDrive Ne Cr A).1 4 t - min (aAt Ne Cr (aDrive Ne Cr A) t) ((aDrive Ne Cr A).1 4 t) else (aDrive Ne Cr A).1 4 t) ≤ 1000000
  split <;> omega
