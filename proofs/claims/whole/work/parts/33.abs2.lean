/-! ===== what holds of every state; the class's traffic beside it ===== -/
theorem smI_congr {f g : Int → Int} : ∀ {n : Nat}, (∀ j : Int, 0 ≤ j → j < n → f j = g j) → smI f 0 n = smI g 0 n
  | 0, _ => rfl
  | n + 1, h => by
    show smI f 0 n + f (0 + (n : Int)) = smI g 0 n + g (0 + (n : Int))
    rw [smI_congr (fun j a b => h j a (by omega)), h (0 + (n : Int)) (by omega) (by omega)]
theorem smI_pt {f g : Int → Int} {k : Int} : ∀ {n : Nat}, 0 ≤ k → k < n → (∀ j : Int, 0 ≤ j → j < n → j ≠ k → f j = g j) → smI f 0 n = smI g 0 n + (f k - g k)
  | 0, h0, hk, _ => by omega
  | n + 1, h0, hk, h => by
    show smI f 0 n + f (0 + (n : Int)) = smI g 0 n + g (0 + (n : Int)) + (f k - g k)
    by_cases e : k = (n : Int)
    · rw [smI_congr (f := f) (g := g) (fun j a b => h j a (by omega) (by omega)), show 0 + (n : Int) = k by omega]
      omega
    · have ih := smI_pt (f := f) (g := g) (k := k) (n := n) h0 (by omega) (fun j a b c => h j a (by omega) c)
      rw [ih, h (0 + (n : Int)) (by omega) (by omega) (by omega)]
      omega
theorem smI_nn {f : Int → Int} : ∀ {n : Nat}, (∀ j : Int, 0 ≤ j → j < n → 0 ≤ f j) → 0 ≤ smI f 0 n
  | 0, _ => Int.le_refl 0
  | n + 1, h => by
    have h1 := smI_nn (f := f) (n := n) (fun j a b => h j a (by omega))
    have h2 := h (0 + (n : Int)) (by omega) (by omega)
    show 0 ≤ smI f 0 n + f (0 + (n : Int))
    omega
theorem smI_le {f : Int → Int} {k : Int} : ∀ {n : Nat}, (∀ j : Int, 0 ≤ j → j < n → 0 ≤ f j) → 0 ≤ k → k < n → f k ≤ smI f 0 n
  | 0, _, h0, hk => by omega
  | n + 1, h, h0, hk => by
    show f k ≤ smI f 0 n + f (0 + (n : Int))
    have h2 := h (0 + (n : Int)) (by omega) (by omega)
    by_cases e : k = (n : Int)
    · have h1 := smI_nn (f := f) (n := n) (fun j a b => h j a (by omega))
      rw [show 0 + (n : Int) = k by omega] at h2 ⊢
      omega
    · have := smI_le (f := f) (k := k) (n := n) (fun j a b => h j a (by omega)) h0 (by omega)
      omega
theorem smI_mono {f g : Int → Int} : ∀ {n : Nat}, (∀ j : Int, 0 ≤ j → j < n → f j ≤ g j) → smI f 0 n ≤ smI g 0 n
  | 0, _ => Int.le_refl 0
  | n + 1, h => by
    have h1 := smI_mono (f := f) (g := g) (n := n) (fun j a b => h j a (by omega))
    have h2 := h (0 + (n : Int)) (by omega) (by omega)
    show smI f 0 n + f (0 + (n : Int)) ≤ smI g 0 n + g (0 + (n : Int))
    omega
def cqs (A : Ab) (c : Int) : Int := smI (fun r => ((A.2.2.1 r).count c : Int)) 0 16
def cds (A : Ab) (c : Int) : Int := smI (fun r => (((A.2.2.2 r).map (fun q => q.1)).count c : Int)) 0 16
/-- roads and crowds as they can be -/
def Cfg (Ne Cr : Bd) : Prop :=
  (0 ≤ Ne.2 8 ∧ Ne.2 8 ≤ 16) ∧ (0 ≤ Cr.2 3 ∧ Cr.2 3 ≤ 8) ∧
  (∀ r : Int, 0 ≤ r → r < Ne.2 8 → (0 ≤ Ne.1 0 r ∧ Ne.1 0 r < 10) ∧ (0 ≤ Ne.1 1 r ∧ Ne.1 1 r < 10) ∧ (1 ≤ Ne.1 2 r ∧ Ne.1 2 r ≤ 5000) ∧ (1 ≤ Ne.1 3 r ∧ Ne.1 3 r ≤ 9) ∧ (0 ≤ Ne.1 4 r ∧ Ne.1 4 r < 2147483648) ∧ (0 ≤ Ne.1 5 r ∧ Ne.1 5 r < 2147483648)) ∧
  (∀ c : Int, 0 ≤ c → c < Cr.2 3 → (0 ≤ Cr.1 0 c ∧ Cr.1 0 c < 10) ∧ (0 ≤ Cr.1 2 c ∧ Cr.1 2 c < 10) ∧ Cr.1 0 c ≠ Cr.1 2 c ∧ (1 ≤ Cr.1 1 c ∧ Cr.1 1 c ≤ 20000) ∧ Ne.1 6 (Cr.1 0 c * 10 + Cr.1 2 c) ≠ -1) ∧
  (∀ i j : Int, 0 ≤ i → i < 10 → 0 ≤ j → j < 10 → i ≠ j → Ne.1 6 (i * 10 + j) ≠ -1 → (0 ≤ Ne.1 7 (i * 10 + j) ∧ Ne.1 7 (i * 10 + j) < Ne.2 8) ∧ Ne.1 0 (Ne.1 7 (i * 10 + j)) = i ∧ Ne.1 6 (Ne.1 1 (Ne.1 7 (i * 10 + j)) * 10 + j) ≠ -1)
def AOK (Ne Cr : Bd) (A : Ab) : Prop :=
  (∀ r : Int, 0 ≤ r → r < 16 → (Ne.2 8 ≤ r → A.2.2.1 r = [] ∧ A.2.2.2 r = []) ∧ (∀ c ∈ A.2.2.1 r, 0 ≤ c ∧ c < Cr.2 3 ∧ Ne.1 6 (Ne.1 1 r * 10 + Cr.1 2 c) ≠ -1) ∧ (∀ q ∈ A.2.2.2 r, 0 ≤ q.1 ∧ q.1 < Cr.2 3 ∧ Ne.1 6 (Ne.1 1 r * 10 + Cr.1 2 q.1) ≠ -1 ∧ 0 ≤ q.2 ∧ q.2 ≤ 300)) ∧
  (∀ c : Int, 0 ≤ c → c < Cr.2 3 → cqs A c + cds A c + A.1 2 c + (if A.1 1 c = 0 then Cr.1 1 c else 0) = Cr.1 1 c ∧ 0 ≤ A.1 2 c ∧ (A.1 1 c = 0 ∨ A.1 1 c = 1) ∧ (A.1 2 c ≠ Cr.1 1 c → A.1 3 c = -1))
/-- the class's traffic holds the state A -/
def TrR (Ne Cr : Bd) (B : Nat) (T : Bd) (Nq : Nat) (Sq : Bd) (Cq : Int → List Pt3) (A : Ab) : Prop :=
  LnO Nq B Sq Cq [] ∧
  (∀ r : Int, 0 ≤ r → r < 16 → fq (Cq r) = A.2.2.1 r ∧ fd (Cq (16 + r)) = A.2.2.2 r ∧ ∀ q ∈ Cq r, q.2.2 = 0) ∧
  (∀ c : Int, 0 ≤ c → c < 8 → T.1 5 c = A.1 0 c ∧ T.1 6 c = A.1 2 c ∧ (c < Cr.2 3 → A.1 2 c = Cr.1 1 c → T.1 7 c = A.1 3 c)) ∧
  (∀ t : Int, 0 ≤ t → t < 10 → T.1 8 t = aAt Ne Cr A t ∧ T.1 9 t = A.1 4 t ∧ T.1 10 t = A.1 5 t) ∧
  (T.2 12 = A.2.1 0 ∧ T.2 15 = A.2.1 1 ∧ T.2 13 = smI (A.1 2) 0 (Cr.2 3).toNat) ∧
  ((∀ c : Int, 0 ≤ c → c < Cr.2 3 → 1 ≤ A.1 2 c → T.1 7 c ≤ T.2 14) ∧ ((∃ c : Int, 0 ≤ c ∧ c < Cr.2 3 ∧ 1 ≤ A.1 2 c ∧ T.1 7 c = T.2 14) ∨ (T.2 14 = -1 ∧ ∀ c : Int, 0 ≤ c → c < Cr.2 3 → A.1 2 c = 0)) ∧ -1 ≤ T.2 14 ∧ T.2 14 ≤ A.2.1 0)
theorem cnt_nn (f : Int → Int) (A : Ab) (c : Int) : 0 ≤ cqs A c ∧ 0 ≤ cds A c := ⟨smI_nn (fun j _ _ => by omega), smI_nn (fun j _ _ => by omega)⟩
theorem aok_home {Ne Cr : Bd} {A : Ab} (h : AOK Ne Cr A) {c : Int} (h1 : 0 ≤ c) (h2 : c < Cr.2 3) : 0 ≤ A.1 2 c ∧ A.1 2 c ≤ Cr.1 1 c ∨ Cr.1 1 c < 0 := by
  have q := h.2 c h1 h2
  have n := cnt_nn id A c
  by_cases z : A.1 1 c = 0
  · rw [if_pos z] at q; omega
  · rw [if_neg z] at q; omega
theorem cds_D {A : Ab} {r c : Int} {l : List (Int × Int)} (h0 : 0 ≤ r) (h1 : r < 16) : cds (aD A r l) c = cds A c + (((l.map (fun q => q.1)).count c : Int) - (((A.2.2.2 r).map (fun q => q.1)).count c : Int)) := by
  unfold cds
  rw [smI_pt (g := fun r => (((A.2.2.2 r).map (fun q => q.1)).count c : Int)) (k := r) h0 (by omega) (fun j _ _ e => by show (((upL A.2.2.2 r l j).map _).count c : Int) = _; rw [upL_ne _ _ e])]
  show _ + ((((upL A.2.2.2 r l r).map _).count c : Int) - _) = _
  rw [upL_self]
theorem cqs_Q {A : Ab} {r c : Int} {l : List Int} (h0 : 0 ≤ r) (h1 : r < 16) : cqs (aQ A r l) c = cqs A c + ((l.count c : Int) - ((A.2.2.1 r).count c : Int)) := by
  unfold cqs
  rw [smI_pt (g := fun r => ((A.2.2.1 r).count c : Int)) (k := r) h0 (by omega) (fun j _ _ e => by show ((upL A.2.2.1 r l j).count c : Int) = _; rw [upL_ne _ _ e])]
  show _ + (((upL A.2.2.1 r l r).count c : Int) - _) = _
  rw [upL_self]
/-- a way on from where a road ends -/
theorem cfg_way {Ne Cr : Bd} (hc : Cfg Ne Cr) {town c : Int} (ht : 0 ≤ town ∧ town < 10) (h1 : 0 ≤ c) (h2 : c < Cr.2 3) (hL : Ne.1 6 (town * 10 + Cr.1 2 c) ≠ -1) (hne : town ≠ Cr.1 2 c) : (0 ≤ aWay Ne Cr town c ∧ aWay Ne Cr town c < Ne.2 8 ∧ aWay Ne Cr town c < 16) ∧ Ne.1 0 (aWay Ne Cr town c) = town ∧ Ne.1 6 (Ne.1 1 (aWay Ne Cr town c) * 10 + Cr.1 2 c) ≠ -1 := by
  obtain ⟨c1, c2, c3, c4, c5⟩ := hc
  have q := c5 town (Cr.1 2 c) ht.1 ht.2 (c4 c h1 h2).2.1.1 (c4 c h1 h2).2.1.2 hne hL
  exact ⟨⟨q.1.1, q.1.2, by have := q.1.2; unfold aWay; omega⟩, q.2.1, q.2.2⟩
theorem aok_arr {Ne Cr : Bd} {A : Ab} {r c d : Int} {n : Nat} {rest : List (Int × Int)} (hc : Cfg Ne Cr) (h : AOK Ne Cr A) (hr : 0 ≤ r ∧ r < Ne.2 8) (hn : 1 ≤ n) (hd : A.2.2.2 r = List.replicate n (c, d) ++ rest) : (0 ≤ c ∧ c < Cr.2 3 ∧ Ne.1 6 (Ne.1 1 r * 10 + Cr.1 2 c) ≠ -1 ∧ 0 ≤ d ∧ d ≤ 300) ∧ A.1 2 c + n ≤ Cr.1 1 c ∧ AOK Ne Cr (aArr Ne Cr (Ne.1 1 r) (aD A r rest) c n) := by
  have hr16 : r < 16 := by have := hc.1; omega
  have hq : 0 ≤ c ∧ c < Cr.2 3 ∧ Ne.1 6 (Ne.1 1 r * 10 + Cr.1 2 c) ≠ -1 ∧ 0 ≤ d ∧ d ≤ 300 := (h.1 r hr.1 hr16).2.2 (c, d) (by rw [hd]; exact List.mem_append_left _ (List.mem_replicate.mpr ⟨by omega, rfl⟩))
  obtain ⟨q1, q2, q3, q4, q5⟩ := hq
  have hcn := h.2 c q1 q2
  have hnn := cnt_nn id A c
  have hcd : ∀ x : Int, cds (aD A r rest) x = cds A x - (if x = c then (n : Int) else 0) := by
    intro x
    rw [cds_D hr.1 hr16, hd, List.map_append, List.count_append, List.map_replicate, List.count_replicate]
    by_cases e : x = c
    · subst e; simp; omega
    · have hb : (c == x) = false := by simp; exact fun z => e z.symm
      rw [hb, if_neg e]; simp
  have hle : A.1 2 c + n ≤ Cr.1 1 c := by
    have e1 := hcd c
    rw [if_pos rfl] at e1
    have e2 := (cnt_nn id (aD A r rest) c).2
    by_cases z : A.1 1 c = 0
    · rw [if_pos z] at hcn; omega
    · rw [if_neg z] at hcn; omega
  refine ⟨⟨q1, q2, q3, q4, q5⟩, hle, ?_⟩
  have hD : ∀ j : Int, 0 ≤ j → j < 16 → (Ne.2 8 ≤ j → A.2.2.1 j = [] ∧ upL A.2.2.2 r rest j = []) ∧ (∀ q ∈ upL A.2.2.2 r rest j, 0 ≤ q.1 ∧ q.1 < Cr.2 3 ∧ Ne.1 6 (Ne.1 1 j * 10 + Cr.1 2 q.1) ≠ -1 ∧ 0 ≤ q.2 ∧ q.2 ≤ 300) := by
    intro j a b
    have g := h.1 j a b
    by_cases e : j = r
    · subst e
      rw [upL_self]
      exact ⟨fun z => by omega, fun q hq => g.2.2 q (by rw [hd]; exact List.mem_append_right _ hq)⟩
    · rw [upL_ne _ _ e]
      exact ⟨g.1, g.2.2⟩
  by_cases hh : Ne.1 1 r = Cr.1 2 c
  · obtain ⟨i1, i2, i3, i4⟩ := aArr_home (Ne := Ne) hh n (aD A r rest) hn hle
    refine ⟨fun j a b => ?_, fun x a b => ?_⟩
    · rw [i1]
      have g := h.1 j a b
      exact ⟨(hD j a b).1, g.2.1, (hD j a b).2⟩
    · have g := h.2 x a b
      have e1 : cqs (aArr Ne Cr (Ne.1 1 r) (aD A r rest) c n) x = cqs A x := by unfold cqs; rw [i1]; rfl
      have e2 : cds (aArr Ne Cr (Ne.1 1 r) (aD A r rest) c n) x = cds (aD A r rest) x := by unfold cds; rw [i1]
      rw [e1, e2, hcd x, i3, i4, i2 1 (by omega) (by omega)]
      show cqs A x + _ + upz (A.1 2) c (A.1 2 c + n) x + (if A.1 1 x = 0 then Cr.1 1 x else 0) = Cr.1 1 x ∧ 0 ≤ upz (A.1 2) c (A.1 2 c + n) x ∧ (A.1 1 x = 0 ∨ A.1 1 x = 1) ∧ (upz (A.1 2) c (A.1 2 c + n) x ≠ Cr.1 1 x → (if A.1 2 c + n = Cr.1 1 c then upz (A.1 3) c (A.2.1 0) else A.1 3) x = -1)
      by_cases e : x = c
      · subst e
        rw [upz_self, if_pos rfl]
        refine ⟨by omega, by omega, g.2.2.1, fun z => ?_⟩
        rw [if_neg z]
        exact g.2.2.2 (by omega)
      · rw [upz_ne _ _ e, if_neg e]
        refine ⟨by omega, g.2.1, g.2.2.1, fun z => ?_⟩
        split
        · rw [upz_ne _ _ e]; exact g.2.2.2 z
        · exact g.2.2.2 z
  · obtain ⟨w1, w2, w3⟩ := cfg_way hc ((hc.2.2.1 r hr.1 hr.2).2.1) q1 q2 q3 hh
    rw [aArr_queue hh]
    refine ⟨fun j a b => ?_, fun x a b => ?_⟩
    · have g := h.1 j a b
      show (Ne.2 8 ≤ j → upL A.2.2.1 _ _ j = [] ∧ upL A.2.2.2 r rest j = []) ∧ (∀ x ∈ upL A.2.2.1 _ _ j, _) ∧ (∀ q ∈ upL A.2.2.2 r rest j, _)
      by_cases e : j = aWay Ne Cr (Ne.1 1 r) c
      · subst e
        rw [upL_self]
        refine ⟨fun z => by omega, fun x hx => ?_, (hD _ a b).2⟩
        rcases List.mem_append.mp hx with hx | hx
        · exact g.2.1 x hx
        · rw [(List.mem_replicate.mp hx).2]
          exact ⟨q1, q2, w3⟩
      · rw [upL_ne _ _ e]
        exact ⟨(hD j a b).1, g.2.1, (hD j a b).2⟩
    · have g := h.2 x a b
      have e1 := cqs_Q (A := aD A r rest) (r := aWay Ne Cr (Ne.1 1 r) c) (c := x) (l := (aD A r rest).2.2.1 (aWay Ne Cr (Ne.1 1 r) c) ++ List.replicate n c) w1.1 w1.2.2
      rw [List.count_append, List.count_replicate] at e1
      have e2 : cds (aQ (aD A r rest) (aWay Ne Cr (Ne.1 1 r) c) ((aD A r rest).2.2.1 (aWay Ne Cr (Ne.1 1 r) c) ++ List.replicate n c)) x = cds (aD A r rest) x := rfl
      have e3 : cqs (aD A r rest) x = cqs A x := rfl
      rw [e1, e2, e3, hcd x]
      show _ + _ + A.1 2 x + (if A.1 1 x = 0 then Cr.1 1 x else 0) = Cr.1 1 x ∧ 0 ≤ A.1 2 x ∧ (A.1 1 x = 0 ∨ A.1 1 x = 1) ∧ (A.1 2 x ≠ Cr.1 1 x → A.1 3 x = -1)
      by_cases e : x = c
      · subst e
        rw [if_pos rfl]
        refine ⟨?_, g.2⟩
        simp only [beq_self_eq_true, if_true]
        omega
      · have hb : (c == x) = false := by simp; exact fun z => e z.symm
        rw [if_neg e, hb]
        refine ⟨?_, g.2⟩
        simp only [Bool.false_eq_true, if_false]
        omega
