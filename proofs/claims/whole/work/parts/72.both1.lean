/-! ===== class and reference beside each other: what holds between calls ===== -/
def LgA (To Ne Cr : Bd) : Prop := Cfg Ne Cr ∧ NW Ne ∧ (0 ≤ To.2 3 ∧ To.2 3 ≤ 10) ∧ ((1 ≤ To.2 2 ∧ To.2 2 ≤ 100) ∧ ∀ t : Int, 0 ≤ t → t < To.2 3 → (0 ≤ To.1 0 t ∧ To.1 0 t ≤ 99) ∧ (0 ≤ To.1 1 t ∧ To.1 1 t ≤ 100)) ∧ (∀ t : Int, 0 ≤ t → t < 10 → 0 ≤ To.1 1 t ∧ To.1 1 t ≤ 100) ∧ (∀ c : Int, 0 ≤ c → c < Cr.2 3 → (0 ≤ Cr.1 0 c ∧ Cr.1 0 c < To.2 3) ∧ (0 ≤ Cr.1 2 c ∧ Cr.1 2 c < To.2 3)) ∧ (Cr.2 4 = smI (Cr.1 1) 0 (Cr.2 3).toNat) ∧ (∀ r : Int, 0 ≤ r → r < 16 → (0 ≤ Ne.1 4 r ∧ Ne.1 4 r < 2147483648) ∧ (0 ≤ Ne.1 5 r ∧ Ne.1 5 r < 2147483648))
def LgB (Ne Cr : Bd) (A : Ab) : Prop := AB Ne Cr A ∧ AL Cr A ∧ AR Cr A ∧ AO A ∧ (∀ c : Int, 0 ≤ c → c < Cr.2 3 → A.1 0 c ≤ 199) ∧ (A.2.1 0 = 0 → ∀ c : Int, Cr.2 3 ≤ c → c < 8 → A.1 0 c = 0 ∧ A.1 1 c = 0 ∧ A.1 2 c = 0)
def LgC (To Ne Cr U : Bd) (Nqu : Nat) (Squ : Bd) (F : Bd) (Nqt : Nat) (A : Ab) (Cq : Int → List Pt3) : Prop := TrR Ne Cr 3300 U Nqu Squ Cq A ∧ ((lns Cq 32 : Nat) : Int) ≤ oc Cr A + 16 * A.2.1 0 ∧ pw Nqt ∧ FoI To Ne Cr F A
def LgD (To Ne Cr : Bd) (A : Ab) (M : Bd) (C : Int → List Pt3) : Prop := MS To Ne Cr M ∧ MX Cr A M C ∧ (∀ t : Int, 0 ≤ t → t < 10 → -1 ≤ M.1 33 t ∧ M.1 33 t ≤ 1000) ∧ SPm (M.1 5) (M.1 6) (M.1 8) (M.2 4) (M.1 11)
def LgE (Ne : Bd) (f : Nat → Option Nat) (M : Bd) (hs : Nat → Nat) (Lg : Nat → Bd) (nr : Nat) (A : Ab) : Prop := (nr = (Ne.2 8).toNat ∧ ∀ k : Nat, k < nr → f k = some (hs k)) ∧ LR Ne M Lg (A.2.1 0) ∧ (∀ k : Nat, k < nr → ∀ j : Int, 0 ≤ j → j < 200 → -1 ≤ (Lg k).1 2 j ∧ (Lg k).1 2 j ≤ 5000) ∧ (∀ k h : Int, Ne.2 8 ≤ k → k < 16 → 0 ≤ h → h < 200 → M.1 17 (200 * k + h) = -1)
def LgF (Nqu Nqt nr gv gw : Nat) : Prop := gv ≤ 200 + Nqu + Nqt + 4 * nr ∧ gw ≤ 60000 + 8 * Nqu + 8 * Nqt + 603 * nr
theorem nw_ls {Ne : Bd} (h : NW Ne) : ∀ k : Int, 0 ≤ k → k < 100 → -1 ≤ Ne.1 6 k ∧ Ne.1 6 k ≤ 1000 := by
  intro k a b
  have := h.1 (k / 10) (k % 10) (by omega) (by omega) (by omega) (by omega)
  rw [show k / 10 * 10 + k % 10 = k by omega] at this
  exact this
/-! forecasts do not look at the sky -/
theorem aHrs_to {To To2 Ne Cr : Bd} (h : To2.2 3 = To.2 3) (A : Ab) : ∀ n : Nat, aHrs To2 Ne Cr A n = aHrs To Ne Cr A n
  | 0 => rfl
  | n + 1 => by
    show aHour To2 Ne Cr (aHrs To2 Ne Cr A n) = aHour To Ne Cr (aHrs To Ne Cr A n)
    rw [aHrs_to h A n]
    unfold aHour aDr
    rw [h]
theorem aLk_to {To To2 Ne Cr : Bd} (h : To2.2 3 = To.2 3) (A : Ab) (t : Int) : ∀ n : Nat, aLk To2 Ne Cr A n t = aLk To Ne Cr A n t
  | 0 => rfl
  | n + 1 => by
    show (if aLk To2 Ne Cr A n t = -1 ∧ (aHrs To2 Ne Cr A n).1 4 t < aAt Ne Cr (aDrive Ne Cr (aHrs To2 Ne Cr A n)) t then (aHrs To2 Ne Cr A n).2.1 0 else aLk To2 Ne Cr A n t) = _
    rw [aLk_to h A t n, aHrs_to h A n]
    rfl
theorem foi_to {To To2 Ne Cr F : Bd} {A : Ab} (h : To2.2 3 = To.2 3) (g : FoI To Ne Cr F A) : FoI To2 Ne Cr F A := by
  unfold FoI FoV at g ⊢
  rw [aHrs_to h]
  refine ⟨?_, g.2⟩
  rcases g.1 with z | ⟨z1, z2, z3, z4⟩
  · exact Or.inl z
  · exact Or.inr ⟨z1, z2, z3, fun t a b => by rw [aLk_to h]; exact z4 t a b⟩
/-- nothing foreseen -/
theorem foi_0 {To Ne Cr F : Bd} {A : Ab} : FoI To Ne Cr (F.1, (upf (upf F.2 5 0) 8 0)) A := ⟨Or.inl rfl, Or.inl rfl⟩
/-! a town -/
section St
variable {To Ne Cr U : Bd} {Nqu : Nat} {Squ : Bd} {F : Bd} {Nqt : Nat} {A : Ab} {Cq C : Int → List Pt3} {M : Bd} {f : Nat → Option Nat} {hs : Nat → Nat} {Lg : Nat → Bd} {nr : Nat}
theorem s_town {far wat : Int} (hA : LgA To Ne Cr) (hB : LgB Ne Cr A) (hC : LgC To Ne Cr U Nqu Squ F Nqt A Cq) (hD : LgD To Ne Cr A M C) (hok : (0 ≤ far ∧ far ≤ 99) ∧ (0 ≤ wat ∧ wat ≤ 1000000) ∧ To.2 3 < 10) :
    LgA ((upf To.1 0 (upz (To.1 0) (To.2 3) far)), (upf To.2 3 (To.2 3 + 1))) Ne Cr ∧ LgB Ne Cr (aI A 4 (upz (A.1 4) (To.2 3) wat)) ∧ LgC ((upf To.1 0 (upz (To.1 0) (To.2 3) far)), (upf To.2 3 (To.2 3 + 1))) Ne Cr ((upf U.1 9 (upz (U.1 9) (To.2 3) wat)), U.2) Nqu Squ (F.1, (upf (upf F.2 5 0) 8 0)) Nqt (aI A 4 (upz (A.1 4) (To.2 3) wat)) Cq ∧ LgD ((upf To.1 0 (upz (To.1 0) (To.2 3) far)), (upf To.2 3 (To.2 3 + 1))) Ne Cr (aI A 4 (upz (A.1 4) (To.2 3) wat)) ((upf (upf M.1 1 (upz (M.1 1) (M.2 0) far)) 31 (upz (M.1 31) (M.2 0) wat)), (upf M.2 0 (M.2 0 + 1))) C := by
  obtain ⟨a1, a2, a3, a4, a5, a6, a7⟩ := hA
  obtain ⟨b1, b2, b3, b4, b5, b6⟩ := hB
  obtain ⟨c1, c2, c3, c4⟩ := hC
  obtain ⟨d1, d2, d3, d4⟩ := hD
  obtain ⟨t1, t2, t3, t4, t5, t6⟩ := c1
  refine ⟨⟨a1, a2, ?_, ⟨a4.1, fun t x y => ?_⟩, a5, fun c x y => ?_, a7⟩, ⟨⟨b1.1, b1.2.1, b1.2.2.1, fun t x y => ?_, b1.2.2.2.2⟩, b2, b3, b4, b5, b6⟩, ⟨⟨t1, t2, t3, fun t x y => ?_, t5, t6⟩, c2, c3, foi_0⟩, ⟨⟨⟨?_, d1.1.2.1, fun t x y => ?_, d1.1.2.2.2⟩, d1.2⟩, ⟨d2.1, d2.2.1, fun t x y => ?_, d2.2.2.2⟩, d3, d4⟩⟩
  · show 0 ≤ To.2 3 + 1 ∧ To.2 3 + 1 ≤ 10; omega
  · have y2 : t < To.2 3 + 1 := y
    show (0 ≤ upz (To.1 0) (To.2 3) far t ∧ upz (To.1 0) (To.2 3) far t ≤ 99) ∧ (0 ≤ To.1 1 t ∧ To.1 1 t ≤ 100)
    by_cases e : t = To.2 3
    · rw [e, upz_self]; exact ⟨hok.1, a5 _ (by omega) (by omega)⟩
    · rw [upz_ne _ _ e]; exact a4.2 t x (by omega)
  · have := a6 c x y
    show (0 ≤ Cr.1 0 c ∧ Cr.1 0 c < To.2 3 + 1) ∧ (0 ≤ Cr.1 2 c ∧ Cr.1 2 c < To.2 3 + 1)
    omega
  · show 0 ≤ upz (A.1 4) (To.2 3) wat t ∧ upz (A.1 4) (To.2 3) wat t ≤ 1000000
    by_cases e : t = To.2 3
    · rw [e, upz_self]; exact hok.2.1
    · rw [upz_ne _ _ e]; exact b1.2.2.2.1 t x y
  · have g := t4 t x y
    refine ⟨g.1, ?_, g.2.2⟩
    show upz (U.1 9) (To.2 3) wat t = upz (A.1 4) (To.2 3) wat t
    by_cases e : t = To.2 3
    · rw [e, upz_self, upz_self]
    · rw [upz_ne _ _ e, upz_ne _ _ e]; exact g.2.1
  · show M.2 0 + 1 = To.2 3 + 1
    rw [d1.1.1]
  · have y2 : t < To.2 3 + 1 := y
    show upz (M.1 1) (M.2 0) far t = upz (To.1 0) (To.2 3) far t
    rw [d1.1.1]
    by_cases e : t = To.2 3
    · rw [e, upz_self, upz_self]
    · rw [upz_ne _ _ e, upz_ne _ _ e]; exact d1.1.2.2.1 t x (by omega)
  · show upz (M.1 31) (M.2 0) wat t = upz (A.1 4) (To.2 3) wat t ∧ _
    refine ⟨?_, (d2.2.2.1 t x y).2⟩
    rw [d1.1.1]
    by_cases e : t = To.2 3
    · rw [e, upz_self, upz_self]
    · rw [upz_ne _ _ e, upz_ne _ _ e]; exact (d2.2.2.1 t x y).1
theorem s_path {w : Int} (hA : LgA To Ne Cr) (hC : LgC To Ne Cr U Nqu Squ F Nqt A Cq) (hD : LgD To Ne Cr A M C) (hok : 1 ≤ w ∧ w ≤ 100) : LgA (To.1, (upf To.2 2 w)) Ne Cr ∧ LgC (To.1, (upf To.2 2 w)) Ne Cr U Nqu Squ F Nqt A Cq ∧ LgD (To.1, (upf To.2 2 w)) Ne Cr A (M.1, (upf M.2 3 w)) C := by
  obtain ⟨a1, a2, a3, a4, a5, a6, a7⟩ := hA
  obtain ⟨c1, c2, c3, c4⟩ := hC
  obtain ⟨d1, d2, d3, d4⟩ := hD
  exact ⟨⟨a1, a2, a3, ⟨hok, a4.2⟩, a5, a6, a7⟩, ⟨c1, c2, c3, foi_to (To := To) rfl c4⟩, ⟨⟨⟨d1.1.1, rfl, d1.1.2.2⟩, d1.2⟩, d2, d3, d4⟩⟩
theorem s_clouds {t0 pa : Int} (hA : LgA To Ne Cr) (hC : LgC To Ne Cr U Nqu Squ F Nqt A Cq) (hD : LgD To Ne Cr A M C) (hok : (0 ≤ t0 ∧ t0 < To.2 3) ∧ (0 ≤ pa ∧ pa ≤ 100)) : LgA ((upf To.1 1 (upz (To.1 1) t0 pa)), To.2) Ne Cr ∧ LgC ((upf To.1 1 (upz (To.1 1) t0 pa)), To.2) Ne Cr U Nqu Squ F Nqt A Cq ∧ LgD ((upf To.1 1 (upz (To.1 1) t0 pa)), To.2) Ne Cr A ((upf M.1 2 (upz (M.1 2) t0 pa)), M.2) C := by
  obtain ⟨a1, a2, a3, a4, a5, a6, a7⟩ := hA
  obtain ⟨c1, c2, c3, c4⟩ := hC
  obtain ⟨d1, d2, d3, d4⟩ := hD
  have q : ∀ t : Int, 0 ≤ t → t < 10 → 0 ≤ upz (To.1 1) t0 pa t ∧ upz (To.1 1) t0 pa t ≤ 100 := by
    intro t x y
    by_cases e : t = t0
    · rw [e, upz_self]; exact hok.2
    · rw [upz_ne _ _ e]; exact a5 t x y
  refine ⟨⟨a1, a2, a3, ⟨a4.1, fun t x y => ⟨(a4.2 t x y).1, q t x (Int.lt_of_lt_of_le y a3.2)⟩⟩, q, a6, a7⟩, ⟨c1, c2, c3, foi_to (To := To) rfl c4⟩, ⟨⟨⟨d1.1.1, d1.1.2.1, d1.1.2.2.1, fun t x y => ?_⟩, d1.2⟩, d2, d3, d4⟩⟩
  show upz (M.1 2) t0 pa t = upz (To.1 1) t0 pa t
  by_cases e : t = t0
  · rw [e, upz_self, upz_self]
  · rw [upz_ne _ _ e, upz_ne _ _ e]; exact d1.1.2.2.2 t x y
theorem s_hold {cw hr : Int} (hA : LgA To Ne Cr) (hB : LgB Ne Cr A) (hC : LgC To Ne Cr U Nqu Squ F Nqt A Cq) (hD : LgD To Ne Cr A M C) (hok : (0 ≤ cw ∧ cw < Cr.2 3) ∧ ¬ A.1 0 cw < A.2.1 0 ∧ (A.2.1 0 ≤ hr ∧ hr ≤ 199)) : LgB Ne Cr (aI A 0 (upz (A.1 0) cw hr)) ∧ LgC To Ne Cr ((upf U.1 5 (upz (U.1 5) cw hr)), U.2) Nqu Squ (F.1, (upf (upf F.2 5 0) 8 0)) Nqt (aI A 0 (upz (A.1 0) cw hr)) Cq ∧ LgD To Ne Cr (aI A 0 (upz (A.1 0) cw hr)) ((upf M.1 16 (upz (M.1 16) cw hr)), M.2) C := by
  obtain ⟨b1, b2, b3, b4, b5, b6⟩ := hB
  obtain ⟨c1, c2, c3, c4⟩ := hC
  obtain ⟨d1, d2, d3, d4⟩ := hD
  obtain ⟨t1, t2, t3, t4, t5, t6⟩ := c1
  have hnw := b1.2.1
  refine ⟨⟨⟨b1.1, b1.2.1, fun c x y => ?_, b1.2.2.2⟩, b2, b3, b4, fun c x y => ?_, fun z c x y => ?_⟩, ⟨⟨t1, t2, fun c x y => ?_, t4, t5, t6⟩, c2, c3, foi_0⟩, ⟨d1, ⟨d2.1, fun c x y => ?_, d2.2.2⟩, d3, d4⟩⟩
  · have g := b1.2.2.1 c x y
    show (0 ≤ upz (A.1 0) cw hr c ∧ upz (A.1 0) cw hr c ≤ 300) ∧ (A.1 1 c = 1 ↔ upz (A.1 0) cw hr c < A.2.1 0)
    by_cases e : c = cw
    · subst e
      rw [upz_self]
      refine ⟨by omega, ?_⟩
      have := g.2
      constructor
      · intro q; exact absurd (this.mp q) hok.2.1
      · intro q; omega
    · rw [upz_ne _ _ e]; exact g
  · show upz (A.1 0) cw hr c ≤ 199
    by_cases e : c = cw
    · rw [e, upz_self]; omega
    · rw [upz_ne _ _ e]; exact b5 c x y
  · show upz (A.1 0) cw hr c = 0 ∧ _
    rw [upz_ne _ _ (by omega)]; exact b6 z c x y
  · have g := t3 c x y
    refine ⟨?_, g.2⟩
    show upz (U.1 5) cw hr c = upz (A.1 0) cw hr c
    by_cases e : c = cw
    · rw [e, upz_self, upz_self]
    · rw [upz_ne _ _ e, upz_ne _ _ e]; exact g.1
  · show upz (M.1 16) cw hr c = upz (A.1 0) cw hr c
    by_cases e : c = cw
    · rw [e, upz_self, upz_self]
    · rw [upz_ne _ _ e, upz_ne _ _ e]; exact d2.2.1 c x y
theorem s_shut {rd fr tt : Int} (hA : LgA To Ne Cr) (hB : LgB Ne Cr A) (hC : LgC To Ne Cr U Nqu Squ F Nqt A Cq) (hD : LgD To Ne Cr A M C) (hz1 : fr < 2147483648) (hz2 : tt < 2147483648) (hok : (0 ≤ rd ∧ rd < Ne.2 8) ∧ A.2.1 0 ≤ fr ∧ fr < tt) : LgA To ((upf (upf Ne.1 4 (upz (Ne.1 4) rd fr)) 5 (upz (Ne.1 5) rd tt)), Ne.2) Cr ∧ LgB ((upf (upf Ne.1 4 (upz (Ne.1 4) rd fr)) 5 (upz (Ne.1 5) rd tt)), Ne.2) Cr A ∧ LgC To ((upf (upf Ne.1 4 (upz (Ne.1 4) rd fr)) 5 (upz (Ne.1 5) rd tt)), Ne.2) Cr U Nqu Squ (F.1, (upf (upf F.2 5 0) 8 0)) Nqt A Cq ∧ LgD To ((upf (upf Ne.1 4 (upz (Ne.1 4) rd fr)) 5 (upz (Ne.1 5) rd tt)), Ne.2) Cr A ((upf (upf M.1 9 (upz (M.1 9) rd fr)) 10 (upz (M.1 10) rd tt)), M.2) C := by
  obtain ⟨a1, a2, a3, a4, a5, a6, a7, a8⟩ := hA
  obtain ⟨c1, c2, c3, c4⟩ := hC
  obtain ⟨d1, d2, d3, d4⟩ := hD
  have hnw := hB.1.2.1
  have hsh : ∀ r : Int, 0 ≤ r → r < 16 → (0 ≤ upz (Ne.1 4) rd fr r ∧ upz (Ne.1 4) rd fr r < 2147483648) ∧ (0 ≤ upz (Ne.1 5) rd tt r ∧ upz (Ne.1 5) rd tt r < 2147483648) := by
    intro r x y
    by_cases e : r = rd
    · rw [e, upz_self, upz_self]; omega
    · rw [upz_ne _ _ e, upz_ne _ _ e]; exact a8 r x y
  refine ⟨⟨⟨a1.1, a1.2.1, fun r x y => ?_, a1.2.2.2⟩, a2, a3, a4, a5, a6, a7, hsh⟩, hB, ⟨c1, c2, c3, foi_0⟩, ⟨⟨d1.1, ⟨d1.2.1.1, d1.2.1.2.1, fun r x y => ?_, d1.2.1.2.2.2⟩, d1.2.2⟩, d2, d3, d4⟩⟩
  · have g := a1.2.2.1 r x y
    exact ⟨g.1, g.2.1, g.2.2.1, g.2.2.2.1, hsh r x (Int.lt_of_lt_of_le y a1.1.2)⟩
  · show upz (M.1 9) rd fr r = upz (Ne.1 4) rd fr r ∧ upz (M.1 10) rd tt r = upz (Ne.1 5) rd tt r
    have g := d1.2.1.2.2.1 r x y
    by_cases e : r = rd
    · rw [e, upz_self, upz_self, upz_self, upz_self]; exact ⟨rfl, rfl⟩
    · rw [upz_ne _ _ e, upz_ne _ _ e, upz_ne _ _ e, upz_ne _ _ e]; exact g
end St

