/-! ===== answers alike ===== -/
theorem smI_congr2 {f g : Int → Int} {a : Int} : ∀ {n : Nat}, (∀ j : Int, a ≤ j → j < a + n → f j = g j) → smI f a n = smI g a n
  | 0, _ => rfl
  | n + 1, h => by
    show smI f a n + f (a + (n : Int)) = smI g a n + g (a + (n : Int))
    rw [smI_congr2 (fun j x y => h j x (by omega)), h (a + (n : Int)) (by omega) (by omega)]
theorem bd_same (S : Bd) (k : Nat) : ((upf S.1 k (S.1 k)), S.2) = S := by
  refine Prod.ext (funext fun j => ?_) rfl
  show upf S.1 k (S.1 k) j = S.1 j
  rw [upf_eq]
  by_cases e : j = k
  · rw [if_pos e, e]
  · rw [if_neg e]
theorem m11_iff {Ne M : Bd} (hm : (∀ k : Int, 0 ≤ k → k < 100 → 0 ≤ M.1 11 k ∧ M.1 11 k ≤ 10000) ∧ ∀ i j : Int, 0 ≤ i → i < 10 → 0 ≤ j → j < 10 → (if M.1 11 (10 * i + j) = 10000 then -1 else M.1 11 (10 * i + j)) = Ne.1 6 (i * 10 + j)) {i j : Int} (i1 : 0 ≤ i) (i2 : i < 10) (j1 : 0 ≤ j) (j2 : j < 10) : M.1 11 (10 * i + j) = 10000 ↔ Ne.1 6 (i * 10 + j) = -1 := by
  have a := hm.1 (10 * i + j) (by omega) (by omega)
  have b := hm.2 i j i1 i2 j1 j2
  by_cases z : M.1 11 (10 * i + j) = 10000
  · rw [if_pos z] at b; omega
  · rw [if_neg z] at b; omega
theorem q_len {Ne Cr : Bd} {B : Nat} {T : Bd} {Nq : Nat} {Sq : Bd} {Cq : Int → List Pt3} {A : Ab} (h : TrR Ne Cr B T Nq Sq Cq A) {r : Int} (hr : 0 ≤ r ∧ r < 16) : Sq.1 2 r = ((A.2.2.1 r).length : Int) ∧ Sq.1 2 (16 + r) = ((A.2.2.2 r).length : Int) := by
  have g := h.2.1 r hr.1 hr.2
  have h1 : 0 ≤ r ∧ r < 32 := by omega
  have h2 : 0 ≤ 16 + r ∧ 16 + r < 32 := by omega
  rw [lo_sum h.1 h1, lo_sum h.1 h2, csum_fq _ (lo_pos h.1 h1), csum_fd _ (lo_pos h.1 h2), g.1, g.2.1]
  exact ⟨rfl, rfl⟩
theorem plan_eq {Cr : Bd} {A : Ab} {cw v w best : Int} (hc : 0 ≤ Cr.2 3)
    (hv : ((0 ≤ cw ∧ cw < Cr.2 3) ∧ ((∃ i : Int, (0 ≤ i ∧ i < ((wlA Cr A).length : Int)) ∧ (wlA Cr A).getD i.toNat 0 = cw ∧ (0 < (wlA Cr A).length ∧ (wlA Cr A).length ≤ 4) ∧ v = A.2.1 0 + stp (wlA Cr A).length best i) ∨ (v = -1 ∧ (((wlA Cr A).length = 0 ∨ 4 < (wlA Cr A).length) ∨ ∀ i : Int, 0 ≤ i → i < ((wlA Cr A).length : Int) → (wlA Cr A).getD i.toNat 0 ≠ cw)))) ∨ (¬ (0 ≤ cw ∧ cw < Cr.2 3) ∧ v = -1))
    (hw : (∃ i : Int, (0 ≤ i ∧ i < ((wlA Cr A).length : Int)) ∧ (wlA Cr A).getD i.toNat 0 = cw ∧ (0 < (wlA Cr A).length ∧ (wlA Cr A).length ≤ 4) ∧ w = A.2.1 0 + stp (wlA Cr A).length best i) ∨ (w = -1 ∧ (((wlA Cr A).length = 0 ∨ 4 < (wlA Cr A).length) ∨ ∀ i : Int, 0 ≤ i → i < ((wlA Cr A).length : Int) → (wlA Cr A).getD i.toNat 0 ≠ cw))) : v = w := by
  have inj : ∀ i j : Int, (0 ≤ i ∧ i < ((wlA Cr A).length : Int)) → (0 ≤ j ∧ j < ((wlA Cr A).length : Int)) → (wlA Cr A).getD i.toNat 0 = cw → (wlA Cr A).getD j.toNat 0 = cw → i = j := by
    intro i j hi hj e1 e2
    unfold wlA at hi hj e1 e2
    exact wl_inj hi hj (e1.trans e2.symm)
  rcases hv with ⟨-, h | h⟩ | h
  · obtain ⟨i, i1, i2, i3, i4⟩ := h
    rcases hw with ⟨j, j1, j2, j3, j4⟩ | ⟨j1, j2⟩
    · rw [i4, j4, inj i j i1 j1 i2 j2]
    · rcases j2 with z | z
      · omega
      · exact absurd i2 (z i i1.1 i1.2)
  · rcases hw with ⟨j, j1, j2, j3, j4⟩ | ⟨j1, j2⟩
    · rcases h.2 with z | z
      · omega
      · exact absurd j2 (z j j1.1 j1.2)
    · rw [h.1, j1]
  · rcases hw with ⟨j, j1, j2, j3, j4⟩ | ⟨j1, j2⟩
    · have := wlA_mem (Cr := Cr) (A := A) hc j1.1 j1.2
      rw [j2] at this
      exact absurd ⟨this.1, this.2.1⟩ h.1
    · rw [h.2, j1]
theorem came_eq {Ne M : Bd} {Lg : Nat → Bd} {now rd fr tt : Int} (h : LR Ne M Lg now) (hr : 0 ≤ rd ∧ rd < Ne.2 8) (h7 : M.1 7 rd = Ne.1 2 rd) (hf : 0 ≤ fr ∧ fr ≤ tt ∧ tt < now ∧ tt < 200) :
    smI (fun j => if (Lg rd.toNat).1 2 j = -1 then 0 else (Lg rd.toNat).1 2 j) fr (tt + 1 - fr).toNat = smI (fun j => if M.1 17 (200 * rd + j) ≠ -1 then M.1 17 (200 * rd + j) else if (0 : Int) = 1 ∧ M.1 19 (200 * rd + j) = 0 then M.1 7 rd else 0) fr (tt + 1 - fr).toNat ∧ smI (fun j => if (Lg rd.toNat).1 2 j = -1 then (Lg rd.toNat).1 1 j else (Lg rd.toNat).1 2 j) fr (tt + 1 - fr).toNat = smI (fun j => if M.1 17 (200 * rd + j) ≠ -1 then M.1 17 (200 * rd + j) else if (1 : Int) = 1 ∧ M.1 19 (200 * rd + j) = 0 then M.1 7 rd else 0) fr (tt + 1 - fr).toNat := by
  have e : ((rd.toNat : Nat) : Int) = rd := by omega
  refine ⟨smI_congr2 (fun j x y => ?_), smI_congr2 (fun j x y => ?_)⟩
  · have g := h.2 rd.toNat j (by omega) (by omega) (by omega)
    rw [e] at g
    show (if (Lg rd.toNat).1 2 j = -1 then 0 else (Lg rd.toNat).1 2 j) = (if M.1 17 (200 * rd + j) ≠ -1 then M.1 17 (200 * rd + j) else if (0 : Int) = 1 ∧ M.1 19 (200 * rd + j) = 0 then M.1 7 rd else 0)
    rw [g.1]
    by_cases z : (Lg rd.toNat).1 2 j = -1
    · rw [if_pos z, if_neg (fun q => q z), if_neg (by omega)]
    · rw [if_neg z, if_pos z]
  · have g := h.2 rd.toNat j (by omega) (by omega) (by omega)
    rw [e] at g
    show (if (Lg rd.toNat).1 2 j = -1 then (Lg rd.toNat).1 1 j else (Lg rd.toNat).1 2 j) = (if M.1 17 (200 * rd + j) ≠ -1 then M.1 17 (200 * rd + j) else if (1 : Int) = 1 ∧ M.1 19 (200 * rd + j) = 0 then M.1 7 rd else 0)
    rw [g.1, (g.2 (by omega)).2, h7]
    by_cases z : (Lg rd.toNat).1 2 j = -1
    · rw [if_pos z, if_neg (show ¬ ((Lg rd.toNat).1 2 j ≠ -1) from fun q => q z)]
      by_cases y : M.1 19 (200 * rd + j) = 0
      · rw [if_pos y, if_pos ⟨rfl, y⟩]
      · rw [if_neg y, if_neg (fun q => y q.2)]
    · rw [if_neg z, if_pos z]
theorem goK_le {n now : Int} (h : now ≤ 200) : now + (goK n now : Int) ≤ 200 := by
  unfold goK
  split <;> omega
theorem told_eq {Ne Cr : Bd} {B : Nat} {T : Bd} {Nq : Nat} {Sq : Bd} {Cq : Int → List Pt3} {A : Ab} (h : TrR Ne Cr B T Nq Sq Cq A) (hok : AOK Ne Cr A) {c : Int} (hc : 0 ≤ c ∧ c < Cr.2 3 ∧ Cr.2 3 ≤ 8) (what : Int) : toldU Cr T c what = (if what = 0 then Cr.1 0 c else if what = 1 then Cr.1 1 c else if what = 2 then Cr.1 2 c else if what = 3 then A.1 0 c else if what = 4 then A.1 2 c else if what = 5 then A.1 3 c else -1) := by
  have g := h.2.2.1 c hc.1 (by omega)
  have k := (hok.2 c hc.1 hc.2.1).2.2.2
  unfold toldU
  rw [g.1, g.2.1]
  have e : (if A.1 2 c = Cr.1 1 c then T.1 7 c else -1) = A.1 3 c := by
    by_cases z : A.1 2 c = Cr.1 1 c
    · rw [if_pos z]; exact g.2.2 hc.2.1 z
    · rw [if_neg z]; exact (k z).symm
  rw [e]
theorem at_eq {Ne Cr : Bd} {B : Nat} {T : Bd} {Nq : Nat} {Sq : Bd} {Cq : Int → List Pt3} {A : Ab} (h : TrR Ne Cr B T Nq Sq Cq A) {t : Int} (ht : 0 ≤ t ∧ t < 10) (what : Int) : atU T t what = (if what = 0 then A.1 4 t else if what = 1 then aAt Ne Cr A t else if what = 2 then A.1 5 t else -1) := by
  have g := h.2.2.2.1 t ht.1 ht.2
  unfold atU
  rw [g.1, g.2.1, g.2.2]
theorem count_eq {To Ne Cr : Bd} {B : Nat} {T : Bd} {Nq : Nat} {Sq : Bd} {Cq : Int → List Pt3} {A : Ab} (h : TrR Ne Cr B T Nq Sq Cq A) (hr : 0 ≤ Ne.2 8 ∧ Ne.2 8 ≤ 16) (what : Int) : countU To Ne Cr T Sq what = (if what = 0 then A.2.1 0 else if what = 1 then To.2 3 else if what = 2 then Ne.2 8 else if what = 3 then Cr.2 3 else if what = 4 then smI (A.1 2) 0 (Cr.2 3).toNat else if what = 5 then smI (fun r => ((A.2.2.1 r).length : Int)) 0 (Ne.2 8).toNat else if what = 6 then A.2.1 1 else -1) := by
  have g := h.2.2.2.2.1
  have e : smI (Sq.1 2) 0 (Ne.2 8).toNat = smI (fun r => ((A.2.2.1 r).length : Int)) 0 (Ne.2 8).toNat := smI_congr (fun j a b => (q_len h ⟨a, by omega⟩).1)
  unfold countU
  rw [g.1, g.2.1, g.2.2, e]
