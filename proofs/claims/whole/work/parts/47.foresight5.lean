/-! ===== Foresight: the plan; what it tells ===== -/
def okN (now n way : Int) : Nat → Bool
  | 0 => true
  | i + 1 => okN now n way i && decide (now + stp n way (i : Int) < 200)
theorem okN_iff {now n way : Int} : ∀ (k : Nat), okN now n way k = true ↔ ∀ i : Int, 0 ≤ i → i < k → now + stp n way i < 200
  | 0 => ⟨fun _ i a b => by omega, fun _ => rfl⟩
  | k + 1 => by
    show (okN now n way k && decide (now + stp n way (k : Int) < 200)) = true ↔ _
    rw [Bool.and_eq_true, okN_iff k, decide_eq_true_iff]
    constructor
    · intro ⟨h1, h2⟩ i a b
      by_cases e : i = (k : Int)
      · subst e; exact h2
      · exact h1 i a (by omega)
    · intro h
      exact ⟨fun i a b => h i a (by omega), h (k : Int) (by omega) (by omega)⟩
/-- the best of the ways below k: its last hour, what is waited, its number -/
def pFold (Ne Cr : Bd) (A : Ab) : Nat → Int × Int × Int
  | 0 => (200, 2147483647, 0)
  | k + 1 => if okN (A.2.1 0) (wlA Cr A).length (k : Int) (wlA Cr A).length = true ∧ (pEw Ne Cr A (k : Int) < (pFold Ne Cr A k).1 ∨ (pEw Ne Cr A (k : Int) = (pFold Ne Cr A k).1 ∧ pWw Ne Cr A (k : Int) < (pFold Ne Cr A k).2.1)) then (pEw Ne Cr A (k : Int), pWw Ne Cr A (k : Int), (k : Int)) else pFold Ne Cr A k
theorem pFold_next {Ne Cr : Bd} {A : Ab} {w : Int} (h : 0 ≤ w) : pFold Ne Cr A (w + 1).toNat = if okN (A.2.1 0) (wlA Cr A).length w (wlA Cr A).length = true ∧ (pEw Ne Cr A w < (pFold Ne Cr A w.toNat).1 ∨ (pEw Ne Cr A w = (pFold Ne Cr A w.toNat).1 ∧ pWw Ne Cr A w < (pFold Ne Cr A w.toNat).2.1)) then (pEw Ne Cr A w, pWw Ne Cr A w, w) else pFold Ne Cr A w.toNat := by
  obtain ⟨k, rfl⟩ : ∃ k : Nat, w = (k : Int) := ⟨w.toNat, by omega⟩
  rw [show ((k : Int) + 1).toNat = k + 1 by omega, show ((k : Int)).toNat = k by omega]
  rfl
def FoP (Ne Cr : Bd) (F : Bd) (A : Ab) : Prop :=
  (((wlA Cr A).length = 0 ∨ 4 < (wlA Cr A).length) ∧ F.2 9 = 0) ∨ ((0 < (wlA Cr A).length ∧ (wlA Cr A).length ≤ 4) ∧ F.2 9 = ((wlA Cr A).length : Int) ∧ (∀ i : Int, 0 ≤ i → i < F.2 9 → F.1 3 i = (wlA Cr A).getD i.toNat 0) ∧ F.2 10 = (pFold Ne Cr A (4 ^ (wlA Cr A).length)).1 ∧ F.2 11 = (pFold Ne Cr A (4 ^ (wlA Cr A).length)).2.1 ∧ ∀ i : Int, 0 ≤ i → i < F.2 9 → F.1 4 i = stp (wlA Cr A).length (pFold Ne Cr A (4 ^ (wlA Cr A).length)).2.2 i)
theorem pow_case {n : Nat} (h : 0 < n ∧ n ≤ 4) : ((2 : Int) ^ (2 * (n : Int)).toNat) = ((4 ^ n : Nat) : Int) ∧ (4 ^ n : Nat) ≤ 256 ∧ 4 ≤ (4 ^ n : Nat) := by
  have : n = 1 ∨ n = 2 ∨ n = 3 ∨ n = 4 := by omega
  rcases this with rfl | rfl | rfl | rfl <;> decide
theorem stp0 (n i : Int) : stp n 0 i = 0 := by unfold stp; rw [Int.zero_ediv]; rfl
theorem pWw_rng {Ne Cr : Bd} {A : Ab} {w : Int} (hc : Cfg Ne Cr) (h : AB Ne Cr A) (hp : AB Ne Cr (pSt Cr A w)) : -32000000 ≤ pWw Ne Cr A w ∧ pWw Ne Cr A w ≤ 32000000 := by
  have hn := h.2.1
  have e : (pSt Cr A w).2.1 0 = A.2.1 0 := rfl
  have g := (ab_hds (Ne := Ne) hc hp (200 - A.2.1 0).toNat (by rw [e]; omega)).1
  have g2 := g.2.2.2.2
  have g3 := g.2.1
  have g4 := h.2.2.2.2
  unfold pWw
  omega

def FoI (To Ne Cr : Bd) (F : Bd) (A : Ab) : Prop := (F.2 5 = 0 ∨ (F.2 5 = 1 ∧ FoV To Ne Cr F A)) ∧ (F.2 8 = 0 ∨ (F.2 8 = 1 ∧ FoP Ne Cr F A))
theorem fov_keep {To Ne Cr F F2 : Bd} {A : Ab} (h1 : F2.1 2 = F.1 2) (h2 : F2.2 6 = F.2 6) (h3 : F2.2 7 = F.2 7) (h : FoV To Ne Cr F A) : FoV To Ne Cr F2 A := by
  unfold FoV at h ⊢
  rw [h1, h2, h3]; exact h
theorem fop_keep {Ne Cr F F2 : Bd} {A : Ab} (h1 : F2.1 3 = F.1 3) (h2 : F2.1 4 = F.1 4) (h3 : F2.2 9 = F.2 9) (h4 : F2.2 10 = F.2 10) (h5 : F2.2 11 = F.2 11) (h : FoP Ne Cr F A) : FoP Ne Cr F2 A := by
  unfold FoP at h ⊢
  rw [h1, h2, h3, h4, h5]; exact h

set_option maxHeartbeats 4000000 in
set_option maxRecDepth 100000 in
theorem c_X1_hasPlan (zl : Launch) (D : va_G) (K : tyK) (h : Nat) (a : Nat → Nat) (F : Bd) (hr : -2147483648 ≤ F.2 9 ∧ F.2 9 < 2147483648) : Mz zl yX1_hasPlan cX1_hasPlan 1 (some .boolean) 0 0 0 0 D K [.ref h] (wFo K h a F) (fun r_ w2_ gc gs => ∃ (b : Int), r_ = some (vZ b) ∧ w2_ = (wFo K h a F) ∧ gc = 0 ∧ gs = 0 ∧ ((b = 1 ∧ (0 < F.2 9)) ∨ (b = 0 ∧ ¬ (0 < F.2 9)))) := by
  refine Mz.ofZ (by decide) rfl (Nat.le_of_ble_eq_true rfl) ?_
  intro zp ze zR zs zm zargs zbelow zmeth zc zA zQ ZC ZE hRf hRc hRs hRl
  refine z_aload_n ZC 0 dX1_hasPlan_0 rfl rfl ?_
  refine z_get ZC inUX1 0 rfl rfl 9 (by decide) uF_X1_35 rfl dX1_hasPlan_1 ?_
  refine z_if_le ZC 11 dX1_hasPlan_4 (by decide) (by omega) (fun c_4 => ?_) (fun c_4 => ?_)
  · skip
    refine z_iconst ZC dX1_hasPlan_11 ?_
    refine z_zret ZC ZE dX1_hasPlan_12 (by omega) (by omega) (by omega) (Nat.le_of_ble_eq_true rfl) ⟨0, rfl, rfl, by omega, by omega, ?_⟩
    · skip
      omega
  · skip
    refine z_iconst ZC dX1_hasPlan_7 ?_
    refine z_goto ZC 12 dX1_hasPlan_8 (by decide) ?_
    refine z_zret ZC ZE dX1_hasPlan_12 (by omega) (by omega) (by omega) (Nat.le_of_ble_eq_true rfl) ⟨1, rfl, rfl, by omega, by omega, ?_⟩
    · skip
      omega

set_option maxHeartbeats 4000000 in
set_option maxRecDepth 100000 in
theorem c_X1_makePlan (zl : Launch) (D : va_G) (K : tyK) (h : Nat) (a : Nat → Nat) (F : Bd) (au : Nat → Nat) (U : Bd) (aqu : Nat → Nat) (Nqu : Nat) (Squ : Bd) (ay : Nat → Nat) (V : Bd) (aqt : Nat → Nat) (Nqt : Nat) (Sqt : Bd) (an : Nat → Nat) (Ne : Bd) (ato : Nat → Nat) (To : Bd) (ac : Nat → Nat) (Cr : Bd) (B : Nat) (Cq : Int → List Pt3) (A : Ab) (hcf : Cfg Ne Cr) (hto : 0 ≤ To.2 3 ∧ To.2 3 ≤ 10) (hab : AB Ne Cr A) (hal : AL Cr A) (hac : Cr.2 4 = smI (Cr.1 1) 0 (Cr.2 3).toNat) (hT : TrR Ne Cr B U Nqu Squ Cq A) (hpb : ((lns Cq 32 : Nat) : Int) ≤ oc Cr A + 16 * A.2.1 0) (hB : 3300 ≤ B ∧ B ≤ 4000) (hpw : pw Nqt) (hpl : F.2 8 = 0 ∨ (F.2 8 = 1 ∧ FoP Ne Cr F A)) (hah : ∀ c : Int, 0 ≤ c → c < Cr.2 3 → A.1 0 c ≤ 199) : Mz zl yX1_makePlan cX1_makePlan 3 (none) 6 140 35000 350000 D K [.ref h] ((wFo K h a F) ++ (wTr K (a 0) au U) ++ (wLn K (au 3) aqu Nqu Squ) ++ (wTr K (a 1) (upf (upf (upf ay 0 (au 0)) 1 (au 1)) 2 (au 2)) V) ++ (wLn K (ay 3) aqt Nqt Sqt) ++ (wNe K (au 1) an Ne) ++ (wTo K (au 0) ato To) ++ (wCr K (au 2) ac Cr)) (fun r_ w2_ gc gs => ∃ (F2 : Bd), ∃ (V2 : Bd), ∃ (aqt2 : Nat → Nat), ∃ (Nqt2 : Nat), ∃ (Sqt2 : Bd), r_ = none ∧ w2_ = ((wFo K h a F2) ++ (wTr K (a 0) au U) ++ (wLn K (au 3) aqu Nqu Squ) ++ (wTr K (a 1) (upf (upf (upf ay 0 (au 0)) 1 (au 1)) 2 (au 2)) V2) ++ (wLn K (ay 3) aqt2 Nqt2 Sqt2) ++ (wNe K (au 1) an Ne) ++ (wTo K (au 0) ato To) ++ (wCr K (au 2) ac Cr)) ∧ (F2.2 8 = 1 ∧ FoP Ne Cr F2 A) ∧ (F2.1 2 = F.1 2 ∧ F2.2 5 = F.2 5 ∧ F2.2 6 = F.2 6 ∧ F2.2 7 = F.2 7) ∧ (pw Nqt2 ∧ Nqt ≤ Nqt2 ∧ Nqt2 ≤ 4096) ∧ (Nqt + gc ≤ Nqt2) ∧ (8 * Nqt + gs ≤ 8 * Nqt2)) := by
  refine Mz.ofZ (by decide) rfl (Nat.le_of_ble_eq_true rfl) ?_
  intro zp ze zR zs zm zargs zbelow zmeth zc zA zQ ZC ZE hRf hRc hRs hRl
  have hnw := hab.2.1
  have hpr1 := pw_rng hpw
  have hc8 := hcf.2.1
  have enow0 : U.2 12 = A.2.1 0 := hT.2.2.2.2.1.1
  have hu8 : ∀ c : Int, 0 ≤ c → c < 8 → U.1 5 c = A.1 0 c := fun c x y => (hT.2.2.1 c x y).1
  have ewl : wl (U.1 5) (U.2 12) (Cr.2 3).toNat = wlA Cr A := by
    unfold wlA
    rw [enow0]
    exact wl_congr (fun c x y => hu8 c x (by omega))
  refine z_aload_n ZC 0 dX1_makePlan_0 rfl rfl ?_
  refine z_get ZC inUX1 0 rfl rfl 8 (by decide) uF_X1_32 rfl dX1_makePlan_1 ?_
  refine z_if_eq ZC 8 dX1_makePlan_4 (by decide) (by omega) (fun c_4 => ?_) (fun c_4 => ?_)
  · skip
    refine z_aload_n ZC 0 dX1_makePlan_8 rfl rfl ?_
    refine z_iconst ZC dX1_makePlan_9 ?_
    refine z_put ZC inUX1 tyX1_ok nmX1 0 rfl rfl 8 (by decide) uF_X1_32 rfl (by decide) (by decide) (Nat.le_of_ble_eq_true rfl) dX1_makePlan_10 ?_
    refine z_aload_n ZC 0 dX1_makePlan_13 rfl rfl ?_
    refine z_ws (ws2 := [(h, .inr (1, [.ref (a 0), .ref (a 1), .ref (a 2), .ref (a 3), .ref (a 4), vZ (F.2 5), vZ (F.2 6), vZ (F.2 7), vZ 1, vZ (F.2 9), vZ (F.2 10), vZ (F.2 11)])), ((a 2), .inl (K.1, 10, .inl (ar (F.1 2)))), ((a 3), .inl (K.1, 4, .inl (ar (F.1 3)))), ((a 4), .inl (K.1, 4, .inl (ar (F.1 4)))), ((a 0), .inr (6, [.ref (au 0), .ref (au 1), .ref (au 2), .ref (au 3), .ref (au 5), .ref (au 6), .ref (au 7), .ref (au 8), .ref (au 9), .ref (au 10), .ref (au 11), vZ (U.2 12), vZ (U.2 13), vZ (U.2 14), vZ (U.2 15)])), ((au 5), .inl (K.1, 8, .inl (ar (U.1 5)))), ((au 6), .inl (K.1, 8, .inl (ar (U.1 6)))), ((au 7), .inl (K.1, 8, .inl (ar (U.1 7)))), ((au 8), .inl (K.1, 10, .inl (ar (U.1 8)))), ((au 9), .inl (K.1, 10, .inl (ar (U.1 9)))), ((au 10), .inl (K.1, 10, .inl (ar (U.1 10)))), ((au 11), .inl (K.1, 16, .inl (ar (U.1 11)))), ((au 3), .inr (2, [.ref (aqu 0), .ref (aqu 1), .ref (aqu 2), .ref (aqu 3), .ref (aqu 4), .ref (aqu 5), .ref (aqu 6), vZ (Squ.2 7), vZ (Squ.2 8)])), ((aqu 0), .inl (K.1, 32, .inl (ar (Squ.1 0)))), ((aqu 1), .inl (K.1, 32, .inl (ar (Squ.1 1)))), ((aqu 2), .inl (K.1, 32, .inl (ar (Squ.1 2)))), ((aqu 3), .inl (K.1, Nqu, .inl (ar (Squ.1 3)))), ((aqu 4), .inl (K.1, Nqu, .inl (ar (Squ.1 4)))), ((aqu 5), .inl (K.1, Nqu, .inl (ar (Squ.1 5)))), ((aqu 6), .inl (K.1, Nqu, .inl (ar (Squ.1 6)))), ((a 1), .inr (6, [.ref (au 0), .ref (au 1), .ref (au 2), .ref (ay 3), .ref (ay 5), .ref (ay 6), .ref (ay 7), .ref (ay 8), .ref (ay 9), .ref (ay 10), .ref (ay 11), vZ (V.2 12), vZ (V.2 13), vZ (V.2 14), vZ (V.2 15)])), ((ay 5), .inl (K.1, 8, .inl (ar (V.1 5)))), ((ay 6), .inl (K.1, 8, .inl (ar (V.1 6)))), ((ay 7), .inl (K.1, 8, .inl (ar (V.1 7)))), ((ay 8), .inl (K.1, 10, .inl (ar (V.1 8)))), ((ay 9), .inl (K.1, 10, .inl (ar (V.1 9)))), ((ay 10), .inl (K.1, 10, .inl (ar (V.1 10)))), ((ay 11), .inl (K.1, 16, .inl (ar (V.1 11)))), ((ay 3), .inr (2, [.ref (aqt 0), .ref (aqt 1), .ref (aqt 2), .ref (aqt 3), .ref (aqt 4), .ref (aqt 5), .ref (aqt 6), vZ (Sqt.2 7), vZ (Sqt.2 8)])), ((aqt 0), .inl (K.1, 32, .inl (ar (Sqt.1 0)))), ((aqt 1), .inl (K.1, 32, .inl (ar (Sqt.1 1)))), ((aqt 2), .inl (K.1, 32, .inl (ar (Sqt.1 2)))), ((aqt 3), .inl (K.1, Nqt, .inl (ar (Sqt.1 3)))), ((aqt 4), .inl (K.1, Nqt, .inl (ar (Sqt.1 4)))), ((aqt 5), .inl (K.1, Nqt, .inl (ar (Sqt.1 5)))), ((aqt 6), .inl (K.1, Nqt, .inl (ar (Sqt.1 6)))), ((au 1), .inr (4, [.ref (an 0), .ref (an 1), .ref (an 2), .ref (an 3), .ref (an 4), .ref (an 5), .ref (an 6), .ref (an 7), vZ (Ne.2 8)])), ((an 0), .inl (K.1, 16, .inl (ar (Ne.1 0)))), ((an 1), .inl (K.1, 16, .inl (ar (Ne.1 1)))), ((an 2), .inl (K.1, 16, .inl (ar (Ne.1 2)))), ((an 3), .inl (K.1, 16, .inl (ar (Ne.1 3)))), ((an 4), .inl (K.1, 16, .inl (ar (Ne.1 4)))), ((an 5), .inl (K.1, 16, .inl (ar (Ne.1 5)))), ((an 6), .inl (K.1, 100, .inl (ar (Ne.1 6)))), ((an 7), .inl (K.1, 100, .inl (ar (Ne.1 7)))), ((au 0), .inr (5, [.ref (ato 0), .ref (ato 1), vZ (To.2 2), vZ (To.2 3)])), ((ato 0), .inl (K.1, 10, .inl (ar (To.1 0)))), ((ato 1), .inl (K.1, 10, .inl (ar (To.1 1)))), ((au 2), .inr (0, [.ref (ac 0), .ref (ac 1), .ref (ac 2), vZ (Cr.2 3), vZ (Cr.2 4)])), ((ac 0), .inl (K.1, 8, .inl (ar (Cr.1 0)))), ((ac 1), .inl (K.1, 8, .inl (ar (Cr.1 1)))), ((ac 2), .inl (K.1, 8, .inl (ar (Cr.1 2))))]) rfl ?_
    have hy_hc_14_0 : 0 ≤ Cr.2 3 ∧ Cr.2 3 ≤ 8 := hc8
    have hy_hu_14_0 : ∀ c : Int, 0 ≤ c → c < Cr.2 3 → 0 ≤ U.1 5 c ∧ U.1 5 c ≤ 300 := fun c x y => by rw [hu8 c x (by omega)]; exact (hab.2.2.1 c x y).1
    have hy_hn_14_0 : 0 ≤ U.2 12 ∧ U.2 12 ≤ 200 := by omega
    refine z_callV ZC 0 (c_X1_findWaiting zl D K h a (F.1, (upf F.2 8 1)) au U ac Cr (hy_hc_14_0) (hy_hu_14_0) (hy_hn_14_0)) (gdV uM_X1_76 uI_X1_findWaiting uS_X1_findWaiting uN_X1 uC_X1_findWaiting) (by decide +kernel) rfl ⟨by omega, by omega⟩ ⟨by omega, by omega⟩ (Nat.le_of_ble_eq_true rfl) [0, 1, 2, 3, 4, 5, 6, 7, 8, 9, 10, 11, 48, 49, 50, 51] rfl (by decide) rfl rfl rfl rfl dX1_makePlan_14 (fun r w2 gc_14 gs_14 hp => ?_)
    obtain ⟨Wa_14, n_14, rfl, rfl, rfl, rfl, hw_14⟩ := hp
    have hw_14 : (4 < (wl (U.1 5) (U.2 12) (Cr.2 3).toNat).length ∧ n_14 = 0) ∨ ((wl (U.1 5) (U.2 12) (Cr.2 3).toNat).length ≤ 4 ∧ n_14 = (wl (U.1 5) (U.2 12) (Cr.2 3).toNat).length ∧ ∀ i : Int, 0 ≤ i → i < n_14 → Wa_14 i = (wl (U.1 5) (U.2 12) (Cr.2 3).toNat).getD i.toNat 0) := hw_14
    refine z_ws (ws2 := [(h, .inr (1, [.ref (a 0), .ref (a 1), .ref (a 2), .ref (a 3), .ref (a 4), vZ (F.2 5), vZ (F.2 6), vZ (F.2 7), vZ 1, vZ n_14, vZ (F.2 10), vZ (F.2 11)])), ((a 2), .inl (K.1, 10, .inl (ar (F.1 2)))), ((a 3), .inl (K.1, 4, .inl (ar Wa_14))), ((a 4), .inl (K.1, 4, .inl (ar (F.1 4)))), ((a 0), .inr (6, [.ref (au 0), .ref (au 1), .ref (au 2), .ref (au 3), .ref (au 5), .ref (au 6), .ref (au 7), .ref (au 8), .ref (au 9), .ref (au 10), .ref (au 11), vZ (U.2 12), vZ (U.2 13), vZ (U.2 14), vZ (U.2 15)])), ((au 5), .inl (K.1, 8, .inl (ar (U.1 5)))), ((au 6), .inl (K.1, 8, .inl (ar (U.1 6)))), ((au 7), .inl (K.1, 8, .inl (ar (U.1 7)))), ((au 8), .inl (K.1, 10, .inl (ar (U.1 8)))), ((au 9), .inl (K.1, 10, .inl (ar (U.1 9)))), ((au 10), .inl (K.1, 10, .inl (ar (U.1 10)))), ((au 11), .inl (K.1, 16, .inl (ar (U.1 11)))), ((au 3), .inr (2, [.ref (aqu 0), .ref (aqu 1), .ref (aqu 2), .ref (aqu 3), .ref (aqu 4), .ref (aqu 5), .ref (aqu 6), vZ (Squ.2 7), vZ (Squ.2 8)])), ((aqu 0), .inl (K.1, 32, .inl (ar (Squ.1 0)))), ((aqu 1), .inl (K.1, 32, .inl (ar (Squ.1 1)))), ((aqu 2), .inl (K.1, 32, .inl (ar (Squ.1 2)))), ((aqu 3), .inl (K.1, Nqu, .inl (ar (Squ.1 3)))), ((aqu 4), .inl (K.1, Nqu, .inl (ar (Squ.1 4)))), ((aqu 5), .inl (K.1, Nqu, .inl (ar (Squ.1 5)))), ((aqu 6), .inl (K.1, Nqu, .inl (ar (Squ.1 6)))), ((a 1), .inr (6, [.ref (au 0), .ref (au 1), .ref (au 2), .ref (ay 3), .ref (ay 5), .ref (ay 6), .ref (ay 7), .ref (ay 8), .ref (ay 9), .ref (ay 10), .ref (ay 11), vZ (V.2 12), vZ (V.2 13), vZ (V.2 14), vZ (V.2 15)])), ((ay 5), .inl (K.1, 8, .inl (ar (V.1 5)))), ((ay 6), .inl (K.1, 8, .inl (ar (V.1 6)))), ((ay 7), .inl (K.1, 8, .inl (ar (V.1 7)))), ((ay 8), .inl (K.1, 10, .inl (ar (V.1 8)))), ((ay 9), .inl (K.1, 10, .inl (ar (V.1 9)))), ((ay 10), .inl (K.1, 10, .inl (ar (V.1 10)))), ((ay 11), .inl (K.1, 16, .inl (ar (V.1 11)))), ((ay 3), .inr (2, [.ref (aqt 0), .ref (aqt 1), .ref (aqt 2), .ref (aqt 3), .ref (aqt 4), .ref (aqt 5), .ref (aqt 6), vZ (Sqt.2 7), vZ (Sqt.2 8)])), ((aqt 0), .inl (K.1, 32, .inl (ar (Sqt.1 0)))), ((aqt 1), .inl (K.1, 32, .inl (ar (Sqt.1 1)))), ((aqt 2), .inl (K.1, 32, .inl (ar (Sqt.1 2)))), ((aqt 3), .inl (K.1, Nqt, .inl (ar (Sqt.1 3)))), ((aqt 4), .inl (K.1, Nqt, .inl (ar (Sqt.1 4)))), ((aqt 5), .inl (K.1, Nqt, .inl (ar (Sqt.1 5)))), ((aqt 6), .inl (K.1, Nqt, .inl (ar (Sqt.1 6)))), ((au 1), .inr (4, [.ref (an 0), .ref (an 1), .ref (an 2), .ref (an 3), .ref (an 4), .ref (an 5), .ref (an 6), .ref (an 7), vZ (Ne.2 8)])), ((an 0), .inl (K.1, 16, .inl (ar (Ne.1 0)))), ((an 1), .inl (K.1, 16, .inl (ar (Ne.1 1)))), ((an 2), .inl (K.1, 16, .inl (ar (Ne.1 2)))), ((an 3), .inl (K.1, 16, .inl (ar (Ne.1 3)))), ((an 4), .inl (K.1, 16, .inl (ar (Ne.1 4)))), ((an 5), .inl (K.1, 16, .inl (ar (Ne.1 5)))), ((an 6), .inl (K.1, 100, .inl (ar (Ne.1 6)))), ((an 7), .inl (K.1, 100, .inl (ar (Ne.1 7)))), ((au 0), .inr (5, [.ref (ato 0), .ref (ato 1), vZ (To.2 2), vZ (To.2 3)])), ((ato 0), .inl (K.1, 10, .inl (ar (To.1 0)))), ((ato 1), .inl (K.1, 10, .inl (ar (To.1 1)))), ((au 2), .inr (0, [.ref (ac 0), .ref (ac 1), .ref (ac 2), vZ (Cr.2 3), vZ (Cr.2 4)])), ((ac 0), .inl (K.1, 8, .inl (ar (Cr.1 0)))), ((ac 1), .inl (K.1, 8, .inl (ar (Cr.1 1)))), ((ac 2), .inl (K.1, 8, .inl (ar (Cr.1 2))))]) rfl ?_
    refine z_st (st2 := []) rfl ?_
    rw [ewl] at hw_14
    refine z_aload_n ZC 0 dX1_makePlan_17 rfl rfl ?_
    have hy_hr_18_0 : -2147483648 ≤ n_14 ∧ n_14 < 2147483648 := by rcases hw_14 with z | z <;> omega
    refine z_callV ZC 0 (c_X1_hasPlan zl D K h a ((upf F.1 3 Wa_14), (upf (upf F.2 8 1) 9 n_14)) (hy_hr_18_0)) (gdV uM_X1_79 uI_X1_hasPlan uS_X1_hasPlan uN_X1 uC_X1_hasPlan) (by decide +kernel) rfl ⟨by omega, by omega⟩ ⟨by omega, by omega⟩ (Nat.le_of_ble_eq_true rfl) [0, 1, 2, 3] rfl (by decide) rfl rfl rfl rfl dX1_makePlan_18 (fun r w2 gc_18 gs_18 hp => ?_)
    obtain ⟨b_18, rfl, rfl, rfl, rfl, hb_18⟩ := hp
    have hb_18 : (b_18 = 1 ∧ (0 < n_14)) ∨ (b_18 = 0 ∧ ¬ (0 < n_14)) := hb_18
    refine z_top (y := b_18) rfl ?_
    refine z_ws (ws2 := [(h, .inr (1, [.ref (a 0), .ref (a 1), .ref (a 2), .ref (a 3), .ref (a 4), vZ (F.2 5), vZ (F.2 6), vZ (F.2 7), vZ 1, vZ n_14, vZ (F.2 10), vZ (F.2 11)])), ((a 2), .inl (K.1, 10, .inl (ar (F.1 2)))), ((a 3), .inl (K.1, 4, .inl (ar Wa_14))), ((a 4), .inl (K.1, 4, .inl (ar (F.1 4)))), ((a 0), .inr (6, [.ref (au 0), .ref (au 1), .ref (au 2), .ref (au 3), .ref (au 5), .ref (au 6), .ref (au 7), .ref (au 8), .ref (au 9), .ref (au 10), .ref (au 11), vZ (U.2 12), vZ (U.2 13), vZ (U.2 14), vZ (U.2 15)])), ((au 5), .inl (K.1, 8, .inl (ar (U.1 5)))), ((au 6), .inl (K.1, 8, .inl (ar (U.1 6)))), ((au 7), .inl (K.1, 8, .inl (ar (U.1 7)))), ((au 8), .inl (K.1, 10, .inl (ar (U.1 8)))), ((au 9), .inl (K.1, 10, .inl (ar (U.1 9)))), ((au 10), .inl (K.1, 10, .inl (ar (U.1 10)))), ((au 11), .inl (K.1, 16, .inl (ar (U.1 11)))), ((au 3), .inr (2, [.ref (aqu 0), .ref (aqu 1), .ref (aqu 2), .ref (aqu 3), .ref (aqu 4), .ref (aqu 5), .ref (aqu 6), vZ (Squ.2 7), vZ (Squ.2 8)])), ((aqu 0), .inl (K.1, 32, .inl (ar (Squ.1 0)))), ((aqu 1), .inl (K.1, 32, .inl (ar (Squ.1 1)))), ((aqu 2), .inl (K.1, 32, .inl (ar (Squ.1 2)))), ((aqu 3), .inl (K.1, Nqu, .inl (ar (Squ.1 3)))), ((aqu 4), .inl (K.1, Nqu, .inl (ar (Squ.1 4)))), ((aqu 5), .inl (K.1, Nqu, .inl (ar (Squ.1 5)))), ((aqu 6), .inl (K.1, Nqu, .inl (ar (Squ.1 6)))), ((a 1), .inr (6, [.ref (au 0), .ref (au 1), .ref (au 2), .ref (ay 3), .ref (ay 5), .ref (ay 6), .ref (ay 7), .ref (ay 8), .ref (ay 9), .ref (ay 10), .ref (ay 11), vZ (V.2 12), vZ (V.2 13), vZ (V.2 14), vZ (V.2 15)])), ((ay 5), .inl (K.1, 8, .inl (ar (V.1 5)))), ((ay 6), .inl (K.1, 8, .inl (ar (V.1 6)))), ((ay 7), .inl (K.1, 8, .inl (ar (V.1 7)))), ((ay 8), .inl (K.1, 10, .inl (ar (V.1 8)))), ((ay 9), .inl (K.1, 10, .inl (ar (V.1 9)))), ((ay 10), .inl (K.1, 10, .inl (ar (V.1 10)))), ((ay 11), .inl (K.1, 16, .inl (ar (V.1 11)))), ((ay 3), .inr (2, [.ref (aqt 0), .ref (aqt 1), .ref (aqt 2), .ref (aqt 3), .ref (aqt 4), .ref (aqt 5), .ref (aqt 6), vZ (Sqt.2 7), vZ (Sqt.2 8)])), ((aqt 0), .inl (K.1, 32, .inl (ar (Sqt.1 0)))), ((aqt 1), .inl (K.1, 32, .inl (ar (Sqt.1 1)))), ((aqt 2), .inl (K.1, 32, .inl (ar (Sqt.1 2)))), ((aqt 3), .inl (K.1, Nqt, .inl (ar (Sqt.1 3)))), ((aqt 4), .inl (K.1, Nqt, .inl (ar (Sqt.1 4)))), ((aqt 5), .inl (K.1, Nqt, .inl (ar (Sqt.1 5)))), ((aqt 6), .inl (K.1, Nqt, .inl (ar (Sqt.1 6)))), ((au 1), .inr (4, [.ref (an 0), .ref (an 1), .ref (an 2), .ref (an 3), .ref (an 4), .ref (an 5), .ref (an 6), .ref (an 7), vZ (Ne.2 8)])), ((an 0), .inl (K.1, 16, .inl (ar (Ne.1 0)))), ((an 1), .inl (K.1, 16, .inl (ar (Ne.1 1)))), ((an 2), .inl (K.1, 16, .inl (ar (Ne.1 2)))), ((an 3), .inl (K.1, 16, .inl (ar (Ne.1 3)))), ((an 4), .inl (K.1, 16, .inl (ar (Ne.1 4)))), ((an 5), .inl (K.1, 16, .inl (ar (Ne.1 5)))), ((an 6), .inl (K.1, 100, .inl (ar (Ne.1 6)))), ((an 7), .inl (K.1, 100, .inl (ar (Ne.1 7)))), ((au 0), .inr (5, [.ref (ato 0), .ref (ato 1), vZ (To.2 2), vZ (To.2 3)])), ((ato 0), .inl (K.1, 10, .inl (ar (To.1 0)))), ((ato 1), .inl (K.1, 10, .inl (ar (To.1 1)))), ((au 2), .inr (0, [.ref (ac 0), .ref (ac 1), .ref (ac 2), vZ (Cr.2 3), vZ (Cr.2 4)])), ((ac 0), .inl (K.1, 8, .inl (ar (Cr.1 0)))), ((ac 1), .inl (K.1, 8, .inl (ar (Cr.1 1)))), ((ac 2), .inl (K.1, 8, .inl (ar (Cr.1 2))))]) rfl ?_
    refine z_st (st2 := [vZ b_18]) rfl ?_
    refine z_if_ne ZC 25 dX1_makePlan_21 (by decide) (by omega) (fun c_21 => ?_) (fun c_21 => ?_)
    · skip
      have hw2 : (wlA Cr A).length ≤ 4 ∧ n_14 = ((wlA Cr A).length : Int) ∧ ∀ i : Int, 0 ≤ i → i < n_14 → Wa_14 i = (wlA Cr A).getD i.toNat 0 := by
        rcases hw_14 with z | z
        · exact absurd z.2 (by omega)
        · exact z
      have hnp : 0 < n_14 ∧ n_14 ≤ 4 := by omega
      have hn2 : A.2.1 0 < 200 := by
        have g := wlA_mem (Cr := Cr) (A := A) (i := 0) hc8.1 (by omega) (by omega)
        have := hah _ g.1 g.2.1
        omega
      have hpc := pow_case (n := (wlA Cr A).length) ⟨by omega, hw2.1⟩
      refine z_aload_n ZC 0 dX1_makePlan_25 rfl rfl ?_
      refine z_sipush ZC dX1_makePlan_26 (by decide) ?_
      refine z_put ZC inUX1 tyX1_ok nmX1 0 rfl rfl 10 (by decide) uF_X1_83 rfl (rfl) (rfl) (Nat.le_of_ble_eq_true rfl) dX1_makePlan_29 ?_
      refine z_aload_n ZC 0 dX1_makePlan_32 rfl rfl ?_
      refine z_ldc ZC (n := 2147483647) dX1_makePlan_33 uJ_X1_88 (by decide) ?_
      refine z_put ZC inUX1 tyX1_ok nmX1 0 rfl rfl 11 (by decide) uF_X1_89 rfl (rfl) (rfl) (Nat.le_of_ble_eq_true rfl) dX1_makePlan_35 ?_
      refine z_iconst ZC dX1_makePlan_38 ?_
      refine z_iconst ZC dX1_makePlan_39 ?_
      refine z_aload_n ZC 0 dX1_makePlan_40 rfl rfl ?_
      refine z_get ZC inUX1 0 rfl rfl 9 (by decide) uF_X1_35 rfl dX1_makePlan_41 ?_
      refine z_imul ZC dX1_makePlan_44 ?_
      refine z_ishl1 ZC dX1_makePlan_45 (by omega) ?_
      refine z_top (y := ((4 ^ (wlA Cr A).length : Nat) : Int)) (by rw [hw2.2.1, hpc.1]) ?_
      refine z_istore_n ZC 1 dX1_makePlan_46 rfl (by decide) ?_
      refine z_iconst ZC dX1_makePlan_47 ?_
      refine z_istore_n ZC 2 dX1_makePlan_48 rfl (by decide) ?_
      have lp_49 : ∀ (n_49 : Nat) (w : Int) (F1 : Bd) (V1 : Bd) (aqt1 : Nat → Nat) (Nqt1 : Nat) (Sqt1 : Bd) (gv : Nat) (gw : Nat), (0 ≤ w ∧ w ≤ ((4 ^ (wlA Cr A).length : Nat) : Int)) → (pw Nqt1 ∧ Nqt ≤ Nqt1 ∧ Nqt1 ≤ 4096) → (Nqt + gv ≤ Nqt1 ∧ 8 * Nqt + gw ≤ 8 * Nqt1) → (F1.1 2 = F.1 2 ∧ F1.2 5 = F.2 5 ∧ F1.2 6 = F.2 6 ∧ F1.2 7 = F.2 7 ∧ F1.2 8 = 1) → (F1.2 9 = n_14 ∧ F1.1 3 = Wa_14) → (F1.2 10 = (pFold Ne Cr A w.toNat).1 ∧ F1.2 11 = (pFold Ne Cr A w.toNat).2.1) → (0 < w → ∀ i : Int, 0 ≤ i → i < n_14 → F1.1 4 i = stp (wlA Cr A).length (pFold Ne Cr A w.toNat).2.2 i) → ((0 ≤ F1.2 10 ∧ F1.2 10 ≤ 200) ∧ (-2147483648 ≤ F1.2 11 ∧ F1.2 11 < 2147483648)) → ((((4 ^ (wlA Cr A).length : Nat) : Int) - w).toNat) < n_49 → Zw zp zl ze zR zs zm zargs zbelow zmeth zc D zA 3 zQ gv gw ([(h, .inr (1, [.ref (a 0), .ref (a 1), .ref (a 2), .ref (a 3), .ref (a 4), vZ (F1.2 5), vZ (F1.2 6), vZ (F1.2 7), vZ (F1.2 8), vZ (F1.2 9), vZ (F1.2 10), vZ (F1.2 11)])), ((a 2), .inl (K.1, 10, .inl (ar (F1.1 2)))), ((a 3), .inl (K.1, 4, .inl (ar (F1.1 3)))), ((a 4), .inl (K.1, 4, .inl (ar (F1.1 4)))), ((a 0), .inr (6, [.ref (au 0), .ref (au 1), .ref (au 2), .ref (au 3), .ref (au 5), .ref (au 6), .ref (au 7), .ref (au 8), .ref (au 9), .ref (au 10), .ref (au 11), vZ (U.2 12), vZ (U.2 13), vZ (U.2 14), vZ (U.2 15)])), ((au 5), .inl (K.1, 8, .inl (ar (U.1 5)))), ((au 6), .inl (K.1, 8, .inl (ar (U.1 6)))), ((au 7), .inl (K.1, 8, .inl (ar (U.1 7)))), ((au 8), .inl (K.1, 10, .inl (ar (U.1 8)))), ((au 9), .inl (K.1, 10, .inl (ar (U.1 9)))), ((au 10), .inl (K.1, 10, .inl (ar (U.1 10)))), ((au 11), .inl (K.1, 16, .inl (ar (U.1 11)))), ((au 3), .inr (2, [.ref (aqu 0), .ref (aqu 1), .ref (aqu 2), .ref (aqu 3), .ref (aqu 4), .ref (aqu 5), .ref (aqu 6), vZ (Squ.2 7), vZ (Squ.2 8)])), ((aqu 0), .inl (K.1, 32, .inl (ar (Squ.1 0)))), ((aqu 1), .inl (K.1, 32, .inl (ar (Squ.1 1)))), ((aqu 2), .inl (K.1, 32, .inl (ar (Squ.1 2)))), ((aqu 3), .inl (K.1, Nqu, .inl (ar (Squ.1 3)))), ((aqu 4), .inl (K.1, Nqu, .inl (ar (Squ.1 4)))), ((aqu 5), .inl (K.1, Nqu, .inl (ar (Squ.1 5)))), ((aqu 6), .inl (K.1, Nqu, .inl (ar (Squ.1 6)))), ((a 1), .inr (6, [.ref (au 0), .ref (au 1), .ref (au 2), .ref (ay 3), .ref (ay 5), .ref (ay 6), .ref (ay 7), .ref (ay 8), .ref (ay 9), .ref (ay 10), .ref (ay 11), vZ (V1.2 12), vZ (V1.2 13), vZ (V1.2 14), vZ (V1.2 15)])), ((ay 5), .inl (K.1, 8, .inl (ar (V1.1 5)))), ((ay 6), .inl (K.1, 8, .inl (ar (V1.1 6)))), ((ay 7), .inl (K.1, 8, .inl (ar (V1.1 7)))), ((ay 8), .inl (K.1, 10, .inl (ar (V1.1 8)))), ((ay 9), .inl (K.1, 10, .inl (ar (V1.1 9)))), ((ay 10), .inl (K.1, 10, .inl (ar (V1.1 10)))), ((ay 11), .inl (K.1, 16, .inl (ar (V1.1 11)))), ((ay 3), .inr (2, [.ref (aqt1 0), .ref (aqt1 1), .ref (aqt1 2), .ref (aqt1 3), .ref (aqt1 4), .ref (aqt1 5), .ref (aqt1 6), vZ (Sqt1.2 7), vZ (Sqt1.2 8)])), ((aqt1 0), .inl (K.1, 32, .inl (ar (Sqt1.1 0)))), ((aqt1 1), .inl (K.1, 32, .inl (ar (Sqt1.1 1)))), ((aqt1 2), .inl (K.1, 32, .inl (ar (Sqt1.1 2)))), ((aqt1 3), .inl (K.1, Nqt1, .inl (ar (Sqt1.1 3)))), ((aqt1 4), .inl (K.1, Nqt1, .inl (ar (Sqt1.1 4)))), ((aqt1 5), .inl (K.1, Nqt1, .inl (ar (Sqt1.1 5)))), ((aqt1 6), .inl (K.1, Nqt1, .inl (ar (Sqt1.1 6)))), ((au 1), .inr (4, [.ref (an 0), .ref (an 1), .ref (an 2), .ref (an 3), .ref (an 4), .ref (an 5), .ref (an 6), .ref (an 7), vZ (Ne.2 8)])), ((an 0), .inl (K.1, 16, .inl (ar (Ne.1 0)))), ((an 1), .inl (K.1, 16, .inl (ar (Ne.1 1)))), ((an 2), .inl (K.1, 16, .inl (ar (Ne.1 2)))), ((an 3), .inl (K.1, 16, .inl (ar (Ne.1 3)))), ((an 4), .inl (K.1, 16, .inl (ar (Ne.1 4)))), ((an 5), .inl (K.1, 16, .inl (ar (Ne.1 5)))), ((an 6), .inl (K.1, 100, .inl (ar (Ne.1 6)))), ((an 7), .inl (K.1, 100, .inl (ar (Ne.1 7)))), ((au 0), .inr (5, [.ref (ato 0), .ref (ato 1), vZ (To.2 2), vZ (To.2 3)])), ((ato 0), .inl (K.1, 10, .inl (ar (To.1 0)))), ((ato 1), .inl (K.1, 10, .inl (ar (To.1 1)))), ((au 2), .inr (0, [.ref (ac 0), .ref (ac 1), .ref (ac 2), vZ (Cr.2 3), vZ (Cr.2 4)])), ((ac 0), .inl (K.1, 8, .inl (ar (Cr.1 0)))), ((ac 1), .inl (K.1, 8, .inl (ar (Cr.1 1)))), ((ac 2), .inl (K.1, 8, .inl (ar (Cr.1 2))))]) 49 [(0, .ref h), (1, vZ ((4 ^ (wlA Cr A).length : Nat) : Int)), (2, vZ w)] [] := by
        intro n_49
        induction n_49 with
        | zero => intro w F1 V1 aqt1 Nqt1 Sqt1 gv gw h0 j1 j2 j3 j4 j5 j6 j7 hm_49; exact absurd hm_49 (Nat.not_lt_zero _)
        | succ n_49 ih_49 =>
          intro w F1 V1 aqt1 Nqt1 Sqt1 gv gw h0 j1 j2 j3 j4 j5 j6 j7 hm_49
          refine z_iload_n ZC 2 dX1_makePlan_49 rfl rfl ?_
          refine z_iload_n ZC 1 dX1_makePlan_50 rfl rfl ?_
          refine z_icmp_ge ZC 73 dX1_makePlan_51 (by decide) (by omega) (by omega) (fun c_51 => ?_) (fun c_51 => ?_)
          · skip
            refine z_vret ZC ZE dX1_makePlan_73 (by omega) (by omega) (Nat.le_of_ble_eq_true rfl) ⟨F1, V1, aqt1, Nqt1, Sqt1, rfl, rfl, ?_, ?_, ?_, ?_, ?_⟩
            · skip
              have ew : w.toNat = 4 ^ (wlA Cr A).length := by omega
              rw [ew] at j5 j6
              refine ⟨j3.2.2.2.2, Or.inr ⟨⟨by omega, hw2.1⟩, j4.1.trans hw2.2.1, ?_, j5.1, j5.2, ?_⟩⟩
              · intro i x y
                rw [j4.2]
                exact hw2.2.2 i x (by omega)
              · intro i x y
                exact j6 (by omega) i x (by omega)
            · skip
              exact ⟨j3.1, j3.2.1, j3.2.2.1, j3.2.2.2.1⟩
            · skip
              exact j1
            · skip
              omega
            · skip
              omega
          · skip
            refine z_aload_n ZC 0 dX1_makePlan_54 rfl rfl ?_
            refine z_iload_n ZC 2 dX1_makePlan_55 rfl rfl ?_
            refine z_callV ZC 1 (c_X1_isWithinHours zl D K h a F1 au U w (by omega) (by omega) (by omega)) (gdV uM_X1_92 uI_X1_isWithinHours uS_X1_isWithinHours uN_X1 uC_X1_isWithinHours) (by decide +kernel) rfl ⟨by omega, by omega⟩ ⟨by omega, by omega⟩ (Nat.le_of_ble_eq_true rfl) [0, 1, 2, 3, 4, 5, 6, 7, 8, 9, 10, 11] rfl (by decide) rfl rfl rfl rfl dX1_makePlan_56 (fun r w2 gc_56 gs_56 hp => ?_)
            obtain ⟨b_56, rfl, rfl, rfl, rfl, hb_56⟩ := hp
            rw [j4.1, hw2.2.1, enow0] at hb_56
            refine z_ws (ws2 := [(h, .inr (1, [.ref (a 0), .ref (a 1), .ref (a 2), .ref (a 3), .ref (a 4), vZ (F1.2 5), vZ (F1.2 6), vZ (F1.2 7), vZ (F1.2 8), vZ (F1.2 9), vZ (F1.2 10), vZ (F1.2 11)])), ((a 2), .inl (K.1, 10, .inl (ar (F1.1 2)))), ((a 3), .inl (K.1, 4, .inl (ar (F1.1 3)))), ((a 4), .inl (K.1, 4, .inl (ar (F1.1 4)))), ((a 0), .inr (6, [.ref (au 0), .ref (au 1), .ref (au 2), .ref (au 3), .ref (au 5), .ref (au 6), .ref (au 7), .ref (au 8), .ref (au 9), .ref (au 10), .ref (au 11), vZ (U.2 12), vZ (U.2 13), vZ (U.2 14), vZ (U.2 15)])), ((au 5), .inl (K.1, 8, .inl (ar (U.1 5)))), ((au 6), .inl (K.1, 8, .inl (ar (U.1 6)))), ((au 7), .inl (K.1, 8, .inl (ar (U.1 7)))), ((au 8), .inl (K.1, 10, .inl (ar (U.1 8)))), ((au 9), .inl (K.1, 10, .inl (ar (U.1 9)))), ((au 10), .inl (K.1, 10, .inl (ar (U.1 10)))), ((au 11), .inl (K.1, 16, .inl (ar (U.1 11)))), ((au 3), .inr (2, [.ref (aqu 0), .ref (aqu 1), .ref (aqu 2), .ref (aqu 3), .ref (aqu 4), .ref (aqu 5), .ref (aqu 6), vZ (Squ.2 7), vZ (Squ.2 8)])), ((aqu 0), .inl (K.1, 32, .inl (ar (Squ.1 0)))), ((aqu 1), .inl (K.1, 32, .inl (ar (Squ.1 1)))), ((aqu 2), .inl (K.1, 32, .inl (ar (Squ.1 2)))), ((aqu 3), .inl (K.1, Nqu, .inl (ar (Squ.1 3)))), ((aqu 4), .inl (K.1, Nqu, .inl (ar (Squ.1 4)))), ((aqu 5), .inl (K.1, Nqu, .inl (ar (Squ.1 5)))), ((aqu 6), .inl (K.1, Nqu, .inl (ar (Squ.1 6)))), ((a 1), .inr (6, [.ref (au 0), .ref (au 1), .ref (au 2), .ref (ay 3), .ref (ay 5), .ref (ay 6), .ref (ay 7), .ref (ay 8), .ref (ay 9), .ref (ay 10), .ref (ay 11), vZ (V1.2 12), vZ (V1.2 13), vZ (V1.2 14), vZ (V1.2 15)])), ((ay 5), .inl (K.1, 8, .inl (ar (V1.1 5)))), ((ay 6), .inl (K.1, 8, .inl (ar (V1.1 6)))), ((ay 7), .inl (K.1, 8, .inl (ar (V1.1 7)))), ((ay 8), .inl (K.1, 10, .inl (ar (V1.1 8)))), ((ay 9), .inl (K.1, 10, .inl (ar (V1.1 9)))), ((ay 10), .inl (K.1, 10, .inl (ar (V1.1 10)))), ((ay 11), .inl (K.1, 16, .inl (ar (V1.1 11)))), ((ay 3), .inr (2, [.ref (aqt1 0), .ref (aqt1 1), .ref (aqt1 2), .ref (aqt1 3), .ref (aqt1 4), .ref (aqt1 5), .ref (aqt1 6), vZ (Sqt1.2 7), vZ (Sqt1.2 8)])), ((aqt1 0), .inl (K.1, 32, .inl (ar (Sqt1.1 0)))), ((aqt1 1), .inl (K.1, 32, .inl (ar (Sqt1.1 1)))), ((aqt1 2), .inl (K.1, 32, .inl (ar (Sqt1.1 2)))), ((aqt1 3), .inl (K.1, Nqt1, .inl (ar (Sqt1.1 3)))), ((aqt1 4), .inl (K.1, Nqt1, .inl (ar (Sqt1.1 4)))), ((aqt1 5), .inl (K.1, Nqt1, .inl (ar (Sqt1.1 5)))), ((aqt1 6), .inl (K.1, Nqt1, .inl (ar (Sqt1.1 6)))), ((au 1), .inr (4, [.ref (an 0), .ref (an 1), .ref (an 2), .ref (an 3), .ref (an 4), .ref (an 5), .ref (an 6), .ref (an 7), vZ (Ne.2 8)])), ((an 0), .inl (K.1, 16, .inl (ar (Ne.1 0)))), ((an 1), .inl (K.1, 16, .inl (ar (Ne.1 1)))), ((an 2), .inl (K.1, 16, .inl (ar (Ne.1 2)))), ((an 3), .inl (K.1, 16, .inl (ar (Ne.1 3)))), ((an 4), .inl (K.1, 16, .inl (ar (Ne.1 4)))), ((an 5), .inl (K.1, 16, .inl (ar (Ne.1 5)))), ((an 6), .inl (K.1, 100, .inl (ar (Ne.1 6)))), ((an 7), .inl (K.1, 100, .inl (ar (Ne.1 7)))), ((au 0), .inr (5, [.ref (ato 0), .ref (ato 1), vZ (To.2 2), vZ (To.2 3)])), ((ato 0), .inl (K.1, 10, .inl (ar (To.1 0)))), ((ato 1), .inl (K.1, 10, .inl (ar (To.1 1)))), ((au 2), .inr (0, [.ref (ac 0), .ref (ac 1), .ref (ac 2), vZ (Cr.2 3), vZ (Cr.2 4)])), ((ac 0), .inl (K.1, 8, .inl (ar (Cr.1 0)))), ((ac 1), .inl (K.1, 8, .inl (ar (Cr.1 1)))), ((ac 2), .inl (K.1, 8, .inl (ar (Cr.1 2))))]) rfl ?_
            refine z_st (st2 := [vZ b_56]) rfl ?_
            refine z_if_eq ZC 67 dX1_makePlan_59 (by decide) (by omega) (fun c_59 => ?_) (fun c_59 => ?_)
            · skip
              have hno : ¬ okN (A.2.1 0) ((wlA Cr A).length : Int) w (wlA Cr A).length = true := by
                intro q
                rcases hb_56 with z | z
                · omega
                · exact z.2 ((okN_iff _).mp q)
              refine z_iinc ZC dX1_makePlan_67 rfl (by decide) ?_
              refine z_goto ZC 49 dX1_makePlan_70 (by decide) ?_
              refine z_ws (ws2 := [(h, .inr (1, [.ref (a 0), .ref (a 1), .ref (a 2), .ref (a 3), .ref (a 4), vZ (F1.2 5), vZ (F1.2 6), vZ (F1.2 7), vZ (F1.2 8), vZ (F1.2 9), vZ (F1.2 10), vZ (F1.2 11)])), ((a 2), .inl (K.1, 10, .inl (ar (F1.1 2)))), ((a 3), .inl (K.1, 4, .inl (ar (F1.1 3)))), ((a 4), .inl (K.1, 4, .inl (ar (F1.1 4)))), ((a 0), .inr (6, [.ref (au 0), .ref (au 1), .ref (au 2), .ref (au 3), .ref (au 5), .ref (au 6), .ref (au 7), .ref (au 8), .ref (au 9), .ref (au 10), .ref (au 11), vZ (U.2 12), vZ (U.2 13), vZ (U.2 14), vZ (U.2 15)])), ((au 5), .inl (K.1, 8, .inl (ar (U.1 5)))), ((au 6), .inl (K.1, 8, .inl (ar (U.1 6)))), ((au 7), .inl (K.1, 8, .inl (ar (U.1 7)))), ((au 8), .inl (K.1, 10, .inl (ar (U.1 8)))), ((au 9), .inl (K.1, 10, .inl (ar (U.1 9)))), ((au 10), .inl (K.1, 10, .inl (ar (U.1 10)))), ((au 11), .inl (K.1, 16, .inl (ar (U.1 11)))), ((au 3), .inr (2, [.ref (aqu 0), .ref (aqu 1), .ref (aqu 2), .ref (aqu 3), .ref (aqu 4), .ref (aqu 5), .ref (aqu 6), vZ (Squ.2 7), vZ (Squ.2 8)])), ((aqu 0), .inl (K.1, 32, .inl (ar (Squ.1 0)))), ((aqu 1), .inl (K.1, 32, .inl (ar (Squ.1 1)))), ((aqu 2), .inl (K.1, 32, .inl (ar (Squ.1 2)))), ((aqu 3), .inl (K.1, Nqu, .inl (ar (Squ.1 3)))), ((aqu 4), .inl (K.1, Nqu, .inl (ar (Squ.1 4)))), ((aqu 5), .inl (K.1, Nqu, .inl (ar (Squ.1 5)))), ((aqu 6), .inl (K.1, Nqu, .inl (ar (Squ.1 6)))), ((a 1), .inr (6, [.ref (au 0), .ref (au 1), .ref (au 2), .ref (ay 3), .ref (ay 5), .ref (ay 6), .ref (ay 7), .ref (ay 8), .ref (ay 9), .ref (ay 10), .ref (ay 11), vZ (V1.2 12), vZ (V1.2 13), vZ (V1.2 14), vZ (V1.2 15)])), ((ay 5), .inl (K.1, 8, .inl (ar (V1.1 5)))), ((ay 6), .inl (K.1, 8, .inl (ar (V1.1 6)))), ((ay 7), .inl (K.1, 8, .inl (ar (V1.1 7)))), ((ay 8), .inl (K.1, 10, .inl (ar (V1.1 8)))), ((ay 9), .inl (K.1, 10, .inl (ar (V1.1 9)))), ((ay 10), .inl (K.1, 10, .inl (ar (V1.1 10)))), ((ay 11), .inl (K.1, 16, .inl (ar (V1.1 11)))), ((ay 3), .inr (2, [.ref (aqt1 0), .ref (aqt1 1), .ref (aqt1 2), .ref (aqt1 3), .ref (aqt1 4), .ref (aqt1 5), .ref (aqt1 6), vZ (Sqt1.2 7), vZ (Sqt1.2 8)])), ((aqt1 0), .inl (K.1, 32, .inl (ar (Sqt1.1 0)))), ((aqt1 1), .inl (K.1, 32, .inl (ar (Sqt1.1 1)))), ((aqt1 2), .inl (K.1, 32, .inl (ar (Sqt1.1 2)))), ((aqt1 3), .inl (K.1, Nqt1, .inl (ar (Sqt1.1 3)))), ((aqt1 4), .inl (K.1, Nqt1, .inl (ar (Sqt1.1 4)))), ((aqt1 5), .inl (K.1, Nqt1, .inl (ar (Sqt1.1 5)))), ((aqt1 6), .inl (K.1, Nqt1, .inl (ar (Sqt1.1 6)))), ((au 1), .inr (4, [.ref (an 0), .ref (an 1), .ref (an 2), .ref (an 3), .ref (an 4), .ref (an 5), .ref (an 6), .ref (an 7), vZ (Ne.2 8)])), ((an 0), .inl (K.1, 16, .inl (ar (Ne.1 0)))), ((an 1), .inl (K.1, 16, .inl (ar (Ne.1 1)))), ((an 2), .inl (K.1, 16, .inl (ar (Ne.1 2)))), ((an 3), .inl (K.1, 16, .inl (ar (Ne.1 3)))), ((an 4), .inl (K.1, 16, .inl (ar (Ne.1 4)))), ((an 5), .inl (K.1, 16, .inl (ar (Ne.1 5)))), ((an 6), .inl (K.1, 100, .inl (ar (Ne.1 6)))), ((an 7), .inl (K.1, 100, .inl (ar (Ne.1 7)))), ((au 0), .inr (5, [.ref (ato 0), .ref (ato 1), vZ (To.2 2), vZ (To.2 3)])), ((ato 0), .inl (K.1, 10, .inl (ar (To.1 0)))), ((ato 1), .inl (K.1, 10, .inl (ar (To.1 1)))), ((au 2), .inr (0, [.ref (ac 0), .ref (ac 1), .ref (ac 2), vZ (Cr.2 3), vZ (Cr.2 4)])), ((ac 0), .inl (K.1, 8, .inl (ar (Cr.1 0)))), ((ac 1), .inl (K.1, 8, .inl (ar (Cr.1 1)))), ((ac 2), .inl (K.1, 8, .inl (ar (Cr.1 2))))]) rfl (z_lv (lv2 := [(0, .ref h), (1, vZ ((4 ^ (wlA Cr A).length : Nat) : Int)), (2, vZ (w + 1))]) ⟨rfl, rfl, rfl, trivial⟩ ?_)
              refine ih_49 (w + 1) F1 V1 aqt1 Nqt1 Sqt1 (gv + 0) (gw + 0) ?_ ?_ ?_ ?_ ?_ ?_ ?_ ?_ (dec_lt hm_49 c_51)
              · skip
                omega
              · skip
                exact ⟨j1.1, by omega⟩
              · skip
                omega
              · skip
                exact j3
              · skip
                exact j4
              · skip
                rw [pFold_next h0.1, if_neg (fun q => hno q.1)]
                exact j5
              · skip
                intro _ i x y
                rw [pFold_next h0.1, if_neg (fun q => hno q.1)]
                refine j6 ?_ i x y
                apply Classical.byContradiction
                intro w0
                refine hno ((okN_iff _).mpr (fun j x y => ?_))
                rw [show w = 0 by omega, stp0]
                omega
              · skip
                exact j7
            · skip
              have hyes : ∀ i : Int, 0 ≤ i → i < ((wlA Cr A).length : Int) → A.2.1 0 + stp ((wlA Cr A).length : Int) w i < 200 := by
                rcases hb_56 with z | z
                · exact z.2
                · exact absurd z.1 c_59
              have hok : okN (A.2.1 0) ((wlA Cr A).length : Int) w (wlA Cr A).length = true := (okN_iff _).mpr hyes
              have hpf : pFold Ne Cr A (w + 1).toNat = if (pEw Ne Cr A w < F1.2 10 ∨ (pEw Ne Cr A w = F1.2 10 ∧ pWw Ne Cr A w < F1.2 11)) then (pEw Ne Cr A w, pWw Ne Cr A w, w) else pFold Ne Cr A w.toNat := by
                rw [pFold_next h0.1, ← j5.1, ← j5.2]
                by_cases q : (pEw Ne Cr A w < F1.2 10 ∨ (pEw Ne Cr A w = F1.2 10 ∧ pWw Ne Cr A w < F1.2 11))
                · rw [if_pos ⟨hok, q⟩, if_pos q]
                · rw [if_neg (fun r => q r.2), if_neg q]
              refine z_aload_n ZC 0 dX1_makePlan_62 rfl rfl ?_
              refine z_iload_n ZC 2 dX1_makePlan_63 rfl rfl ?_
              refine z_callV ZC 1 (c_X1_tryWay zl D K h a F1 au U aqu Nqu Squ ay V1 aqt1 Nqt1 Sqt1 an Ne ato To ac Cr B Cq A w (hcf) (hto) (hab) (hal) (hac) (hT) (hpb) (hB) (j1.1) (by omega) (by rw [j4.1, j4.2]; exact hw2.2.2) (by omega) (by rw [j4.1, hw2.2.1]; exact hyes) (j7.1) (j7.2)) (gdV uM_X1_96 uI_X1_tryWay uS_X1_tryWay uN_X1 uC_X1_tryWay) (by decide +kernel) rfl ⟨by omega, by omega⟩ ⟨by omega, by omega⟩ (Nat.le_of_ble_eq_true rfl) [0, 1, 2, 3, 4, 5, 6, 7, 8, 9, 10, 11, 12, 13, 14, 15, 16, 17, 18, 19, 20, 21, 22, 23, 24, 25, 26, 27, 28, 29, 30, 31, 32, 33, 34, 35, 36, 37, 38, 39, 40, 41, 42, 43, 44, 45, 46, 47, 48, 49, 50, 51] rfl (by decide) rfl rfl rfl rfl dX1_makePlan_64 (fun r w2 gc_64 gs_64 hp => ?_)
              obtain ⟨F2_64, V2_64, aqt2_64, Nqt2_64, Sqt2_64, rfl, rfl, hk_64, hkp_64, hE_64, hpw2_64, hgc_64, hgs_64⟩ := hp
              refine z_ws (ws2 := [(h, .inr (1, [.ref (a 0), .ref (a 1), .ref (a 2), .ref (a 3), .ref (a 4), vZ (F2_64.2 5), vZ (F2_64.2 6), vZ (F2_64.2 7), vZ (F2_64.2 8), vZ (F2_64.2 9), vZ (F2_64.2 10), vZ (F2_64.2 11)])), ((a 2), .inl (K.1, 10, .inl (ar (F2_64.1 2)))), ((a 3), .inl (K.1, 4, .inl (ar (F2_64.1 3)))), ((a 4), .inl (K.1, 4, .inl (ar (F2_64.1 4)))), ((a 0), .inr (6, [.ref (au 0), .ref (au 1), .ref (au 2), .ref (au 3), .ref (au 5), .ref (au 6), .ref (au 7), .ref (au 8), .ref (au 9), .ref (au 10), .ref (au 11), vZ (U.2 12), vZ (U.2 13), vZ (U.2 14), vZ (U.2 15)])), ((au 5), .inl (K.1, 8, .inl (ar (U.1 5)))), ((au 6), .inl (K.1, 8, .inl (ar (U.1 6)))), ((au 7), .inl (K.1, 8, .inl (ar (U.1 7)))), ((au 8), .inl (K.1, 10, .inl (ar (U.1 8)))), ((au 9), .inl (K.1, 10, .inl (ar (U.1 9)))), ((au 10), .inl (K.1, 10, .inl (ar (U.1 10)))), ((au 11), .inl (K.1, 16, .inl (ar (U.1 11)))), ((au 3), .inr (2, [.ref (aqu 0), .ref (aqu 1), .ref (aqu 2), .ref (aqu 3), .ref (aqu 4), .ref (aqu 5), .ref (aqu 6), vZ (Squ.2 7), vZ (Squ.2 8)])), ((aqu 0), .inl (K.1, 32, .inl (ar (Squ.1 0)))), ((aqu 1), .inl (K.1, 32, .inl (ar (Squ.1 1)))), ((aqu 2), .inl (K.1, 32, .inl (ar (Squ.1 2)))), ((aqu 3), .inl (K.1, Nqu, .inl (ar (Squ.1 3)))), ((aqu 4), .inl (K.1, Nqu, .inl (ar (Squ.1 4)))), ((aqu 5), .inl (K.1, Nqu, .inl (ar (Squ.1 5)))), ((aqu 6), .inl (K.1, Nqu, .inl (ar (Squ.1 6)))), ((a 1), .inr (6, [.ref (au 0), .ref (au 1), .ref (au 2), .ref (ay 3), .ref (ay 5), .ref (ay 6), .ref (ay 7), .ref (ay 8), .ref (ay 9), .ref (ay 10), .ref (ay 11), vZ (V2_64.2 12), vZ (V2_64.2 13), vZ (V2_64.2 14), vZ (V2_64.2 15)])), ((ay 5), .inl (K.1, 8, .inl (ar (V2_64.1 5)))), ((ay 6), .inl (K.1, 8, .inl (ar (V2_64.1 6)))), ((ay 7), .inl (K.1, 8, .inl (ar (V2_64.1 7)))), ((ay 8), .inl (K.1, 10, .inl (ar (V2_64.1 8)))), ((ay 9), .inl (K.1, 10, .inl (ar (V2_64.1 9)))), ((ay 10), .inl (K.1, 10, .inl (ar (V2_64.1 10)))), ((ay 11), .inl (K.1, 16, .inl (ar (V2_64.1 11)))), ((ay 3), .inr (2, [.ref (aqt2_64 0), .ref (aqt2_64 1), .ref (aqt2_64 2), .ref (aqt2_64 3), .ref (aqt2_64 4), .ref (aqt2_64 5), .ref (aqt2_64 6), vZ (Sqt2_64.2 7), vZ (Sqt2_64.2 8)])), ((aqt2_64 0), .inl (K.1, 32, .inl (ar (Sqt2_64.1 0)))), ((aqt2_64 1), .inl (K.1, 32, .inl (ar (Sqt2_64.1 1)))), ((aqt2_64 2), .inl (K.1, 32, .inl (ar (Sqt2_64.1 2)))), ((aqt2_64 3), .inl (K.1, Nqt2_64, .inl (ar (Sqt2_64.1 3)))), ((aqt2_64 4), .inl (K.1, Nqt2_64, .inl (ar (Sqt2_64.1 4)))), ((aqt2_64 5), .inl (K.1, Nqt2_64, .inl (ar (Sqt2_64.1 5)))), ((aqt2_64 6), .inl (K.1, Nqt2_64, .inl (ar (Sqt2_64.1 6)))), ((au 1), .inr (4, [.ref (an 0), .ref (an 1), .ref (an 2), .ref (an 3), .ref (an 4), .ref (an 5), .ref (an 6), .ref (an 7), vZ (Ne.2 8)])), ((an 0), .inl (K.1, 16, .inl (ar (Ne.1 0)))), ((an 1), .inl (K.1, 16, .inl (ar (Ne.1 1)))), ((an 2), .inl (K.1, 16, .inl (ar (Ne.1 2)))), ((an 3), .inl (K.1, 16, .inl (ar (Ne.1 3)))), ((an 4), .inl (K.1, 16, .inl (ar (Ne.1 4)))), ((an 5), .inl (K.1, 16, .inl (ar (Ne.1 5)))), ((an 6), .inl (K.1, 100, .inl (ar (Ne.1 6)))), ((an 7), .inl (K.1, 100, .inl (ar (Ne.1 7)))), ((au 0), .inr (5, [.ref (ato 0), .ref (ato 1), vZ (To.2 2), vZ (To.2 3)])), ((ato 0), .inl (K.1, 10, .inl (ar (To.1 0)))), ((ato 1), .inl (K.1, 10, .inl (ar (To.1 1)))), ((au 2), .inr (0, [.ref (ac 0), .ref (ac 1), .ref (ac 2), vZ (Cr.2 3), vZ (Cr.2 4)])), ((ac 0), .inl (K.1, 8, .inl (ar (Cr.1 0)))), ((ac 1), .inl (K.1, 8, .inl (ar (Cr.1 1)))), ((ac 2), .inl (K.1, 8, .inl (ar (Cr.1 2))))]) rfl ?_
              refine z_st (st2 := []) rfl ?_
              refine z_iinc ZC dX1_makePlan_67 rfl (by decide) ?_
              refine z_goto ZC 49 dX1_makePlan_70 (by decide) ?_
              refine z_ws (ws2 := [(h, .inr (1, [.ref (a 0), .ref (a 1), .ref (a 2), .ref (a 3), .ref (a 4), vZ (F2_64.2 5), vZ (F2_64.2 6), vZ (F2_64.2 7), vZ (F2_64.2 8), vZ (F2_64.2 9), vZ (F2_64.2 10), vZ (F2_64.2 11)])), ((a 2), .inl (K.1, 10, .inl (ar (F2_64.1 2)))), ((a 3), .inl (K.1, 4, .inl (ar (F2_64.1 3)))), ((a 4), .inl (K.1, 4, .inl (ar (F2_64.1 4)))), ((a 0), .inr (6, [.ref (au 0), .ref (au 1), .ref (au 2), .ref (au 3), .ref (au 5), .ref (au 6), .ref (au 7), .ref (au 8), .ref (au 9), .ref (au 10), .ref (au 11), vZ (U.2 12), vZ (U.2 13), vZ (U.2 14), vZ (U.2 15)])), ((au 5), .inl (K.1, 8, .inl (ar (U.1 5)))), ((au 6), .inl (K.1, 8, .inl (ar (U.1 6)))), ((au 7), .inl (K.1, 8, .inl (ar (U.1 7)))), ((au 8), .inl (K.1, 10, .inl (ar (U.1 8)))), ((au 9), .inl (K.1, 10, .inl (ar (U.1 9)))), ((au 10), .inl (K.1, 10, .inl (ar (U.1 10)))), ((au 11), .inl (K.1, 16, .inl (ar (U.1 11)))), ((au 3), .inr (2, [.ref (aqu 0), .ref (aqu 1), .ref (aqu 2), .ref (aqu 3), .ref (aqu 4), .ref (aqu 5), .ref (aqu 6), vZ (Squ.2 7), vZ (Squ.2 8)])), ((aqu 0), .inl (K.1, 32, .inl (ar (Squ.1 0)))), ((aqu 1), .inl (K.1, 32, .inl (ar (Squ.1 1)))), ((aqu 2), .inl (K.1, 32, .inl (ar (Squ.1 2)))), ((aqu 3), .inl (K.1, Nqu, .inl (ar (Squ.1 3)))), ((aqu 4), .inl (K.1, Nqu, .inl (ar (Squ.1 4)))), ((aqu 5), .inl (K.1, Nqu, .inl (ar (Squ.1 5)))), ((aqu 6), .inl (K.1, Nqu, .inl (ar (Squ.1 6)))), ((a 1), .inr (6, [.ref (au 0), .ref (au 1), .ref (au 2), .ref (ay 3), .ref (ay 5), .ref (ay 6), .ref (ay 7), .ref (ay 8), .ref (ay 9), .ref (ay 10), .ref (ay 11), vZ (V2_64.2 12), vZ (V2_64.2 13), vZ (V2_64.2 14), vZ (V2_64.2 15)])), ((ay 5), .inl (K.1, 8, .inl (ar (V2_64.1 5)))), ((ay 6), .inl (K.1, 8, .inl (ar (V2_64.1 6)))), ((ay 7), .inl (K.1, 8, .inl (ar (V2_64.1 7)))), ((ay 8), .inl (K.1, 10, .inl (ar (V2_64.1 8)))), ((ay 9), .inl (K.1, 10, .inl (ar (V2_64.1 9)))), ((ay 10), .inl (K.1, 10, .inl (ar (V2_64.1 10)))), ((ay 11), .inl (K.1, 16, .inl (ar (V2_64.1 11)))), ((ay 3), .inr (2, [.ref (aqt2_64 0), .ref (aqt2_64 1), .ref (aqt2_64 2), .ref (aqt2_64 3), .ref (aqt2_64 4), .ref (aqt2_64 5), .ref (aqt2_64 6), vZ (Sqt2_64.2 7), vZ (Sqt2_64.2 8)])), ((aqt2_64 0), .inl (K.1, 32, .inl (ar (Sqt2_64.1 0)))), ((aqt2_64 1), .inl (K.1, 32, .inl (ar (Sqt2_64.1 1)))), ((aqt2_64 2), .inl (K.1, 32, .inl (ar (Sqt2_64.1 2)))), ((aqt2_64 3), .inl (K.1, Nqt2_64, .inl (ar (Sqt2_64.1 3)))), ((aqt2_64 4), .inl (K.1, Nqt2_64, .inl (ar (Sqt2_64.1 4)))), ((aqt2_64 5), .inl (K.1, Nqt2_64, .inl (ar (Sqt2_64.1 5)))), ((aqt2_64 6), .inl (K.1, Nqt2_64, .inl (ar (Sqt2_64.1 6)))), ((au 1), .inr (4, [.ref (an 0), .ref (an 1), .ref (an 2), .ref (an 3), .ref (an 4), .ref (an 5), .ref (an 6), .ref (an 7), vZ (Ne.2 8)])), ((an 0), .inl (K.1, 16, .inl (ar (Ne.1 0)))), ((an 1), .inl (K.1, 16, .inl (ar (Ne.1 1)))), ((an 2), .inl (K.1, 16, .inl (ar (Ne.1 2)))), ((an 3), .inl (K.1, 16, .inl (ar (Ne.1 3)))), ((an 4), .inl (K.1, 16, .inl (ar (Ne.1 4)))), ((an 5), .inl (K.1, 16, .inl (ar (Ne.1 5)))), ((an 6), .inl (K.1, 100, .inl (ar (Ne.1 6)))), ((an 7), .inl (K.1, 100, .inl (ar (Ne.1 7)))), ((au 0), .inr (5, [.ref (ato 0), .ref (ato 1), vZ (To.2 2), vZ (To.2 3)])), ((ato 0), .inl (K.1, 10, .inl (ar (To.1 0)))), ((ato 1), .inl (K.1, 10, .inl (ar (To.1 1)))), ((au 2), .inr (0, [.ref (ac 0), .ref (ac 1), .ref (ac 2), vZ (Cr.2 3), vZ (Cr.2 4)])), ((ac 0), .inl (K.1, 8, .inl (ar (Cr.1 0)))), ((ac 1), .inl (K.1, 8, .inl (ar (Cr.1 1)))), ((ac 2), .inl (K.1, 8, .inl (ar (Cr.1 2))))]) rfl (z_lv (lv2 := [(0, .ref h), (1, vZ ((4 ^ (wlA Cr A).length : Nat) : Int)), (2, vZ (w + 1))]) ⟨rfl, rfl, rfl, trivial⟩ ?_)
              refine ih_49 (w + 1) F2_64 V2_64 aqt2_64 Nqt2_64 Sqt2_64 (gv + 0 + gc_64) (gw + 0 + gs_64) ?_ ?_ ?_ ?_ ?_ ?_ ?_ ?_ (dec_lt hm_49 c_51)
              · skip
                omega
              · skip
                exact ⟨hpw2_64.1, by omega⟩
              · skip
                omega
              · skip
                exact ⟨hkp_64.1.trans j3.1, hkp_64.2.2.1.trans j3.2.1, hkp_64.2.2.2.1.trans j3.2.2.1, hkp_64.2.2.2.2.1.trans j3.2.2.2.1, hkp_64.2.2.2.2.2.1.trans j3.2.2.2.2⟩
              · skip
                exact ⟨hkp_64.2.2.2.2.2.2.trans j4.1, hkp_64.2.1.trans j4.2⟩
              · skip
                rw [hpf]
                rcases hk_64 with z | z
                · rw [if_pos z.1]; exact ⟨z.2.1, z.2.2.1⟩
                · rw [if_neg z.1]; exact ⟨z.2.1.trans j5.1, z.2.2.1.trans j5.2⟩
              · skip
                intro _ i x y
                rw [hpf]
                rcases hk_64 with z | z
                · rw [if_pos z.1]; exact z.2.2.2 i x (by rw [j4.1]; exact y)
                · rw [if_neg z.1, z.2.2.2]
                  refine j6 ?_ i x y
                  apply Classical.byContradiction
                  intro w0
                  have w1 : w = 0 := by omega
                  apply z.1
                  have e10 : F1.2 10 = 200 := by rw [j5.1, w1]; rfl
                  have e11 : F1.2 11 = 2147483647 := by rw [j5.2, w1]; rfl
                  have q1 := hE_64 e10
                  have q2 := pWw_rng (w := w) hcf hab (ab_pSt hc8.1 hab hyes)
                  omega
              · skip
                have := pEnd_rng (Cr := Cr) (A := aHds Ne Cr (pSt Cr A w) (200 - A.2.1 0).toNat)
                have q2 := pWw_rng (w := w) hcf hab (ab_pSt hc8.1 hab hyes)
                rcases hk_64 with z | z
                · rw [z.2.1, z.2.2.1]
                  have q := z.1
                  have e : pEw Ne Cr A w = pEnd Cr (aHds Ne Cr (pSt Cr A w) (200 - A.2.1 0).toNat) := rfl
                  omega
                · rw [z.2.1, z.2.2.1]; exact j7
      refine z_ws (ws2 := [(h, .inr (1, [.ref (a 0), .ref (a 1), .ref (a 2), .ref (a 3), .ref (a 4), vZ (F.2 5), vZ (F.2 6), vZ (F.2 7), vZ 1, vZ n_14, vZ 200, vZ 2147483647])), ((a 2), .inl (K.1, 10, .inl (ar (F.1 2)))), ((a 3), .inl (K.1, 4, .inl (ar Wa_14))), ((a 4), .inl (K.1, 4, .inl (ar (F.1 4)))), ((a 0), .inr (6, [.ref (au 0), .ref (au 1), .ref (au 2), .ref (au 3), .ref (au 5), .ref (au 6), .ref (au 7), .ref (au 8), .ref (au 9), .ref (au 10), .ref (au 11), vZ (U.2 12), vZ (U.2 13), vZ (U.2 14), vZ (U.2 15)])), ((au 5), .inl (K.1, 8, .inl (ar (U.1 5)))), ((au 6), .inl (K.1, 8, .inl (ar (U.1 6)))), ((au 7), .inl (K.1, 8, .inl (ar (U.1 7)))), ((au 8), .inl (K.1, 10, .inl (ar (U.1 8)))), ((au 9), .inl (K.1, 10, .inl (ar (U.1 9)))), ((au 10), .inl (K.1, 10, .inl (ar (U.1 10)))), ((au 11), .inl (K.1, 16, .inl (ar (U.1 11)))), ((au 3), .inr (2, [.ref (aqu 0), .ref (aqu 1), .ref (aqu 2), .ref (aqu 3), .ref (aqu 4), .ref (aqu 5), .ref (aqu 6), vZ (Squ.2 7), vZ (Squ.2 8)])), ((aqu 0), .inl (K.1, 32, .inl (ar (Squ.1 0)))), ((aqu 1), .inl (K.1, 32, .inl (ar (Squ.1 1)))), ((aqu 2), .inl (K.1, 32, .inl (ar (Squ.1 2)))), ((aqu 3), .inl (K.1, Nqu, .inl (ar (Squ.1 3)))), ((aqu 4), .inl (K.1, Nqu, .inl (ar (Squ.1 4)))), ((aqu 5), .inl (K.1, Nqu, .inl (ar (Squ.1 5)))), ((aqu 6), .inl (K.1, Nqu, .inl (ar (Squ.1 6)))), ((a 1), .inr (6, [.ref (au 0), .ref (au 1), .ref (au 2), .ref (ay 3), .ref (ay 5), .ref (ay 6), .ref (ay 7), .ref (ay 8), .ref (ay 9), .ref (ay 10), .ref (ay 11), vZ (V.2 12), vZ (V.2 13), vZ (V.2 14), vZ (V.2 15)])), ((ay 5), .inl (K.1, 8, .inl (ar (V.1 5)))), ((ay 6), .inl (K.1, 8, .inl (ar (V.1 6)))), ((ay 7), .inl (K.1, 8, .inl (ar (V.1 7)))), ((ay 8), .inl (K.1, 10, .inl (ar (V.1 8)))), ((ay 9), .inl (K.1, 10, .inl (ar (V.1 9)))), ((ay 10), .inl (K.1, 10, .inl (ar (V.1 10)))), ((ay 11), .inl (K.1, 16, .inl (ar (V.1 11)))), ((ay 3), .inr (2, [.ref (aqt 0), .ref (aqt 1), .ref (aqt 2), .ref (aqt 3), .ref (aqt 4), .ref (aqt 5), .ref (aqt 6), vZ (Sqt.2 7), vZ (Sqt.2 8)])), ((aqt 0), .inl (K.1, 32, .inl (ar (Sqt.1 0)))), ((aqt 1), .inl (K.1, 32, .inl (ar (Sqt.1 1)))), ((aqt 2), .inl (K.1, 32, .inl (ar (Sqt.1 2)))), ((aqt 3), .inl (K.1, Nqt, .inl (ar (Sqt.1 3)))), ((aqt 4), .inl (K.1, Nqt, .inl (ar (Sqt.1 4)))), ((aqt 5), .inl (K.1, Nqt, .inl (ar (Sqt.1 5)))), ((aqt 6), .inl (K.1, Nqt, .inl (ar (Sqt.1 6)))), ((au 1), .inr (4, [.ref (an 0), .ref (an 1), .ref (an 2), .ref (an 3), .ref (an 4), .ref (an 5), .ref (an 6), .ref (an 7), vZ (Ne.2 8)])), ((an 0), .inl (K.1, 16, .inl (ar (Ne.1 0)))), ((an 1), .inl (K.1, 16, .inl (ar (Ne.1 1)))), ((an 2), .inl (K.1, 16, .inl (ar (Ne.1 2)))), ((an 3), .inl (K.1, 16, .inl (ar (Ne.1 3)))), ((an 4), .inl (K.1, 16, .inl (ar (Ne.1 4)))), ((an 5), .inl (K.1, 16, .inl (ar (Ne.1 5)))), ((an 6), .inl (K.1, 100, .inl (ar (Ne.1 6)))), ((an 7), .inl (K.1, 100, .inl (ar (Ne.1 7)))), ((au 0), .inr (5, [.ref (ato 0), .ref (ato 1), vZ (To.2 2), vZ (To.2 3)])), ((ato 0), .inl (K.1, 10, .inl (ar (To.1 0)))), ((ato 1), .inl (K.1, 10, .inl (ar (To.1 1)))), ((au 2), .inr (0, [.ref (ac 0), .ref (ac 1), .ref (ac 2), vZ (Cr.2 3), vZ (Cr.2 4)])), ((ac 0), .inl (K.1, 8, .inl (ar (Cr.1 0)))), ((ac 1), .inl (K.1, 8, .inl (ar (Cr.1 1)))), ((ac 2), .inl (K.1, 8, .inl (ar (Cr.1 2))))]) rfl (z_lv (lv2 := [(0, .ref h), (1, vZ ((4 ^ (wlA Cr A).length : Nat) : Int)), (2, vZ 0)]) ⟨rfl, rfl, rfl, trivial⟩ ?_)
      refine lp_49 _ 0 ((upf F.1 3 Wa_14), (upf (upf (upf (upf F.2 8 1) 9 n_14) 10 200) 11 2147483647)) V aqt Nqt Sqt (0 + 0 + 0) (0 + 0 + 0) ?_ ?_ ?_ ?_ ?_ ?_ ?_ ?_ (Nat.lt_succ_self _)
      · skip
        omega
      · skip
        exact ⟨hpw, by omega⟩
      · skip
        omega
      · skip
        exact ⟨rfl, rfl, rfl, rfl, rfl⟩
      · skip
        exact ⟨rfl, rfl⟩
      · skip
        exact ⟨rfl, rfl⟩
      · skip
        intro q; omega
      · skip
        exact ⟨⟨show (0 : Int) ≤ 200 by omega, show (200 : Int) ≤ 200 by omega⟩, show -2147483648 ≤ (2147483647 : Int) by omega, show (2147483647 : Int) < 2147483648 by omega⟩
    · skip
      have hn0 : n_14 = 0 := by rcases hw_14 with z | z <;> omega
      refine z_vret ZC ZE dX1_makePlan_24 (by omega) (by omega) (Nat.le_of_ble_eq_true rfl) ⟨((upf F.1 3 Wa_14), (upf (upf F.2 8 1) 9 n_14)), V, aqt, Nqt, Sqt, rfl, rfl, ?_, ?_, ?_, ?_, ?_⟩
      · skip
        refine ⟨rfl, Or.inl ⟨?_, hn0⟩⟩
        rcases hw_14 with z | z
        · exact Or.inr z.1
        · left; omega
      · skip
        exact ⟨rfl, rfl, rfl, rfl⟩
      · skip
        exact ⟨hpw, by omega⟩
      · skip
        omega
      · skip
        omega
  · skip
    refine z_vret ZC ZE dX1_makePlan_7 (by omega) (by omega) (Nat.le_of_ble_eq_true rfl) ⟨F, V, aqt, Nqt, Sqt, rfl, rfl, ?_, ?_, ?_, ?_, ?_⟩
    · skip
      rcases hpl with z | z
      · omega
      · exact z
    · skip
      exact ⟨rfl, rfl, rfl, rfl⟩
    · skip
      exact ⟨hpw, by omega⟩
    · skip
      omega
    · skip
      omega

set_option maxHeartbeats 4000000 in
set_option maxRecDepth 100000 in
theorem c_X1_bestHour (zl : Launch) (D : va_G) (K : tyK) (h : Nat) (a : Nat → Nat) (F : Bd) (au : Nat → Nat) (U : Bd) (crowd : Int) (hn : 0 ≤ F.2 9 ∧ F.2 9 ≤ 4) (hw : ∀ j0 : Int, 0 ≤ j0 → j0 < F.2 9 → 0 ≤ F.1 3 j0 ∧ F.1 3 j0 ≤ 10000) (hcw : -2147483648 ≤ crowd ∧ crowd < 2147483648) : Mz zl yX1_bestHour cX1_bestHour 3 (some .int) 0 0 0 0 D K [.ref h, vZ crowd] ((wFo K h a F) ++ (wTr K (a 0) au U)) (fun r_ w2_ gc gs => ∃ (v : Int), r_ = some (vZ v) ∧ w2_ = ((wFo K h a F) ++ (wTr K (a 0) au U)) ∧ gc = 0 ∧ gs = 0 ∧ ((∃ j0 : Int, (0 ≤ j0 ∧ j0 < F.2 9) ∧ F.1 3 j0 = crowd ∧ v = U.2 12 + F.1 4 j0) ∨ (v = -1 ∧ ∀ j0 : Int, 0 ≤ j0 → j0 < F.2 9 → F.1 3 j0 ≠ crowd))) := by
  refine Mz.ofZ (by decide) rfl (Nat.le_of_ble_eq_true rfl) ?_
  intro zp ze zR zs zm zargs zbelow zmeth zc zA zQ ZC ZE hRf hRc hRs hRl
  refine z_iconst ZC dX1_bestHour_0 ?_
  refine z_istore_n ZC 2 dX1_bestHour_1 rfl (by decide) ?_
  have lp_2 : ∀ (n_2 : Nat) (i : Int), (0 ≤ i ∧ i ≤ F.2 9) → (∀ j : Int, 0 ≤ j → j < i → F.1 3 j ≠ crowd) → ((F.2 9 - i).toNat) < n_2 → Zw zp zl ze zR zs zm zargs zbelow zmeth zc D zA 3 zQ 0 0 ([(h, .inr (1, [.ref (a 0), .ref (a 1), .ref (a 2), .ref (a 3), .ref (a 4), vZ (F.2 5), vZ (F.2 6), vZ (F.2 7), vZ (F.2 8), vZ (F.2 9), vZ (F.2 10), vZ (F.2 11)])), ((a 2), .inl (K.1, 10, .inl (ar (F.1 2)))), ((a 3), .inl (K.1, 4, .inl (ar (F.1 3)))), ((a 4), .inl (K.1, 4, .inl (ar (F.1 4)))), ((a 0), .inr (6, [.ref (au 0), .ref (au 1), .ref (au 2), .ref (au 3), .ref (au 5), .ref (au 6), .ref (au 7), .ref (au 8), .ref (au 9), .ref (au 10), .ref (au 11), vZ (U.2 12), vZ (U.2 13), vZ (U.2 14), vZ (U.2 15)])), ((au 5), .inl (K.1, 8, .inl (ar (U.1 5)))), ((au 6), .inl (K.1, 8, .inl (ar (U.1 6)))), ((au 7), .inl (K.1, 8, .inl (ar (U.1 7)))), ((au 8), .inl (K.1, 10, .inl (ar (U.1 8)))), ((au 9), .inl (K.1, 10, .inl (ar (U.1 9)))), ((au 10), .inl (K.1, 10, .inl (ar (U.1 10)))), ((au 11), .inl (K.1, 16, .inl (ar (U.1 11))))]) 2 [(0, .ref h), (1, vZ crowd), (2, vZ i)] [] := by
    intro n_2
    induction n_2 with
    | zero => intro i h0 h1 hm_2; exact absurd hm_2 (Nat.not_lt_zero _)
    | succ n_2 ih_2 =>
      intro i h0 h1 hm_2
      refine z_iload_n ZC 2 dX1_bestHour_2 rfl rfl ?_
      refine z_aload_n ZC 0 dX1_bestHour_3 rfl rfl ?_
      refine z_get ZC inUX1 0 rfl rfl 9 (by decide) uF_X1_35 rfl dX1_bestHour_4 ?_
      refine z_icmp_ge ZC 41 dX1_bestHour_7 (by decide) (by omega) (by omega) (fun c_7 => ?_) (fun c_7 => ?_)
      · skip
        refine z_iconst ZC dX1_bestHour_41 ?_
        refine z_iret ZC ZE dX1_bestHour_42 (by omega) (by omega) (Nat.le_of_ble_eq_true rfl) ⟨(-1), rfl, rfl, by omega, by omega, ?_⟩
        · skip
          exact Or.inr ⟨rfl, fun j x y => h1 j x (by omega)⟩
      · skip
        have hwi := hw i h0.1 (by omega)
        refine z_aload_n ZC 0 dX1_bestHour_10 rfl rfl ?_
        refine z_get ZC inUX1 0 rfl rfl 3 (by decide) uF_X1_15 rfl dX1_bestHour_11 ?_
        refine z_iload_n ZC 2 dX1_bestHour_14 rfl rfl ?_
        refine z_iald ZC 2 rfl dX1_bestHour_15 (by omega) ?_
        refine z_iload_n ZC 1 dX1_bestHour_16 rfl rfl ?_
        refine z_icmp_ne ZC 35 dX1_bestHour_17 (by decide) (by omega) (by omega) (fun c_17 => ?_) (fun c_17 => ?_)
        · skip
          refine z_iinc ZC dX1_bestHour_35 rfl (by decide) ?_
          refine z_goto ZC 2 dX1_bestHour_38 (by decide) ?_
          refine z_ws (ws2 := [(h, .inr (1, [.ref (a 0), .ref (a 1), .ref (a 2), .ref (a 3), .ref (a 4), vZ (F.2 5), vZ (F.2 6), vZ (F.2 7), vZ (F.2 8), vZ (F.2 9), vZ (F.2 10), vZ (F.2 11)])), ((a 2), .inl (K.1, 10, .inl (ar (F.1 2)))), ((a 3), .inl (K.1, 4, .inl (ar (F.1 3)))), ((a 4), .inl (K.1, 4, .inl (ar (F.1 4)))), ((a 0), .inr (6, [.ref (au 0), .ref (au 1), .ref (au 2), .ref (au 3), .ref (au 5), .ref (au 6), .ref (au 7), .ref (au 8), .ref (au 9), .ref (au 10), .ref (au 11), vZ (U.2 12), vZ (U.2 13), vZ (U.2 14), vZ (U.2 15)])), ((au 5), .inl (K.1, 8, .inl (ar (U.1 5)))), ((au 6), .inl (K.1, 8, .inl (ar (U.1 6)))), ((au 7), .inl (K.1, 8, .inl (ar (U.1 7)))), ((au 8), .inl (K.1, 10, .inl (ar (U.1 8)))), ((au 9), .inl (K.1, 10, .inl (ar (U.1 9)))), ((au 10), .inl (K.1, 10, .inl (ar (U.1 10)))), ((au 11), .inl (K.1, 16, .inl (ar (U.1 11))))]) rfl (z_lv (lv2 := [(0, .ref h), (1, vZ crowd), (2, vZ (i + 1))]) ⟨rfl, rfl, rfl, trivial⟩ ?_)
          refine ih_2 (i + 1) ?_ ?_ (dec_lt hm_2 c_7)
          · skip
            omega
          · skip
            intro j x y
            by_cases z : j = i
            · subst z; exact c_17
            · exact h1 j x (by omega)
        · skip
          refine z_aload_n ZC 0 dX1_bestHour_20 rfl rfl ?_
          refine z_get ZC inUX1 0 rfl rfl 0 (by decide) uF_X1_21 rfl dX1_bestHour_21 ?_
          refine z_get ZC inUX6 4 rfl rfl 11 (by decide) uF_X1_39 rfl dX1_bestHour_24 ?_
          refine z_aload_n ZC 0 dX1_bestHour_27 rfl rfl ?_
          refine z_get ZC inUX1 0 rfl rfl 4 (by decide) uF_X1_18 rfl dX1_bestHour_28 ?_
          refine z_iload_n ZC 2 dX1_bestHour_31 rfl rfl ?_
          refine z_iald ZC 3 rfl dX1_bestHour_32 (by omega) ?_
          refine z_iadd ZC dX1_bestHour_33 ?_
          refine z_iret ZC ZE dX1_bestHour_34 (by omega) (by omega) (Nat.le_of_ble_eq_true rfl) ⟨((U.2 12) + ((F.1 4) i)), rfl, rfl, by omega, by omega, ?_⟩
          · skip
            exact Or.inl ⟨i, by omega, c_17, rfl⟩
  refine z_ws (ws2 := [(h, .inr (1, [.ref (a 0), .ref (a 1), .ref (a 2), .ref (a 3), .ref (a 4), vZ (F.2 5), vZ (F.2 6), vZ (F.2 7), vZ (F.2 8), vZ (F.2 9), vZ (F.2 10), vZ (F.2 11)])), ((a 2), .inl (K.1, 10, .inl (ar (F.1 2)))), ((a 3), .inl (K.1, 4, .inl (ar (F.1 3)))), ((a 4), .inl (K.1, 4, .inl (ar (F.1 4)))), ((a 0), .inr (6, [.ref (au 0), .ref (au 1), .ref (au 2), .ref (au 3), .ref (au 5), .ref (au 6), .ref (au 7), .ref (au 8), .ref (au 9), .ref (au 10), .ref (au 11), vZ (U.2 12), vZ (U.2 13), vZ (U.2 14), vZ (U.2 15)])), ((au 5), .inl (K.1, 8, .inl (ar (U.1 5)))), ((au 6), .inl (K.1, 8, .inl (ar (U.1 6)))), ((au 7), .inl (K.1, 8, .inl (ar (U.1 7)))), ((au 8), .inl (K.1, 10, .inl (ar (U.1 8)))), ((au 9), .inl (K.1, 10, .inl (ar (U.1 9)))), ((au 10), .inl (K.1, 10, .inl (ar (U.1 10)))), ((au 11), .inl (K.1, 16, .inl (ar (U.1 11))))]) rfl (z_lv (lv2 := [(0, .ref h), (1, vZ crowd), (2, vZ 0)]) ⟨rfl, rfl, rfl, trivial⟩ ?_)
  refine lp_2 _ 0 ?_ ?_ (Nat.lt_succ_self _)
  · skip
    omega
  · skip
    intro j x y; omega

