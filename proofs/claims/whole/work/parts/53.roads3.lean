/-! ===== ShadowRoads: what will be ===== -/
set_option maxHeartbeats 4000000 in
set_option maxRecDepth 100000 in
theorem c_X7_foretold (zl : Launch) (D : va_G) (K : tyK) (h : Nat) (x : Nat → Nat) (ato : Nat → Nat) (To : Bd) (an : Nat → Nat) (Ne : Bd) (ac : Nat → Nat) (Cr : Bd) (xu : Nat → Nat) (U : Bd) (aqu : Nat → Nat) (Nqu : Nat) (Squ : Bd) (xf : Nat → Nat) (F : Bd) (xv : Nat → Nat) (V : Bd) (aqt : Nat → Nat) (Nqt : Nat) (Sqt : Bd) (B : Nat) (Cq : Int → List Pt3) (A : Ab) (what : Int) (hz_what : -2147483648 ≤ what ∧ what < 2147483648) (hcf : Cfg Ne Cr) (hto : 0 ≤ To.2 3 ∧ To.2 3 ≤ 10) (hab : AB Ne Cr A) (hal : AL Cr A) (hac : Cr.2 4 = smI (Cr.1 1) 0 (Cr.2 3).toNat) (hT : TrR Ne Cr B U Nqu Squ Cq A) (hpb : ((lns Cq 32 : Nat) : Int) ≤ oc Cr A + 16 * A.2.1 0) (hB : 3300 ≤ B ∧ B ≤ 4000) (hpw : pw Nqt) (hfi : FoI To Ne Cr F A) (hah : ∀ c : Int, 0 ≤ c → c < Cr.2 3 → A.1 0 c ≤ 199) : Mz zl yX7_foretold cX7_foretold 2 (some .int) 6 138 25000 250000 D K [.ref h, vZ what] ((wSh h x) ++ (wTo K (x 0) ato To) ++ (wNe K (x 1) an Ne) ++ (wCr K (x 2) ac Cr) ++ (wTr K (x 3) (upf (upf (upf xu 0 (x 0)) 1 (x 1)) 2 (x 2)) U) ++ (wLn K (xu 3) aqu Nqu Squ) ++ (wFo K (x 5) (upf xf 0 (x 3)) F) ++ (wTr K (xf 1) (upf (upf (upf xv 0 (x 0)) 1 (x 1)) 2 (x 2)) V) ++ (wLn K (xv 3) aqt Nqt Sqt)) (fun r_ w2_ gc gs => ∃ (F2 : Bd), ∃ (V2 : Bd), ∃ (aqt2 : Nat → Nat), ∃ (Nqt2 : Nat), ∃ (Sqt2 : Bd), ∃ (v : Int), r_ = some (vZ v) ∧ w2_ = ((wSh h x) ++ (wTo K (x 0) ato To) ++ (wNe K (x 1) an Ne) ++ (wCr K (x 2) ac Cr) ++ (wTr K (x 3) (upf (upf (upf xu 0 (x 0)) 1 (x 1)) 2 (x 2)) U) ++ (wLn K (xu 3) aqu Nqu Squ) ++ (wFo K (x 5) (upf xf 0 (x 3)) F2) ++ (wTr K (xf 1) (upf (upf (upf xv 0 (x 0)) 1 (x 1)) 2 (x 2)) V2) ++ (wLn K (xv 3) aqt2 Nqt2 Sqt2)) ∧ (FoI To Ne Cr F2 A) ∧ ((what = 0 ∧ v = aFl Cr (aHrs To Ne Cr A (200 - A.2.1 0).toNat)) ∨ (what = 1 ∧ v = (aHrs To Ne Cr A (200 - A.2.1 0).toNat).2.1 1 - A.2.1 1) ∨ (¬ (what = 0 ∨ what = 1) ∧ v = -1)) ∧ (pw Nqt2 ∧ Nqt ≤ Nqt2 ∧ Nqt2 ≤ 4096) ∧ (Nqt + gc ≤ Nqt2) ∧ (8 * Nqt + gs ≤ 8 * Nqt2)) := by
  refine Mz.ofZ (by decide) rfl (Nat.le_of_ble_eq_true rfl) ?_
  intro zp ze zR zs zm zargs zbelow zmeth zc zA zQ ZC ZE hRf hRc hRs hRl
  have hpr1 := pw_rng hpw
  refine z_iload_n ZC 1 dX7_foretold_0 rfl rfl ?_
  rcases (show what = 0 ∨ what = 1 ∨ (what ≠ 0 ∧ what ≠ 1) by omega) with rfl | rfl | hsw_1
  · skip
    refine z_look ZC (off := 27) 28 dX7_foretold_1 (by omega) (by decide) (by decide) (by decide) ?_
    refine z_aload_n ZC 0 dX7_foretold_28 rfl rfl ?_
    refine z_get ZC inUX7 0 rfl rfl 5 (by decide) uF_X7_50 rfl dX7_foretold_29 ?_
    refine z_callV ZC 0 (c_X1_foresee zl D K (x 5) (upf xf 0 (x 3)) F (upf (upf (upf xu 0 (x 0)) 1 (x 1)) 2 (x 2)) U aqu Nqu Squ xv V aqt Nqt Sqt an Ne ato To ac Cr B Cq A (hcf) (hto) (hab) (hal) (hac) (hT) (hpb) (hB) (hpw) (hfi.1)) (gdV uM_X7_151 uI_X1_foresee uS_X1_foresee uN_X1 uC_X1_foresee) (by decide +kernel) rfl ⟨by omega, by omega⟩ ⟨by omega, by omega⟩ (Nat.le_of_ble_eq_true rfl) [33, 34, 35, 36, 17, 18, 19, 20, 21, 22, 23, 24, 25, 26, 27, 28, 29, 30, 31, 32, 37, 38, 39, 40, 41, 42, 43, 44, 45, 46, 47, 48, 49, 50, 51, 52, 4, 5, 6, 7, 8, 9, 10, 11, 12, 1, 2, 3, 13, 14, 15, 16] rfl (by decide) rfl rfl rfl rfl dX7_foretold_32 (fun r w2 gc_32 gs_32 hp => ?_)
    obtain ⟨F2_32, V2_32, aqt2_32, Nqt2_32, Sqt2_32, rfl, rfl, hF2_32, hkp_32, hpw2_32, hgc_32, hgs_32⟩ := hp
    refine z_ws (ws2 := [(h, .inr (7, [.ref (x 0), .ref (x 1), .ref (x 2), .ref (x 3), .ref (x 4), .ref (x 5)])), ((x 0), .inr (5, [.ref (ato 0), .ref (ato 1), vZ (To.2 2), vZ (To.2 3)])), ((ato 0), .inl (K.1, 10, .inl (ar (To.1 0)))), ((ato 1), .inl (K.1, 10, .inl (ar (To.1 1)))), ((x 1), .inr (4, [.ref (an 0), .ref (an 1), .ref (an 2), .ref (an 3), .ref (an 4), .ref (an 5), .ref (an 6), .ref (an 7), vZ (Ne.2 8)])), ((an 0), .inl (K.1, 16, .inl (ar (Ne.1 0)))), ((an 1), .inl (K.1, 16, .inl (ar (Ne.1 1)))), ((an 2), .inl (K.1, 16, .inl (ar (Ne.1 2)))), ((an 3), .inl (K.1, 16, .inl (ar (Ne.1 3)))), ((an 4), .inl (K.1, 16, .inl (ar (Ne.1 4)))), ((an 5), .inl (K.1, 16, .inl (ar (Ne.1 5)))), ((an 6), .inl (K.1, 100, .inl (ar (Ne.1 6)))), ((an 7), .inl (K.1, 100, .inl (ar (Ne.1 7)))), ((x 2), .inr (0, [.ref (ac 0), .ref (ac 1), .ref (ac 2), vZ (Cr.2 3), vZ (Cr.2 4)])), ((ac 0), .inl (K.1, 8, .inl (ar (Cr.1 0)))), ((ac 1), .inl (K.1, 8, .inl (ar (Cr.1 1)))), ((ac 2), .inl (K.1, 8, .inl (ar (Cr.1 2)))), ((x 3), .inr (6, [.ref (x 0), .ref (x 1), .ref (x 2), .ref (xu 3), .ref (xu 5), .ref (xu 6), .ref (xu 7), .ref (xu 8), .ref (xu 9), .ref (xu 10), .ref (xu 11), vZ (U.2 12), vZ (U.2 13), vZ (U.2 14), vZ (U.2 15)])), ((xu 5), .inl (K.1, 8, .inl (ar (U.1 5)))), ((xu 6), .inl (K.1, 8, .inl (ar (U.1 6)))), ((xu 7), .inl (K.1, 8, .inl (ar (U.1 7)))), ((xu 8), .inl (K.1, 10, .inl (ar (U.1 8)))), ((xu 9), .inl (K.1, 10, .inl (ar (U.1 9)))), ((xu 10), .inl (K.1, 10, .inl (ar (U.1 10)))), ((xu 11), .inl (K.1, 16, .inl (ar (U.1 11)))), ((xu 3), .inr (2, [.ref (aqu 0), .ref (aqu 1), .ref (aqu 2), .ref (aqu 3), .ref (aqu 4), .ref (aqu 5), .ref (aqu 6), vZ (Squ.2 7), vZ (Squ.2 8)])), ((aqu 0), .inl (K.1, 32, .inl (ar (Squ.1 0)))), ((aqu 1), .inl (K.1, 32, .inl (ar (Squ.1 1)))), ((aqu 2), .inl (K.1, 32, .inl (ar (Squ.1 2)))), ((aqu 3), .inl (K.1, Nqu, .inl (ar (Squ.1 3)))), ((aqu 4), .inl (K.1, Nqu, .inl (ar (Squ.1 4)))), ((aqu 5), .inl (K.1, Nqu, .inl (ar (Squ.1 5)))), ((aqu 6), .inl (K.1, Nqu, .inl (ar (Squ.1 6)))), ((x 5), .inr (1, [.ref (x 3), .ref (xf 1), .ref (xf 2), .ref (xf 3), .ref (xf 4), vZ (F2_32.2 5), vZ (F2_32.2 6), vZ (F2_32.2 7), vZ (F2_32.2 8), vZ (F2_32.2 9), vZ (F2_32.2 10), vZ (F2_32.2 11)])), ((xf 2), .inl (K.1, 10, .inl (ar (F2_32.1 2)))), ((xf 3), .inl (K.1, 4, .inl (ar (F2_32.1 3)))), ((xf 4), .inl (K.1, 4, .inl (ar (F2_32.1 4)))), ((xf 1), .inr (6, [.ref (x 0), .ref (x 1), .ref (x 2), .ref (xv 3), .ref (xv 5), .ref (xv 6), .ref (xv 7), .ref (xv 8), .ref (xv 9), .ref (xv 10), .ref (xv 11), vZ (V2_32.2 12), vZ (V2_32.2 13), vZ (V2_32.2 14), vZ (V2_32.2 15)])), ((xv 5), .inl (K.1, 8, .inl (ar (V2_32.1 5)))), ((xv 6), .inl (K.1, 8, .inl (ar (V2_32.1 6)))), ((xv 7), .inl (K.1, 8, .inl (ar (V2_32.1 7)))), ((xv 8), .inl (K.1, 10, .inl (ar (V2_32.1 8)))), ((xv 9), .inl (K.1, 10, .inl (ar (V2_32.1 9)))), ((xv 10), .inl (K.1, 10, .inl (ar (V2_32.1 10)))), ((xv 11), .inl (K.1, 16, .inl (ar (V2_32.1 11)))), ((xv 3), .inr (2, [.ref (aqt2_32 0), .ref (aqt2_32 1), .ref (aqt2_32 2), .ref (aqt2_32 3), .ref (aqt2_32 4), .ref (aqt2_32 5), .ref (aqt2_32 6), vZ (Sqt2_32.2 7), vZ (Sqt2_32.2 8)])), ((aqt2_32 0), .inl (K.1, 32, .inl (ar (Sqt2_32.1 0)))), ((aqt2_32 1), .inl (K.1, 32, .inl (ar (Sqt2_32.1 1)))), ((aqt2_32 2), .inl (K.1, 32, .inl (ar (Sqt2_32.1 2)))), ((aqt2_32 3), .inl (K.1, Nqt2_32, .inl (ar (Sqt2_32.1 3)))), ((aqt2_32 4), .inl (K.1, Nqt2_32, .inl (ar (Sqt2_32.1 4)))), ((aqt2_32 5), .inl (K.1, Nqt2_32, .inl (ar (Sqt2_32.1 5)))), ((aqt2_32 6), .inl (K.1, Nqt2_32, .inl (ar (Sqt2_32.1 6))))]) rfl ?_
    refine z_st (st2 := []) rfl ?_
    refine z_aload_n ZC 0 dX7_foretold_35 rfl rfl ?_
    refine z_get ZC inUX7 0 rfl rfl 5 (by decide) uF_X7_50 rfl dX7_foretold_36 ?_
    refine z_get ZC inUX1 33 rfl rfl 6 (by decide) uF_X7_154 rfl dX7_foretold_39 ?_
    refine z_iret ZC ZE dX7_foretold_42 (by omega) (by omega) (Nat.le_of_ble_eq_true rfl) ⟨F2_32, V2_32, aqt2_32, Nqt2_32, Sqt2_32, (F2_32.2 6), rfl, rfl, ?_, ?_, ?_, ?_, ?_⟩
    · skip
      exact ⟨Or.inr ⟨hF2_32.1, hF2_32.2⟩, by
        rcases hfi.2 with z | z
        · exact Or.inl (hkp_32.2.2.1.trans z)
        · exact Or.inr ⟨hkp_32.2.2.1.trans z.1, fop_keep hkp_32.1 hkp_32.2.1 hkp_32.2.2.2.1 hkp_32.2.2.2.2.1 hkp_32.2.2.2.2.2 z.2⟩⟩
    · skip
      exact Or.inl ⟨rfl, hF2_32.2.1⟩
    · skip
      exact hpw2_32
    · skip
      omega
    · skip
      omega
  · skip
    refine z_look ZC (off := 42) 43 dX7_foretold_1 (by omega) (by decide) (by decide) (by decide) ?_
    refine z_aload_n ZC 0 dX7_foretold_43 rfl rfl ?_
    refine z_get ZC inUX7 0 rfl rfl 5 (by decide) uF_X7_50 rfl dX7_foretold_44 ?_
    refine z_callV ZC 0 (c_X1_foresee zl D K (x 5) (upf xf 0 (x 3)) F (upf (upf (upf xu 0 (x 0)) 1 (x 1)) 2 (x 2)) U aqu Nqu Squ xv V aqt Nqt Sqt an Ne ato To ac Cr B Cq A (hcf) (hto) (hab) (hal) (hac) (hT) (hpb) (hB) (hpw) (hfi.1)) (gdV uM_X7_151 uI_X1_foresee uS_X1_foresee uN_X1 uC_X1_foresee) (by decide +kernel) rfl ⟨by omega, by omega⟩ ⟨by omega, by omega⟩ (Nat.le_of_ble_eq_true rfl) [33, 34, 35, 36, 17, 18, 19, 20, 21, 22, 23, 24, 25, 26, 27, 28, 29, 30, 31, 32, 37, 38, 39, 40, 41, 42, 43, 44, 45, 46, 47, 48, 49, 50, 51, 52, 4, 5, 6, 7, 8, 9, 10, 11, 12, 1, 2, 3, 13, 14, 15, 16] rfl (by decide) rfl rfl rfl rfl dX7_foretold_47 (fun r w2 gc_47 gs_47 hp => ?_)
    obtain ⟨F2_47, V2_47, aqt2_47, Nqt2_47, Sqt2_47, rfl, rfl, hF2_47, hkp_47, hpw2_47, hgc_47, hgs_47⟩ := hp
    refine z_ws (ws2 := [(h, .inr (7, [.ref (x 0), .ref (x 1), .ref (x 2), .ref (x 3), .ref (x 4), .ref (x 5)])), ((x 0), .inr (5, [.ref (ato 0), .ref (ato 1), vZ (To.2 2), vZ (To.2 3)])), ((ato 0), .inl (K.1, 10, .inl (ar (To.1 0)))), ((ato 1), .inl (K.1, 10, .inl (ar (To.1 1)))), ((x 1), .inr (4, [.ref (an 0), .ref (an 1), .ref (an 2), .ref (an 3), .ref (an 4), .ref (an 5), .ref (an 6), .ref (an 7), vZ (Ne.2 8)])), ((an 0), .inl (K.1, 16, .inl (ar (Ne.1 0)))), ((an 1), .inl (K.1, 16, .inl (ar (Ne.1 1)))), ((an 2), .inl (K.1, 16, .inl (ar (Ne.1 2)))), ((an 3), .inl (K.1, 16, .inl (ar (Ne.1 3)))), ((an 4), .inl (K.1, 16, .inl (ar (Ne.1 4)))), ((an 5), .inl (K.1, 16, .inl (ar (Ne.1 5)))), ((an 6), .inl (K.1, 100, .inl (ar (Ne.1 6)))), ((an 7), .inl (K.1, 100, .inl (ar (Ne.1 7)))), ((x 2), .inr (0, [.ref (ac 0), .ref (ac 1), .ref (ac 2), vZ (Cr.2 3), vZ (Cr.2 4)])), ((ac 0), .inl (K.1, 8, .inl (ar (Cr.1 0)))), ((ac 1), .inl (K.1, 8, .inl (ar (Cr.1 1)))), ((ac 2), .inl (K.1, 8, .inl (ar (Cr.1 2)))), ((x 3), .inr (6, [.ref (x 0), .ref (x 1), .ref (x 2), .ref (xu 3), .ref (xu 5), .ref (xu 6), .ref (xu 7), .ref (xu 8), .ref (xu 9), .ref (xu 10), .ref (xu 11), vZ (U.2 12), vZ (U.2 13), vZ (U.2 14), vZ (U.2 15)])), ((xu 5), .inl (K.1, 8, .inl (ar (U.1 5)))), ((xu 6), .inl (K.1, 8, .inl (ar (U.1 6)))), ((xu 7), .inl (K.1, 8, .inl (ar (U.1 7)))), ((xu 8), .inl (K.1, 10, .inl (ar (U.1 8)))), ((xu 9), .inl (K.1, 10, .inl (ar (U.1 9)))), ((xu 10), .inl (K.1, 10, .inl (ar (U.1 10)))), ((xu 11), .inl (K.1, 16, .inl (ar (U.1 11)))), ((xu 3), .inr (2, [.ref (aqu 0), .ref (aqu 1), .ref (aqu 2), .ref (aqu 3), .ref (aqu 4), .ref (aqu 5), .ref (aqu 6), vZ (Squ.2 7), vZ (Squ.2 8)])), ((aqu 0), .inl (K.1, 32, .inl (ar (Squ.1 0)))), ((aqu 1), .inl (K.1, 32, .inl (ar (Squ.1 1)))), ((aqu 2), .inl (K.1, 32, .inl (ar (Squ.1 2)))), ((aqu 3), .inl (K.1, Nqu, .inl (ar (Squ.1 3)))), ((aqu 4), .inl (K.1, Nqu, .inl (ar (Squ.1 4)))), ((aqu 5), .inl (K.1, Nqu, .inl (ar (Squ.1 5)))), ((aqu 6), .inl (K.1, Nqu, .inl (ar (Squ.1 6)))), ((x 5), .inr (1, [.ref (x 3), .ref (xf 1), .ref (xf 2), .ref (xf 3), .ref (xf 4), vZ (F2_47.2 5), vZ (F2_47.2 6), vZ (F2_47.2 7), vZ (F2_47.2 8), vZ (F2_47.2 9), vZ (F2_47.2 10), vZ (F2_47.2 11)])), ((xf 2), .inl (K.1, 10, .inl (ar (F2_47.1 2)))), ((xf 3), .inl (K.1, 4, .inl (ar (F2_47.1 3)))), ((xf 4), .inl (K.1, 4, .inl (ar (F2_47.1 4)))), ((xf 1), .inr (6, [.ref (x 0), .ref (x 1), .ref (x 2), .ref (xv 3), .ref (xv 5), .ref (xv 6), .ref (xv 7), .ref (xv 8), .ref (xv 9), .ref (xv 10), .ref (xv 11), vZ (V2_47.2 12), vZ (V2_47.2 13), vZ (V2_47.2 14), vZ (V2_47.2 15)])), ((xv 5), .inl (K.1, 8, .inl (ar (V2_47.1 5)))), ((xv 6), .inl (K.1, 8, .inl (ar (V2_47.1 6)))), ((xv 7), .inl (K.1, 8, .inl (ar (V2_47.1 7)))), ((xv 8), .inl (K.1, 10, .inl (ar (V2_47.1 8)))), ((xv 9), .inl (K.1, 10, .inl (ar (V2_47.1 9)))), ((xv 10), .inl (K.1, 10, .inl (ar (V2_47.1 10)))), ((xv 11), .inl (K.1, 16, .inl (ar (V2_47.1 11)))), ((xv 3), .inr (2, [.ref (aqt2_47 0), .ref (aqt2_47 1), .ref (aqt2_47 2), .ref (aqt2_47 3), .ref (aqt2_47 4), .ref (aqt2_47 5), .ref (aqt2_47 6), vZ (Sqt2_47.2 7), vZ (Sqt2_47.2 8)])), ((aqt2_47 0), .inl (K.1, 32, .inl (ar (Sqt2_47.1 0)))), ((aqt2_47 1), .inl (K.1, 32, .inl (ar (Sqt2_47.1 1)))), ((aqt2_47 2), .inl (K.1, 32, .inl (ar (Sqt2_47.1 2)))), ((aqt2_47 3), .inl (K.1, Nqt2_47, .inl (ar (Sqt2_47.1 3)))), ((aqt2_47 4), .inl (K.1, Nqt2_47, .inl (ar (Sqt2_47.1 4)))), ((aqt2_47 5), .inl (K.1, Nqt2_47, .inl (ar (Sqt2_47.1 5)))), ((aqt2_47 6), .inl (K.1, Nqt2_47, .inl (ar (Sqt2_47.1 6))))]) rfl ?_
    refine z_st (st2 := []) rfl ?_
    refine z_aload_n ZC 0 dX7_foretold_50 rfl rfl ?_
    refine z_get ZC inUX7 0 rfl rfl 5 (by decide) uF_X7_50 rfl dX7_foretold_51 ?_
    refine z_get ZC inUX1 33 rfl rfl 7 (by decide) uF_X7_157 rfl dX7_foretold_54 ?_
    refine z_iret ZC ZE dX7_foretold_57 (by omega) (by omega) (Nat.le_of_ble_eq_true rfl) ⟨F2_47, V2_47, aqt2_47, Nqt2_47, Sqt2_47, (F2_47.2 7), rfl, rfl, ?_, ?_, ?_, ?_, ?_⟩
    · skip
      exact ⟨Or.inr ⟨hF2_47.1, hF2_47.2⟩, by
        rcases hfi.2 with z | z
        · exact Or.inl (hkp_47.2.2.1.trans z)
        · exact Or.inr ⟨hkp_47.2.2.1.trans z.1, fop_keep hkp_47.1 hkp_47.2.1 hkp_47.2.2.2.1 hkp_47.2.2.2.2.1 hkp_47.2.2.2.2.2 z.2⟩⟩
    · skip
      exact Or.inr (Or.inl ⟨rfl, hF2_47.2.2.1⟩)
    · skip
      exact hpw2_47
    · skip
      omega
    · skip
      omega
  · skip
    refine z_look ZC (off := 57) 58 dX7_foretold_1 (by omega) (by decide) (by show Op.lookupswitch.offset [(0, 27), (1, 42)] 57 what = 57; rw [Op.lookupswitch.offset_cons, if_neg (by omega), Op.lookupswitch.offset_cons, if_neg (by omega)]; rfl) (by decide) ?_
    refine z_iconst ZC dX7_foretold_58 ?_
    refine z_iret ZC ZE dX7_foretold_59 (by omega) (by omega) (Nat.le_of_ble_eq_true rfl) ⟨F, V, aqt, Nqt, Sqt, (-1), rfl, rfl, ?_, ?_, ?_, ?_, ?_⟩
    · skip
      exact hfi
    · skip
      exact Or.inr (Or.inr ⟨by omega, rfl⟩)
    · skip
      exact ⟨hpw, by have := pw_rng hpw; omega⟩
    · skip
      omega
    · skip
      omega

set_option maxHeartbeats 4000000 in
set_option maxRecDepth 100000 in
theorem c_X7_planned (zl : Launch) (D : va_G) (K : tyK) (h : Nat) (x : Nat → Nat) (ato : Nat → Nat) (To : Bd) (an : Nat → Nat) (Ne : Bd) (ac : Nat → Nat) (Cr : Bd) (xu : Nat → Nat) (U : Bd) (aqu : Nat → Nat) (Nqu : Nat) (Squ : Bd) (xf : Nat → Nat) (F : Bd) (xv : Nat → Nat) (V : Bd) (aqt : Nat → Nat) (Nqt : Nat) (Sqt : Bd) (B : Nat) (Cq : Int → List Pt3) (A : Ab) (what : Int) (hz_what : -2147483648 ≤ what ∧ what < 2147483648) (hcf : Cfg Ne Cr) (hto : 0 ≤ To.2 3 ∧ To.2 3 ≤ 10) (hab : AB Ne Cr A) (hal : AL Cr A) (hac : Cr.2 4 = smI (Cr.1 1) 0 (Cr.2 3).toNat) (hT : TrR Ne Cr B U Nqu Squ Cq A) (hpb : ((lns Cq 32 : Nat) : Int) ≤ oc Cr A + 16 * A.2.1 0) (hB : 3300 ≤ B ∧ B ≤ 4000) (hpw : pw Nqt) (hfi : FoI To Ne Cr F A) (hah : ∀ c : Int, 0 ≤ c → c < Cr.2 3 → A.1 0 c ≤ 199) : Mz zl yX7_planned cX7_planned 2 (some .int) 7 162 35000 350000 D K [.ref h, vZ what] ((wSh h x) ++ (wTo K (x 0) ato To) ++ (wNe K (x 1) an Ne) ++ (wCr K (x 2) ac Cr) ++ (wTr K (x 3) (upf (upf (upf xu 0 (x 0)) 1 (x 1)) 2 (x 2)) U) ++ (wLn K (xu 3) aqu Nqu Squ) ++ (wFo K (x 5) (upf xf 0 (x 3)) F) ++ (wTr K (xf 1) (upf (upf (upf xv 0 (x 0)) 1 (x 1)) 2 (x 2)) V) ++ (wLn K (xv 3) aqt Nqt Sqt)) (fun r_ w2_ gc gs => ∃ (F2 : Bd), ∃ (V2 : Bd), ∃ (aqt2 : Nat → Nat), ∃ (Nqt2 : Nat), ∃ (Sqt2 : Bd), ∃ (v : Int), r_ = some (vZ v) ∧ w2_ = ((wSh h x) ++ (wTo K (x 0) ato To) ++ (wNe K (x 1) an Ne) ++ (wCr K (x 2) ac Cr) ++ (wTr K (x 3) (upf (upf (upf xu 0 (x 0)) 1 (x 1)) 2 (x 2)) U) ++ (wLn K (xu 3) aqu Nqu Squ) ++ (wFo K (x 5) (upf xf 0 (x 3)) F2) ++ (wTr K (xf 1) (upf (upf (upf xv 0 (x 0)) 1 (x 1)) 2 (x 2)) V2) ++ (wLn K (xv 3) aqt2 Nqt2 Sqt2)) ∧ (FoI To Ne Cr F2 A) ∧ (((what = 0 ∨ what = 1) ∧ ((((wlA Cr A).length = 0 ∨ 4 < (wlA Cr A).length) ∧ v = -1) ∨ ((0 < (wlA Cr A).length ∧ (wlA Cr A).length ≤ 4) ∧ v = if what = 0 then (pFold Ne Cr A (4 ^ (wlA Cr A).length)).1 else (pFold Ne Cr A (4 ^ (wlA Cr A).length)).2.1))) ∨ (¬ (what = 0 ∨ what = 1) ∧ v = -1)) ∧ (pw Nqt2 ∧ Nqt ≤ Nqt2 ∧ Nqt2 ≤ 4096) ∧ (Nqt + gc ≤ Nqt2) ∧ (8 * Nqt + gs ≤ 8 * Nqt2)) := by
  refine Mz.ofZ (by decide) rfl (Nat.le_of_ble_eq_true rfl) ?_
  intro zp ze zR zs zm zargs zbelow zmeth zc zA zQ ZC ZE hRf hRc hRs hRl
  have hpr1 := pw_rng hpw
  refine z_iload_n ZC 1 dX7_planned_0 rfl rfl ?_
  rcases (show what = 0 ∨ what = 1 ∨ (what ≠ 0 ∧ what ≠ 1) by omega) with rfl | rfl | hsw_1
  · skip
    refine z_look ZC (off := 27) 28 dX7_planned_1 (by omega) (by decide) (by decide) (by decide) ?_
    refine z_aload_n ZC 0 dX7_planned_28 rfl rfl ?_
    refine z_get ZC inUX7 0 rfl rfl 5 (by decide) uF_X7_50 rfl dX7_planned_29 ?_
    refine z_callV ZC 0 (c_X1_makePlan zl D K (x 5) (upf xf 0 (x 3)) F (upf (upf (upf xu 0 (x 0)) 1 (x 1)) 2 (x 2)) U aqu Nqu Squ xv V aqt Nqt Sqt an Ne ato To ac Cr B Cq A (hcf) (hto) (hab) (hal) (hac) (hT) (hpb) (hB) (hpw) (hfi.2) (hah)) (gdV uM_X7_163 uI_X1_makePlan uS_X1_makePlan uN_X1 uC_X1_makePlan) (by decide +kernel) rfl ⟨by omega, by omega⟩ ⟨by omega, by omega⟩ (Nat.le_of_ble_eq_true rfl) [33, 34, 35, 36, 17, 18, 19, 20, 21, 22, 23, 24, 25, 26, 27, 28, 29, 30, 31, 32, 37, 38, 39, 40, 41, 42, 43, 44, 45, 46, 47, 48, 49, 50, 51, 52, 4, 5, 6, 7, 8, 9, 10, 11, 12, 1, 2, 3, 13, 14, 15, 16] rfl (by decide) rfl rfl rfl rfl dX7_planned_32 (fun r w2 gc_32 gs_32 hp => ?_)
    obtain ⟨F2_32, V2_32, aqt2_32, Nqt2_32, Sqt2_32, rfl, rfl, hP2_32, hkp_32, hpw2_32, hgc_32, hgs_32⟩ := hp
    refine z_ws (ws2 := [(h, .inr (7, [.ref (x 0), .ref (x 1), .ref (x 2), .ref (x 3), .ref (x 4), .ref (x 5)])), ((x 0), .inr (5, [.ref (ato 0), .ref (ato 1), vZ (To.2 2), vZ (To.2 3)])), ((ato 0), .inl (K.1, 10, .inl (ar (To.1 0)))), ((ato 1), .inl (K.1, 10, .inl (ar (To.1 1)))), ((x 1), .inr (4, [.ref (an 0), .ref (an 1), .ref (an 2), .ref (an 3), .ref (an 4), .ref (an 5), .ref (an 6), .ref (an 7), vZ (Ne.2 8)])), ((an 0), .inl (K.1, 16, .inl (ar (Ne.1 0)))), ((an 1), .inl (K.1, 16, .inl (ar (Ne.1 1)))), ((an 2), .inl (K.1, 16, .inl (ar (Ne.1 2)))), ((an 3), .inl (K.1, 16, .inl (ar (Ne.1 3)))), ((an 4), .inl (K.1, 16, .inl (ar (Ne.1 4)))), ((an 5), .inl (K.1, 16, .inl (ar (Ne.1 5)))), ((an 6), .inl (K.1, 100, .inl (ar (Ne.1 6)))), ((an 7), .inl (K.1, 100, .inl (ar (Ne.1 7)))), ((x 2), .inr (0, [.ref (ac 0), .ref (ac 1), .ref (ac 2), vZ (Cr.2 3), vZ (Cr.2 4)])), ((ac 0), .inl (K.1, 8, .inl (ar (Cr.1 0)))), ((ac 1), .inl (K.1, 8, .inl (ar (Cr.1 1)))), ((ac 2), .inl (K.1, 8, .inl (ar (Cr.1 2)))), ((x 3), .inr (6, [.ref (x 0), .ref (x 1), .ref (x 2), .ref (xu 3), .ref (xu 5), .ref (xu 6), .ref (xu 7), .ref (xu 8), .ref (xu 9), .ref (xu 10), .ref (xu 11), vZ (U.2 12), vZ (U.2 13), vZ (U.2 14), vZ (U.2 15)])), ((xu 5), .inl (K.1, 8, .inl (ar (U.1 5)))), ((xu 6), .inl (K.1, 8, .inl (ar (U.1 6)))), ((xu 7), .inl (K.1, 8, .inl (ar (U.1 7)))), ((xu 8), .inl (K.1, 10, .inl (ar (U.1 8)))), ((xu 9), .inl (K.1, 10, .inl (ar (U.1 9)))), ((xu 10), .inl (K.1, 10, .inl (ar (U.1 10)))), ((xu 11), .inl (K.1, 16, .inl (ar (U.1 11)))), ((xu 3), .inr (2, [.ref (aqu 0), .ref (aqu 1), .ref (aqu 2), .ref (aqu 3), .ref (aqu 4), .ref (aqu 5), .ref (aqu 6), vZ (Squ.2 7), vZ (Squ.2 8)])), ((aqu 0), .inl (K.1, 32, .inl (ar (Squ.1 0)))), ((aqu 1), .inl (K.1, 32, .inl (ar (Squ.1 1)))), ((aqu 2), .inl (K.1, 32, .inl (ar (Squ.1 2)))), ((aqu 3), .inl (K.1, Nqu, .inl (ar (Squ.1 3)))), ((aqu 4), .inl (K.1, Nqu, .inl (ar (Squ.1 4)))), ((aqu 5), .inl (K.1, Nqu, .inl (ar (Squ.1 5)))), ((aqu 6), .inl (K.1, Nqu, .inl (ar (Squ.1 6)))), ((x 5), .inr (1, [.ref (x 3), .ref (xf 1), .ref (xf 2), .ref (xf 3), .ref (xf 4), vZ (F2_32.2 5), vZ (F2_32.2 6), vZ (F2_32.2 7), vZ (F2_32.2 8), vZ (F2_32.2 9), vZ (F2_32.2 10), vZ (F2_32.2 11)])), ((xf 2), .inl (K.1, 10, .inl (ar (F2_32.1 2)))), ((xf 3), .inl (K.1, 4, .inl (ar (F2_32.1 3)))), ((xf 4), .inl (K.1, 4, .inl (ar (F2_32.1 4)))), ((xf 1), .inr (6, [.ref (x 0), .ref (x 1), .ref (x 2), .ref (xv 3), .ref (xv 5), .ref (xv 6), .ref (xv 7), .ref (xv 8), .ref (xv 9), .ref (xv 10), .ref (xv 11), vZ (V2_32.2 12), vZ (V2_32.2 13), vZ (V2_32.2 14), vZ (V2_32.2 15)])), ((xv 5), .inl (K.1, 8, .inl (ar (V2_32.1 5)))), ((xv 6), .inl (K.1, 8, .inl (ar (V2_32.1 6)))), ((xv 7), .inl (K.1, 8, .inl (ar (V2_32.1 7)))), ((xv 8), .inl (K.1, 10, .inl (ar (V2_32.1 8)))), ((xv 9), .inl (K.1, 10, .inl (ar (V2_32.1 9)))), ((xv 10), .inl (K.1, 10, .inl (ar (V2_32.1 10)))), ((xv 11), .inl (K.1, 16, .inl (ar (V2_32.1 11)))), ((xv 3), .inr (2, [.ref (aqt2_32 0), .ref (aqt2_32 1), .ref (aqt2_32 2), .ref (aqt2_32 3), .ref (aqt2_32 4), .ref (aqt2_32 5), .ref (aqt2_32 6), vZ (Sqt2_32.2 7), vZ (Sqt2_32.2 8)])), ((aqt2_32 0), .inl (K.1, 32, .inl (ar (Sqt2_32.1 0)))), ((aqt2_32 1), .inl (K.1, 32, .inl (ar (Sqt2_32.1 1)))), ((aqt2_32 2), .inl (K.1, 32, .inl (ar (Sqt2_32.1 2)))), ((aqt2_32 3), .inl (K.1, Nqt2_32, .inl (ar (Sqt2_32.1 3)))), ((aqt2_32 4), .inl (K.1, Nqt2_32, .inl (ar (Sqt2_32.1 4)))), ((aqt2_32 5), .inl (K.1, Nqt2_32, .inl (ar (Sqt2_32.1 5)))), ((aqt2_32 6), .inl (K.1, Nqt2_32, .inl (ar (Sqt2_32.1 6))))]) rfl ?_
    refine z_st (st2 := []) rfl ?_
    have hP := hP2_32.2
    have hn9 : 0 ≤ F2_32.2 9 ∧ F2_32.2 9 ≤ 4 := by
      rcases hP with z | z
      · omega
      · omega
    refine z_aload_n ZC 0 dX7_planned_35 rfl rfl ?_
    refine z_get ZC inUX7 0 rfl rfl 5 (by decide) uF_X7_50 rfl dX7_planned_36 ?_
    refine z_callV ZC 0 (c_X1_hasPlan zl D K (x 5) (upf xf 0 (x 3)) F2_32 (by omega)) (gdV uM_X7_169 uI_X1_hasPlan uS_X1_hasPlan uN_X1 uC_X1_hasPlan) (by decide +kernel) rfl ⟨by omega, by omega⟩ ⟨by omega, by omega⟩ (Nat.le_of_ble_eq_true rfl) [33, 34, 35, 36] rfl (by decide) rfl rfl rfl rfl dX7_planned_39 (fun r w2 gc_39 gs_39 hp => ?_)
    obtain ⟨b_39, rfl, rfl, rfl, rfl, hb_39⟩ := hp
    refine z_ws (ws2 := [(h, .inr (7, [.ref (x 0), .ref (x 1), .ref (x 2), .ref (x 3), .ref (x 4), .ref (x 5)])), ((x 0), .inr (5, [.ref (ato 0), .ref (ato 1), vZ (To.2 2), vZ (To.2 3)])), ((ato 0), .inl (K.1, 10, .inl (ar (To.1 0)))), ((ato 1), .inl (K.1, 10, .inl (ar (To.1 1)))), ((x 1), .inr (4, [.ref (an 0), .ref (an 1), .ref (an 2), .ref (an 3), .ref (an 4), .ref (an 5), .ref (an 6), .ref (an 7), vZ (Ne.2 8)])), ((an 0), .inl (K.1, 16, .inl (ar (Ne.1 0)))), ((an 1), .inl (K.1, 16, .inl (ar (Ne.1 1)))), ((an 2), .inl (K.1, 16, .inl (ar (Ne.1 2)))), ((an 3), .inl (K.1, 16, .inl (ar (Ne.1 3)))), ((an 4), .inl (K.1, 16, .inl (ar (Ne.1 4)))), ((an 5), .inl (K.1, 16, .inl (ar (Ne.1 5)))), ((an 6), .inl (K.1, 100, .inl (ar (Ne.1 6)))), ((an 7), .inl (K.1, 100, .inl (ar (Ne.1 7)))), ((x 2), .inr (0, [.ref (ac 0), .ref (ac 1), .ref (ac 2), vZ (Cr.2 3), vZ (Cr.2 4)])), ((ac 0), .inl (K.1, 8, .inl (ar (Cr.1 0)))), ((ac 1), .inl (K.1, 8, .inl (ar (Cr.1 1)))), ((ac 2), .inl (K.1, 8, .inl (ar (Cr.1 2)))), ((x 3), .inr (6, [.ref (x 0), .ref (x 1), .ref (x 2), .ref (xu 3), .ref (xu 5), .ref (xu 6), .ref (xu 7), .ref (xu 8), .ref (xu 9), .ref (xu 10), .ref (xu 11), vZ (U.2 12), vZ (U.2 13), vZ (U.2 14), vZ (U.2 15)])), ((xu 5), .inl (K.1, 8, .inl (ar (U.1 5)))), ((xu 6), .inl (K.1, 8, .inl (ar (U.1 6)))), ((xu 7), .inl (K.1, 8, .inl (ar (U.1 7)))), ((xu 8), .inl (K.1, 10, .inl (ar (U.1 8)))), ((xu 9), .inl (K.1, 10, .inl (ar (U.1 9)))), ((xu 10), .inl (K.1, 10, .inl (ar (U.1 10)))), ((xu 11), .inl (K.1, 16, .inl (ar (U.1 11)))), ((xu 3), .inr (2, [.ref (aqu 0), .ref (aqu 1), .ref (aqu 2), .ref (aqu 3), .ref (aqu 4), .ref (aqu 5), .ref (aqu 6), vZ (Squ.2 7), vZ (Squ.2 8)])), ((aqu 0), .inl (K.1, 32, .inl (ar (Squ.1 0)))), ((aqu 1), .inl (K.1, 32, .inl (ar (Squ.1 1)))), ((aqu 2), .inl (K.1, 32, .inl (ar (Squ.1 2)))), ((aqu 3), .inl (K.1, Nqu, .inl (ar (Squ.1 3)))), ((aqu 4), .inl (K.1, Nqu, .inl (ar (Squ.1 4)))), ((aqu 5), .inl (K.1, Nqu, .inl (ar (Squ.1 5)))), ((aqu 6), .inl (K.1, Nqu, .inl (ar (Squ.1 6)))), ((x 5), .inr (1, [.ref (x 3), .ref (xf 1), .ref (xf 2), .ref (xf 3), .ref (xf 4), vZ (F2_32.2 5), vZ (F2_32.2 6), vZ (F2_32.2 7), vZ (F2_32.2 8), vZ (F2_32.2 9), vZ (F2_32.2 10), vZ (F2_32.2 11)])), ((xf 2), .inl (K.1, 10, .inl (ar (F2_32.1 2)))), ((xf 3), .inl (K.1, 4, .inl (ar (F2_32.1 3)))), ((xf 4), .inl (K.1, 4, .inl (ar (F2_32.1 4)))), ((xf 1), .inr (6, [.ref (x 0), .ref (x 1), .ref (x 2), .ref (xv 3), .ref (xv 5), .ref (xv 6), .ref (xv 7), .ref (xv 8), .ref (xv 9), .ref (xv 10), .ref (xv 11), vZ (V2_32.2 12), vZ (V2_32.2 13), vZ (V2_32.2 14), vZ (V2_32.2 15)])), ((xv 5), .inl (K.1, 8, .inl (ar (V2_32.1 5)))), ((xv 6), .inl (K.1, 8, .inl (ar (V2_32.1 6)))), ((xv 7), .inl (K.1, 8, .inl (ar (V2_32.1 7)))), ((xv 8), .inl (K.1, 10, .inl (ar (V2_32.1 8)))), ((xv 9), .inl (K.1, 10, .inl (ar (V2_32.1 9)))), ((xv 10), .inl (K.1, 10, .inl (ar (V2_32.1 10)))), ((xv 11), .inl (K.1, 16, .inl (ar (V2_32.1 11)))), ((xv 3), .inr (2, [.ref (aqt2_32 0), .ref (aqt2_32 1), .ref (aqt2_32 2), .ref (aqt2_32 3), .ref (aqt2_32 4), .ref (aqt2_32 5), .ref (aqt2_32 6), vZ (Sqt2_32.2 7), vZ (Sqt2_32.2 8)])), ((aqt2_32 0), .inl (K.1, 32, .inl (ar (Sqt2_32.1 0)))), ((aqt2_32 1), .inl (K.1, 32, .inl (ar (Sqt2_32.1 1)))), ((aqt2_32 2), .inl (K.1, 32, .inl (ar (Sqt2_32.1 2)))), ((aqt2_32 3), .inl (K.1, Nqt2_32, .inl (ar (Sqt2_32.1 3)))), ((aqt2_32 4), .inl (K.1, Nqt2_32, .inl (ar (Sqt2_32.1 4)))), ((aqt2_32 5), .inl (K.1, Nqt2_32, .inl (ar (Sqt2_32.1 5)))), ((aqt2_32 6), .inl (K.1, Nqt2_32, .inl (ar (Sqt2_32.1 6))))]) rfl ?_
    refine z_st (st2 := [vZ b_39]) rfl ?_
    refine z_if_eq ZC 55 dX7_planned_42 (by decide) (by omega) (fun c_42 => ?_) (fun c_42 => ?_)
    · skip
      refine z_iconst ZC dX7_planned_55 ?_
      refine z_iret ZC ZE dX7_planned_56 (by omega) (by omega) (Nat.le_of_ble_eq_true rfl) ⟨F2_32, V2_32, aqt2_32, Nqt2_32, Sqt2_32, (-1), rfl, rfl, ?_, ?_, ?_, ?_, ?_⟩
      · skip
        exact ⟨by
          rcases hfi.1 with z | z
          · exact Or.inl (hkp_32.2.1.trans z)
          · exact Or.inr ⟨hkp_32.2.1.trans z.1, fov_keep hkp_32.1 hkp_32.2.2.1 hkp_32.2.2.2 z.2⟩, Or.inr hP2_32⟩
      · skip
        exact Or.inl ⟨Or.inl rfl, Or.inl (by
          rcases hP with z | z
          · exact ⟨z.1, rfl⟩
          · omega)⟩
      · skip
        exact hpw2_32
      · skip
        omega
      · skip
        omega
    · skip
      refine z_aload_n ZC 0 dX7_planned_45 rfl rfl ?_
      refine z_get ZC inUX7 0 rfl rfl 5 (by decide) uF_X7_50 rfl dX7_planned_46 ?_
      refine z_get ZC inUX1 33 rfl rfl 10 (by decide) uF_X7_173 rfl dX7_planned_49 ?_
      refine z_goto ZC 56 dX7_planned_52 (by decide) ?_
      refine z_iret ZC ZE dX7_planned_56 (by omega) (by omega) (Nat.le_of_ble_eq_true rfl) ⟨F2_32, V2_32, aqt2_32, Nqt2_32, Sqt2_32, (F2_32.2 10), rfl, rfl, ?_, ?_, ?_, ?_, ?_⟩
      · skip
        exact ⟨by
          rcases hfi.1 with z | z
          · exact Or.inl (hkp_32.2.1.trans z)
          · exact Or.inr ⟨hkp_32.2.1.trans z.1, fov_keep hkp_32.1 hkp_32.2.2.1 hkp_32.2.2.2 z.2⟩, Or.inr hP2_32⟩
      · skip
        exact Or.inl ⟨Or.inl rfl, Or.inr (by
          rcases hP with z | z
          · omega
          · exact ⟨z.1, z.2.2.2.1⟩)⟩
      · skip
        exact hpw2_32
      · skip
        omega
      · skip
        omega
  · skip
    refine z_look ZC (off := 56) 57 dX7_planned_1 (by omega) (by decide) (by decide) (by decide) ?_
    refine z_aload_n ZC 0 dX7_planned_57 rfl rfl ?_
    refine z_get ZC inUX7 0 rfl rfl 5 (by decide) uF_X7_50 rfl dX7_planned_58 ?_
    refine z_callV ZC 0 (c_X1_makePlan zl D K (x 5) (upf xf 0 (x 3)) F (upf (upf (upf xu 0 (x 0)) 1 (x 1)) 2 (x 2)) U aqu Nqu Squ xv V aqt Nqt Sqt an Ne ato To ac Cr B Cq A (hcf) (hto) (hab) (hal) (hac) (hT) (hpb) (hB) (hpw) (hfi.2) (hah)) (gdV uM_X7_163 uI_X1_makePlan uS_X1_makePlan uN_X1 uC_X1_makePlan) (by decide +kernel) rfl ⟨by omega, by omega⟩ ⟨by omega, by omega⟩ (Nat.le_of_ble_eq_true rfl) [33, 34, 35, 36, 17, 18, 19, 20, 21, 22, 23, 24, 25, 26, 27, 28, 29, 30, 31, 32, 37, 38, 39, 40, 41, 42, 43, 44, 45, 46, 47, 48, 49, 50, 51, 52, 4, 5, 6, 7, 8, 9, 10, 11, 12, 1, 2, 3, 13, 14, 15, 16] rfl (by decide) rfl rfl rfl rfl dX7_planned_61 (fun r w2 gc_61 gs_61 hp => ?_)
    obtain ⟨F2_61, V2_61, aqt2_61, Nqt2_61, Sqt2_61, rfl, rfl, hP2_61, hkp_61, hpw2_61, hgc_61, hgs_61⟩ := hp
    refine z_ws (ws2 := [(h, .inr (7, [.ref (x 0), .ref (x 1), .ref (x 2), .ref (x 3), .ref (x 4), .ref (x 5)])), ((x 0), .inr (5, [.ref (ato 0), .ref (ato 1), vZ (To.2 2), vZ (To.2 3)])), ((ato 0), .inl (K.1, 10, .inl (ar (To.1 0)))), ((ato 1), .inl (K.1, 10, .inl (ar (To.1 1)))), ((x 1), .inr (4, [.ref (an 0), .ref (an 1), .ref (an 2), .ref (an 3), .ref (an 4), .ref (an 5), .ref (an 6), .ref (an 7), vZ (Ne.2 8)])), ((an 0), .inl (K.1, 16, .inl (ar (Ne.1 0)))), ((an 1), .inl (K.1, 16, .inl (ar (Ne.1 1)))), ((an 2), .inl (K.1, 16, .inl (ar (Ne.1 2)))), ((an 3), .inl (K.1, 16, .inl (ar (Ne.1 3)))), ((an 4), .inl (K.1, 16, .inl (ar (Ne.1 4)))), ((an 5), .inl (K.1, 16, .inl (ar (Ne.1 5)))), ((an 6), .inl (K.1, 100, .inl (ar (Ne.1 6)))), ((an 7), .inl (K.1, 100, .inl (ar (Ne.1 7)))), ((x 2), .inr (0, [.ref (ac 0), .ref (ac 1), .ref (ac 2), vZ (Cr.2 3), vZ (Cr.2 4)])), ((ac 0), .inl (K.1, 8, .inl (ar (Cr.1 0)))), ((ac 1), .inl (K.1, 8, .inl (ar (Cr.1 1)))), ((ac 2), .inl (K.1, 8, .inl (ar (Cr.1 2)))), ((x 3), .inr (6, [.ref (x 0), .ref (x 1), .ref (x 2), .ref (xu 3), .ref (xu 5), .ref (xu 6), .ref (xu 7), .ref (xu 8), .ref (xu 9), .ref (xu 10), .ref (xu 11), vZ (U.2 12), vZ (U.2 13), vZ (U.2 14), vZ (U.2 15)])), ((xu 5), .inl (K.1, 8, .inl (ar (U.1 5)))), ((xu 6), .inl (K.1, 8, .inl (ar (U.1 6)))), ((xu 7), .inl (K.1, 8, .inl (ar (U.1 7)))), ((xu 8), .inl (K.1, 10, .inl (ar (U.1 8)))), ((xu 9), .inl (K.1, 10, .inl (ar (U.1 9)))), ((xu 10), .inl (K.1, 10, .inl (ar (U.1 10)))), ((xu 11), .inl (K.1, 16, .inl (ar (U.1 11)))), ((xu 3), .inr (2, [.ref (aqu 0), .ref (aqu 1), .ref (aqu 2), .ref (aqu 3), .ref (aqu 4), .ref (aqu 5), .ref (aqu 6), vZ (Squ.2 7), vZ (Squ.2 8)])), ((aqu 0), .inl (K.1, 32, .inl (ar (Squ.1 0)))), ((aqu 1), .inl (K.1, 32, .inl (ar (Squ.1 1)))), ((aqu 2), .inl (K.1, 32, .inl (ar (Squ.1 2)))), ((aqu 3), .inl (K.1, Nqu, .inl (ar (Squ.1 3)))), ((aqu 4), .inl (K.1, Nqu, .inl (ar (Squ.1 4)))), ((aqu 5), .inl (K.1, Nqu, .inl (ar (Squ.1 5)))), ((aqu 6), .inl (K.1, Nqu, .inl (ar (Squ.1 6)))), ((x 5), .inr (1, [.ref (x 3), .ref (xf 1), .ref (xf 2), .ref (xf 3), .ref (xf 4), vZ (F2_61.2 5), vZ (F2_61.2 6), vZ (F2_61.2 7), vZ (F2_61.2 8), vZ (F2_61.2 9), vZ (F2_61.2 10), vZ (F2_61.2 11)])), ((xf 2), .inl (K.1, 10, .inl (ar (F2_61.1 2)))), ((xf 3), .inl (K.1, 4, .inl (ar (F2_61.1 3)))), ((xf 4), .inl (K.1, 4, .inl (ar (F2_61.1 4)))), ((xf 1), .inr (6, [.ref (x 0), .ref (x 1), .ref (x 2), .ref (xv 3), .ref (xv 5), .ref (xv 6), .ref (xv 7), .ref (xv 8), .ref (xv 9), .ref (xv 10), .ref (xv 11), vZ (V2_61.2 12), vZ (V2_61.2 13), vZ (V2_61.2 14), vZ (V2_61.2 15)])), ((xv 5), .inl (K.1, 8, .inl (ar (V2_61.1 5)))), ((xv 6), .inl (K.1, 8, .inl (ar (V2_61.1 6)))), ((xv 7), .inl (K.1, 8, .inl (ar (V2_61.1 7)))), ((xv 8), .inl (K.1, 10, .inl (ar (V2_61.1 8)))), ((xv 9), .inl (K.1, 10, .inl (ar (V2_61.1 9)))), ((xv 10), .inl (K.1, 10, .inl (ar (V2_61.1 10)))), ((xv 11), .inl (K.1, 16, .inl (ar (V2_61.1 11)))), ((xv 3), .inr (2, [.ref (aqt2_61 0), .ref (aqt2_61 1), .ref (aqt2_61 2), .ref (aqt2_61 3), .ref (aqt2_61 4), .ref (aqt2_61 5), .ref (aqt2_61 6), vZ (Sqt2_61.2 7), vZ (Sqt2_61.2 8)])), ((aqt2_61 0), .inl (K.1, 32, .inl (ar (Sqt2_61.1 0)))), ((aqt2_61 1), .inl (K.1, 32, .inl (ar (Sqt2_61.1 1)))), ((aqt2_61 2), .inl (K.1, 32, .inl (ar (Sqt2_61.1 2)))), ((aqt2_61 3), .inl (K.1, Nqt2_61, .inl (ar (Sqt2_61.1 3)))), ((aqt2_61 4), .inl (K.1, Nqt2_61, .inl (ar (Sqt2_61.1 4)))), ((aqt2_61 5), .inl (K.1, Nqt2_61, .inl (ar (Sqt2_61.1 5)))), ((aqt2_61 6), .inl (K.1, Nqt2_61, .inl (ar (Sqt2_61.1 6))))]) rfl ?_
    refine z_st (st2 := []) rfl ?_
    have hP := hP2_61.2
    have hn9 : 0 ≤ F2_61.2 9 ∧ F2_61.2 9 ≤ 4 := by
      rcases hP with z | z
      · omega
      · omega
    refine z_aload_n ZC 0 dX7_planned_64 rfl rfl ?_
    refine z_get ZC inUX7 0 rfl rfl 5 (by decide) uF_X7_50 rfl dX7_planned_65 ?_
    refine z_callV ZC 0 (c_X1_hasPlan zl D K (x 5) (upf xf 0 (x 3)) F2_61 (by omega)) (gdV uM_X7_169 uI_X1_hasPlan uS_X1_hasPlan uN_X1 uC_X1_hasPlan) (by decide +kernel) rfl ⟨by omega, by omega⟩ ⟨by omega, by omega⟩ (Nat.le_of_ble_eq_true rfl) [33, 34, 35, 36] rfl (by decide) rfl rfl rfl rfl dX7_planned_68 (fun r w2 gc_68 gs_68 hp => ?_)
    obtain ⟨b_68, rfl, rfl, rfl, rfl, hb_68⟩ := hp
    refine z_ws (ws2 := [(h, .inr (7, [.ref (x 0), .ref (x 1), .ref (x 2), .ref (x 3), .ref (x 4), .ref (x 5)])), ((x 0), .inr (5, [.ref (ato 0), .ref (ato 1), vZ (To.2 2), vZ (To.2 3)])), ((ato 0), .inl (K.1, 10, .inl (ar (To.1 0)))), ((ato 1), .inl (K.1, 10, .inl (ar (To.1 1)))), ((x 1), .inr (4, [.ref (an 0), .ref (an 1), .ref (an 2), .ref (an 3), .ref (an 4), .ref (an 5), .ref (an 6), .ref (an 7), vZ (Ne.2 8)])), ((an 0), .inl (K.1, 16, .inl (ar (Ne.1 0)))), ((an 1), .inl (K.1, 16, .inl (ar (Ne.1 1)))), ((an 2), .inl (K.1, 16, .inl (ar (Ne.1 2)))), ((an 3), .inl (K.1, 16, .inl (ar (Ne.1 3)))), ((an 4), .inl (K.1, 16, .inl (ar (Ne.1 4)))), ((an 5), .inl (K.1, 16, .inl (ar (Ne.1 5)))), ((an 6), .inl (K.1, 100, .inl (ar (Ne.1 6)))), ((an 7), .inl (K.1, 100, .inl (ar (Ne.1 7)))), ((x 2), .inr (0, [.ref (ac 0), .ref (ac 1), .ref (ac 2), vZ (Cr.2 3), vZ (Cr.2 4)])), ((ac 0), .inl (K.1, 8, .inl (ar (Cr.1 0)))), ((ac 1), .inl (K.1, 8, .inl (ar (Cr.1 1)))), ((ac 2), .inl (K.1, 8, .inl (ar (Cr.1 2)))), ((x 3), .inr (6, [.ref (x 0), .ref (x 1), .ref (x 2), .ref (xu 3), .ref (xu 5), .ref (xu 6), .ref (xu 7), .ref (xu 8), .ref (xu 9), .ref (xu 10), .ref (xu 11), vZ (U.2 12), vZ (U.2 13), vZ (U.2 14), vZ (U.2 15)])), ((xu 5), .inl (K.1, 8, .inl (ar (U.1 5)))), ((xu 6), .inl (K.1, 8, .inl (ar (U.1 6)))), ((xu 7), .inl (K.1, 8, .inl (ar (U.1 7)))), ((xu 8), .inl (K.1, 10, .inl (ar (U.1 8)))), ((xu 9), .inl (K.1, 10, .inl (ar (U.1 9)))), ((xu 10), .inl (K.1, 10, .inl (ar (U.1 10)))), ((xu 11), .inl (K.1, 16, .inl (ar (U.1 11)))), ((xu 3), .inr (2, [.ref (aqu 0), .ref (aqu 1), .ref (aqu 2), .ref (aqu 3), .ref (aqu 4), .ref (aqu 5), .ref (aqu 6), vZ (Squ.2 7), vZ (Squ.2 8)])), ((aqu 0), .inl (K.1, 32, .inl (ar (Squ.1 0)))), ((aqu 1), .inl (K.1, 32, .inl (ar (Squ.1 1)))), ((aqu 2), .inl (K.1, 32, .inl (ar (Squ.1 2)))), ((aqu 3), .inl (K.1, Nqu, .inl (ar (Squ.1 3)))), ((aqu 4), .inl (K.1, Nqu, .inl (ar (Squ.1 4)))), ((aqu 5), .inl (K.1, Nqu, .inl (ar (Squ.1 5)))), ((aqu 6), .inl (K.1, Nqu, .inl (ar (Squ.1 6)))), ((x 5), .inr (1, [.ref (x 3), .ref (xf 1), .ref (xf 2), .ref (xf 3), .ref (xf 4), vZ (F2_61.2 5), vZ (F2_61.2 6), vZ (F2_61.2 7), vZ (F2_61.2 8), vZ (F2_61.2 9), vZ (F2_61.2 10), vZ (F2_61.2 11)])), ((xf 2), .inl (K.1, 10, .inl (ar (F2_61.1 2)))), ((xf 3), .inl (K.1, 4, .inl (ar (F2_61.1 3)))), ((xf 4), .inl (K.1, 4, .inl (ar (F2_61.1 4)))), ((xf 1), .inr (6, [.ref (x 0), .ref (x 1), .ref (x 2), .ref (xv 3), .ref (xv 5), .ref (xv 6), .ref (xv 7), .ref (xv 8), .ref (xv 9), .ref (xv 10), .ref (xv 11), vZ (V2_61.2 12), vZ (V2_61.2 13), vZ (V2_61.2 14), vZ (V2_61.2 15)])), ((xv 5), .inl (K.1, 8, .inl (ar (V2_61.1 5)))), ((xv 6), .inl (K.1, 8, .inl (ar (V2_61.1 6)))), ((xv 7), .inl (K.1, 8, .inl (ar (V2_61.1 7)))), ((xv 8), .inl (K.1, 10, .inl (ar (V2_61.1 8)))), ((xv 9), .inl (K.1, 10, .inl (ar (V2_61.1 9)))), ((xv 10), .inl (K.1, 10, .inl (ar (V2_61.1 10)))), ((xv 11), .inl (K.1, 16, .inl (ar (V2_61.1 11)))), ((xv 3), .inr (2, [.ref (aqt2_61 0), .ref (aqt2_61 1), .ref (aqt2_61 2), .ref (aqt2_61 3), .ref (aqt2_61 4), .ref (aqt2_61 5), .ref (aqt2_61 6), vZ (Sqt2_61.2 7), vZ (Sqt2_61.2 8)])), ((aqt2_61 0), .inl (K.1, 32, .inl (ar (Sqt2_61.1 0)))), ((aqt2_61 1), .inl (K.1, 32, .inl (ar (Sqt2_61.1 1)))), ((aqt2_61 2), .inl (K.1, 32, .inl (ar (Sqt2_61.1 2)))), ((aqt2_61 3), .inl (K.1, Nqt2_61, .inl (ar (Sqt2_61.1 3)))), ((aqt2_61 4), .inl (K.1, Nqt2_61, .inl (ar (Sqt2_61.1 4)))), ((aqt2_61 5), .inl (K.1, Nqt2_61, .inl (ar (Sqt2_61.1 5)))), ((aqt2_61 6), .inl (K.1, Nqt2_61, .inl (ar (Sqt2_61.1 6))))]) rfl ?_
    refine z_st (st2 := [vZ b_68]) rfl ?_
    refine z_if_eq ZC 84 dX7_planned_71 (by decide) (by omega) (fun c_71 => ?_) (fun c_71 => ?_)
    · skip
      refine z_iconst ZC dX7_planned_84 ?_
      refine z_iret ZC ZE dX7_planned_85 (by omega) (by omega) (Nat.le_of_ble_eq_true rfl) ⟨F2_61, V2_61, aqt2_61, Nqt2_61, Sqt2_61, (-1), rfl, rfl, ?_, ?_, ?_, ?_, ?_⟩
      · skip
        exact ⟨by
          rcases hfi.1 with z | z
          · exact Or.inl (hkp_61.2.1.trans z)
          · exact Or.inr ⟨hkp_61.2.1.trans z.1, fov_keep hkp_61.1 hkp_61.2.2.1 hkp_61.2.2.2 z.2⟩, Or.inr hP2_61⟩
      · skip
        exact Or.inl ⟨Or.inr rfl, Or.inl (by
          rcases hP with z | z
          · exact ⟨z.1, rfl⟩
          · omega)⟩
      · skip
        exact hpw2_61
      · skip
        omega
      · skip
        omega
    · skip
      refine z_aload_n ZC 0 dX7_planned_74 rfl rfl ?_
      refine z_get ZC inUX7 0 rfl rfl 5 (by decide) uF_X7_50 rfl dX7_planned_75 ?_
      refine z_get ZC inUX1 33 rfl rfl 11 (by decide) uF_X7_176 rfl dX7_planned_78 ?_
      refine z_goto ZC 85 dX7_planned_81 (by decide) ?_
      refine z_iret ZC ZE dX7_planned_85 (by omega) (by omega) (Nat.le_of_ble_eq_true rfl) ⟨F2_61, V2_61, aqt2_61, Nqt2_61, Sqt2_61, (F2_61.2 11), rfl, rfl, ?_, ?_, ?_, ?_, ?_⟩
      · skip
        exact ⟨by
          rcases hfi.1 with z | z
          · exact Or.inl (hkp_61.2.1.trans z)
          · exact Or.inr ⟨hkp_61.2.1.trans z.1, fov_keep hkp_61.1 hkp_61.2.2.1 hkp_61.2.2.2 z.2⟩, Or.inr hP2_61⟩
      · skip
        exact Or.inl ⟨Or.inr rfl, Or.inr (by
          rcases hP with z | z
          · omega
          · exact ⟨z.1, z.2.2.2.2.1⟩)⟩
      · skip
        exact hpw2_61
      · skip
        omega
      · skip
        omega
  · skip
    refine z_look ZC (off := 85) 86 dX7_planned_1 (by omega) (by decide) (by show Op.lookupswitch.offset [(0, 27), (1, 56)] 85 what = 85; rw [Op.lookupswitch.offset_cons, if_neg (by omega), Op.lookupswitch.offset_cons, if_neg (by omega)]; rfl) (by decide) ?_
    refine z_iconst ZC dX7_planned_86 ?_
    refine z_iret ZC ZE dX7_planned_87 (by omega) (by omega) (Nat.le_of_ble_eq_true rfl) ⟨F, V, aqt, Nqt, Sqt, (-1), rfl, rfl, ?_, ?_, ?_, ?_, ?_⟩
    · skip
      exact hfi
    · skip
      exact Or.inr ⟨by omega, rfl⟩
    · skip
      exact ⟨hpw, by have := pw_rng hpw; omega⟩
    · skip
      omega
    · skip
      omega

set_option maxHeartbeats 4000000 in
set_option maxRecDepth 100000 in
theorem c_X7_lacks (zl : Launch) (D : va_G) (K : tyK) (h : Nat) (x : Nat → Nat) (ato : Nat → Nat) (To : Bd) (an : Nat → Nat) (Ne : Bd) (ac : Nat → Nat) (Cr : Bd) (xu : Nat → Nat) (U : Bd) (aqu : Nat → Nat) (Nqu : Nat) (Squ : Bd) (xf : Nat → Nat) (F : Bd) (xv : Nat → Nat) (V : Bd) (aqt : Nat → Nat) (Nqt : Nat) (Sqt : Bd) (B : Nat) (Cq : Int → List Pt3) (A : Ab) (t : Int) (hz_t : -2147483648 ≤ t ∧ t < 2147483648) (hcf : Cfg Ne Cr) (hto : 0 ≤ To.2 3 ∧ To.2 3 ≤ 10) (hab : AB Ne Cr A) (hal : AL Cr A) (hac : Cr.2 4 = smI (Cr.1 1) 0 (Cr.2 3).toNat) (hT : TrR Ne Cr B U Nqu Squ Cq A) (hpb : ((lns Cq 32 : Nat) : Int) ≤ oc Cr A + 16 * A.2.1 0) (hB : 3300 ≤ B ∧ B ≤ 4000) (hpw : pw Nqt) (hfi : FoI To Ne Cr F A) (hah : ∀ c : Int, 0 ≤ c → c < Cr.2 3 → A.1 0 c ≤ 199) : Mz zl yX7_lacks cX7_lacks 2 (some .int) 6 138 25000 250000 D K [.ref h, vZ t] ((wSh h x) ++ (wTo K (x 0) ato To) ++ (wNe K (x 1) an Ne) ++ (wCr K (x 2) ac Cr) ++ (wTr K (x 3) (upf (upf (upf xu 0 (x 0)) 1 (x 1)) 2 (x 2)) U) ++ (wLn K (xu 3) aqu Nqu Squ) ++ (wFo K (x 5) (upf xf 0 (x 3)) F) ++ (wTr K (xf 1) (upf (upf (upf xv 0 (x 0)) 1 (x 1)) 2 (x 2)) V) ++ (wLn K (xv 3) aqt Nqt Sqt)) (fun r_ w2_ gc gs => ∃ (F2 : Bd), ∃ (V2 : Bd), ∃ (aqt2 : Nat → Nat), ∃ (Nqt2 : Nat), ∃ (Sqt2 : Bd), ∃ (v : Int), r_ = some (vZ v) ∧ w2_ = ((wSh h x) ++ (wTo K (x 0) ato To) ++ (wNe K (x 1) an Ne) ++ (wCr K (x 2) ac Cr) ++ (wTr K (x 3) (upf (upf (upf xu 0 (x 0)) 1 (x 1)) 2 (x 2)) U) ++ (wLn K (xu 3) aqu Nqu Squ) ++ (wFo K (x 5) (upf xf 0 (x 3)) F2) ++ (wTr K (xf 1) (upf (upf (upf xv 0 (x 0)) 1 (x 1)) 2 (x 2)) V2) ++ (wLn K (xv 3) aqt2 Nqt2 Sqt2)) ∧ (FoI To Ne Cr F2 A) ∧ (((0 ≤ t ∧ t < To.2 3) ∧ v = aLk To Ne Cr A (200 - A.2.1 0).toNat t) ∨ (¬ (0 ≤ t ∧ t < To.2 3) ∧ v = -1)) ∧ (pw Nqt2 ∧ Nqt ≤ Nqt2 ∧ Nqt2 ≤ 4096) ∧ (Nqt + gc ≤ Nqt2) ∧ (8 * Nqt + gs ≤ 8 * Nqt2)) := by
  refine Mz.ofZ (by decide) rfl (Nat.le_of_ble_eq_true rfl) ?_
  intro zp ze zR zs zm zargs zbelow zmeth zc zA zQ ZC ZE hRf hRc hRs hRl
  have hpr1 := pw_rng hpw
  refine z_aload_n ZC 0 dX7_lacks_0 rfl rfl ?_
  refine z_get ZC inUX7 0 rfl rfl 0 (by decide) uF_X7_12 rfl dX7_lacks_1 ?_
  refine z_iload_n ZC 1 dX7_lacks_4 rfl rfl ?_
  refine z_callV ZC 1 (c_X5_has zl D K (x 0) ato To t (hto) (by omega)) (gdV uM_X7_77 uI_X5_has uS_X5_has uN_X5 uC_X5_has) (by decide +kernel) rfl ⟨by omega, by omega⟩ ⟨by omega, by omega⟩ (Nat.le_of_ble_eq_true rfl) [1, 2, 3] rfl (by decide) rfl rfl rfl rfl dX7_lacks_5 (fun r w2 gc_5 gs_5 hp => ?_)
  obtain ⟨b_5, rfl, rfl, rfl, rfl, hb_5⟩ := hp
  refine z_ws (ws2 := [(h, .inr (7, [.ref (x 0), .ref (x 1), .ref (x 2), .ref (x 3), .ref (x 4), .ref (x 5)])), ((x 0), .inr (5, [.ref (ato 0), .ref (ato 1), vZ (To.2 2), vZ (To.2 3)])), ((ato 0), .inl (K.1, 10, .inl (ar (To.1 0)))), ((ato 1), .inl (K.1, 10, .inl (ar (To.1 1)))), ((x 1), .inr (4, [.ref (an 0), .ref (an 1), .ref (an 2), .ref (an 3), .ref (an 4), .ref (an 5), .ref (an 6), .ref (an 7), vZ (Ne.2 8)])), ((an 0), .inl (K.1, 16, .inl (ar (Ne.1 0)))), ((an 1), .inl (K.1, 16, .inl (ar (Ne.1 1)))), ((an 2), .inl (K.1, 16, .inl (ar (Ne.1 2)))), ((an 3), .inl (K.1, 16, .inl (ar (Ne.1 3)))), ((an 4), .inl (K.1, 16, .inl (ar (Ne.1 4)))), ((an 5), .inl (K.1, 16, .inl (ar (Ne.1 5)))), ((an 6), .inl (K.1, 100, .inl (ar (Ne.1 6)))), ((an 7), .inl (K.1, 100, .inl (ar (Ne.1 7)))), ((x 2), .inr (0, [.ref (ac 0), .ref (ac 1), .ref (ac 2), vZ (Cr.2 3), vZ (Cr.2 4)])), ((ac 0), .inl (K.1, 8, .inl (ar (Cr.1 0)))), ((ac 1), .inl (K.1, 8, .inl (ar (Cr.1 1)))), ((ac 2), .inl (K.1, 8, .inl (ar (Cr.1 2)))), ((x 3), .inr (6, [.ref (x 0), .ref (x 1), .ref (x 2), .ref (xu 3), .ref (xu 5), .ref (xu 6), .ref (xu 7), .ref (xu 8), .ref (xu 9), .ref (xu 10), .ref (xu 11), vZ (U.2 12), vZ (U.2 13), vZ (U.2 14), vZ (U.2 15)])), ((xu 5), .inl (K.1, 8, .inl (ar (U.1 5)))), ((xu 6), .inl (K.1, 8, .inl (ar (U.1 6)))), ((xu 7), .inl (K.1, 8, .inl (ar (U.1 7)))), ((xu 8), .inl (K.1, 10, .inl (ar (U.1 8)))), ((xu 9), .inl (K.1, 10, .inl (ar (U.1 9)))), ((xu 10), .inl (K.1, 10, .inl (ar (U.1 10)))), ((xu 11), .inl (K.1, 16, .inl (ar (U.1 11)))), ((xu 3), .inr (2, [.ref (aqu 0), .ref (aqu 1), .ref (aqu 2), .ref (aqu 3), .ref (aqu 4), .ref (aqu 5), .ref (aqu 6), vZ (Squ.2 7), vZ (Squ.2 8)])), ((aqu 0), .inl (K.1, 32, .inl (ar (Squ.1 0)))), ((aqu 1), .inl (K.1, 32, .inl (ar (Squ.1 1)))), ((aqu 2), .inl (K.1, 32, .inl (ar (Squ.1 2)))), ((aqu 3), .inl (K.1, Nqu, .inl (ar (Squ.1 3)))), ((aqu 4), .inl (K.1, Nqu, .inl (ar (Squ.1 4)))), ((aqu 5), .inl (K.1, Nqu, .inl (ar (Squ.1 5)))), ((aqu 6), .inl (K.1, Nqu, .inl (ar (Squ.1 6)))), ((x 5), .inr (1, [.ref (x 3), .ref (xf 1), .ref (xf 2), .ref (xf 3), .ref (xf 4), vZ (F.2 5), vZ (F.2 6), vZ (F.2 7), vZ (F.2 8), vZ (F.2 9), vZ (F.2 10), vZ (F.2 11)])), ((xf 2), .inl (K.1, 10, .inl (ar (F.1 2)))), ((xf 3), .inl (K.1, 4, .inl (ar (F.1 3)))), ((xf 4), .inl (K.1, 4, .inl (ar (F.1 4)))), ((xf 1), .inr (6, [.ref (x 0), .ref (x 1), .ref (x 2), .ref (xv 3), .ref (xv 5), .ref (xv 6), .ref (xv 7), .ref (xv 8), .ref (xv 9), .ref (xv 10), .ref (xv 11), vZ (V.2 12), vZ (V.2 13), vZ (V.2 14), vZ (V.2 15)])), ((xv 5), .inl (K.1, 8, .inl (ar (V.1 5)))), ((xv 6), .inl (K.1, 8, .inl (ar (V.1 6)))), ((xv 7), .inl (K.1, 8, .inl (ar (V.1 7)))), ((xv 8), .inl (K.1, 10, .inl (ar (V.1 8)))), ((xv 9), .inl (K.1, 10, .inl (ar (V.1 9)))), ((xv 10), .inl (K.1, 10, .inl (ar (V.1 10)))), ((xv 11), .inl (K.1, 16, .inl (ar (V.1 11)))), ((xv 3), .inr (2, [.ref (aqt 0), .ref (aqt 1), .ref (aqt 2), .ref (aqt 3), .ref (aqt 4), .ref (aqt 5), .ref (aqt 6), vZ (Sqt.2 7), vZ (Sqt.2 8)])), ((aqt 0), .inl (K.1, 32, .inl (ar (Sqt.1 0)))), ((aqt 1), .inl (K.1, 32, .inl (ar (Sqt.1 1)))), ((aqt 2), .inl (K.1, 32, .inl (ar (Sqt.1 2)))), ((aqt 3), .inl (K.1, Nqt, .inl (ar (Sqt.1 3)))), ((aqt 4), .inl (K.1, Nqt, .inl (ar (Sqt.1 4)))), ((aqt 5), .inl (K.1, Nqt, .inl (ar (Sqt.1 5)))), ((aqt 6), .inl (K.1, Nqt, .inl (ar (Sqt.1 6))))]) rfl ?_
  refine z_st (st2 := [vZ b_5]) rfl ?_
  refine z_if_ne ZC 13 dX7_lacks_8 (by decide) (by omega) (fun c_8 => ?_) (fun c_8 => ?_)
  · skip
    refine z_aload_n ZC 0 dX7_lacks_13 rfl rfl ?_
    refine z_get ZC inUX7 0 rfl rfl 5 (by decide) uF_X7_50 rfl dX7_lacks_14 ?_
    refine z_callV ZC 0 (c_X1_foresee zl D K (x 5) (upf xf 0 (x 3)) F (upf (upf (upf xu 0 (x 0)) 1 (x 1)) 2 (x 2)) U aqu Nqu Squ xv V aqt Nqt Sqt an Ne ato To ac Cr B Cq A (hcf) (hto) (hab) (hal) (hac) (hT) (hpb) (hB) (hpw) (hfi.1)) (gdV uM_X7_151 uI_X1_foresee uS_X1_foresee uN_X1 uC_X1_foresee) (by decide +kernel) rfl ⟨by omega, by omega⟩ ⟨by omega, by omega⟩ (Nat.le_of_ble_eq_true rfl) [33, 34, 35, 36, 17, 18, 19, 20, 21, 22, 23, 24, 25, 26, 27, 28, 29, 30, 31, 32, 37, 38, 39, 40, 41, 42, 43, 44, 45, 46, 47, 48, 49, 50, 51, 52, 4, 5, 6, 7, 8, 9, 10, 11, 12, 1, 2, 3, 13, 14, 15, 16] rfl (by decide) rfl rfl rfl rfl dX7_lacks_17 (fun r w2 gc_17 gs_17 hp => ?_)
    obtain ⟨F2_17, V2_17, aqt2_17, Nqt2_17, Sqt2_17, rfl, rfl, hF2_17, hkp_17, hpw2_17, hgc_17, hgs_17⟩ := hp
    refine z_ws (ws2 := [(h, .inr (7, [.ref (x 0), .ref (x 1), .ref (x 2), .ref (x 3), .ref (x 4), .ref (x 5)])), ((x 0), .inr (5, [.ref (ato 0), .ref (ato 1), vZ (To.2 2), vZ (To.2 3)])), ((ato 0), .inl (K.1, 10, .inl (ar (To.1 0)))), ((ato 1), .inl (K.1, 10, .inl (ar (To.1 1)))), ((x 1), .inr (4, [.ref (an 0), .ref (an 1), .ref (an 2), .ref (an 3), .ref (an 4), .ref (an 5), .ref (an 6), .ref (an 7), vZ (Ne.2 8)])), ((an 0), .inl (K.1, 16, .inl (ar (Ne.1 0)))), ((an 1), .inl (K.1, 16, .inl (ar (Ne.1 1)))), ((an 2), .inl (K.1, 16, .inl (ar (Ne.1 2)))), ((an 3), .inl (K.1, 16, .inl (ar (Ne.1 3)))), ((an 4), .inl (K.1, 16, .inl (ar (Ne.1 4)))), ((an 5), .inl (K.1, 16, .inl (ar (Ne.1 5)))), ((an 6), .inl (K.1, 100, .inl (ar (Ne.1 6)))), ((an 7), .inl (K.1, 100, .inl (ar (Ne.1 7)))), ((x 2), .inr (0, [.ref (ac 0), .ref (ac 1), .ref (ac 2), vZ (Cr.2 3), vZ (Cr.2 4)])), ((ac 0), .inl (K.1, 8, .inl (ar (Cr.1 0)))), ((ac 1), .inl (K.1, 8, .inl (ar (Cr.1 1)))), ((ac 2), .inl (K.1, 8, .inl (ar (Cr.1 2)))), ((x 3), .inr (6, [.ref (x 0), .ref (x 1), .ref (x 2), .ref (xu 3), .ref (xu 5), .ref (xu 6), .ref (xu 7), .ref (xu 8), .ref (xu 9), .ref (xu 10), .ref (xu 11), vZ (U.2 12), vZ (U.2 13), vZ (U.2 14), vZ (U.2 15)])), ((xu 5), .inl (K.1, 8, .inl (ar (U.1 5)))), ((xu 6), .inl (K.1, 8, .inl (ar (U.1 6)))), ((xu 7), .inl (K.1, 8, .inl (ar (U.1 7)))), ((xu 8), .inl (K.1, 10, .inl (ar (U.1 8)))), ((xu 9), .inl (K.1, 10, .inl (ar (U.1 9)))), ((xu 10), .inl (K.1, 10, .inl (ar (U.1 10)))), ((xu 11), .inl (K.1, 16, .inl (ar (U.1 11)))), ((xu 3), .inr (2, [.ref (aqu 0), .ref (aqu 1), .ref (aqu 2), .ref (aqu 3), .ref (aqu 4), .ref (aqu 5), .ref (aqu 6), vZ (Squ.2 7), vZ (Squ.2 8)])), ((aqu 0), .inl (K.1, 32, .inl (ar (Squ.1 0)))), ((aqu 1), .inl (K.1, 32, .inl (ar (Squ.1 1)))), ((aqu 2), .inl (K.1, 32, .inl (ar (Squ.1 2)))), ((aqu 3), .inl (K.1, Nqu, .inl (ar (Squ.1 3)))), ((aqu 4), .inl (K.1, Nqu, .inl (ar (Squ.1 4)))), ((aqu 5), .inl (K.1, Nqu, .inl (ar (Squ.1 5)))), ((aqu 6), .inl (K.1, Nqu, .inl (ar (Squ.1 6)))), ((x 5), .inr (1, [.ref (x 3), .ref (xf 1), .ref (xf 2), .ref (xf 3), .ref (xf 4), vZ (F2_17.2 5), vZ (F2_17.2 6), vZ (F2_17.2 7), vZ (F2_17.2 8), vZ (F2_17.2 9), vZ (F2_17.2 10), vZ (F2_17.2 11)])), ((xf 2), .inl (K.1, 10, .inl (ar (F2_17.1 2)))), ((xf 3), .inl (K.1, 4, .inl (ar (F2_17.1 3)))), ((xf 4), .inl (K.1, 4, .inl (ar (F2_17.1 4)))), ((xf 1), .inr (6, [.ref (x 0), .ref (x 1), .ref (x 2), .ref (xv 3), .ref (xv 5), .ref (xv 6), .ref (xv 7), .ref (xv 8), .ref (xv 9), .ref (xv 10), .ref (xv 11), vZ (V2_17.2 12), vZ (V2_17.2 13), vZ (V2_17.2 14), vZ (V2_17.2 15)])), ((xv 5), .inl (K.1, 8, .inl (ar (V2_17.1 5)))), ((xv 6), .inl (K.1, 8, .inl (ar (V2_17.1 6)))), ((xv 7), .inl (K.1, 8, .inl (ar (V2_17.1 7)))), ((xv 8), .inl (K.1, 10, .inl (ar (V2_17.1 8)))), ((xv 9), .inl (K.1, 10, .inl (ar (V2_17.1 9)))), ((xv 10), .inl (K.1, 10, .inl (ar (V2_17.1 10)))), ((xv 11), .inl (K.1, 16, .inl (ar (V2_17.1 11)))), ((xv 3), .inr (2, [.ref (aqt2_17 0), .ref (aqt2_17 1), .ref (aqt2_17 2), .ref (aqt2_17 3), .ref (aqt2_17 4), .ref (aqt2_17 5), .ref (aqt2_17 6), vZ (Sqt2_17.2 7), vZ (Sqt2_17.2 8)])), ((aqt2_17 0), .inl (K.1, 32, .inl (ar (Sqt2_17.1 0)))), ((aqt2_17 1), .inl (K.1, 32, .inl (ar (Sqt2_17.1 1)))), ((aqt2_17 2), .inl (K.1, 32, .inl (ar (Sqt2_17.1 2)))), ((aqt2_17 3), .inl (K.1, Nqt2_17, .inl (ar (Sqt2_17.1 3)))), ((aqt2_17 4), .inl (K.1, Nqt2_17, .inl (ar (Sqt2_17.1 4)))), ((aqt2_17 5), .inl (K.1, Nqt2_17, .inl (ar (Sqt2_17.1 5)))), ((aqt2_17 6), .inl (K.1, Nqt2_17, .inl (ar (Sqt2_17.1 6))))]) rfl ?_
    refine z_st (st2 := []) rfl ?_
    refine z_aload_n ZC 0 dX7_lacks_20 rfl rfl ?_
    refine z_get ZC inUX7 0 rfl rfl 5 (by decide) uF_X7_50 rfl dX7_lacks_21 ?_
    refine z_get ZC inUX1 33 rfl rfl 2 (by decide) uF_X7_160 rfl dX7_lacks_24 ?_
    refine z_iload_n ZC 1 dX7_lacks_27 rfl rfl ?_
    refine z_iald ZC 34 rfl dX7_lacks_28 (by omega) ?_
    refine z_iret ZC ZE dX7_lacks_29 (by omega) (by omega) (Nat.le_of_ble_eq_true rfl) ⟨F2_17, V2_17, aqt2_17, Nqt2_17, Sqt2_17, ((F2_17.1 2) t), rfl, rfl, ?_, ?_, ?_, ?_, ?_⟩
    · skip
      exact ⟨Or.inr ⟨hF2_17.1, hF2_17.2⟩, by
        rcases hfi.2 with z | z
        · exact Or.inl (hkp_17.2.2.1.trans z)
        · exact Or.inr ⟨hkp_17.2.2.1.trans z.1, fop_keep hkp_17.1 hkp_17.2.1 hkp_17.2.2.2.1 hkp_17.2.2.2.2.1 hkp_17.2.2.2.2.2 z.2⟩⟩
    · skip
      exact Or.inl ⟨by omega, hF2_17.2.2.2 t (by omega) (by omega)⟩
    · skip
      exact hpw2_17
    · skip
      omega
    · skip
      omega
  · skip
    refine z_iconst ZC dX7_lacks_11 ?_
    refine z_iret ZC ZE dX7_lacks_12 (by omega) (by omega) (Nat.le_of_ble_eq_true rfl) ⟨F, V, aqt, Nqt, Sqt, (-1), rfl, rfl, ?_, ?_, ?_, ?_, ?_⟩
    · skip
      exact hfi
    · skip
      exact Or.inr ⟨by omega, rfl⟩
    · skip
      exact ⟨hpw, by have := pw_rng hpw; omega⟩
    · skip
      omega
    · skip
      omega

set_option maxHeartbeats 4000000 in
set_option maxRecDepth 100000 in
theorem c_X7_plan (zl : Launch) (D : va_G) (K : tyK) (h : Nat) (x : Nat → Nat) (ato : Nat → Nat) (To : Bd) (an : Nat → Nat) (Ne : Bd) (ac : Nat → Nat) (Cr : Bd) (xu : Nat → Nat) (U : Bd) (aqu : Nat → Nat) (Nqu : Nat) (Squ : Bd) (xf : Nat → Nat) (F : Bd) (xv : Nat → Nat) (V : Bd) (aqt : Nat → Nat) (Nqt : Nat) (Sqt : Bd) (B : Nat) (Cq : Int → List Pt3) (A : Ab) (cw : Int) (hz_cw : -2147483648 ≤ cw ∧ cw < 2147483648) (hcf : Cfg Ne Cr) (hto : 0 ≤ To.2 3 ∧ To.2 3 ≤ 10) (hab : AB Ne Cr A) (hal : AL Cr A) (hac : Cr.2 4 = smI (Cr.1 1) 0 (Cr.2 3).toNat) (hT : TrR Ne Cr B U Nqu Squ Cq A) (hpb : ((lns Cq 32 : Nat) : Int) ≤ oc Cr A + 16 * A.2.1 0) (hB : 3300 ≤ B ∧ B ≤ 4000) (hpw : pw Nqt) (hfi : FoI To Ne Cr F A) (hah : ∀ c : Int, 0 ≤ c → c < Cr.2 3 → A.1 0 c ≤ 199) : Mz zl yX7_plan cX7_plan 2 (some .int) 7 162 35000 350000 D K [.ref h, vZ cw] ((wSh h x) ++ (wTo K (x 0) ato To) ++ (wNe K (x 1) an Ne) ++ (wCr K (x 2) ac Cr) ++ (wTr K (x 3) (upf (upf (upf xu 0 (x 0)) 1 (x 1)) 2 (x 2)) U) ++ (wLn K (xu 3) aqu Nqu Squ) ++ (wFo K (x 5) (upf xf 0 (x 3)) F) ++ (wTr K (xf 1) (upf (upf (upf xv 0 (x 0)) 1 (x 1)) 2 (x 2)) V) ++ (wLn K (xv 3) aqt Nqt Sqt)) (fun r_ w2_ gc gs => ∃ (F2 : Bd), ∃ (V2 : Bd), ∃ (aqt2 : Nat → Nat), ∃ (Nqt2 : Nat), ∃ (Sqt2 : Bd), ∃ (v : Int), r_ = some (vZ v) ∧ w2_ = ((wSh h x) ++ (wTo K (x 0) ato To) ++ (wNe K (x 1) an Ne) ++ (wCr K (x 2) ac Cr) ++ (wTr K (x 3) (upf (upf (upf xu 0 (x 0)) 1 (x 1)) 2 (x 2)) U) ++ (wLn K (xu 3) aqu Nqu Squ) ++ (wFo K (x 5) (upf xf 0 (x 3)) F2) ++ (wTr K (xf 1) (upf (upf (upf xv 0 (x 0)) 1 (x 1)) 2 (x 2)) V2) ++ (wLn K (xv 3) aqt2 Nqt2 Sqt2)) ∧ (FoI To Ne Cr F2 A) ∧ (((0 ≤ cw ∧ cw < Cr.2 3) ∧ ((∃ i : Int, (0 ≤ i ∧ i < ((wlA Cr A).length : Int)) ∧ (wlA Cr A).getD i.toNat 0 = cw ∧ (0 < (wlA Cr A).length ∧ (wlA Cr A).length ≤ 4) ∧ v = A.2.1 0 + stp (wlA Cr A).length (pFold Ne Cr A (4 ^ (wlA Cr A).length)).2.2 i) ∨ (v = -1 ∧ (((wlA Cr A).length = 0 ∨ 4 < (wlA Cr A).length) ∨ ∀ i : Int, 0 ≤ i → i < ((wlA Cr A).length : Int) → (wlA Cr A).getD i.toNat 0 ≠ cw)))) ∨ (¬ (0 ≤ cw ∧ cw < Cr.2 3) ∧ v = -1)) ∧ (pw Nqt2 ∧ Nqt ≤ Nqt2 ∧ Nqt2 ≤ 4096) ∧ (Nqt + gc ≤ Nqt2) ∧ (8 * Nqt + gs ≤ 8 * Nqt2)) := by
  refine Mz.ofZ (by decide) rfl (Nat.le_of_ble_eq_true rfl) ?_
  intro zp ze zR zs zm zargs zbelow zmeth zc zA zQ ZC ZE hRf hRc hRs hRl
  have hpr1 := pw_rng hpw
  have hc8 := hcf.2.1
  refine z_aload_n ZC 0 dX7_plan_0 rfl rfl ?_
  refine z_get ZC inUX7 0 rfl rfl 2 (by decide) uF_X7_26 rfl dX7_plan_1 ?_
  refine z_iload_n ZC 1 dX7_plan_4 rfl rfl ?_
  refine z_callV ZC 1 (c_X0_has zl D K (x 2) ac Cr cw (hc8) (by omega)) (gdV uM_X7_122 uI_X0_has uS_X0_has uN_X0 uC_X0_has) (by decide +kernel) rfl ⟨by omega, by omega⟩ ⟨by omega, by omega⟩ (Nat.le_of_ble_eq_true rfl) [13, 14, 15, 16] rfl (by decide) rfl rfl rfl rfl dX7_plan_5 (fun r w2 gc_5 gs_5 hp => ?_)
  obtain ⟨b_5, rfl, rfl, rfl, rfl, hb_5⟩ := hp
  refine z_ws (ws2 := [(h, .inr (7, [.ref (x 0), .ref (x 1), .ref (x 2), .ref (x 3), .ref (x 4), .ref (x 5)])), ((x 0), .inr (5, [.ref (ato 0), .ref (ato 1), vZ (To.2 2), vZ (To.2 3)])), ((ato 0), .inl (K.1, 10, .inl (ar (To.1 0)))), ((ato 1), .inl (K.1, 10, .inl (ar (To.1 1)))), ((x 1), .inr (4, [.ref (an 0), .ref (an 1), .ref (an 2), .ref (an 3), .ref (an 4), .ref (an 5), .ref (an 6), .ref (an 7), vZ (Ne.2 8)])), ((an 0), .inl (K.1, 16, .inl (ar (Ne.1 0)))), ((an 1), .inl (K.1, 16, .inl (ar (Ne.1 1)))), ((an 2), .inl (K.1, 16, .inl (ar (Ne.1 2)))), ((an 3), .inl (K.1, 16, .inl (ar (Ne.1 3)))), ((an 4), .inl (K.1, 16, .inl (ar (Ne.1 4)))), ((an 5), .inl (K.1, 16, .inl (ar (Ne.1 5)))), ((an 6), .inl (K.1, 100, .inl (ar (Ne.1 6)))), ((an 7), .inl (K.1, 100, .inl (ar (Ne.1 7)))), ((x 2), .inr (0, [.ref (ac 0), .ref (ac 1), .ref (ac 2), vZ (Cr.2 3), vZ (Cr.2 4)])), ((ac 0), .inl (K.1, 8, .inl (ar (Cr.1 0)))), ((ac 1), .inl (K.1, 8, .inl (ar (Cr.1 1)))), ((ac 2), .inl (K.1, 8, .inl (ar (Cr.1 2)))), ((x 3), .inr (6, [.ref (x 0), .ref (x 1), .ref (x 2), .ref (xu 3), .ref (xu 5), .ref (xu 6), .ref (xu 7), .ref (xu 8), .ref (xu 9), .ref (xu 10), .ref (xu 11), vZ (U.2 12), vZ (U.2 13), vZ (U.2 14), vZ (U.2 15)])), ((xu 5), .inl (K.1, 8, .inl (ar (U.1 5)))), ((xu 6), .inl (K.1, 8, .inl (ar (U.1 6)))), ((xu 7), .inl (K.1, 8, .inl (ar (U.1 7)))), ((xu 8), .inl (K.1, 10, .inl (ar (U.1 8)))), ((xu 9), .inl (K.1, 10, .inl (ar (U.1 9)))), ((xu 10), .inl (K.1, 10, .inl (ar (U.1 10)))), ((xu 11), .inl (K.1, 16, .inl (ar (U.1 11)))), ((xu 3), .inr (2, [.ref (aqu 0), .ref (aqu 1), .ref (aqu 2), .ref (aqu 3), .ref (aqu 4), .ref (aqu 5), .ref (aqu 6), vZ (Squ.2 7), vZ (Squ.2 8)])), ((aqu 0), .inl (K.1, 32, .inl (ar (Squ.1 0)))), ((aqu 1), .inl (K.1, 32, .inl (ar (Squ.1 1)))), ((aqu 2), .inl (K.1, 32, .inl (ar (Squ.1 2)))), ((aqu 3), .inl (K.1, Nqu, .inl (ar (Squ.1 3)))), ((aqu 4), .inl (K.1, Nqu, .inl (ar (Squ.1 4)))), ((aqu 5), .inl (K.1, Nqu, .inl (ar (Squ.1 5)))), ((aqu 6), .inl (K.1, Nqu, .inl (ar (Squ.1 6)))), ((x 5), .inr (1, [.ref (x 3), .ref (xf 1), .ref (xf 2), .ref (xf 3), .ref (xf 4), vZ (F.2 5), vZ (F.2 6), vZ (F.2 7), vZ (F.2 8), vZ (F.2 9), vZ (F.2 10), vZ (F.2 11)])), ((xf 2), .inl (K.1, 10, .inl (ar (F.1 2)))), ((xf 3), .inl (K.1, 4, .inl (ar (F.1 3)))), ((xf 4), .inl (K.1, 4, .inl (ar (F.1 4)))), ((xf 1), .inr (6, [.ref (x 0), .ref (x 1), .ref (x 2), .ref (xv 3), .ref (xv 5), .ref (xv 6), .ref (xv 7), .ref (xv 8), .ref (xv 9), .ref (xv 10), .ref (xv 11), vZ (V.2 12), vZ (V.2 13), vZ (V.2 14), vZ (V.2 15)])), ((xv 5), .inl (K.1, 8, .inl (ar (V.1 5)))), ((xv 6), .inl (K.1, 8, .inl (ar (V.1 6)))), ((xv 7), .inl (K.1, 8, .inl (ar (V.1 7)))), ((xv 8), .inl (K.1, 10, .inl (ar (V.1 8)))), ((xv 9), .inl (K.1, 10, .inl (ar (V.1 9)))), ((xv 10), .inl (K.1, 10, .inl (ar (V.1 10)))), ((xv 11), .inl (K.1, 16, .inl (ar (V.1 11)))), ((xv 3), .inr (2, [.ref (aqt 0), .ref (aqt 1), .ref (aqt 2), .ref (aqt 3), .ref (aqt 4), .ref (aqt 5), .ref (aqt 6), vZ (Sqt.2 7), vZ (Sqt.2 8)])), ((aqt 0), .inl (K.1, 32, .inl (ar (Sqt.1 0)))), ((aqt 1), .inl (K.1, 32, .inl (ar (Sqt.1 1)))), ((aqt 2), .inl (K.1, 32, .inl (ar (Sqt.1 2)))), ((aqt 3), .inl (K.1, Nqt, .inl (ar (Sqt.1 3)))), ((aqt 4), .inl (K.1, Nqt, .inl (ar (Sqt.1 4)))), ((aqt 5), .inl (K.1, Nqt, .inl (ar (Sqt.1 5)))), ((aqt 6), .inl (K.1, Nqt, .inl (ar (Sqt.1 6))))]) rfl ?_
  refine z_st (st2 := [vZ b_5]) rfl ?_
  refine z_if_ne ZC 13 dX7_plan_8 (by decide) (by omega) (fun c_8 => ?_) (fun c_8 => ?_)
  · skip
    refine z_aload_n ZC 0 dX7_plan_13 rfl rfl ?_
    refine z_get ZC inUX7 0 rfl rfl 5 (by decide) uF_X7_50 rfl dX7_plan_14 ?_
    refine z_callV ZC 0 (c_X1_makePlan zl D K (x 5) (upf xf 0 (x 3)) F (upf (upf (upf xu 0 (x 0)) 1 (x 1)) 2 (x 2)) U aqu Nqu Squ xv V aqt Nqt Sqt an Ne ato To ac Cr B Cq A (hcf) (hto) (hab) (hal) (hac) (hT) (hpb) (hB) (hpw) (hfi.2) (hah)) (gdV uM_X7_163 uI_X1_makePlan uS_X1_makePlan uN_X1 uC_X1_makePlan) (by decide +kernel) rfl ⟨by omega, by omega⟩ ⟨by omega, by omega⟩ (Nat.le_of_ble_eq_true rfl) [33, 34, 35, 36, 17, 18, 19, 20, 21, 22, 23, 24, 25, 26, 27, 28, 29, 30, 31, 32, 37, 38, 39, 40, 41, 42, 43, 44, 45, 46, 47, 48, 49, 50, 51, 52, 4, 5, 6, 7, 8, 9, 10, 11, 12, 1, 2, 3, 13, 14, 15, 16] rfl (by decide) rfl rfl rfl rfl dX7_plan_17 (fun r w2 gc_17 gs_17 hp => ?_)
    obtain ⟨F2_17, V2_17, aqt2_17, Nqt2_17, Sqt2_17, rfl, rfl, hP2_17, hkp_17, hpw2_17, hgc_17, hgs_17⟩ := hp
    refine z_ws (ws2 := [(h, .inr (7, [.ref (x 0), .ref (x 1), .ref (x 2), .ref (x 3), .ref (x 4), .ref (x 5)])), ((x 0), .inr (5, [.ref (ato 0), .ref (ato 1), vZ (To.2 2), vZ (To.2 3)])), ((ato 0), .inl (K.1, 10, .inl (ar (To.1 0)))), ((ato 1), .inl (K.1, 10, .inl (ar (To.1 1)))), ((x 1), .inr (4, [.ref (an 0), .ref (an 1), .ref (an 2), .ref (an 3), .ref (an 4), .ref (an 5), .ref (an 6), .ref (an 7), vZ (Ne.2 8)])), ((an 0), .inl (K.1, 16, .inl (ar (Ne.1 0)))), ((an 1), .inl (K.1, 16, .inl (ar (Ne.1 1)))), ((an 2), .inl (K.1, 16, .inl (ar (Ne.1 2)))), ((an 3), .inl (K.1, 16, .inl (ar (Ne.1 3)))), ((an 4), .inl (K.1, 16, .inl (ar (Ne.1 4)))), ((an 5), .inl (K.1, 16, .inl (ar (Ne.1 5)))), ((an 6), .inl (K.1, 100, .inl (ar (Ne.1 6)))), ((an 7), .inl (K.1, 100, .inl (ar (Ne.1 7)))), ((x 2), .inr (0, [.ref (ac 0), .ref (ac 1), .ref (ac 2), vZ (Cr.2 3), vZ (Cr.2 4)])), ((ac 0), .inl (K.1, 8, .inl (ar (Cr.1 0)))), ((ac 1), .inl (K.1, 8, .inl (ar (Cr.1 1)))), ((ac 2), .inl (K.1, 8, .inl (ar (Cr.1 2)))), ((x 3), .inr (6, [.ref (x 0), .ref (x 1), .ref (x 2), .ref (xu 3), .ref (xu 5), .ref (xu 6), .ref (xu 7), .ref (xu 8), .ref (xu 9), .ref (xu 10), .ref (xu 11), vZ (U.2 12), vZ (U.2 13), vZ (U.2 14), vZ (U.2 15)])), ((xu 5), .inl (K.1, 8, .inl (ar (U.1 5)))), ((xu 6), .inl (K.1, 8, .inl (ar (U.1 6)))), ((xu 7), .inl (K.1, 8, .inl (ar (U.1 7)))), ((xu 8), .inl (K.1, 10, .inl (ar (U.1 8)))), ((xu 9), .inl (K.1, 10, .inl (ar (U.1 9)))), ((xu 10), .inl (K.1, 10, .inl (ar (U.1 10)))), ((xu 11), .inl (K.1, 16, .inl (ar (U.1 11)))), ((xu 3), .inr (2, [.ref (aqu 0), .ref (aqu 1), .ref (aqu 2), .ref (aqu 3), .ref (aqu 4), .ref (aqu 5), .ref (aqu 6), vZ (Squ.2 7), vZ (Squ.2 8)])), ((aqu 0), .inl (K.1, 32, .inl (ar (Squ.1 0)))), ((aqu 1), .inl (K.1, 32, .inl (ar (Squ.1 1)))), ((aqu 2), .inl (K.1, 32, .inl (ar (Squ.1 2)))), ((aqu 3), .inl (K.1, Nqu, .inl (ar (Squ.1 3)))), ((aqu 4), .inl (K.1, Nqu, .inl (ar (Squ.1 4)))), ((aqu 5), .inl (K.1, Nqu, .inl (ar (Squ.1 5)))), ((aqu 6), .inl (K.1, Nqu, .inl (ar (Squ.1 6)))), ((x 5), .inr (1, [.ref (x 3), .ref (xf 1), .ref (xf 2), .ref (xf 3), .ref (xf 4), vZ (F2_17.2 5), vZ (F2_17.2 6), vZ (F2_17.2 7), vZ (F2_17.2 8), vZ (F2_17.2 9), vZ (F2_17.2 10), vZ (F2_17.2 11)])), ((xf 2), .inl (K.1, 10, .inl (ar (F2_17.1 2)))), ((xf 3), .inl (K.1, 4, .inl (ar (F2_17.1 3)))), ((xf 4), .inl (K.1, 4, .inl (ar (F2_17.1 4)))), ((xf 1), .inr (6, [.ref (x 0), .ref (x 1), .ref (x 2), .ref (xv 3), .ref (xv 5), .ref (xv 6), .ref (xv 7), .ref (xv 8), .ref (xv 9), .ref (xv 10), .ref (xv 11), vZ (V2_17.2 12), vZ (V2_17.2 13), vZ (V2_17.2 14), vZ (V2_17.2 15)])), ((xv 5), .inl (K.1, 8, .inl (ar (V2_17.1 5)))), ((xv 6), .inl (K.1, 8, .inl (ar (V2_17.1 6)))), ((xv 7), .inl (K.1, 8, .inl (ar (V2_17.1 7)))), ((xv 8), .inl (K.1, 10, .inl (ar (V2_17.1 8)))), ((xv 9), .inl (K.1, 10, .inl (ar (V2_17.1 9)))), ((xv 10), .inl (K.1, 10, .inl (ar (V2_17.1 10)))), ((xv 11), .inl (K.1, 16, .inl (ar (V2_17.1 11)))), ((xv 3), .inr (2, [.ref (aqt2_17 0), .ref (aqt2_17 1), .ref (aqt2_17 2), .ref (aqt2_17 3), .ref (aqt2_17 4), .ref (aqt2_17 5), .ref (aqt2_17 6), vZ (Sqt2_17.2 7), vZ (Sqt2_17.2 8)])), ((aqt2_17 0), .inl (K.1, 32, .inl (ar (Sqt2_17.1 0)))), ((aqt2_17 1), .inl (K.1, 32, .inl (ar (Sqt2_17.1 1)))), ((aqt2_17 2), .inl (K.1, 32, .inl (ar (Sqt2_17.1 2)))), ((aqt2_17 3), .inl (K.1, Nqt2_17, .inl (ar (Sqt2_17.1 3)))), ((aqt2_17 4), .inl (K.1, Nqt2_17, .inl (ar (Sqt2_17.1 4)))), ((aqt2_17 5), .inl (K.1, Nqt2_17, .inl (ar (Sqt2_17.1 5)))), ((aqt2_17 6), .inl (K.1, Nqt2_17, .inl (ar (Sqt2_17.1 6))))]) rfl ?_
    refine z_st (st2 := []) rfl ?_
    have hP := hP2_17.2
    have hn9 : 0 ≤ F2_17.2 9 ∧ F2_17.2 9 ≤ 4 := by
      rcases hP with z | z
      · omega
      · omega
    have hwr : ∀ j0 : Int, 0 ≤ j0 → j0 < F2_17.2 9 → 0 ≤ F2_17.1 3 j0 ∧ F2_17.1 3 j0 ≤ 10000 := by
      intro j0 x1 x2
      rcases hP with z | z
      · omega
      · rw [z.2.2.1 j0 x1 (by omega)]
        have := wlA_mem (Cr := Cr) (A := A) (i := j0) hc8.1 (by omega) (by omega)
        omega
    refine z_aload_n ZC 0 dX7_plan_20 rfl rfl ?_
    refine z_get ZC inUX7 0 rfl rfl 5 (by decide) uF_X7_50 rfl dX7_plan_21 ?_
    refine z_iload_n ZC 1 dX7_plan_24 rfl rfl ?_
    refine z_callV ZC 1 (c_X1_bestHour zl D K (x 5) (upf xf 0 (x 3)) F2_17 (upf (upf (upf xu 0 (x 0)) 1 (x 1)) 2 (x 2)) U cw (hn9) (hwr) (by omega)) (gdV uM_X7_166 uI_X1_bestHour uS_X1_bestHour uN_X1 uC_X1_bestHour) (by decide +kernel) rfl ⟨by omega, by omega⟩ ⟨by omega, by omega⟩ (Nat.le_of_ble_eq_true rfl) [33, 34, 35, 36, 17, 18, 19, 20, 21, 22, 23, 24] rfl (by decide) rfl rfl rfl rfl dX7_plan_25 (fun r w2 gc_25 gs_25 hp => ?_)
    obtain ⟨v_25, rfl, rfl, rfl, rfl, hv_25⟩ := hp
    refine z_ws (ws2 := [(h, .inr (7, [.ref (x 0), .ref (x 1), .ref (x 2), .ref (x 3), .ref (x 4), .ref (x 5)])), ((x 0), .inr (5, [.ref (ato 0), .ref (ato 1), vZ (To.2 2), vZ (To.2 3)])), ((ato 0), .inl (K.1, 10, .inl (ar (To.1 0)))), ((ato 1), .inl (K.1, 10, .inl (ar (To.1 1)))), ((x 1), .inr (4, [.ref (an 0), .ref (an 1), .ref (an 2), .ref (an 3), .ref (an 4), .ref (an 5), .ref (an 6), .ref (an 7), vZ (Ne.2 8)])), ((an 0), .inl (K.1, 16, .inl (ar (Ne.1 0)))), ((an 1), .inl (K.1, 16, .inl (ar (Ne.1 1)))), ((an 2), .inl (K.1, 16, .inl (ar (Ne.1 2)))), ((an 3), .inl (K.1, 16, .inl (ar (Ne.1 3)))), ((an 4), .inl (K.1, 16, .inl (ar (Ne.1 4)))), ((an 5), .inl (K.1, 16, .inl (ar (Ne.1 5)))), ((an 6), .inl (K.1, 100, .inl (ar (Ne.1 6)))), ((an 7), .inl (K.1, 100, .inl (ar (Ne.1 7)))), ((x 2), .inr (0, [.ref (ac 0), .ref (ac 1), .ref (ac 2), vZ (Cr.2 3), vZ (Cr.2 4)])), ((ac 0), .inl (K.1, 8, .inl (ar (Cr.1 0)))), ((ac 1), .inl (K.1, 8, .inl (ar (Cr.1 1)))), ((ac 2), .inl (K.1, 8, .inl (ar (Cr.1 2)))), ((x 3), .inr (6, [.ref (x 0), .ref (x 1), .ref (x 2), .ref (xu 3), .ref (xu 5), .ref (xu 6), .ref (xu 7), .ref (xu 8), .ref (xu 9), .ref (xu 10), .ref (xu 11), vZ (U.2 12), vZ (U.2 13), vZ (U.2 14), vZ (U.2 15)])), ((xu 5), .inl (K.1, 8, .inl (ar (U.1 5)))), ((xu 6), .inl (K.1, 8, .inl (ar (U.1 6)))), ((xu 7), .inl (K.1, 8, .inl (ar (U.1 7)))), ((xu 8), .inl (K.1, 10, .inl (ar (U.1 8)))), ((xu 9), .inl (K.1, 10, .inl (ar (U.1 9)))), ((xu 10), .inl (K.1, 10, .inl (ar (U.1 10)))), ((xu 11), .inl (K.1, 16, .inl (ar (U.1 11)))), ((xu 3), .inr (2, [.ref (aqu 0), .ref (aqu 1), .ref (aqu 2), .ref (aqu 3), .ref (aqu 4), .ref (aqu 5), .ref (aqu 6), vZ (Squ.2 7), vZ (Squ.2 8)])), ((aqu 0), .inl (K.1, 32, .inl (ar (Squ.1 0)))), ((aqu 1), .inl (K.1, 32, .inl (ar (Squ.1 1)))), ((aqu 2), .inl (K.1, 32, .inl (ar (Squ.1 2)))), ((aqu 3), .inl (K.1, Nqu, .inl (ar (Squ.1 3)))), ((aqu 4), .inl (K.1, Nqu, .inl (ar (Squ.1 4)))), ((aqu 5), .inl (K.1, Nqu, .inl (ar (Squ.1 5)))), ((aqu 6), .inl (K.1, Nqu, .inl (ar (Squ.1 6)))), ((x 5), .inr (1, [.ref (x 3), .ref (xf 1), .ref (xf 2), .ref (xf 3), .ref (xf 4), vZ (F2_17.2 5), vZ (F2_17.2 6), vZ (F2_17.2 7), vZ (F2_17.2 8), vZ (F2_17.2 9), vZ (F2_17.2 10), vZ (F2_17.2 11)])), ((xf 2), .inl (K.1, 10, .inl (ar (F2_17.1 2)))), ((xf 3), .inl (K.1, 4, .inl (ar (F2_17.1 3)))), ((xf 4), .inl (K.1, 4, .inl (ar (F2_17.1 4)))), ((xf 1), .inr (6, [.ref (x 0), .ref (x 1), .ref (x 2), .ref (xv 3), .ref (xv 5), .ref (xv 6), .ref (xv 7), .ref (xv 8), .ref (xv 9), .ref (xv 10), .ref (xv 11), vZ (V2_17.2 12), vZ (V2_17.2 13), vZ (V2_17.2 14), vZ (V2_17.2 15)])), ((xv 5), .inl (K.1, 8, .inl (ar (V2_17.1 5)))), ((xv 6), .inl (K.1, 8, .inl (ar (V2_17.1 6)))), ((xv 7), .inl (K.1, 8, .inl (ar (V2_17.1 7)))), ((xv 8), .inl (K.1, 10, .inl (ar (V2_17.1 8)))), ((xv 9), .inl (K.1, 10, .inl (ar (V2_17.1 9)))), ((xv 10), .inl (K.1, 10, .inl (ar (V2_17.1 10)))), ((xv 11), .inl (K.1, 16, .inl (ar (V2_17.1 11)))), ((xv 3), .inr (2, [.ref (aqt2_17 0), .ref (aqt2_17 1), .ref (aqt2_17 2), .ref (aqt2_17 3), .ref (aqt2_17 4), .ref (aqt2_17 5), .ref (aqt2_17 6), vZ (Sqt2_17.2 7), vZ (Sqt2_17.2 8)])), ((aqt2_17 0), .inl (K.1, 32, .inl (ar (Sqt2_17.1 0)))), ((aqt2_17 1), .inl (K.1, 32, .inl (ar (Sqt2_17.1 1)))), ((aqt2_17 2), .inl (K.1, 32, .inl (ar (Sqt2_17.1 2)))), ((aqt2_17 3), .inl (K.1, Nqt2_17, .inl (ar (Sqt2_17.1 3)))), ((aqt2_17 4), .inl (K.1, Nqt2_17, .inl (ar (Sqt2_17.1 4)))), ((aqt2_17 5), .inl (K.1, Nqt2_17, .inl (ar (Sqt2_17.1 5)))), ((aqt2_17 6), .inl (K.1, Nqt2_17, .inl (ar (Sqt2_17.1 6))))]) rfl ?_
    refine z_st (st2 := [vZ v_25]) rfl ?_
    refine z_iret ZC ZE dX7_plan_28 (by omega) (by omega) (Nat.le_of_ble_eq_true rfl) ⟨F2_17, V2_17, aqt2_17, Nqt2_17, Sqt2_17, v_25, rfl, rfl, ?_, ?_, ?_, ?_, ?_⟩
    · skip
      exact ⟨by
        rcases hfi.1 with z | z
        · exact Or.inl (hkp_17.2.1.trans z)
        · exact Or.inr ⟨hkp_17.2.1.trans z.1, fov_keep hkp_17.1 hkp_17.2.2.1 hkp_17.2.2.2 z.2⟩, Or.inr hP2_17⟩
    · skip
      left
      refine ⟨by clear hv_25; omega, ?_⟩
      rcases hv_25 with ⟨i, z1, z2, z3⟩ | ⟨z1, z2⟩
      · left
        rcases hP with z | z
        · omega
        · refine ⟨i, by omega, ?_, z.1, ?_⟩
          · rw [← z.2.2.1 i z1.1 z1.2]; exact z2
          · rw [z3, ← z.2.2.2.2.2 i z1.1 z1.2, hT.2.2.2.2.1.1]
      · right
        refine ⟨z1, ?_⟩
        rcases hP with z | z
        · exact Or.inl z.1
        · right
          intro j x y
          rw [← z.2.2.1 j x (by omega)]
          exact z2 j x (by omega)
    · skip
      exact hpw2_17
    · skip
      omega
    · skip
      omega
  · skip
    refine z_iconst ZC dX7_plan_11 ?_
    refine z_iret ZC ZE dX7_plan_12 (by omega) (by omega) (Nat.le_of_ble_eq_true rfl) ⟨F, V, aqt, Nqt, Sqt, (-1), rfl, rfl, ?_, ?_, ?_, ?_, ?_⟩
    · skip
      exact hfi
    · skip
      exact Or.inr ⟨by omega, rfl⟩
    · skip
      exact ⟨hpw, by have := pw_rng hpw; omega⟩
    · skip
      omega
    · skip
      omega

