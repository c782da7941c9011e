/-! ===== the law: call by call ===== -/
abbrev lW (K : tyK) (h : Nat) (x ato an ac xu xf xv : Nat → Nat) (hm : Nat) (am : Nat → Nat) (To Ne Cr U : Bd) (aqu : Nat → Nat) (Nqu : Nat) (Squ : Bd) (f : Nat → Option Nat) (F V : Bd) (aqt : Nat → Nat) (Nqt : Nat) (Sqt M : Bd) : va_W := [(h, .inr (7, [.ref (x 0), .ref (x 1), .ref (x 2), .ref (x 3), .ref (x 4), .ref (x 5)])), ((x 0), .inr (5, [.ref (ato 0), .ref (ato 1), vZ (To.2 2), vZ (To.2 3)])), ((ato 0), .inl (K.1, 10, .inl (ar (To.1 0)))), ((ato 1), .inl (K.1, 10, .inl (ar (To.1 1)))), ((x 1), .inr (4, [.ref (an 0), .ref (an 1), .ref (an 2), .ref (an 3), .ref (an 4), .ref (an 5), .ref (an 6), .ref (an 7), vZ (Ne.2 8)])), ((an 0), .inl (K.1, 16, .inl (ar (Ne.1 0)))), ((an 1), .inl (K.1, 16, .inl (ar (Ne.1 1)))), ((an 2), .inl (K.1, 16, .inl (ar (Ne.1 2)))), ((an 3), .inl (K.1, 16, .inl (ar (Ne.1 3)))), ((an 4), .inl (K.1, 16, .inl (ar (Ne.1 4)))), ((an 5), .inl (K.1, 16, .inl (ar (Ne.1 5)))), ((an 6), .inl (K.1, 100, .inl (ar (Ne.1 6)))), ((an 7), .inl (K.1, 100, .inl (ar (Ne.1 7)))), ((x 2), .inr (0, [.ref (ac 0), .ref (ac 1), .ref (ac 2), vZ (Cr.2 3), vZ (Cr.2 4)])), ((ac 0), .inl (K.1, 8, .inl (ar (Cr.1 0)))), ((ac 1), .inl (K.1, 8, .inl (ar (Cr.1 1)))), ((ac 2), .inl (K.1, 8, .inl (ar (Cr.1 2)))), ((x 3), .inr (6, [.ref (x 0), .ref (x 1), .ref (x 2), .ref (xu 3), .ref (xu 5), .ref (xu 6), .ref (xu 7), .ref (xu 8), .ref (xu 9), .ref (xu 10), .ref (xu 11), vZ (U.2 12), vZ (U.2 13), vZ (U.2 14), vZ (U.2 15)])), ((xu 5), .inl (K.1, 8, .inl (ar (U.1 5)))), ((xu 6), .inl (K.1, 8, .inl (ar (U.1 6)))), ((xu 7), .inl (K.1, 8, .inl (ar (U.1 7)))), ((xu 8), .inl (K.1, 10, .inl (ar (U.1 8)))), ((xu 9), .inl (K.1, 10, .inl (ar (U.1 9)))), ((xu 10), .inl (K.1, 10, .inl (ar (U.1 10)))), ((xu 11), .inl (K.1, 16, .inl (ar (U.1 11)))), ((xu 3), .inr (2, [.ref (aqu 0), .ref (aqu 1), .ref (aqu 2), .ref (aqu 3), .ref (aqu 4), .ref (aqu 5), .ref (aqu 6), vZ (Squ.2 7), vZ (Squ.2 8)])), ((aqu 0), .inl (K.1, 32, .inl (ar (Squ.1 0)))), ((aqu 1), .inl (K.1, 32, .inl (ar (Squ.1 1)))), ((aqu 2), .inl (K.1, 32, .inl (ar (Squ.1 2)))), ((aqu 3), .inl (K.1, Nqu, .inl (ar (Squ.1 3)))), ((aqu 4), .inl (K.1, Nqu, .inl (ar (Squ.1 4)))), ((aqu 5), .inl (K.1, Nqu, .inl (ar (Squ.1 5)))), ((aqu 6), .inl (K.1, Nqu, .inl (ar (Squ.1 6)))), ((x 4), .inl (K.2.2, 16, .inr (.inr (.inr (.inr f))))), ((x 5), .inr (1, [.ref (x 3), .ref (xf 1), .ref (xf 2), .ref (xf 3), .ref (xf 4), vZ (F.2 5), vZ (F.2 6), vZ (F.2 7), vZ (F.2 8), vZ (F.2 9), vZ (F.2 10), vZ (F.2 11)])), ((xf 2), .inl (K.1, 10, .inl (ar (F.1 2)))), ((xf 3), .inl (K.1, 4, .inl (ar (F.1 3)))), ((xf 4), .inl (K.1, 4, .inl (ar (F.1 4)))), ((xf 1), .inr (6, [.ref (x 0), .ref (x 1), .ref (x 2), .ref (xv 3), .ref (xv 5), .ref (xv 6), .ref (xv 7), .ref (xv 8), .ref (xv 9), .ref (xv 10), .ref (xv 11), vZ (V.2 12), vZ (V.2 13), vZ (V.2 14), vZ (V.2 15)])), ((xv 5), .inl (K.1, 8, .inl (ar (V.1 5)))), ((xv 6), .inl (K.1, 8, .inl (ar (V.1 6)))), ((xv 7), .inl (K.1, 8, .inl (ar (V.1 7)))), ((xv 8), .inl (K.1, 10, .inl (ar (V.1 8)))), ((xv 9), .inl (K.1, 10, .inl (ar (V.1 9)))), ((xv 10), .inl (K.1, 10, .inl (ar (V.1 10)))), ((xv 11), .inl (K.1, 16, .inl (ar (V.1 11)))), ((xv 3), .inr (2, [.ref (aqt 0), .ref (aqt 1), .ref (aqt 2), .ref (aqt 3), .ref (aqt 4), .ref (aqt 5), .ref (aqt 6), vZ (Sqt.2 7), vZ (Sqt.2 8)])), ((aqt 0), .inl (K.1, 32, .inl (ar (Sqt.1 0)))), ((aqt 1), .inl (K.1, 32, .inl (ar (Sqt.1 1)))), ((aqt 2), .inl (K.1, 32, .inl (ar (Sqt.1 2)))), ((aqt 3), .inl (K.1, Nqt, .inl (ar (Sqt.1 3)))), ((aqt 4), .inl (K.1, Nqt, .inl (ar (Sqt.1 4)))), ((aqt 5), .inl (K.1, Nqt, .inl (ar (Sqt.1 5)))), ((aqt 6), .inl (K.1, Nqt, .inl (ar (Sqt.1 6)))), (hm, .inr (8, [vZ (M.2 0), .ref (am 1), .ref (am 2), vZ (M.2 3), vZ (M.2 4), .ref (am 5), .ref (am 6), .ref (am 7), .ref (am 8), .ref (am 9), .ref (am 10), .ref (am 11), vZ (M.2 12), .ref (am 13), .ref (am 14), .ref (am 15), .ref (am 16), .ref (am 17), .ref (am 18), .ref (am 19), vZ (M.2 20), vZ (M.2 21), .ref (am 22), .ref (am 23), .ref (am 24), .ref (am 25), .ref (am 26), .ref (am 27), .ref (am 28), .ref (am 29), .ref (am 30), .ref (am 31), .ref (am 32), .ref (am 33), vZ (M.2 34), .ref (am 35), vZ (M.2 36), vZ (M.2 37), vZ (M.2 38), .ref (am 39), .ref (am 40), vZ (M.2 41), vZ (M.2 42), vZ (M.2 43)])), ((am 1), .inl (K.1, 10, .inl (ar (M.1 1)))), ((am 2), .inl (K.1, 10, .inl (ar (M.1 2)))), ((am 5), .inl (K.1, 16, .inl (ar (M.1 5)))), ((am 6), .inl (K.1, 16, .inl (ar (M.1 6)))), ((am 7), .inl (K.1, 16, .inl (ar (M.1 7)))), ((am 8), .inl (K.1, 16, .inl (ar (M.1 8)))), ((am 9), .inl (K.1, 16, .inl (ar (M.1 9)))), ((am 10), .inl (K.1, 16, .inl (ar (M.1 10)))), ((am 11), .inl (K.1, 100, .inl (ar (M.1 11)))), ((am 13), .inl (K.1, 8, .inl (ar (M.1 13)))), ((am 14), .inl (K.1, 8, .inl (ar (M.1 14)))), ((am 15), .inl (K.1, 8, .inl (ar (M.1 15)))), ((am 16), .inl (K.1, 8, .inl (ar (M.1 16)))), ((am 17), .inl (K.1, 3200, .inl (ar (M.1 17)))), ((am 18), .inl (K.1, 3200, .inl (ar (M.1 18)))), ((am 19), .inl (K.2.1, 3200, .inl (ar (M.1 19)))), ((am 22), .inl (K.1, 3400, .inl (ar (M.1 22)))), ((am 23), .inl (K.1, 3400, .inl (ar (M.1 23)))), ((am 24), .inl (K.1, 3400, .inl (ar (M.1 24)))), ((am 25), .inl (K.1, 3400, .inl (ar (M.1 25)))), ((am 26), .inl (K.1, 32, .inl (ar (M.1 26)))), ((am 27), .inl (K.1, 32, .inl (ar (M.1 27)))), ((am 28), .inl (K.2.1, 8, .inl (ar (M.1 28)))), ((am 29), .inl (K.1, 8, .inl (ar (M.1 29)))), ((am 30), .inl (K.1, 8, .inl (ar (M.1 30)))), ((am 31), .inl (K.1, 10, .inl (ar (M.1 31)))), ((am 32), .inl (K.1, 10, .inl (ar (M.1 32)))), ((am 33), .inl (K.1, 10, .inl (ar (M.1 33)))), ((am 35), .inl (K.1, 13711, .inl (ar (M.1 35)))), ((am 39), .inl (K.1, 4, .inl (ar (M.1 39)))), ((am 40), .inl (K.1, 4, .inl (ar (M.1 40))))]
set_option maxHeartbeats 4000000 in
set_option maxRecDepth 100000 in
theorem lw_town {zp : Program} {zl : Launch} {ze : Env} {zR : Room} {zs : State} {zm : MethodId} {zargs : Array Value} {zbelow : List Frame} {zmeth : Method} {zc : Code} {D : va_G} {K : tyK} {zA : Nat → Prop} {zQ : State → Prop} {b L : Nat} {xs : Nat → Int32} (ZC : Zc zp zs zm zargs zc D K zA 4 cL_law RL) (hX : va_X b L xs zs zs.heap) (hbl : b < zs.heap.size) (hbA : ¬ zA b) (hL : L ≤ 2560) (hRf : zR.frames = 10) (hRc : zR.cells = 600000) (hRs : zR.slots = 7302250) (hRl : zR.locals = 366) (h : Nat) (x ato an ac xu xf xv : Nat → Nat) (hm : Nat) (am : Nat → Nat) (i : Int) (jn_859 : ∀ (To : Bd) (Ne : Bd) (Cr : Bd) (U : Bd) (aqu : Nat → Nat) (Nqu : Nat) (Squ : Bd) (f : Nat → Option Nat) (F : Bd) (V : Bd) (aqt : Nat → Nat) (Nqt : Nat) (Sqt : Bd) (M : Bd) (hs : Nat → Nat) (ag : Nat → Nat → Nat) (Lg : Nat → Bd) (nr : Nat) (gv : Nat) (gw : Nat) (A : Ab) (Cq : Int → List Pt3) (C : Int → List Pt3), LgA To Ne Cr → LgB Ne Cr A → LgC To Ne Cr U Nqu Squ F Nqt A Cq → LgD To Ne Cr A M C → LgE Ne f M hs Lg nr A → LgF Nqu Nqt nr gv gw → Zw zp zl ze zR zs zm zargs zbelow zmeth zc D zA 4 zQ gv gw (lW K h x ato an ac xu xf xv hm am To Ne Cr U aqu Nqu Squ f F V aqt Nqt Sqt M ++ lgW K hs ag Lg nr) 859 [(0, .ref b), (1, .ref h), (2, .ref hm), (3, vZ i)] []) (To : Bd) (Ne : Bd) (Cr : Bd) (U : Bd) (aqu : Nat → Nat) (Nqu : Nat) (Squ : Bd) (f : Nat → Option Nat) (F : Bd) (V : Bd) (aqt : Nat → Nat) (Nqt : Nat) (Sqt : Bd) (M : Bd) (hs : Nat → Nat) (ag : Nat → Nat → Nat) (Lg : Nat → Bd) (nr : Nat) (gv : Nat) (gw : Nat) (A : Ab) (Cq : Int → List Pt3) (C : Int → List Pt3) (hA : LgA To Ne Cr) (hB : LgB Ne Cr A) (hC : LgC To Ne Cr U Nqu Squ F Nqt A Cq) (hD : LgD To Ne Cr A M C) (hE : LgE Ne f M hs Lg nr A) (hF : LgF Nqu Nqt nr gv gw) (hi : 0 ≤ i ∧ i + 5 ≤ (L : Int))  : Zw zp zl ze zR zs zm zargs zbelow zmeth zc D zA 4 zQ gv gw (lW K h x ato an ac xu xf xv hm am To Ne Cr U aqu Nqu Squ f F V aqt Nqt Sqt M ++ lgW K hs ag Lg nr) 140 [(0, .ref b), (1, .ref h), (2, .ref hm), (3, vZ i)] [] := by
  obtain ⟨a1, a2, a3, a4, a5, a6, a7, a8⟩ := id hA
  obtain ⟨b1, b2, b3, b4, b5, b6⟩ := id hB
  obtain ⟨c1, c2, c3, c4⟩ := id hC
  obtain ⟨d1, d2, d3, d4⟩ := id hD
  obtain ⟨e1, e2, e3, e4⟩ := id hE
  obtain ⟨hf1, hf2⟩ := id hF
  have hne := a1.1
  have hcr := a1.2.1
  have hls := nw_ls a2
  have enw : U.2 12 = A.2.1 0 := c1.2.2.2.2.1.1
  have hnw0 := b1.2.1
  have m0 : M.2 0 = To.2 3 := d1.1.1
  have m3 : M.2 3 = To.2 2 := d1.1.2.1
  have m4 : M.2 4 = Ne.2 8 := d1.2.1.1
  have m12 : M.2 12 = Cr.2 3 := d1.2.2.1
  have m20 : M.2 20 = A.2.1 0 := d2.2.2.2.1
  have hG1 := lo_rng c1.1
  have hpr1 := pw_rng c3
  have hus0 := mx_us d2 a1 b1
  have hmn := m11 d1.2.1 a2
  have hx1 := xz_rng xs (i + 1)
  have hx2 := xz_rng xs (i + 2)
  have hx3 := xz_rng xs (i + 3)
  have hx4 := xz_rng xs (i + 4)
  have hnr := e1.1
  refine z_aload_n ZC 1 dL_law_140 rfl rfl ?_
  refine z_aload_n ZC 0 dL_law_141 rfl rfl ?_
  refine z_iload_n ZC 3 dL_law_142 rfl rfl ?_
  refine z_iconst ZC dL_law_143 ?_
  refine z_iadd ZC dL_law_144 ?_
  refine z_sld ZC hX hbl hbA dL_law_145 (by omega) ?_
  refine z_aload_n ZC 0 dL_law_146 rfl rfl ?_
  refine z_iload_n ZC 3 dL_law_147 rfl rfl ?_
  refine z_iconst ZC dL_law_148 ?_
  refine z_iadd ZC dL_law_149 ?_
  refine z_sld ZC hX hbl hbA dL_law_150 (by omega) ?_
  refine z_callV ZC 2 (c_X7_town zl D K h x ato To xu U xf F (xz xs (i + 1)) (xz xs (i + 2)) (by omega) (by omega) (by omega)) (gdV uM_L_13 uI_X7_town uS_X7_town uN_X7 uC_X7_town) (by decide +kernel) rfl ⟨by omega, by omega⟩ ⟨by omega, by omega⟩ (Nat.le_of_ble_eq_true rfl) [0, 1, 2, 3, 17, 18, 19, 20, 21, 22, 23, 24, 34, 35, 36, 37] rfl (by decide) rfl rfl rfl rfl dL_law_151 (fun r w2 gc_151 gs_151 hp => ?_)
  obtain ⟨To2_151, U2_151, F2_151, v_151, rfl, rfl, rfl, rfl, hv_151⟩ := hp
  refine z_ws (ws2 := (lW K h x ato an ac xu xf xv hm am To2_151 Ne Cr U2_151 aqu Nqu Squ f F2_151 V aqt Nqt Sqt M ++ lgW K hs ag Lg nr)) ((rep_pre (is := [0, 1, 2, 3, 17, 18, 19, 20, 21, 22, 23, 24, 34, 35, 36, 37]) (pre := (lW K h x ato an ac xu xf xv hm am To Ne Cr U aqu Nqu Squ f F V aqt Nqt Sqt M)) (w1 := ((wSh h x) ++ (wTo K (x 0) ato To) ++ (wTr K (x 3) (upf (upf (upf xu 0 (x 0)) 1 (x 1)) 2 (x 2)) U) ++ (wFo K (x 5) (upf xf 0 (x 3)) F))) rfl (Nat.le_of_ble_eq_true rfl)).trans rfl) ?_
  refine z_st (st2 := [vZ v_151]) rfl ?_
  refine z_aload_n ZC 2 dL_law_154 rfl rfl ?_
  refine z_aload_n ZC 0 dL_law_155 rfl rfl ?_
  refine z_iload_n ZC 3 dL_law_156 rfl rfl ?_
  refine z_iconst ZC dL_law_157 ?_
  refine z_iadd ZC dL_law_158 ?_
  refine z_sld ZC hX hbl hbA dL_law_159 (by omega) ?_
  refine z_aload_n ZC 0 dL_law_160 rfl rfl ?_
  refine z_iload_n ZC 3 dL_law_161 rfl rfl ?_
  refine z_iconst ZC dL_law_162 ?_
  refine z_iadd ZC dL_law_163 ?_
  refine z_sld ZC hX hbl hbA dL_law_164 (by omega) ?_
  refine z_callV ZC 2 (c_X8_town zl D K hm am M (xz xs (i + 1)) (xz xs (i + 2)) (by omega) (by omega) (by omega)) (gdV uM_L_17 uI_X8_town uS_X8_town uN_X8 uC_X8_town) (by decide +kernel) rfl ⟨by omega, by omega⟩ ⟨by omega, by omega⟩ (Nat.le_of_ble_eq_true rfl) [54, 55, 56, 57, 58, 59, 60, 61, 62, 63, 64, 65, 66, 67, 68, 69, 70, 71, 72, 73, 74, 75, 76, 77, 78, 79, 80, 81, 82, 83, 84, 85] rfl (by decide) rfl rfl rfl rfl dL_law_165 (fun r w2 gc_165 gs_165 hp => ?_)
  obtain ⟨M2_165, v_165, rfl, rfl, rfl, rfl, hv_165⟩ := hp
  refine z_ws (ws2 := (lW K h x ato an ac xu xf xv hm am To2_151 Ne Cr U2_151 aqu Nqu Squ f F2_151 V aqt Nqt Sqt M2_165 ++ lgW K hs ag Lg nr)) ((rep_pre (is := [54, 55, 56, 57, 58, 59, 60, 61, 62, 63, 64, 65, 66, 67, 68, 69, 70, 71, 72, 73, 74, 75, 76, 77, 78, 79, 80, 81, 82, 83, 84, 85]) (pre := (lW K h x ato an ac xu xf xv hm am To2_151 Ne Cr U2_151 aqu Nqu Squ f F2_151 V aqt Nqt Sqt M)) (w1 := (wMo K hm am M)) rfl (Nat.le_of_ble_eq_true rfl)).trans rfl) ?_
  refine z_st (st2 := [vZ v_165, vZ v_151]) rfl ?_
  by_cases hk : (0 ≤ (xz xs (i + 1)) ∧ (xz xs (i + 1)) ≤ 99) ∧ (0 ≤ (xz xs (i + 2)) ∧ (xz xs (i + 2)) ≤ 1000000) ∧ To.2 3 < 10
  · skip
    obtain ⟨-, ev, eT, eU, eF⟩ := hv_151.resolve_right (fun q => q.1 hk)
    obtain ⟨-, ev2, eM⟩ := hv_165.resolve_right (fun q => q.1 (by omega))
    obtain ⟨s1, s2, s3, s4⟩ := s_town hA hB hC hD hk
    refine z_eqj ZC 859 dL_law_168 (by decide) (by omega) ?_
    refine z_ws (ws2 := (lW K h x ato an ac xu xf xv hm am To2_151 Ne Cr U2_151 aqu Nqu Squ f F2_151 V aqt Nqt Sqt M2_165 ++ lgW K hs ag Lg nr)) rfl (z_lv (lv2 := [(0, .ref b), (1, .ref h), (2, .ref hm), (3, vZ i)]) ⟨rfl, rfl, rfl, rfl, trivial⟩ ?_)
    refine jn_859 To2_151 Ne Cr U2_151 aqu Nqu Squ f F2_151 V aqt Nqt Sqt M2_165 hs ag Lg nr (gv + 0 + 0) (gw + 0 + 0) (aI A 4 (upz (A.1 4) (To.2 3) (xz xs (i + 2)))) Cq C ?_ ?_ ?_ ?_ ?_ ?_
    · skip
      rw [eT]; exact s1
    · skip
      exact s2
    · skip
      rw [eT, eU, eF]; exact s3
    · skip
      rw [eT, eM]; exact s4
    · skip
      rw [eM]; exact hE
    · skip
      unfold LgF
      omega
  · skip
    obtain ⟨-, ev, eT, eU, eF⟩ := hv_151.resolve_left (fun q => hk q.1)
    obtain ⟨-, ev2, eM⟩ := hv_165.resolve_left (fun q => hk (by have q1 := q.1; omega))
    refine z_eqj ZC 859 dL_law_168 (by decide) (by omega) ?_
    refine z_ws (ws2 := (lW K h x ato an ac xu xf xv hm am To2_151 Ne Cr U2_151 aqu Nqu Squ f F2_151 V aqt Nqt Sqt M2_165 ++ lgW K hs ag Lg nr)) rfl (z_lv (lv2 := [(0, .ref b), (1, .ref h), (2, .ref hm), (3, vZ i)]) ⟨rfl, rfl, rfl, rfl, trivial⟩ ?_)
    refine jn_859 To2_151 Ne Cr U2_151 aqu Nqu Squ f F2_151 V aqt Nqt Sqt M2_165 hs ag Lg nr (gv + 0 + 0) (gw + 0 + 0) A Cq C ?_ ?_ ?_ ?_ ?_ ?_
    · skip
      rw [eT]; exact hA
    · skip
      exact hB
    · skip
      rw [eT, eU, eF]; exact hC
    · skip
      rw [eT, eM]; exact hD
    · skip
      rw [eM]; exact hE
    · skip
      unfold LgF
      omega

set_option maxHeartbeats 4000000 in
set_option maxRecDepth 100000 in
theorem lw_path {zp : Program} {zl : Launch} {ze : Env} {zR : Room} {zs : State} {zm : MethodId} {zargs : Array Value} {zbelow : List Frame} {zmeth : Method} {zc : Code} {D : va_G} {K : tyK} {zA : Nat → Prop} {zQ : State → Prop} {b L : Nat} {xs : Nat → Int32} (ZC : Zc zp zs zm zargs zc D K zA 4 cL_law RL) (hX : va_X b L xs zs zs.heap) (hbl : b < zs.heap.size) (hbA : ¬ zA b) (hL : L ≤ 2560) (hRf : zR.frames = 10) (hRc : zR.cells = 600000) (hRs : zR.slots = 7302250) (hRl : zR.locals = 366) (h : Nat) (x ato an ac xu xf xv : Nat → Nat) (hm : Nat) (am : Nat → Nat) (i : Int) (jn_859 : ∀ (To : Bd) (Ne : Bd) (Cr : Bd) (U : Bd) (aqu : Nat → Nat) (Nqu : Nat) (Squ : Bd) (f : Nat → Option Nat) (F : Bd) (V : Bd) (aqt : Nat → Nat) (Nqt : Nat) (Sqt : Bd) (M : Bd) (hs : Nat → Nat) (ag : Nat → Nat → Nat) (Lg : Nat → Bd) (nr : Nat) (gv : Nat) (gw : Nat) (A : Ab) (Cq : Int → List Pt3) (C : Int → List Pt3), LgA To Ne Cr → LgB Ne Cr A → LgC To Ne Cr U Nqu Squ F Nqt A Cq → LgD To Ne Cr A M C → LgE Ne f M hs Lg nr A → LgF Nqu Nqt nr gv gw → Zw zp zl ze zR zs zm zargs zbelow zmeth zc D zA 4 zQ gv gw (lW K h x ato an ac xu xf xv hm am To Ne Cr U aqu Nqu Squ f F V aqt Nqt Sqt M ++ lgW K hs ag Lg nr) 859 [(0, .ref b), (1, .ref h), (2, .ref hm), (3, vZ i)] []) (To : Bd) (Ne : Bd) (Cr : Bd) (U : Bd) (aqu : Nat → Nat) (Nqu : Nat) (Squ : Bd) (f : Nat → Option Nat) (F : Bd) (V : Bd) (aqt : Nat → Nat) (Nqt : Nat) (Sqt : Bd) (M : Bd) (hs : Nat → Nat) (ag : Nat → Nat → Nat) (Lg : Nat → Bd) (nr : Nat) (gv : Nat) (gw : Nat) (A : Ab) (Cq : Int → List Pt3) (C : Int → List Pt3) (hA : LgA To Ne Cr) (hB : LgB Ne Cr A) (hC : LgC To Ne Cr U Nqu Squ F Nqt A Cq) (hD : LgD To Ne Cr A M C) (hE : LgE Ne f M hs Lg nr A) (hF : LgF Nqu Nqt nr gv gw) (hi : 0 ≤ i ∧ i + 5 ≤ (L : Int))  : Zw zp zl ze zR zs zm zargs zbelow zmeth zc D zA 4 zQ gv gw (lW K h x ato an ac xu xf xv hm am To Ne Cr U aqu Nqu Squ f F V aqt Nqt Sqt M ++ lgW K hs ag Lg nr) 173 [(0, .ref b), (1, .ref h), (2, .ref hm), (3, vZ i)] [] := by
  obtain ⟨a1, a2, a3, a4, a5, a6, a7, a8⟩ := id hA
  obtain ⟨b1, b2, b3, b4, b5, b6⟩ := id hB
  obtain ⟨c1, c2, c3, c4⟩ := id hC
  obtain ⟨d1, d2, d3, d4⟩ := id hD
  obtain ⟨e1, e2, e3, e4⟩ := id hE
  obtain ⟨hf1, hf2⟩ := id hF
  have hne := a1.1
  have hcr := a1.2.1
  have hls := nw_ls a2
  have enw : U.2 12 = A.2.1 0 := c1.2.2.2.2.1.1
  have hnw0 := b1.2.1
  have m0 : M.2 0 = To.2 3 := d1.1.1
  have m3 : M.2 3 = To.2 2 := d1.1.2.1
  have m4 : M.2 4 = Ne.2 8 := d1.2.1.1
  have m12 : M.2 12 = Cr.2 3 := d1.2.2.1
  have m20 : M.2 20 = A.2.1 0 := d2.2.2.2.1
  have hG1 := lo_rng c1.1
  have hpr1 := pw_rng c3
  have hus0 := mx_us d2 a1 b1
  have hmn := m11 d1.2.1 a2
  have hx1 := xz_rng xs (i + 1)
  have hx2 := xz_rng xs (i + 2)
  have hx3 := xz_rng xs (i + 3)
  have hx4 := xz_rng xs (i + 4)
  have hnr := e1.1
  refine z_aload_n ZC 1 dL_law_173 rfl rfl ?_
  refine z_aload_n ZC 0 dL_law_174 rfl rfl ?_
  refine z_iload_n ZC 3 dL_law_175 rfl rfl ?_
  refine z_iconst ZC dL_law_176 ?_
  refine z_iadd ZC dL_law_177 ?_
  refine z_sld ZC hX hbl hbA dL_law_178 (by omega) ?_
  refine z_callV ZC 1 (c_X7_path zl D K h x ato To (xz xs (i + 1)) (by omega)) (gdV uM_L_18 uI_X7_path uS_X7_path uN_X7 uC_X7_path) (by decide +kernel) rfl ⟨by omega, by omega⟩ ⟨by omega, by omega⟩ (Nat.le_of_ble_eq_true rfl) [0, 1, 2, 3] rfl (by decide) rfl rfl rfl rfl dL_law_179 (fun r w2 gc_179 gs_179 hp => ?_)
  obtain ⟨To2_179, v_179, rfl, rfl, rfl, rfl, hv_179⟩ := hp
  refine z_ws (ws2 := (lW K h x ato an ac xu xf xv hm am To2_179 Ne Cr U aqu Nqu Squ f F V aqt Nqt Sqt M ++ lgW K hs ag Lg nr)) ((rep_pre (is := [0, 1, 2, 3]) (pre := (lW K h x ato an ac xu xf xv hm am To Ne Cr U aqu Nqu Squ f F V aqt Nqt Sqt M)) (w1 := ((wSh h x) ++ (wTo K (x 0) ato To))) rfl (Nat.le_of_ble_eq_true rfl)).trans rfl) ?_
  refine z_st (st2 := [vZ v_179]) rfl ?_
  refine z_aload_n ZC 2 dL_law_182 rfl rfl ?_
  refine z_aload_n ZC 0 dL_law_183 rfl rfl ?_
  refine z_iload_n ZC 3 dL_law_184 rfl rfl ?_
  refine z_iconst ZC dL_law_185 ?_
  refine z_iadd ZC dL_law_186 ?_
  refine z_sld ZC hX hbl hbA dL_law_187 (by omega) ?_
  refine z_callV ZC 1 (c_X8_path zl D K hm am M (xz xs (i + 1)) (by omega)) (gdV uM_L_22 uI_X8_path uS_X8_path uN_X8 uC_X8_path) (by decide +kernel) rfl ⟨by omega, by omega⟩ ⟨by omega, by omega⟩ (Nat.le_of_ble_eq_true rfl) [54, 55, 56, 57, 58, 59, 60, 61, 62, 63, 64, 65, 66, 67, 68, 69, 70, 71, 72, 73, 74, 75, 76, 77, 78, 79, 80, 81, 82, 83, 84, 85] rfl (by decide) rfl rfl rfl rfl dL_law_188 (fun r w2 gc_188 gs_188 hp => ?_)
  obtain ⟨M2_188, v_188, rfl, rfl, rfl, rfl, hv_188⟩ := hp
  refine z_ws (ws2 := (lW K h x ato an ac xu xf xv hm am To2_179 Ne Cr U aqu Nqu Squ f F V aqt Nqt Sqt M2_188 ++ lgW K hs ag Lg nr)) ((rep_pre (is := [54, 55, 56, 57, 58, 59, 60, 61, 62, 63, 64, 65, 66, 67, 68, 69, 70, 71, 72, 73, 74, 75, 76, 77, 78, 79, 80, 81, 82, 83, 84, 85]) (pre := (lW K h x ato an ac xu xf xv hm am To2_179 Ne Cr U aqu Nqu Squ f F V aqt Nqt Sqt M)) (w1 := (wMo K hm am M)) rfl (Nat.le_of_ble_eq_true rfl)).trans rfl) ?_
  refine z_st (st2 := [vZ v_188, vZ v_179]) rfl ?_
  by_cases hk : 1 ≤ (xz xs (i + 1)) ∧ (xz xs (i + 1)) ≤ 100
  · skip
    obtain ⟨-, ev, eT⟩ := hv_179.resolve_right (fun q => q.1 hk)
    obtain ⟨-, ev2, eM⟩ := hv_188.resolve_right (fun q => q.1 (by omega))
    obtain ⟨s1, s3, s4⟩ := s_path hA hC hD hk
    refine z_eqj ZC 859 dL_law_191 (by decide) (by omega) ?_
    refine z_ws (ws2 := (lW K h x ato an ac xu xf xv hm am To2_179 Ne Cr U aqu Nqu Squ f F V aqt Nqt Sqt M2_188 ++ lgW K hs ag Lg nr)) rfl (z_lv (lv2 := [(0, .ref b), (1, .ref h), (2, .ref hm), (3, vZ i)]) ⟨rfl, rfl, rfl, rfl, trivial⟩ ?_)
    refine jn_859 To2_179 Ne Cr U aqu Nqu Squ f F V aqt Nqt Sqt M2_188 hs ag Lg nr (gv + 0 + 0) (gw + 0 + 0) A Cq C ?_ ?_ ?_ ?_ ?_ ?_
    · skip
      rw [eT]; exact s1
    · skip
      exact hB
    · skip
      rw [eT]; exact s3
    · skip
      rw [eT, eM]; exact s4
    · skip
      rw [eM]; exact hE
    · skip
      unfold LgF
      omega
  · skip
    obtain ⟨-, ev, eT⟩ := hv_179.resolve_left (fun q => hk q.1)
    obtain ⟨-, ev2, eM⟩ := hv_188.resolve_left (fun q => hk (by have q1 := q.1; omega))
    refine z_eqj ZC 859 dL_law_191 (by decide) (by omega) ?_
    refine z_ws (ws2 := (lW K h x ato an ac xu xf xv hm am To2_179 Ne Cr U aqu Nqu Squ f F V aqt Nqt Sqt M2_188 ++ lgW K hs ag Lg nr)) rfl (z_lv (lv2 := [(0, .ref b), (1, .ref h), (2, .ref hm), (3, vZ i)]) ⟨rfl, rfl, rfl, rfl, trivial⟩ ?_)
    refine jn_859 To2_179 Ne Cr U aqu Nqu Squ f F V aqt Nqt Sqt M2_188 hs ag Lg nr (gv + 0 + 0) (gw + 0 + 0) A Cq C ?_ ?_ ?_ ?_ ?_ ?_
    · skip
      rw [eT]; exact hA
    · skip
      exact hB
    · skip
      rw [eT]; exact hC
    · skip
      rw [eT, eM]; exact hD
    · skip
      rw [eM]; exact hE
    · skip
      unfold LgF
      omega

set_option maxHeartbeats 4000000 in
set_option maxRecDepth 100000 in
theorem lw_seconds {zp : Program} {zl : Launch} {ze : Env} {zR : Room} {zs : State} {zm : MethodId} {zargs : Array Value} {zbelow : List Frame} {zmeth : Method} {zc : Code} {D : va_G} {K : tyK} {zA : Nat → Prop} {zQ : State → Prop} {b L : Nat} {xs : Nat → Int32} (ZC : Zc zp zs zm zargs zc D K zA 4 cL_law RL) (hX : va_X b L xs zs zs.heap) (hbl : b < zs.heap.size) (hbA : ¬ zA b) (hL : L ≤ 2560) (hRf : zR.frames = 10) (hRc : zR.cells = 600000) (hRs : zR.slots = 7302250) (hRl : zR.locals = 366) (h : Nat) (x ato an ac xu xf xv : Nat → Nat) (hm : Nat) (am : Nat → Nat) (i : Int) (jn_859 : ∀ (To : Bd) (Ne : Bd) (Cr : Bd) (U : Bd) (aqu : Nat → Nat) (Nqu : Nat) (Squ : Bd) (f : Nat → Option Nat) (F : Bd) (V : Bd) (aqt : Nat → Nat) (Nqt : Nat) (Sqt : Bd) (M : Bd) (hs : Nat → Nat) (ag : Nat → Nat → Nat) (Lg : Nat → Bd) (nr : Nat) (gv : Nat) (gw : Nat) (A : Ab) (Cq : Int → List Pt3) (C : Int → List Pt3), LgA To Ne Cr → LgB Ne Cr A → LgC To Ne Cr U Nqu Squ F Nqt A Cq → LgD To Ne Cr A M C → LgE Ne f M hs Lg nr A → LgF Nqu Nqt nr gv gw → Zw zp zl ze zR zs zm zargs zbelow zmeth zc D zA 4 zQ gv gw (lW K h x ato an ac xu xf xv hm am To Ne Cr U aqu Nqu Squ f F V aqt Nqt Sqt M ++ lgW K hs ag Lg nr) 859 [(0, .ref b), (1, .ref h), (2, .ref hm), (3, vZ i)] []) (To : Bd) (Ne : Bd) (Cr : Bd) (U : Bd) (aqu : Nat → Nat) (Nqu : Nat) (Squ : Bd) (f : Nat → Option Nat) (F : Bd) (V : Bd) (aqt : Nat → Nat) (Nqt : Nat) (Sqt : Bd) (M : Bd) (hs : Nat → Nat) (ag : Nat → Nat → Nat) (Lg : Nat → Bd) (nr : Nat) (gv : Nat) (gw : Nat) (A : Ab) (Cq : Int → List Pt3) (C : Int → List Pt3) (hA : LgA To Ne Cr) (hB : LgB Ne Cr A) (hC : LgC To Ne Cr U Nqu Squ F Nqt A Cq) (hD : LgD To Ne Cr A M C) (hE : LgE Ne f M hs Lg nr A) (hF : LgF Nqu Nqt nr gv gw) (hi : 0 ≤ i ∧ i + 5 ≤ (L : Int))  : Zw zp zl ze zR zs zm zargs zbelow zmeth zc D zA 4 zQ gv gw (lW K h x ato an ac xu xf xv hm am To Ne Cr U aqu Nqu Squ f F V aqt Nqt Sqt M ++ lgW K hs ag Lg nr) 196 [(0, .ref b), (1, .ref h), (2, .ref hm), (3, vZ i)] [] := by
  obtain ⟨a1, a2, a3, a4, a5, a6, a7, a8⟩ := id hA
  obtain ⟨b1, b2, b3, b4, b5, b6⟩ := id hB
  obtain ⟨c1, c2, c3, c4⟩ := id hC
  obtain ⟨d1, d2, d3, d4⟩ := id hD
  obtain ⟨e1, e2, e3, e4⟩ := id hE
  obtain ⟨hf1, hf2⟩ := id hF
  have hne := a1.1
  have hcr := a1.2.1
  have hls := nw_ls a2
  have enw : U.2 12 = A.2.1 0 := c1.2.2.2.2.1.1
  have hnw0 := b1.2.1
  have m0 : M.2 0 = To.2 3 := d1.1.1
  have m3 : M.2 3 = To.2 2 := d1.1.2.1
  have m4 : M.2 4 = Ne.2 8 := d1.2.1.1
  have m12 : M.2 12 = Cr.2 3 := d1.2.2.1
  have m20 : M.2 20 = A.2.1 0 := d2.2.2.2.1
  have hG1 := lo_rng c1.1
  have hpr1 := pw_rng c3
  have hus0 := mx_us d2 a1 b1
  have hmn := m11 d1.2.1 a2
  have hx1 := xz_rng xs (i + 1)
  have hx2 := xz_rng xs (i + 2)
  have hx3 := xz_rng xs (i + 3)
  have hx4 := xz_rng xs (i + 4)
  have hnr := e1.1
  refine z_aload_n ZC 1 dL_law_196 rfl rfl ?_
  refine z_aload_n ZC 0 dL_law_197 rfl rfl ?_
  refine z_iload_n ZC 3 dL_law_198 rfl rfl ?_
  refine z_iconst ZC dL_law_199 ?_
  refine z_iadd ZC dL_law_200 ?_
  refine z_sld ZC hX hbl hbA dL_law_201 (by omega) ?_
  refine z_callV ZC 1 (c_X7_seconds zl D K h x ato To (xz xs (i + 1)) (by omega) (by omega) (a4)) (gdV uM_L_23 uI_X7_seconds uS_X7_seconds uN_X7 uC_X7_seconds) (by decide +kernel) rfl ⟨by omega, by omega⟩ ⟨by omega, by omega⟩ (Nat.le_of_ble_eq_true rfl) [0, 1, 2, 3] rfl (by decide) rfl rfl rfl rfl dL_law_202 (fun r w2 gc_202 gs_202 hp => ?_)
  obtain ⟨v_202, rfl, rfl, rfl, rfl, hv_202⟩ := hp
  refine z_ws (ws2 := (lW K h x ato an ac xu xf xv hm am To Ne Cr U aqu Nqu Squ f F V aqt Nqt Sqt M ++ lgW K hs ag Lg nr)) ((rep_pre (is := [0, 1, 2, 3]) (pre := (lW K h x ato an ac xu xf xv hm am To Ne Cr U aqu Nqu Squ f F V aqt Nqt Sqt M)) (w1 := ((wSh h x) ++ (wTo K (x 0) ato To))) rfl (Nat.le_of_ble_eq_true rfl)).trans rfl) ?_
  refine z_st (st2 := [vZ v_202]) rfl ?_
  refine z_aload_n ZC 2 dL_law_205 rfl rfl ?_
  refine z_aload_n ZC 0 dL_law_206 rfl rfl ?_
  refine z_iload_n ZC 3 dL_law_207 rfl rfl ?_
  refine z_iconst ZC dL_law_208 ?_
  refine z_iadd ZC dL_law_209 ?_
  refine z_sld ZC hX hbl hbA dL_law_210 (by omega) ?_
  refine z_callV ZC 1 (c_X8_seconds zl D K hm am M (xz xs (i + 1)) (by omega) (by omega) (⟨by omega, fun t p q => by rw [d1.1.2.2.1 t p (by omega)]; exact (a4.2 t p (by omega)).1⟩)) (gdV uM_L_27 uI_X8_seconds uS_X8_seconds uN_X8 uC_X8_seconds) (by decide +kernel) rfl ⟨by omega, by omega⟩ ⟨by omega, by omega⟩ (Nat.le_of_ble_eq_true rfl) [54, 55, 56, 57, 58, 59, 60, 61, 62, 63, 64, 65, 66, 67, 68, 69, 70, 71, 72, 73, 74, 75, 76, 77, 78, 79, 80, 81, 82, 83, 84, 85] rfl (by decide) rfl rfl rfl rfl dL_law_211 (fun r w2 gc_211 gs_211 hp => ?_)
  obtain ⟨v_211, rfl, rfl, rfl, rfl, hv_211⟩ := hp
  refine z_ws (ws2 := (lW K h x ato an ac xu xf xv hm am To Ne Cr U aqu Nqu Squ f F V aqt Nqt Sqt M ++ lgW K hs ag Lg nr)) ((rep_pre (is := [54, 55, 56, 57, 58, 59, 60, 61, 62, 63, 64, 65, 66, 67, 68, 69, 70, 71, 72, 73, 74, 75, 76, 77, 78, 79, 80, 81, 82, 83, 84, 85]) (pre := (lW K h x ato an ac xu xf xv hm am To Ne Cr U aqu Nqu Squ f F V aqt Nqt Sqt M)) (w1 := (wMo K hm am M)) rfl (Nat.le_of_ble_eq_true rfl)).trans rfl) ?_
  refine z_st (st2 := [vZ v_211, vZ v_202]) rfl ?_
  have heq : v_202 = v_211 := by
    by_cases hk : 0 ≤ (xz xs (i + 1)) ∧ (xz xs (i + 1)) < To.2 3
    · rw [(hv_202.resolve_right (fun q => q.1 hk)).2.1, (hv_211.resolve_right (fun q => q.1 (by omega))).2.1, m3, d1.1.2.2.1 _ hk.1 hk.2]
    · rw [(hv_202.resolve_left (fun q => hk q.1)).2.1, (hv_211.resolve_left (fun q => hk (by have q1 := q.1; omega))).2.1]
  refine z_eqj ZC 859 dL_law_214 (by decide) (heq) ?_
  refine z_ws (ws2 := (lW K h x ato an ac xu xf xv hm am To Ne Cr U aqu Nqu Squ f F V aqt Nqt Sqt M ++ lgW K hs ag Lg nr)) rfl (z_lv (lv2 := [(0, .ref b), (1, .ref h), (2, .ref hm), (3, vZ i)]) ⟨rfl, rfl, rfl, rfl, trivial⟩ ?_)
  refine jn_859 To Ne Cr U aqu Nqu Squ f F V aqt Nqt Sqt M hs ag Lg nr (gv + 0 + 0) (gw + 0 + 0) A Cq C ?_ ?_ ?_ ?_ ?_ ?_
  · skip
    exact hA
  · skip
    exact hB
  · skip
    exact hC
  · skip
    exact hD
  · skip
    exact hE
  · skip
    unfold LgF
    omega

set_option maxHeartbeats 4000000 in
set_option maxRecDepth 100000 in
theorem lw_clouds {zp : Program} {zl : Launch} {ze : Env} {zR : Room} {zs : State} {zm : MethodId} {zargs : Array Value} {zbelow : List Frame} {zmeth : Method} {zc : Code} {D : va_G} {K : tyK} {zA : Nat → Prop} {zQ : State → Prop} {b L : Nat} {xs : Nat → Int32} (ZC : Zc zp zs zm zargs zc D K zA 4 cL_law RL) (hX : va_X b L xs zs zs.heap) (hbl : b < zs.heap.size) (hbA : ¬ zA b) (hL : L ≤ 2560) (hRf : zR.frames = 10) (hRc : zR.cells = 600000) (hRs : zR.slots = 7302250) (hRl : zR.locals = 366) (h : Nat) (x ato an ac xu xf xv : Nat → Nat) (hm : Nat) (am : Nat → Nat) (i : Int) (jn_859 : ∀ (To : Bd) (Ne : Bd) (Cr : Bd) (U : Bd) (aqu : Nat → Nat) (Nqu : Nat) (Squ : Bd) (f : Nat → Option Nat) (F : Bd) (V : Bd) (aqt : Nat → Nat) (Nqt : Nat) (Sqt : Bd) (M : Bd) (hs : Nat → Nat) (ag : Nat → Nat → Nat) (Lg : Nat → Bd) (nr : Nat) (gv : Nat) (gw : Nat) (A : Ab) (Cq : Int → List Pt3) (C : Int → List Pt3), LgA To Ne Cr → LgB Ne Cr A → LgC To Ne Cr U Nqu Squ F Nqt A Cq → LgD To Ne Cr A M C → LgE Ne f M hs Lg nr A → LgF Nqu Nqt nr gv gw → Zw zp zl ze zR zs zm zargs zbelow zmeth zc D zA 4 zQ gv gw (lW K h x ato an ac xu xf xv hm am To Ne Cr U aqu Nqu Squ f F V aqt Nqt Sqt M ++ lgW K hs ag Lg nr) 859 [(0, .ref b), (1, .ref h), (2, .ref hm), (3, vZ i)] []) (To : Bd) (Ne : Bd) (Cr : Bd) (U : Bd) (aqu : Nat → Nat) (Nqu : Nat) (Squ : Bd) (f : Nat → Option Nat) (F : Bd) (V : Bd) (aqt : Nat → Nat) (Nqt : Nat) (Sqt : Bd) (M : Bd) (hs : Nat → Nat) (ag : Nat → Nat → Nat) (Lg : Nat → Bd) (nr : Nat) (gv : Nat) (gw : Nat) (A : Ab) (Cq : Int → List Pt3) (C : Int → List Pt3) (hA : LgA To Ne Cr) (hB : LgB Ne Cr A) (hC : LgC To Ne Cr U Nqu Squ F Nqt A Cq) (hD : LgD To Ne Cr A M C) (hE : LgE Ne f M hs Lg nr A) (hF : LgF Nqu Nqt nr gv gw) (hi : 0 ≤ i ∧ i + 5 ≤ (L : Int))  : Zw zp zl ze zR zs zm zargs zbelow zmeth zc D zA 4 zQ gv gw (lW K h x ato an ac xu xf xv hm am To Ne Cr U aqu Nqu Squ f F V aqt Nqt Sqt M ++ lgW K hs ag Lg nr) 219 [(0, .ref b), (1, .ref h), (2, .ref hm), (3, vZ i)] [] := by
  obtain ⟨a1, a2, a3, a4, a5, a6, a7, a8⟩ := id hA
  obtain ⟨b1, b2, b3, b4, b5, b6⟩ := id hB
  obtain ⟨c1, c2, c3, c4⟩ := id hC
  obtain ⟨d1, d2, d3, d4⟩ := id hD
  obtain ⟨e1, e2, e3, e4⟩ := id hE
  obtain ⟨hf1, hf2⟩ := id hF
  have hne := a1.1
  have hcr := a1.2.1
  have hls := nw_ls a2
  have enw : U.2 12 = A.2.1 0 := c1.2.2.2.2.1.1
  have hnw0 := b1.2.1
  have m0 : M.2 0 = To.2 3 := d1.1.1
  have m3 : M.2 3 = To.2 2 := d1.1.2.1
  have m4 : M.2 4 = Ne.2 8 := d1.2.1.1
  have m12 : M.2 12 = Cr.2 3 := d1.2.2.1
  have m20 : M.2 20 = A.2.1 0 := d2.2.2.2.1
  have hG1 := lo_rng c1.1
  have hpr1 := pw_rng c3
  have hus0 := mx_us d2 a1 b1
  have hmn := m11 d1.2.1 a2
  have hx1 := xz_rng xs (i + 1)
  have hx2 := xz_rng xs (i + 2)
  have hx3 := xz_rng xs (i + 3)
  have hx4 := xz_rng xs (i + 4)
  have hnr := e1.1
  refine z_aload_n ZC 1 dL_law_219 rfl rfl ?_
  refine z_aload_n ZC 0 dL_law_220 rfl rfl ?_
  refine z_iload_n ZC 3 dL_law_221 rfl rfl ?_
  refine z_iconst ZC dL_law_222 ?_
  refine z_iadd ZC dL_law_223 ?_
  refine z_sld ZC hX hbl hbA dL_law_224 (by omega) ?_
  refine z_aload_n ZC 0 dL_law_225 rfl rfl ?_
  refine z_iload_n ZC 3 dL_law_226 rfl rfl ?_
  refine z_iconst ZC dL_law_227 ?_
  refine z_iadd ZC dL_law_228 ?_
  refine z_sld ZC hX hbl hbA dL_law_229 (by omega) ?_
  refine z_callV ZC 2 (c_X7_clouds zl D K h x ato To (xz xs (i + 1)) (xz xs (i + 2)) (by omega) (by omega) (by omega)) (gdV uM_L_28 uI_X7_clouds uS_X7_clouds uN_X7 uC_X7_clouds) (by decide +kernel) rfl ⟨by omega, by omega⟩ ⟨by omega, by omega⟩ (Nat.le_of_ble_eq_true rfl) [0, 1, 2, 3] rfl (by decide) rfl rfl rfl rfl dL_law_230 (fun r w2 gc_230 gs_230 hp => ?_)
  obtain ⟨To2_230, v_230, rfl, rfl, rfl, rfl, hv_230⟩ := hp
  refine z_ws (ws2 := (lW K h x ato an ac xu xf xv hm am To2_230 Ne Cr U aqu Nqu Squ f F V aqt Nqt Sqt M ++ lgW K hs ag Lg nr)) ((rep_pre (is := [0, 1, 2, 3]) (pre := (lW K h x ato an ac xu xf xv hm am To Ne Cr U aqu Nqu Squ f F V aqt Nqt Sqt M)) (w1 := ((wSh h x) ++ (wTo K (x 0) ato To))) rfl (Nat.le_of_ble_eq_true rfl)).trans rfl) ?_
  refine z_st (st2 := [vZ v_230]) rfl ?_
  refine z_aload_n ZC 2 dL_law_233 rfl rfl ?_
  refine z_aload_n ZC 0 dL_law_234 rfl rfl ?_
  refine z_iload_n ZC 3 dL_law_235 rfl rfl ?_
  refine z_iconst ZC dL_law_236 ?_
  refine z_iadd ZC dL_law_237 ?_
  refine z_sld ZC hX hbl hbA dL_law_238 (by omega) ?_
  refine z_aload_n ZC 0 dL_law_239 rfl rfl ?_
  refine z_iload_n ZC 3 dL_law_240 rfl rfl ?_
  refine z_iconst ZC dL_law_241 ?_
  refine z_iadd ZC dL_law_242 ?_
  refine z_sld ZC hX hbl hbA dL_law_243 (by omega) ?_
  refine z_callV ZC 2 (c_X8_clouds zl D K hm am M (xz xs (i + 1)) (xz xs (i + 2)) (by omega) (by omega) (by omega)) (gdV uM_L_32 uI_X8_clouds uS_X8_clouds uN_X8 uC_X8_clouds) (by decide +kernel) rfl ⟨by omega, by omega⟩ ⟨by omega, by omega⟩ (Nat.le_of_ble_eq_true rfl) [54, 55, 56, 57, 58, 59, 60, 61, 62, 63, 64, 65, 66, 67, 68, 69, 70, 71, 72, 73, 74, 75, 76, 77, 78, 79, 80, 81, 82, 83, 84, 85] rfl (by decide) rfl rfl rfl rfl dL_law_244 (fun r w2 gc_244 gs_244 hp => ?_)
  obtain ⟨M2_244, v_244, rfl, rfl, rfl, rfl, hv_244⟩ := hp
  refine z_ws (ws2 := (lW K h x ato an ac xu xf xv hm am To2_230 Ne Cr U aqu Nqu Squ f F V aqt Nqt Sqt M2_244 ++ lgW K hs ag Lg nr)) ((rep_pre (is := [54, 55, 56, 57, 58, 59, 60, 61, 62, 63, 64, 65, 66, 67, 68, 69, 70, 71, 72, 73, 74, 75, 76, 77, 78, 79, 80, 81, 82, 83, 84, 85]) (pre := (lW K h x ato an ac xu xf xv hm am To2_230 Ne Cr U aqu Nqu Squ f F V aqt Nqt Sqt M)) (w1 := (wMo K hm am M)) rfl (Nat.le_of_ble_eq_true rfl)).trans rfl) ?_
  refine z_st (st2 := [vZ v_244, vZ v_230]) rfl ?_
  by_cases hk : (0 ≤ (xz xs (i + 1)) ∧ (xz xs (i + 1)) < To.2 3) ∧ (0 ≤ (xz xs (i + 2)) ∧ (xz xs (i + 2)) ≤ 100)
  · skip
    obtain ⟨-, ev, eT⟩ := hv_230.resolve_right (fun q => q.1 hk)
    obtain ⟨-, ev2, eM⟩ := hv_244.resolve_right (fun q => q.1 (by omega))
    obtain ⟨s1, s3, s4⟩ := s_clouds hA hC hD hk
    refine z_eqj ZC 859 dL_law_247 (by decide) (by omega) ?_
    refine z_ws (ws2 := (lW K h x ato an ac xu xf xv hm am To2_230 Ne Cr U aqu Nqu Squ f F V aqt Nqt Sqt M2_244 ++ lgW K hs ag Lg nr)) rfl (z_lv (lv2 := [(0, .ref b), (1, .ref h), (2, .ref hm), (3, vZ i)]) ⟨rfl, rfl, rfl, rfl, trivial⟩ ?_)
    refine jn_859 To2_230 Ne Cr U aqu Nqu Squ f F V aqt Nqt Sqt M2_244 hs ag Lg nr (gv + 0 + 0) (gw + 0 + 0) A Cq C ?_ ?_ ?_ ?_ ?_ ?_
    · skip
      rw [eT]; exact s1
    · skip
      exact hB
    · skip
      rw [eT]; exact s3
    · skip
      rw [eT, eM]; exact s4
    · skip
      rw [eM]; exact hE
    · skip
      unfold LgF
      omega
  · skip
    obtain ⟨-, ev, eT⟩ := hv_230.resolve_left (fun q => hk q.1)
    obtain ⟨-, ev2, eM⟩ := hv_244.resolve_left (fun q => hk (by have q1 := q.1; omega))
    refine z_eqj ZC 859 dL_law_247 (by decide) (by omega) ?_
    refine z_ws (ws2 := (lW K h x ato an ac xu xf xv hm am To2_230 Ne Cr U aqu Nqu Squ f F V aqt Nqt Sqt M2_244 ++ lgW K hs ag Lg nr)) rfl (z_lv (lv2 := [(0, .ref b), (1, .ref h), (2, .ref hm), (3, vZ i)]) ⟨rfl, rfl, rfl, rfl, trivial⟩ ?_)
    refine jn_859 To2_230 Ne Cr U aqu Nqu Squ f F V aqt Nqt Sqt M2_244 hs ag Lg nr (gv + 0 + 0) (gw + 0 + 0) A Cq C ?_ ?_ ?_ ?_ ?_ ?_
    · skip
      rw [eT]; exact hA
    · skip
      exact hB
    · skip
      rw [eT]; exact hC
    · skip
      rw [eT, eM]; exact hD
    · skip
      rw [eM]; exact hE
    · skip
      unfold LgF
      omega

set_option maxHeartbeats 4000000 in
set_option maxRecDepth 100000 in
theorem lw_least {zp : Program} {zl : Launch} {ze : Env} {zR : Room} {zs : State} {zm : MethodId} {zargs : Array Value} {zbelow : List Frame} {zmeth : Method} {zc : Code} {D : va_G} {K : tyK} {zA : Nat → Prop} {zQ : State → Prop} {b L : Nat} {xs : Nat → Int32} (ZC : Zc zp zs zm zargs zc D K zA 4 cL_law RL) (hX : va_X b L xs zs zs.heap) (hbl : b < zs.heap.size) (hbA : ¬ zA b) (hL : L ≤ 2560) (hRf : zR.frames = 10) (hRc : zR.cells = 600000) (hRs : zR.slots = 7302250) (hRl : zR.locals = 366) (h : Nat) (x ato an ac xu xf xv : Nat → Nat) (hm : Nat) (am : Nat → Nat) (i : Int) (jn_859 : ∀ (To : Bd) (Ne : Bd) (Cr : Bd) (U : Bd) (aqu : Nat → Nat) (Nqu : Nat) (Squ : Bd) (f : Nat → Option Nat) (F : Bd) (V : Bd) (aqt : Nat → Nat) (Nqt : Nat) (Sqt : Bd) (M : Bd) (hs : Nat → Nat) (ag : Nat → Nat → Nat) (Lg : Nat → Bd) (nr : Nat) (gv : Nat) (gw : Nat) (A : Ab) (Cq : Int → List Pt3) (C : Int → List Pt3), LgA To Ne Cr → LgB Ne Cr A → LgC To Ne Cr U Nqu Squ F Nqt A Cq → LgD To Ne Cr A M C → LgE Ne f M hs Lg nr A → LgF Nqu Nqt nr gv gw → Zw zp zl ze zR zs zm zargs zbelow zmeth zc D zA 4 zQ gv gw (lW K h x ato an ac xu xf xv hm am To Ne Cr U aqu Nqu Squ f F V aqt Nqt Sqt M ++ lgW K hs ag Lg nr) 859 [(0, .ref b), (1, .ref h), (2, .ref hm), (3, vZ i)] []) (To : Bd) (Ne : Bd) (Cr : Bd) (U : Bd) (aqu : Nat → Nat) (Nqu : Nat) (Squ : Bd) (f : Nat → Option Nat) (F : Bd) (V : Bd) (aqt : Nat → Nat) (Nqt : Nat) (Sqt : Bd) (M : Bd) (hs : Nat → Nat) (ag : Nat → Nat → Nat) (Lg : Nat → Bd) (nr : Nat) (gv : Nat) (gw : Nat) (A : Ab) (Cq : Int → List Pt3) (C : Int → List Pt3) (hA : LgA To Ne Cr) (hB : LgB Ne Cr A) (hC : LgC To Ne Cr U Nqu Squ F Nqt A Cq) (hD : LgD To Ne Cr A M C) (hE : LgE Ne f M hs Lg nr A) (hF : LgF Nqu Nqt nr gv gw) (hi : 0 ≤ i ∧ i + 5 ≤ (L : Int))  : Zw zp zl ze zR zs zm zargs zbelow zmeth zc D zA 4 zQ gv gw (lW K h x ato an ac xu xf xv hm am To Ne Cr U aqu Nqu Squ f F V aqt Nqt Sqt M ++ lgW K hs ag Lg nr) 305 [(0, .ref b), (1, .ref h), (2, .ref hm), (3, vZ i)] [] := by
  obtain ⟨a1, a2, a3, a4, a5, a6, a7, a8⟩ := id hA
  obtain ⟨b1, b2, b3, b4, b5, b6⟩ := id hB
  obtain ⟨c1, c2, c3, c4⟩ := id hC
  obtain ⟨d1, d2, d3, d4⟩ := id hD
  obtain ⟨e1, e2, e3, e4⟩ := id hE
  obtain ⟨hf1, hf2⟩ := id hF
  have hne := a1.1
  have hcr := a1.2.1
  have hls := nw_ls a2
  have enw : U.2 12 = A.2.1 0 := c1.2.2.2.2.1.1
  have hnw0 := b1.2.1
  have m0 : M.2 0 = To.2 3 := d1.1.1
  have m3 : M.2 3 = To.2 2 := d1.1.2.1
  have m4 : M.2 4 = Ne.2 8 := d1.2.1.1
  have m12 : M.2 12 = Cr.2 3 := d1.2.2.1
  have m20 : M.2 20 = A.2.1 0 := d2.2.2.2.1
  have hG1 := lo_rng c1.1
  have hpr1 := pw_rng c3
  have hus0 := mx_us d2 a1 b1
  have hmn := m11 d1.2.1 a2
  have hx1 := xz_rng xs (i + 1)
  have hx2 := xz_rng xs (i + 2)
  have hx3 := xz_rng xs (i + 3)
  have hx4 := xz_rng xs (i + 4)
  have hnr := e1.1
  refine z_aload_n ZC 1 dL_law_305 rfl rfl ?_
  refine z_aload_n ZC 0 dL_law_306 rfl rfl ?_
  refine z_iload_n ZC 3 dL_law_307 rfl rfl ?_
  refine z_iconst ZC dL_law_308 ?_
  refine z_iadd ZC dL_law_309 ?_
  refine z_sld ZC hX hbl hbA dL_law_310 (by omega) ?_
  refine z_aload_n ZC 0 dL_law_311 rfl rfl ?_
  refine z_iload_n ZC 3 dL_law_312 rfl rfl ?_
  refine z_iconst ZC dL_law_313 ?_
  refine z_iadd ZC dL_law_314 ?_
  refine z_sld ZC hX hbl hbA dL_law_315 (by omega) ?_
  refine z_callV ZC 2 (c_X7_least zl D K h x ato To an Ne (xz xs (i + 1)) (xz xs (i + 2)) (by omega) (by omega) (by omega)) (gdV uM_L_38 uI_X7_least uS_X7_least uN_X7 uC_X7_least) (by decide +kernel) rfl ⟨by omega, by omega⟩ ⟨by omega, by omega⟩ (Nat.le_of_ble_eq_true rfl) [0, 1, 2, 3, 4, 5, 6, 7, 8, 9, 10, 11, 12] rfl (by decide) rfl rfl rfl rfl dL_law_316 (fun r w2 gc_316 gs_316 hp => ?_)
  obtain ⟨v_316, rfl, rfl, rfl, rfl, hv_316⟩ := hp
  refine z_ws (ws2 := (lW K h x ato an ac xu xf xv hm am To Ne Cr U aqu Nqu Squ f F V aqt Nqt Sqt M ++ lgW K hs ag Lg nr)) ((rep_pre (is := [0, 1, 2, 3, 4, 5, 6, 7, 8, 9, 10, 11, 12]) (pre := (lW K h x ato an ac xu xf xv hm am To Ne Cr U aqu Nqu Squ f F V aqt Nqt Sqt M)) (w1 := ((wSh h x) ++ (wTo K (x 0) ato To) ++ (wNe K (x 1) an Ne))) rfl (Nat.le_of_ble_eq_true rfl)).trans rfl) ?_
  refine z_st (st2 := [vZ v_316]) rfl ?_
  refine z_aload_n ZC 2 dL_law_319 rfl rfl ?_
  refine z_aload_n ZC 0 dL_law_320 rfl rfl ?_
  refine z_iload_n ZC 3 dL_law_321 rfl rfl ?_
  refine z_iconst ZC dL_law_322 ?_
  refine z_iadd ZC dL_law_323 ?_
  refine z_sld ZC hX hbl hbA dL_law_324 (by omega) ?_
  refine z_aload_n ZC 0 dL_law_325 rfl rfl ?_
  refine z_iload_n ZC 3 dL_law_326 rfl rfl ?_
  refine z_iconst ZC dL_law_327 ?_
  refine z_iadd ZC dL_law_328 ?_
  refine z_sld ZC hX hbl hbA dL_law_329 (by omega) ?_
  refine z_callV ZC 2 (c_X8_least zl D K hm am M (xz xs (i + 1)) (xz xs (i + 2)) (by omega) (by omega) (by omega) (hmn.1)) (gdV uM_L_41 uI_X8_least uS_X8_least uN_X8 uC_X8_least) (by decide +kernel) rfl ⟨by omega, by omega⟩ ⟨by omega, by omega⟩ (Nat.le_of_ble_eq_true rfl) [54, 55, 56, 57, 58, 59, 60, 61, 62, 63, 64, 65, 66, 67, 68, 69, 70, 71, 72, 73, 74, 75, 76, 77, 78, 79, 80, 81, 82, 83, 84, 85] rfl (by decide) rfl rfl rfl rfl dL_law_330 (fun r w2 gc_330 gs_330 hp => ?_)
  obtain ⟨v_330, rfl, rfl, rfl, rfl, hv_330⟩ := hp
  refine z_ws (ws2 := (lW K h x ato an ac xu xf xv hm am To Ne Cr U aqu Nqu Squ f F V aqt Nqt Sqt M ++ lgW K hs ag Lg nr)) ((rep_pre (is := [54, 55, 56, 57, 58, 59, 60, 61, 62, 63, 64, 65, 66, 67, 68, 69, 70, 71, 72, 73, 74, 75, 76, 77, 78, 79, 80, 81, 82, 83, 84, 85]) (pre := (lW K h x ato an ac xu xf xv hm am To Ne Cr U aqu Nqu Squ f F V aqt Nqt Sqt M)) (w1 := (wMo K hm am M)) rfl (Nat.le_of_ble_eq_true rfl)).trans rfl) ?_
  refine z_st (st2 := [vZ v_330, vZ v_316]) rfl ?_
  have heq : v_316 = v_330 := by
    by_cases hk : (0 ≤ (xz xs (i + 1)) ∧ (xz xs (i + 1)) < To.2 3) ∧ (0 ≤ (xz xs (i + 2)) ∧ (xz xs (i + 2)) < To.2 3)
    · rw [(hv_316.resolve_right (fun q => q.1 hk)).2.1, (hv_330.resolve_right (fun q => q.1 (by omega))).2.1, hmn.2 _ _ hk.1.1 (by omega) hk.2.1 (by omega)]
    · rw [(hv_316.resolve_left (fun q => hk q.1)).2.1, (hv_330.resolve_left (fun q => hk (by have q1 := q.1; omega))).2.1]
  refine z_eqj ZC 859 dL_law_333 (by decide) (heq) ?_
  refine z_ws (ws2 := (lW K h x ato an ac xu xf xv hm am To Ne Cr U aqu Nqu Squ f F V aqt Nqt Sqt M ++ lgW K hs ag Lg nr)) rfl (z_lv (lv2 := [(0, .ref b), (1, .ref h), (2, .ref hm), (3, vZ i)]) ⟨rfl, rfl, rfl, rfl, trivial⟩ ?_)
  refine jn_859 To Ne Cr U aqu Nqu Squ f F V aqt Nqt Sqt M hs ag Lg nr (gv + 0 + 0) (gw + 0 + 0) A Cq C ?_ ?_ ?_ ?_ ?_ ?_
  · skip
    exact hA
  · skip
    exact hB
  · skip
    exact hC
  · skip
    exact hD
  · skip
    exact hE
  · skip
    unfold LgF
    omega

set_option maxHeartbeats 4000000 in
set_option maxRecDepth 100000 in
theorem lw_road_y {zp : Program} {zl : Launch} {ze : Env} {zR : Room} {zs : State} {zm : MethodId} {zargs : Array Value} {zbelow : List Frame} {zmeth : Method} {zc : Code} {D : va_G} {K : tyK} {zA : Nat → Prop} {zQ : State → Prop} {b L : Nat} {xs : Nat → Int32} (ZC : Zc zp zs zm zargs zc D K zA 4 cL_law RL) (hX : va_X b L xs zs zs.heap) (hbl : b < zs.heap.size) (hbA : ¬ zA b) (hL : L ≤ 2560) (hRf : zR.frames = 10) (hRc : zR.cells = 600000) (hRs : zR.slots = 7302250) (hRl : zR.locals = 366) (h : Nat) (x ato an ac xu xf xv : Nat → Nat) (hm : Nat) (am : Nat → Nat) (i : Int) (jn_859 : ∀ (To : Bd) (Ne : Bd) (Cr : Bd) (U : Bd) (aqu : Nat → Nat) (Nqu : Nat) (Squ : Bd) (f : Nat → Option Nat) (F : Bd) (V : Bd) (aqt : Nat → Nat) (Nqt : Nat) (Sqt : Bd) (M : Bd) (hs : Nat → Nat) (ag : Nat → Nat → Nat) (Lg : Nat → Bd) (nr : Nat) (gv : Nat) (gw : Nat) (A : Ab) (Cq : Int → List Pt3) (C : Int → List Pt3), LgA To Ne Cr → LgB Ne Cr A → LgC To Ne Cr U Nqu Squ F Nqt A Cq → LgD To Ne Cr A M C → LgE Ne f M hs Lg nr A → LgF Nqu Nqt nr gv gw → Zw zp zl ze zR zs zm zargs zbelow zmeth zc D zA 4 zQ gv gw (lW K h x ato an ac xu xf xv hm am To Ne Cr U aqu Nqu Squ f F V aqt Nqt Sqt M ++ lgW K hs ag Lg nr) 859 [(0, .ref b), (1, .ref h), (2, .ref hm), (3, vZ i)] []) (To : Bd) (Ne : Bd) (Cr : Bd) (U : Bd) (aqu : Nat → Nat) (Nqu : Nat) (Squ : Bd) (f : Nat → Option Nat) (F : Bd) (V : Bd) (aqt : Nat → Nat) (Nqt : Nat) (Sqt : Bd) (M : Bd) (hs : Nat → Nat) (ag : Nat → Nat → Nat) (Lg : Nat → Bd) (nr : Nat) (gv : Nat) (gw : Nat) (A : Ab) (Cq : Int → List Pt3) (C : Int → List Pt3) (hA : LgA To Ne Cr) (hB : LgB Ne Cr A) (hC : LgC To Ne Cr U Nqu Squ F Nqt A Cq) (hD : LgD To Ne Cr A M C) (hE : LgE Ne f M hs Lg nr A) (hF : LgF Nqu Nqt nr gv gw) (hi : 0 ≤ i ∧ i + 5 ≤ (L : Int)) (hok : U.2 12 = 0 ∧ Ne.2 8 < 16 ∧ ((0 ≤ (xz xs (i + 1)) ∧ (xz xs (i + 1)) < To.2 3) ∧ (0 ≤ (xz xs (i + 2)) ∧ (xz xs (i + 2)) < To.2 3) ∧ (xz xs (i + 1)) ≠ (xz xs (i + 2))) ∧ (1 ≤ (xz xs (i + 3)) ∧ (xz xs (i + 3)) ≤ 5000) ∧ (1 ≤ (xz xs (i + 4)) ∧ (xz xs (i + 4)) ≤ 9)) : Zw zp zl ze zR zs zm zargs zbelow zmeth zc D zA 4 zQ gv gw (lW K h x ato an ac xu xf xv hm am To Ne Cr U aqu Nqu Squ f F V aqt Nqt Sqt M ++ lgW K hs ag Lg nr) 252 [(0, .ref b), (1, .ref h), (2, .ref hm), (3, vZ i)] [] := by
  obtain ⟨a1, a2, a3, a4, a5, a6, a7, a8⟩ := id hA
  obtain ⟨b1, b2, b3, b4, b5, b6⟩ := id hB
  obtain ⟨c1, c2, c3, c4⟩ := id hC
  obtain ⟨d1, d2, d3, d4⟩ := id hD
  obtain ⟨e1, e2, e3, e4⟩ := id hE
  obtain ⟨hf1, hf2⟩ := id hF
  have hne := a1.1
  have hcr := a1.2.1
  have hls := nw_ls a2
  have enw : U.2 12 = A.2.1 0 := c1.2.2.2.2.1.1
  have hnw0 := b1.2.1
  have m0 : M.2 0 = To.2 3 := d1.1.1
  have m3 : M.2 3 = To.2 2 := d1.1.2.1
  have m4 : M.2 4 = Ne.2 8 := d1.2.1.1
  have m12 : M.2 12 = Cr.2 3 := d1.2.2.1
  have m20 : M.2 20 = A.2.1 0 := d2.2.2.2.1
  have hG1 := lo_rng c1.1
  have hpr1 := pw_rng c3
  have hus0 := mx_us d2 a1 b1
  have hmn := m11 d1.2.1 a2
  have hx1 := xz_rng xs (i + 1)
  have hx2 := xz_rng xs (i + 2)
  have hx3 := xz_rng xs (i + 3)
  have hx4 := xz_rng xs (i + 4)
  have hnr := e1.1
  have hrvm : RV (M.1 5) (M.1 6) (M.1 8) (M.2 4) := by
    intro r p q
    have g := d1.2.1.2.1 r p (by omega)
    have k := a1.2.2.1 r p (by omega)
    rw [g.1, g.2.1, g.2.2.2]
    exact ⟨k.1, k.2.1, k.2.2.2.1⟩
  refine z_aload_n ZC 1 dL_law_252 rfl rfl ?_
  refine z_aload_n ZC 0 dL_law_253 rfl rfl ?_
  refine z_iload_n ZC 3 dL_law_254 rfl rfl ?_
  refine z_iconst ZC dL_law_255 ?_
  refine z_iadd ZC dL_law_256 ?_
  refine z_sld ZC hX hbl hbA dL_law_257 (by omega) ?_
  refine z_aload_n ZC 0 dL_law_258 rfl rfl ?_
  refine z_iload_n ZC 3 dL_law_259 rfl rfl ?_
  refine z_iconst ZC dL_law_260 ?_
  refine z_iadd ZC dL_law_261 ?_
  refine z_sld ZC hX hbl hbA dL_law_262 (by omega) ?_
  refine z_aload_n ZC 0 dL_law_263 rfl rfl ?_
  refine z_iload_n ZC 3 dL_law_264 rfl rfl ?_
  refine z_iconst ZC dL_law_265 ?_
  refine z_iadd ZC dL_law_266 ?_
  refine z_sld ZC hX hbl hbA dL_law_267 (by omega) ?_
  refine z_aload_n ZC 0 dL_law_268 rfl rfl ?_
  refine z_iload_n ZC 3 dL_law_269 rfl rfl ?_
  refine z_iconst ZC dL_law_270 ?_
  refine z_iadd ZC dL_law_271 ?_
  refine z_sld ZC hX hbl hbA dL_law_272 (by omega) ?_
  have hbm_273 : ([0, 1, 2, 3, 4, 5, 6, 7, 8, 9, 10, 11, 12, 17, 18, 19, 20, 21, 22, 23, 24, 33, 34, 35, 36, 37] : List Nat).map (fun k => ((lW K h x ato an ac xu xf xv hm am To Ne Cr U aqu Nqu Squ f F V aqt Nqt Sqt M) : va_W)[k]?) = (((wSh h x) ++ (wTo K (x 0) ato To) ++ (wNe K (x 1) an Ne) ++ (wTr K (x 3) (upf (upf (upf xu 0 (x 0)) 1 (x 1)) 2 (x 2)) U) ++ (wLA K (x 4) f) ++ (wFo K (x 5) (upf xf 0 (x 3)) F)) : va_W).map some := rfl
  refine z_callV ZC 4 (c_X7_road zl D K h x ato To an Ne xu U f xf F (xz xs (i + 1)) (xz xs (i + 2)) (xz xs (i + 3)) (xz xs (i + 4)) (by omega) (by omega) (by omega) (by omega) (by omega) (by omega) (by omega) (fun r p q => ⟨(a1.2.2.1 r p q).1, (a1.2.2.1 r p q).2.1, (a1.2.2.1 r p q).2.2.2.1⟩) (hls) (hok)) (gdV uM_L_33 uI_X7_road uS_X7_road uN_X7 uC_X7_road) (by decide +kernel) rfl ⟨by omega, by omega⟩ ⟨by omega, by omega⟩ (Nat.le_of_ble_eq_true rfl) [0, 1, 2, 3, 4, 5, 6, 7, 8, 9, 10, 11, 12, 17, 18, 19, 20, 21, 22, 23, 24, 33, 34, 35, 36, 37] rfl (by decide) rfl rfl rfl rfl dL_law_273 (fun r w2 gc_273 gs_273 hp => ?_)
  obtain ⟨L2_273, W2_273, hq_273, aq_273, Lo_273, rfl, rfl, rfl, rfl, hL2_273, hW2_273, hLo_273⟩ := hp
  refine z_ws (ws2 := (lW K h x ato an ac xu xf xv hm am To ((upf (upf (upf (upf (upf (upf Ne.1 0 (upz (Ne.1 0) (Ne.2 8) (xz xs (i + 1)))) 1 (upz (Ne.1 1) (Ne.2 8) (xz xs (i + 2)))) 2 (upz (Ne.1 2) (Ne.2 8) (xz xs (i + 3)))) 3 (upz (Ne.1 3) (Ne.2 8) (xz xs (i + 4)))) 6 L2_273) 7 W2_273), (upf Ne.2 8 (Ne.2 8 + 1))) Cr U aqu Nqu Squ (va_up f (Ne.2 8).toNat (some hq_273)) (F.1, (upf (upf F.2 5 0) 8 0)) V aqt Nqt Sqt M ++ lgW K (va_up hs nr hq_273) (va_up ag nr aq_273) (va_up Lg nr Lo_273) (nr + 1))) ((pl_new (w2 := ((wSh h x) ++ (wTo K (x 0) ato To) ++ (wNe K (x 1) an ((upf (upf (upf (upf (upf (upf Ne.1 0 (upz (Ne.1 0) (Ne.2 8) (xz xs (i + 1)))) 1 (upz (Ne.1 1) (Ne.2 8) (xz xs (i + 2)))) 2 (upz (Ne.1 2) (Ne.2 8) (xz xs (i + 3)))) 3 (upz (Ne.1 3) (Ne.2 8) (xz xs (i + 4)))) 6 L2_273) 7 W2_273), (upf Ne.2 8 (Ne.2 8 + 1)))) ++ (wTr K (x 3) (upf (upf (upf xu 0 (x 0)) 1 (x 1)) 2 (x 2)) U) ++ (wLA K (x 4) (va_up f (Ne.2 8).toNat (some hq_273))) ++ (wFo K (x 5) (upf xf 0 (x 3)) (F.1, (upf (upf F.2 5 0) 8 0))))) hbm_273 rfl).trans rfl) ?_
  refine z_st (st2 := [vZ (Ne.2 8)]) rfl ?_
  refine z_aload_n ZC 2 dL_law_276 rfl rfl ?_
  refine z_aload_n ZC 0 dL_law_277 rfl rfl ?_
  refine z_iload_n ZC 3 dL_law_278 rfl rfl ?_
  refine z_iconst ZC dL_law_279 ?_
  refine z_iadd ZC dL_law_280 ?_
  refine z_sld ZC hX hbl hbA dL_law_281 (by omega) ?_
  refine z_aload_n ZC 0 dL_law_282 rfl rfl ?_
  refine z_iload_n ZC 3 dL_law_283 rfl rfl ?_
  refine z_iconst ZC dL_law_284 ?_
  refine z_iadd ZC dL_law_285 ?_
  refine z_sld ZC hX hbl hbA dL_law_286 (by omega) ?_
  refine z_aload_n ZC 0 dL_law_287 rfl rfl ?_
  refine z_iload_n ZC 3 dL_law_288 rfl rfl ?_
  refine z_iconst ZC dL_law_289 ?_
  refine z_iadd ZC dL_law_290 ?_
  refine z_sld ZC hX hbl hbA dL_law_291 (by omega) ?_
  refine z_aload_n ZC 0 dL_law_292 rfl rfl ?_
  refine z_iload_n ZC 3 dL_law_293 rfl rfl ?_
  refine z_iconst ZC dL_law_294 ?_
  refine z_iadd ZC dL_law_295 ?_
  refine z_sld ZC hX hbl hbA dL_law_296 (by omega) ?_
  refine z_callV ZC 4 (c_X8_road zl D K hm am M (xz xs (i + 1)) (xz xs (i + 2)) (xz xs (i + 3)) (xz xs (i + 4)) (by omega) (by omega) (by omega) (by omega) (by omega) (by omega) (by omega) (hrvm)) (gdV uM_L_37 uI_X8_road uS_X8_road uN_X8 uC_X8_road) (by decide +kernel) rfl ⟨by omega, by omega⟩ ⟨by omega, by omega⟩ (Nat.le_of_ble_eq_true rfl) [54, 55, 56, 57, 58, 59, 60, 61, 62, 63, 64, 65, 66, 67, 68, 69, 70, 71, 72, 73, 74, 75, 76, 77, 78, 79, 80, 81, 82, 83, 84, 85] rfl (by decide) rfl rfl rfl rfl dL_law_297 (fun r w2 gc_297 gs_297 hp => ?_)
  obtain ⟨L2_297, M2_297, v_297, rfl, rfl, rfl, rfl, hv_297⟩ := hp
  refine z_ws (ws2 := (lW K h x ato an ac xu xf xv hm am To ((upf (upf (upf (upf (upf (upf Ne.1 0 (upz (Ne.1 0) (Ne.2 8) (xz xs (i + 1)))) 1 (upz (Ne.1 1) (Ne.2 8) (xz xs (i + 2)))) 2 (upz (Ne.1 2) (Ne.2 8) (xz xs (i + 3)))) 3 (upz (Ne.1 3) (Ne.2 8) (xz xs (i + 4)))) 6 L2_273) 7 W2_273), (upf Ne.2 8 (Ne.2 8 + 1))) Cr U aqu Nqu Squ (va_up f (Ne.2 8).toNat (some hq_273)) (F.1, (upf (upf F.2 5 0) 8 0)) V aqt Nqt Sqt M2_297 ++ lgW K (va_up hs nr hq_273) (va_up ag nr aq_273) (va_up Lg nr Lo_273) (nr + 1))) ((rep_pre (is := [54, 55, 56, 57, 58, 59, 60, 61, 62, 63, 64, 65, 66, 67, 68, 69, 70, 71, 72, 73, 74, 75, 76, 77, 78, 79, 80, 81, 82, 83, 84, 85]) (pre := (lW K h x ato an ac xu xf xv hm am To ((upf (upf (upf (upf (upf (upf Ne.1 0 (upz (Ne.1 0) (Ne.2 8) (xz xs (i + 1)))) 1 (upz (Ne.1 1) (Ne.2 8) (xz xs (i + 2)))) 2 (upz (Ne.1 2) (Ne.2 8) (xz xs (i + 3)))) 3 (upz (Ne.1 3) (Ne.2 8) (xz xs (i + 4)))) 6 L2_273) 7 W2_273), (upf Ne.2 8 (Ne.2 8 + 1))) Cr U aqu Nqu Squ (va_up f (Ne.2 8).toNat (some hq_273)) (F.1, (upf (upf F.2 5 0) 8 0)) V aqt Nqt Sqt M)) (w1 := (wMo K hm am M)) rfl (Nat.le_of_ble_eq_true rfl)).trans rfl) ?_
  refine z_st (st2 := [vZ v_297, vZ (Ne.2 8)]) rfl ?_
  obtain ⟨-, ev2, eM, hsp2⟩ := hv_297.resolve_right (fun q => q.1 (by omega))
  obtain ⟨s1, s2, s3, s4⟩ := s_road (s1 := (xz xs (i + 1))) (s2 := (xz xs (i + 2))) (cs := (xz xs (i + 3))) (ho := (xz xs (i + 4))) hA hB hC hD (by omega) (by omega) (by omega) (by omega) (by omega) (by omega) hL2_273 hW2_273 hsp2
  have s5 := s_roadE (s1 := (xz xs (i + 1))) (s2 := (xz xs (i + 2))) (cs := (xz xs (i + 3))) (ho := (xz xs (i + 4))) (L2 := L2_273) (W2 := W2_273) (Lm := L2_297) (hq := hq_273) (aq := aq_273) hE (by omega) (by omega) hLo_273
  refine z_eqj ZC 859 dL_law_300 (by decide) (by omega) ?_
  refine z_ws (ws2 := (lW K h x ato an ac xu xf xv hm am To ((upf (upf (upf (upf (upf (upf Ne.1 0 (upz (Ne.1 0) (Ne.2 8) (xz xs (i + 1)))) 1 (upz (Ne.1 1) (Ne.2 8) (xz xs (i + 2)))) 2 (upz (Ne.1 2) (Ne.2 8) (xz xs (i + 3)))) 3 (upz (Ne.1 3) (Ne.2 8) (xz xs (i + 4)))) 6 L2_273) 7 W2_273), (upf Ne.2 8 (Ne.2 8 + 1))) Cr U aqu Nqu Squ (va_up f (Ne.2 8).toNat (some hq_273)) (F.1, (upf (upf F.2 5 0) 8 0)) V aqt Nqt Sqt M2_297 ++ lgW K (va_up hs nr hq_273) (va_up ag nr aq_273) (va_up Lg nr Lo_273) (nr + 1))) rfl (z_lv (lv2 := [(0, .ref b), (1, .ref h), (2, .ref hm), (3, vZ i)]) ⟨rfl, rfl, rfl, rfl, trivial⟩ ?_)
  refine jn_859 To ((upf (upf (upf (upf (upf (upf Ne.1 0 (upz (Ne.1 0) (Ne.2 8) (xz xs (i + 1)))) 1 (upz (Ne.1 1) (Ne.2 8) (xz xs (i + 2)))) 2 (upz (Ne.1 2) (Ne.2 8) (xz xs (i + 3)))) 3 (upz (Ne.1 3) (Ne.2 8) (xz xs (i + 4)))) 6 L2_273) 7 W2_273), (upf Ne.2 8 (Ne.2 8 + 1))) Cr U aqu Nqu Squ (va_up f (Ne.2 8).toNat (some hq_273)) (F.1, (upf (upf F.2 5 0) 8 0)) V aqt Nqt Sqt M2_297 (va_up hs nr hq_273) (va_up ag nr aq_273) (va_up Lg nr Lo_273) (nr + 1) (gv + 4 + 0) (gw + 603 + 0) A Cq C ?_ ?_ ?_ ?_ ?_ ?_
  · skip
    exact s1
  · skip
    exact s2
  · skip
    exact s3
  · skip
    rw [eM]; exact s4
  · skip
    rw [eM]; exact s5
  · skip
    unfold LgF
    omega

set_option maxHeartbeats 4000000 in
set_option maxRecDepth 100000 in
theorem lw_road_n {zp : Program} {zl : Launch} {ze : Env} {zR : Room} {zs : State} {zm : MethodId} {zargs : Array Value} {zbelow : List Frame} {zmeth : Method} {zc : Code} {D : va_G} {K : tyK} {zA : Nat → Prop} {zQ : State → Prop} {b L : Nat} {xs : Nat → Int32} (ZC : Zc zp zs zm zargs zc D K zA 4 cL_law RL) (hX : va_X b L xs zs zs.heap) (hbl : b < zs.heap.size) (hbA : ¬ zA b) (hL : L ≤ 2560) (hRf : zR.frames = 10) (hRc : zR.cells = 600000) (hRs : zR.slots = 7302250) (hRl : zR.locals = 366) (h : Nat) (x ato an ac xu xf xv : Nat → Nat) (hm : Nat) (am : Nat → Nat) (i : Int) (jn_859 : ∀ (To : Bd) (Ne : Bd) (Cr : Bd) (U : Bd) (aqu : Nat → Nat) (Nqu : Nat) (Squ : Bd) (f : Nat → Option Nat) (F : Bd) (V : Bd) (aqt : Nat → Nat) (Nqt : Nat) (Sqt : Bd) (M : Bd) (hs : Nat → Nat) (ag : Nat → Nat → Nat) (Lg : Nat → Bd) (nr : Nat) (gv : Nat) (gw : Nat) (A : Ab) (Cq : Int → List Pt3) (C : Int → List Pt3), LgA To Ne Cr → LgB Ne Cr A → LgC To Ne Cr U Nqu Squ F Nqt A Cq → LgD To Ne Cr A M C → LgE Ne f M hs Lg nr A → LgF Nqu Nqt nr gv gw → Zw zp zl ze zR zs zm zargs zbelow zmeth zc D zA 4 zQ gv gw (lW K h x ato an ac xu xf xv hm am To Ne Cr U aqu Nqu Squ f F V aqt Nqt Sqt M ++ lgW K hs ag Lg nr) 859 [(0, .ref b), (1, .ref h), (2, .ref hm), (3, vZ i)] []) (To : Bd) (Ne : Bd) (Cr : Bd) (U : Bd) (aqu : Nat → Nat) (Nqu : Nat) (Squ : Bd) (f : Nat → Option Nat) (F : Bd) (V : Bd) (aqt : Nat → Nat) (Nqt : Nat) (Sqt : Bd) (M : Bd) (hs : Nat → Nat) (ag : Nat → Nat → Nat) (Lg : Nat → Bd) (nr : Nat) (gv : Nat) (gw : Nat) (A : Ab) (Cq : Int → List Pt3) (C : Int → List Pt3) (hA : LgA To Ne Cr) (hB : LgB Ne Cr A) (hC : LgC To Ne Cr U Nqu Squ F Nqt A Cq) (hD : LgD To Ne Cr A M C) (hE : LgE Ne f M hs Lg nr A) (hF : LgF Nqu Nqt nr gv gw) (hi : 0 ≤ i ∧ i + 5 ≤ (L : Int)) (hok : ¬ (U.2 12 = 0 ∧ Ne.2 8 < 16 ∧ ((0 ≤ (xz xs (i + 1)) ∧ (xz xs (i + 1)) < To.2 3) ∧ (0 ≤ (xz xs (i + 2)) ∧ (xz xs (i + 2)) < To.2 3) ∧ (xz xs (i + 1)) ≠ (xz xs (i + 2))) ∧ (1 ≤ (xz xs (i + 3)) ∧ (xz xs (i + 3)) ≤ 5000) ∧ (1 ≤ (xz xs (i + 4)) ∧ (xz xs (i + 4)) ≤ 9))) : Zw zp zl ze zR zs zm zargs zbelow zmeth zc D zA 4 zQ gv gw (lW K h x ato an ac xu xf xv hm am To Ne Cr U aqu Nqu Squ f F V aqt Nqt Sqt M ++ lgW K hs ag Lg nr) 252 [(0, .ref b), (1, .ref h), (2, .ref hm), (3, vZ i)] [] := by
  obtain ⟨a1, a2, a3, a4, a5, a6, a7, a8⟩ := id hA
  obtain ⟨b1, b2, b3, b4, b5, b6⟩ := id hB
  obtain ⟨c1, c2, c3, c4⟩ := id hC
  obtain ⟨d1, d2, d3, d4⟩ := id hD
  obtain ⟨e1, e2, e3, e4⟩ := id hE
  obtain ⟨hf1, hf2⟩ := id hF
  have hne := a1.1
  have hcr := a1.2.1
  have hls := nw_ls a2
  have enw : U.2 12 = A.2.1 0 := c1.2.2.2.2.1.1
  have hnw0 := b1.2.1
  have m0 : M.2 0 = To.2 3 := d1.1.1
  have m3 : M.2 3 = To.2 2 := d1.1.2.1
  have m4 : M.2 4 = Ne.2 8 := d1.2.1.1
  have m12 : M.2 12 = Cr.2 3 := d1.2.2.1
  have m20 : M.2 20 = A.2.1 0 := d2.2.2.2.1
  have hG1 := lo_rng c1.1
  have hpr1 := pw_rng c3
  have hus0 := mx_us d2 a1 b1
  have hmn := m11 d1.2.1 a2
  have hx1 := xz_rng xs (i + 1)
  have hx2 := xz_rng xs (i + 2)
  have hx3 := xz_rng xs (i + 3)
  have hx4 := xz_rng xs (i + 4)
  have hnr := e1.1
  have hrvm : RV (M.1 5) (M.1 6) (M.1 8) (M.2 4) := by
    intro r p q
    have g := d1.2.1.2.1 r p (by omega)
    have k := a1.2.2.1 r p (by omega)
    rw [g.1, g.2.1, g.2.2.2]
    exact ⟨k.1, k.2.1, k.2.2.2.1⟩
  refine z_aload_n ZC 1 dL_law_252 rfl rfl ?_
  refine z_aload_n ZC 0 dL_law_253 rfl rfl ?_
  refine z_iload_n ZC 3 dL_law_254 rfl rfl ?_
  refine z_iconst ZC dL_law_255 ?_
  refine z_iadd ZC dL_law_256 ?_
  refine z_sld ZC hX hbl hbA dL_law_257 (by omega) ?_
  refine z_aload_n ZC 0 dL_law_258 rfl rfl ?_
  refine z_iload_n ZC 3 dL_law_259 rfl rfl ?_
  refine z_iconst ZC dL_law_260 ?_
  refine z_iadd ZC dL_law_261 ?_
  refine z_sld ZC hX hbl hbA dL_law_262 (by omega) ?_
  refine z_aload_n ZC 0 dL_law_263 rfl rfl ?_
  refine z_iload_n ZC 3 dL_law_264 rfl rfl ?_
  refine z_iconst ZC dL_law_265 ?_
  refine z_iadd ZC dL_law_266 ?_
  refine z_sld ZC hX hbl hbA dL_law_267 (by omega) ?_
  refine z_aload_n ZC 0 dL_law_268 rfl rfl ?_
  refine z_iload_n ZC 3 dL_law_269 rfl rfl ?_
  refine z_iconst ZC dL_law_270 ?_
  refine z_iadd ZC dL_law_271 ?_
  refine z_sld ZC hX hbl hbA dL_law_272 (by omega) ?_
  refine z_callV ZC 4 (c_X7_roadN zl D K h x ato To an Ne xu U f xf F (xz xs (i + 1)) (xz xs (i + 2)) (xz xs (i + 3)) (xz xs (i + 4)) (by omega) (by omega) (by omega) (by omega) (by omega) (by omega) (by omega) (hok)) (gdV uM_L_33 uI_X7_road uS_X7_road uN_X7 uC_X7_road) (by decide +kernel) rfl ⟨by omega, by omega⟩ ⟨by omega, by omega⟩ (Nat.le_of_ble_eq_true rfl) [0, 1, 2, 3, 4, 5, 6, 7, 8, 9, 10, 11, 12, 17, 18, 19, 20, 21, 22, 23, 24, 33, 34, 35, 36, 37] rfl (by decide) rfl rfl rfl rfl dL_law_273 (fun r w2 gc_273 gs_273 hp => ?_)
  obtain ⟨rfl, rfl, rfl, rfl⟩ := hp
  refine z_ws (ws2 := (lW K h x ato an ac xu xf xv hm am To Ne Cr U aqu Nqu Squ f F V aqt Nqt Sqt M ++ lgW K hs ag Lg nr)) ((rep_pre (is := [0, 1, 2, 3, 4, 5, 6, 7, 8, 9, 10, 11, 12, 17, 18, 19, 20, 21, 22, 23, 24, 33, 34, 35, 36, 37]) (pre := (lW K h x ato an ac xu xf xv hm am To Ne Cr U aqu Nqu Squ f F V aqt Nqt Sqt M)) (w1 := ((wSh h x) ++ (wTo K (x 0) ato To) ++ (wNe K (x 1) an Ne) ++ (wTr K (x 3) (upf (upf (upf xu 0 (x 0)) 1 (x 1)) 2 (x 2)) U) ++ (wLA K (x 4) f) ++ (wFo K (x 5) (upf xf 0 (x 3)) F))) rfl (Nat.le_of_ble_eq_true rfl)).trans rfl) ?_
  refine z_st (st2 := [vZ (-1)]) rfl ?_
  refine z_aload_n ZC 2 dL_law_276 rfl rfl ?_
  refine z_aload_n ZC 0 dL_law_277 rfl rfl ?_
  refine z_iload_n ZC 3 dL_law_278 rfl rfl ?_
  refine z_iconst ZC dL_law_279 ?_
  refine z_iadd ZC dL_law_280 ?_
  refine z_sld ZC hX hbl hbA dL_law_281 (by omega) ?_
  refine z_aload_n ZC 0 dL_law_282 rfl rfl ?_
  refine z_iload_n ZC 3 dL_law_283 rfl rfl ?_
  refine z_iconst ZC dL_law_284 ?_
  refine z_iadd ZC dL_law_285 ?_
  refine z_sld ZC hX hbl hbA dL_law_286 (by omega) ?_
  refine z_aload_n ZC 0 dL_law_287 rfl rfl ?_
  refine z_iload_n ZC 3 dL_law_288 rfl rfl ?_
  refine z_iconst ZC dL_law_289 ?_
  refine z_iadd ZC dL_law_290 ?_
  refine z_sld ZC hX hbl hbA dL_law_291 (by omega) ?_
  refine z_aload_n ZC 0 dL_law_292 rfl rfl ?_
  refine z_iload_n ZC 3 dL_law_293 rfl rfl ?_
  refine z_iconst ZC dL_law_294 ?_
  refine z_iadd ZC dL_law_295 ?_
  refine z_sld ZC hX hbl hbA dL_law_296 (by omega) ?_
  refine z_callV ZC 4 (c_X8_road zl D K hm am M (xz xs (i + 1)) (xz xs (i + 2)) (xz xs (i + 3)) (xz xs (i + 4)) (by omega) (by omega) (by omega) (by omega) (by omega) (by omega) (by omega) (hrvm)) (gdV uM_L_37 uI_X8_road uS_X8_road uN_X8 uC_X8_road) (by decide +kernel) rfl ⟨by omega, by omega⟩ ⟨by omega, by omega⟩ (Nat.le_of_ble_eq_true rfl) [54, 55, 56, 57, 58, 59, 60, 61, 62, 63, 64, 65, 66, 67, 68, 69, 70, 71, 72, 73, 74, 75, 76, 77, 78, 79, 80, 81, 82, 83, 84, 85] rfl (by decide) rfl rfl rfl rfl dL_law_297 (fun r w2 gc_297 gs_297 hp => ?_)
  obtain ⟨L2_297, M2_297, v_297, rfl, rfl, rfl, rfl, hv_297⟩ := hp
  refine z_ws (ws2 := (lW K h x ato an ac xu xf xv hm am To Ne Cr U aqu Nqu Squ f F V aqt Nqt Sqt M2_297 ++ lgW K hs ag Lg nr)) ((rep_pre (is := [54, 55, 56, 57, 58, 59, 60, 61, 62, 63, 64, 65, 66, 67, 68, 69, 70, 71, 72, 73, 74, 75, 76, 77, 78, 79, 80, 81, 82, 83, 84, 85]) (pre := (lW K h x ato an ac xu xf xv hm am To Ne Cr U aqu Nqu Squ f F V aqt Nqt Sqt M)) (w1 := (wMo K hm am M)) rfl (Nat.le_of_ble_eq_true rfl)).trans rfl) ?_
  refine z_st (st2 := [vZ v_297, vZ (-1)]) rfl ?_
  obtain ⟨-, ev2, eM⟩ := hv_297.resolve_left (fun q => hok (by have q1 := q.1; omega))
  refine z_eqj ZC 859 dL_law_300 (by decide) (by omega) ?_
  refine z_ws (ws2 := (lW K h x ato an ac xu xf xv hm am To Ne Cr U aqu Nqu Squ f F V aqt Nqt Sqt M2_297 ++ lgW K hs ag Lg nr)) rfl (z_lv (lv2 := [(0, .ref b), (1, .ref h), (2, .ref hm), (3, vZ i)]) ⟨rfl, rfl, rfl, rfl, trivial⟩ ?_)
  refine jn_859 To Ne Cr U aqu Nqu Squ f F V aqt Nqt Sqt M2_297 hs ag Lg nr (gv + 0 + 0) (gw + 0 + 0) A Cq C ?_ ?_ ?_ ?_ ?_ ?_
  · skip
    exact hA
  · skip
    exact hB
  · skip
    exact hC
  · skip
    rw [eM]; exact hD
  · skip
    rw [eM]; exact hE
  · skip
    unfold LgF
    omega

set_option maxHeartbeats 4000000 in
set_option maxRecDepth 100000 in
theorem lw_crowd {zp : Program} {zl : Launch} {ze : Env} {zR : Room} {zs : State} {zm : MethodId} {zargs : Array Value} {zbelow : List Frame} {zmeth : Method} {zc : Code} {D : va_G} {K : tyK} {zA : Nat → Prop} {zQ : State → Prop} {b L : Nat} {xs : Nat → Int32} (ZC : Zc zp zs zm zargs zc D K zA 4 cL_law RL) (hX : va_X b L xs zs zs.heap) (hbl : b < zs.heap.size) (hbA : ¬ zA b) (hL : L ≤ 2560) (hRf : zR.frames = 10) (hRc : zR.cells = 600000) (hRs : zR.slots = 7302250) (hRl : zR.locals = 366) (h : Nat) (x ato an ac xu xf xv : Nat → Nat) (hm : Nat) (am : Nat → Nat) (i : Int) (jn_859 : ∀ (To : Bd) (Ne : Bd) (Cr : Bd) (U : Bd) (aqu : Nat → Nat) (Nqu : Nat) (Squ : Bd) (f : Nat → Option Nat) (F : Bd) (V : Bd) (aqt : Nat → Nat) (Nqt : Nat) (Sqt : Bd) (M : Bd) (hs : Nat → Nat) (ag : Nat → Nat → Nat) (Lg : Nat → Bd) (nr : Nat) (gv : Nat) (gw : Nat) (A : Ab) (Cq : Int → List Pt3) (C : Int → List Pt3), LgA To Ne Cr → LgB Ne Cr A → LgC To Ne Cr U Nqu Squ F Nqt A Cq → LgD To Ne Cr A M C → LgE Ne f M hs Lg nr A → LgF Nqu Nqt nr gv gw → Zw zp zl ze zR zs zm zargs zbelow zmeth zc D zA 4 zQ gv gw (lW K h x ato an ac xu xf xv hm am To Ne Cr U aqu Nqu Squ f F V aqt Nqt Sqt M ++ lgW K hs ag Lg nr) 859 [(0, .ref b), (1, .ref h), (2, .ref hm), (3, vZ i)] []) (To : Bd) (Ne : Bd) (Cr : Bd) (U : Bd) (aqu : Nat → Nat) (Nqu : Nat) (Squ : Bd) (f : Nat → Option Nat) (F : Bd) (V : Bd) (aqt : Nat → Nat) (Nqt : Nat) (Sqt : Bd) (M : Bd) (hs : Nat → Nat) (ag : Nat → Nat → Nat) (Lg : Nat → Bd) (nr : Nat) (gv : Nat) (gw : Nat) (A : Ab) (Cq : Int → List Pt3) (C : Int → List Pt3) (hA : LgA To Ne Cr) (hB : LgB Ne Cr A) (hC : LgC To Ne Cr U Nqu Squ F Nqt A Cq) (hD : LgD To Ne Cr A M C) (hE : LgE Ne f M hs Lg nr A) (hF : LgF Nqu Nqt nr gv gw) (hi : 0 ≤ i ∧ i + 5 ≤ (L : Int))  : Zw zp zl ze zR zs zm zargs zbelow zmeth zc D zA 4 zQ gv gw (lW K h x ato an ac xu xf xv hm am To Ne Cr U aqu Nqu Squ f F V aqt Nqt Sqt M ++ lgW K hs ag Lg nr) 338 [(0, .ref b), (1, .ref h), (2, .ref hm), (3, vZ i)] [] := by
  obtain ⟨a1, a2, a3, a4, a5, a6, a7, a8⟩ := id hA
  obtain ⟨b1, b2, b3, b4, b5, b6⟩ := id hB
  obtain ⟨c1, c2, c3, c4⟩ := id hC
  obtain ⟨d1, d2, d3, d4⟩ := id hD
  obtain ⟨e1, e2, e3, e4⟩ := id hE
  obtain ⟨hf1, hf2⟩ := id hF
  have hne := a1.1
  have hcr := a1.2.1
  have hls := nw_ls a2
  have enw : U.2 12 = A.2.1 0 := c1.2.2.2.2.1.1
  have hnw0 := b1.2.1
  have m0 : M.2 0 = To.2 3 := d1.1.1
  have m3 : M.2 3 = To.2 2 := d1.1.2.1
  have m4 : M.2 4 = Ne.2 8 := d1.2.1.1
  have m12 : M.2 12 = Cr.2 3 := d1.2.2.1
  have m20 : M.2 20 = A.2.1 0 := d2.2.2.2.1
  have hG1 := lo_rng c1.1
  have hpr1 := pw_rng c3
  have hus0 := mx_us d2 a1 b1
  have hmn := m11 d1.2.1 a2
  have hx1 := xz_rng xs (i + 1)
  have hx2 := xz_rng xs (i + 2)
  have hx3 := xz_rng xs (i + 3)
  have hx4 := xz_rng xs (i + 4)
  have hnr := e1.1
  refine z_aload_n ZC 1 dL_law_338 rfl rfl ?_
  refine z_aload_n ZC 0 dL_law_339 rfl rfl ?_
  refine z_iload_n ZC 3 dL_law_340 rfl rfl ?_
  refine z_iconst ZC dL_law_341 ?_
  refine z_iadd ZC dL_law_342 ?_
  refine z_sld ZC hX hbl hbA dL_law_343 (by omega) ?_
  refine z_aload_n ZC 0 dL_law_344 rfl rfl ?_
  refine z_iload_n ZC 3 dL_law_345 rfl rfl ?_
  refine z_iconst ZC dL_law_346 ?_
  refine z_iadd ZC dL_law_347 ?_
  refine z_sld ZC hX hbl hbA dL_law_348 (by omega) ?_
  refine z_aload_n ZC 0 dL_law_349 rfl rfl ?_
  refine z_iload_n ZC 3 dL_law_350 rfl rfl ?_
  refine z_iconst ZC dL_law_351 ?_
  refine z_iadd ZC dL_law_352 ?_
  refine z_sld ZC hX hbl hbA dL_law_353 (by omega) ?_
  refine z_callV ZC 3 (c_X7_crowd zl D K h x ato To an Ne ac Cr xu U xf F (xz xs (i + 1)) (xz xs (i + 2)) (xz xs (i + 3)) (by omega) (by omega) (by omega) (by omega) (by omega) (by omega) (hls)) (gdV uM_L_42 uI_X7_crowd uS_X7_crowd uN_X7 uC_X7_crowd) (by decide +kernel) rfl ⟨by omega, by omega⟩ ⟨by omega, by omega⟩ (Nat.le_of_ble_eq_true rfl) [0, 1, 2, 3, 4, 5, 6, 7, 8, 9, 10, 11, 12, 13, 14, 15, 16, 17, 18, 19, 20, 21, 22, 23, 24, 34, 35, 36, 37] rfl (by decide) rfl rfl rfl rfl dL_law_354 (fun r w2 gc_354 gs_354 hp => ?_)
  obtain ⟨Cr2_354, U2_354, F2_354, v_354, rfl, rfl, rfl, rfl, hv_354⟩ := hp
  refine z_ws (ws2 := (lW K h x ato an ac xu xf xv hm am To Ne Cr2_354 U2_354 aqu Nqu Squ f F2_354 V aqt Nqt Sqt M ++ lgW K hs ag Lg nr)) ((rep_pre (is := [0, 1, 2, 3, 4, 5, 6, 7, 8, 9, 10, 11, 12, 13, 14, 15, 16, 17, 18, 19, 20, 21, 22, 23, 24, 34, 35, 36, 37]) (pre := (lW K h x ato an ac xu xf xv hm am To Ne Cr U aqu Nqu Squ f F V aqt Nqt Sqt M)) (w1 := ((wSh h x) ++ (wTo K (x 0) ato To) ++ (wNe K (x 1) an Ne) ++ (wCr K (x 2) ac Cr) ++ (wTr K (x 3) (upf (upf (upf xu 0 (x 0)) 1 (x 1)) 2 (x 2)) U) ++ (wFo K (x 5) (upf xf 0 (x 3)) F))) rfl (Nat.le_of_ble_eq_true rfl)).trans rfl) ?_
  refine z_st (st2 := [vZ v_354]) rfl ?_
  refine z_aload_n ZC 2 dL_law_357 rfl rfl ?_
  refine z_aload_n ZC 0 dL_law_358 rfl rfl ?_
  refine z_iload_n ZC 3 dL_law_359 rfl rfl ?_
  refine z_iconst ZC dL_law_360 ?_
  refine z_iadd ZC dL_law_361 ?_
  refine z_sld ZC hX hbl hbA dL_law_362 (by omega) ?_
  refine z_aload_n ZC 0 dL_law_363 rfl rfl ?_
  refine z_iload_n ZC 3 dL_law_364 rfl rfl ?_
  refine z_iconst ZC dL_law_365 ?_
  refine z_iadd ZC dL_law_366 ?_
  refine z_sld ZC hX hbl hbA dL_law_367 (by omega) ?_
  refine z_aload_n ZC 0 dL_law_368 rfl rfl ?_
  refine z_iload_n ZC 3 dL_law_369 rfl rfl ?_
  refine z_iconst ZC dL_law_370 ?_
  refine z_iadd ZC dL_law_371 ?_
  refine z_sld ZC hX hbl hbA dL_law_372 (by omega) ?_
  refine z_callV ZC 3 (c_X8_crowd zl D K hm am M (xz xs (i + 1)) (xz xs (i + 2)) (xz xs (i + 3)) (by omega) (by omega) (by omega) (by omega) (by omega) (by omega) (hmn.1)) (gdV uM_L_46 uI_X8_crowd uS_X8_crowd uN_X8 uC_X8_crowd) (by decide +kernel) rfl ⟨by omega, by omega⟩ ⟨by omega, by omega⟩ (Nat.le_of_ble_eq_true rfl) [54, 55, 56, 57, 58, 59, 60, 61, 62, 63, 64, 65, 66, 67, 68, 69, 70, 71, 72, 73, 74, 75, 76, 77, 78, 79, 80, 81, 82, 83, 84, 85] rfl (by decide) rfl rfl rfl rfl dL_law_373 (fun r w2 gc_373 gs_373 hp => ?_)
  obtain ⟨M2_373, v_373, rfl, rfl, rfl, rfl, hv_373⟩ := hp
  refine z_ws (ws2 := (lW K h x ato an ac xu xf xv hm am To Ne Cr2_354 U2_354 aqu Nqu Squ f F2_354 V aqt Nqt Sqt M2_373 ++ lgW K hs ag Lg nr)) ((rep_pre (is := [54, 55, 56, 57, 58, 59, 60, 61, 62, 63, 64, 65, 66, 67, 68, 69, 70, 71, 72, 73, 74, 75, 76, 77, 78, 79, 80, 81, 82, 83, 84, 85]) (pre := (lW K h x ato an ac xu xf xv hm am To Ne Cr2_354 U2_354 aqu Nqu Squ f F2_354 V aqt Nqt Sqt M)) (w1 := (wMo K hm am M)) rfl (Nat.le_of_ble_eq_true rfl)).trans rfl) ?_
  refine z_st (st2 := [vZ v_373, vZ v_354]) rfl ?_
  by_cases hk : U.2 12 = 0 ∧ Cr.2 3 < 8 ∧ ((0 ≤ (xz xs (i + 1)) ∧ (xz xs (i + 1)) < To.2 3) ∧ (0 ≤ (xz xs (i + 3)) ∧ (xz xs (i + 3)) < To.2 3) ∧ (xz xs (i + 1)) ≠ (xz xs (i + 3))) ∧ (1 ≤ (xz xs (i + 2)) ∧ (xz xs (i + 2)) ≤ 20000) ∧ Ne.1 6 ((xz xs (i + 1)) * 10 + (xz xs (i + 3))) ≠ -1
  · skip
    obtain ⟨-, ev, eC, eU, eF⟩ := hv_354.resolve_right (fun q => q.1 hk)
    obtain ⟨-, ev2, eM⟩ := hv_373.resolve_right (fun q => q.1 (by have hq1 := m11_iff hmn (i := (xz xs (i + 1))) (j := (xz xs (i + 3))) (by omega) (by omega) (by omega) (by omega); omega))
    obtain ⟨s1, s2, s3, s4⟩ := s_crowd (s1 := (xz xs (i + 1))) (s2 := (xz xs (i + 3))) (cs := (xz xs (i + 2))) hA hB hC hD (by omega) (by omega) (by omega) (by omega) (by omega) (by omega) hk.2.2.2.2
    refine z_eqj ZC 859 dL_law_376 (by decide) (by omega) ?_
    refine z_ws (ws2 := (lW K h x ato an ac xu xf xv hm am To Ne Cr2_354 U2_354 aqu Nqu Squ f F2_354 V aqt Nqt Sqt M2_373 ++ lgW K hs ag Lg nr)) rfl (z_lv (lv2 := [(0, .ref b), (1, .ref h), (2, .ref hm), (3, vZ i)]) ⟨rfl, rfl, rfl, rfl, trivial⟩ ?_)
    refine jn_859 To Ne Cr2_354 U2_354 aqu Nqu Squ f F2_354 V aqt Nqt Sqt M2_373 hs ag Lg nr (gv + 0 + 0) (gw + 0 + 0) (aI A 3 (upz (A.1 3) (Cr.2 3) (-1))) Cq C ?_ ?_ ?_ ?_ ?_ ?_
    · skip
      rw [eC]; exact s1
    · skip
      rw [eC]; exact s2
    · skip
      rw [eC, eU, eF]; exact s3
    · skip
      rw [eC, eM]; exact s4
    · skip
      rw [eM]; exact hE
    · skip
      unfold LgF
      omega
  · skip
    obtain ⟨-, ev, eC, eU, eF⟩ := hv_354.resolve_left (fun q => hk q.1)
    obtain ⟨-, ev2, eM⟩ := hv_373.resolve_left (fun q => hk (by have q1 := q.1; have hq1 := m11_iff hmn (i := (xz xs (i + 1))) (j := (xz xs (i + 3))) (by omega) (by omega) (by omega) (by omega); omega))
    refine z_eqj ZC 859 dL_law_376 (by decide) (by omega) ?_
    refine z_ws (ws2 := (lW K h x ato an ac xu xf xv hm am To Ne Cr2_354 U2_354 aqu Nqu Squ f F2_354 V aqt Nqt Sqt M2_373 ++ lgW K hs ag Lg nr)) rfl (z_lv (lv2 := [(0, .ref b), (1, .ref h), (2, .ref hm), (3, vZ i)]) ⟨rfl, rfl, rfl, rfl, trivial⟩ ?_)
    refine jn_859 To Ne Cr2_354 U2_354 aqu Nqu Squ f F2_354 V aqt Nqt Sqt M2_373 hs ag Lg nr (gv + 0 + 0) (gw + 0 + 0) A Cq C ?_ ?_ ?_ ?_ ?_ ?_
    · skip
      rw [eC]; exact hA
    · skip
      rw [eC]; exact hB
    · skip
      rw [eC, eU, eF]; exact hC
    · skip
      rw [eC, eM]; exact hD
    · skip
      rw [eM]; exact hE
    · skip
      unfold LgF
      omega

set_option maxHeartbeats 4000000 in
set_option maxRecDepth 100000 in
theorem lw_dawn {zp : Program} {zl : Launch} {ze : Env} {zR : Room} {zs : State} {zm : MethodId} {zargs : Array Value} {zbelow : List Frame} {zmeth : Method} {zc : Code} {D : va_G} {K : tyK} {zA : Nat → Prop} {zQ : State → Prop} {b L : Nat} {xs : Nat → Int32} (ZC : Zc zp zs zm zargs zc D K zA 4 cL_law RL) (hX : va_X b L xs zs zs.heap) (hbl : b < zs.heap.size) (hbA : ¬ zA b) (hL : L ≤ 2560) (hRf : zR.frames = 10) (hRc : zR.cells = 600000) (hRs : zR.slots = 7302250) (hRl : zR.locals = 366) (h : Nat) (x ato an ac xu xf xv : Nat → Nat) (hm : Nat) (am : Nat → Nat) (i : Int) (jn_859 : ∀ (To : Bd) (Ne : Bd) (Cr : Bd) (U : Bd) (aqu : Nat → Nat) (Nqu : Nat) (Squ : Bd) (f : Nat → Option Nat) (F : Bd) (V : Bd) (aqt : Nat → Nat) (Nqt : Nat) (Sqt : Bd) (M : Bd) (hs : Nat → Nat) (ag : Nat → Nat → Nat) (Lg : Nat → Bd) (nr : Nat) (gv : Nat) (gw : Nat) (A : Ab) (Cq : Int → List Pt3) (C : Int → List Pt3), LgA To Ne Cr → LgB Ne Cr A → LgC To Ne Cr U Nqu Squ F Nqt A Cq → LgD To Ne Cr A M C → LgE Ne f M hs Lg nr A → LgF Nqu Nqt nr gv gw → Zw zp zl ze zR zs zm zargs zbelow zmeth zc D zA 4 zQ gv gw (lW K h x ato an ac xu xf xv hm am To Ne Cr U aqu Nqu Squ f F V aqt Nqt Sqt M ++ lgW K hs ag Lg nr) 859 [(0, .ref b), (1, .ref h), (2, .ref hm), (3, vZ i)] []) (To : Bd) (Ne : Bd) (Cr : Bd) (U : Bd) (aqu : Nat → Nat) (Nqu : Nat) (Squ : Bd) (f : Nat → Option Nat) (F : Bd) (V : Bd) (aqt : Nat → Nat) (Nqt : Nat) (Sqt : Bd) (M : Bd) (hs : Nat → Nat) (ag : Nat → Nat → Nat) (Lg : Nat → Bd) (nr : Nat) (gv : Nat) (gw : Nat) (A : Ab) (Cq : Int → List Pt3) (C : Int → List Pt3) (hA : LgA To Ne Cr) (hB : LgB Ne Cr A) (hC : LgC To Ne Cr U Nqu Squ F Nqt A Cq) (hD : LgD To Ne Cr A M C) (hE : LgE Ne f M hs Lg nr A) (hF : LgF Nqu Nqt nr gv gw) (hi : 0 ≤ i ∧ i + 5 ≤ (L : Int))  : Zw zp zl ze zR zs zm zargs zbelow zmeth zc D zA 4 zQ gv gw (lW K h x ato an ac xu xf xv hm am To Ne Cr U aqu Nqu Squ f F V aqt Nqt Sqt M ++ lgW K hs ag Lg nr) 381 [(0, .ref b), (1, .ref h), (2, .ref hm), (3, vZ i)] [] := by
  obtain ⟨a1, a2, a3, a4, a5, a6, a7, a8⟩ := id hA
  obtain ⟨b1, b2, b3, b4, b5, b6⟩ := id hB
  obtain ⟨c1, c2, c3, c4⟩ := id hC
  obtain ⟨d1, d2, d3, d4⟩ := id hD
  obtain ⟨e1, e2, e3, e4⟩ := id hE
  obtain ⟨hf1, hf2⟩ := id hF
  have hne := a1.1
  have hcr := a1.2.1
  have hls := nw_ls a2
  have enw : U.2 12 = A.2.1 0 := c1.2.2.2.2.1.1
  have hnw0 := b1.2.1
  have m0 : M.2 0 = To.2 3 := d1.1.1
  have m3 : M.2 3 = To.2 2 := d1.1.2.1
  have m4 : M.2 4 = Ne.2 8 := d1.2.1.1
  have m12 : M.2 12 = Cr.2 3 := d1.2.2.1
  have m20 : M.2 20 = A.2.1 0 := d2.2.2.2.1
  have hG1 := lo_rng c1.1
  have hpr1 := pw_rng c3
  have hus0 := mx_us d2 a1 b1
  have hmn := m11 d1.2.1 a2
  have hx1 := xz_rng xs (i + 1)
  have hx2 := xz_rng xs (i + 2)
  have hx3 := xz_rng xs (i + 3)
  have hx4 := xz_rng xs (i + 4)
  have hnr := e1.1
  refine z_aload_n ZC 1 dL_law_381 rfl rfl ?_
  refine z_aload_n ZC 0 dL_law_382 rfl rfl ?_
  refine z_iload_n ZC 3 dL_law_383 rfl rfl ?_
  refine z_iconst ZC dL_law_384 ?_
  refine z_iadd ZC dL_law_385 ?_
  refine z_sld ZC hX hbl hbA dL_law_386 (by omega) ?_
  refine z_callV ZC 1 (c_X7_dawn zl D K h x ato To an Ne ac Cr xu U xf F A (xz xs (i + 1)) (by omega) (by omega) (a4) (hls) (by omega) (by omega) (a6) (fun t p q => (c1.2.2.2.1 t p q).1) (fun z c p q => ((z_empty a1 hB (by omega)).2 c p q).1)) (gdV uM_L_47 uI_X7_dawn uS_X7_dawn uN_X7 uC_X7_dawn) (by decide +kernel) rfl ⟨by omega, by omega⟩ ⟨by omega, by omega⟩ (Nat.le_of_ble_eq_true rfl) [0, 1, 2, 3, 4, 5, 6, 7, 8, 9, 10, 11, 12, 13, 14, 15, 16, 17, 18, 19, 20, 21, 22, 23, 24, 34, 35, 36, 37] rfl (by decide) rfl rfl rfl rfl dL_law_387 (fun r w2 gc_387 gs_387 hp => ?_)
  obtain ⟨Pl_387, Th_387, F2_387, v_387, rfl, rfl, rfl, rfl, hv_387⟩ := hp
  refine z_ws (ws2 := (lW K h x ato an ac xu xf xv hm am To Ne ((upf Cr.1 0 Pl_387), Cr.2) ((upf U.1 8 Th_387), U.2) aqu Nqu Squ f F2_387 V aqt Nqt Sqt M ++ lgW K hs ag Lg nr)) ((rep_pre (is := [0, 1, 2, 3, 4, 5, 6, 7, 8, 9, 10, 11, 12, 13, 14, 15, 16, 17, 18, 19, 20, 21, 22, 23, 24, 34, 35, 36, 37]) (pre := (lW K h x ato an ac xu xf xv hm am To Ne Cr U aqu Nqu Squ f F V aqt Nqt Sqt M)) (w1 := ((wSh h x) ++ (wTo K (x 0) ato To) ++ (wNe K (x 1) an Ne) ++ (wCr K (x 2) ac Cr) ++ (wTr K (x 3) (upf (upf (upf xu 0 (x 0)) 1 (x 1)) 2 (x 2)) U) ++ (wFo K (x 5) (upf xf 0 (x 3)) F))) rfl (Nat.le_of_ble_eq_true rfl)).trans rfl) ?_
  refine z_st (st2 := [vZ v_387]) rfl ?_
  refine z_aload_n ZC 2 dL_law_390 rfl rfl ?_
  refine z_aload_n ZC 0 dL_law_391 rfl rfl ?_
  refine z_iload_n ZC 3 dL_law_392 rfl rfl ?_
  refine z_iconst ZC dL_law_393 ?_
  refine z_iadd ZC dL_law_394 ?_
  refine z_sld ZC hX hbl hbA dL_law_395 (by omega) ?_
  refine z_callV ZC 1 (c_X8_dawn zl D K hm am M To Ne Cr (xz xs (i + 1)) (by omega) (d1) (a2) (a3) (a4) (hcr) (by omega) (a6) (lgd_dg hD)) (gdV uM_L_50 uI_X8_dawn uS_X8_dawn uN_X8 uC_X8_dawn) (by decide +kernel) rfl ⟨by omega, by omega⟩ ⟨by omega, by omega⟩ (Nat.le_of_ble_eq_true rfl) [54, 55, 56, 57, 58, 59, 60, 61, 62, 63, 64, 65, 66, 67, 68, 69, 70, 71, 72, 73, 74, 75, 76, 77, 78, 79, 80, 81, 82, 83, 84, 85] rfl (by decide) rfl rfl rfl rfl dL_law_396 (fun r w2 gc_396 gs_396 hp => ?_)
  obtain ⟨Pl_396, v_396, rfl, rfl, rfl, rfl, hv_396⟩ := hp
  refine z_ws (ws2 := (lW K h x ato an ac xu xf xv hm am To Ne ((upf Cr.1 0 Pl_387), Cr.2) ((upf U.1 8 Th_387), U.2) aqu Nqu Squ f F2_387 V aqt Nqt Sqt ((upf M.1 13 Pl_396), M.2) ++ lgW K hs ag Lg nr)) ((rep_pre (is := [54, 55, 56, 57, 58, 59, 60, 61, 62, 63, 64, 65, 66, 67, 68, 69, 70, 71, 72, 73, 74, 75, 76, 77, 78, 79, 80, 81, 82, 83, 84, 85]) (pre := (lW K h x ato an ac xu xf xv hm am To Ne ((upf Cr.1 0 Pl_387), Cr.2) ((upf U.1 8 Th_387), U.2) aqu Nqu Squ f F2_387 V aqt Nqt Sqt M)) (w1 := (wMo K hm am M)) rfl (Nat.le_of_ble_eq_true rfl)).trans rfl) ?_
  refine z_st (st2 := [vZ v_396, vZ v_387]) rfl ?_
  by_cases hk : U.2 12 = 0 ∧ (0 ≤ (xz xs (i + 1)) ∧ (xz xs (i + 1)) ≤ 20)
  · skip
    obtain ⟨-, ev, eP, eF, eT⟩ := hv_387.resolve_right (fun q => q.1 hk)
    obtain ⟨-, ev2, eP2⟩ := hv_396.resolve_right (fun q => q.1 (by omega))
    obtain ⟨s1, s2, s3, s4⟩ := s_dawn hA hB hC hD eP eP2 eT
    refine z_eqj ZC 859 dL_law_399 (by decide) (by omega) ?_
    refine z_ws (ws2 := (lW K h x ato an ac xu xf xv hm am To Ne ((upf Cr.1 0 Pl_387), Cr.2) ((upf U.1 8 Th_387), U.2) aqu Nqu Squ f F2_387 V aqt Nqt Sqt ((upf M.1 13 Pl_396), M.2) ++ lgW K hs ag Lg nr)) rfl (z_lv (lv2 := [(0, .ref b), (1, .ref h), (2, .ref hm), (3, vZ i)]) ⟨rfl, rfl, rfl, rfl, trivial⟩ ?_)
    refine jn_859 To Ne ((upf Cr.1 0 Pl_387), Cr.2) ((upf U.1 8 Th_387), U.2) aqu Nqu Squ f F2_387 V aqt Nqt Sqt ((upf M.1 13 Pl_396), M.2) hs ag Lg nr (gv + 0 + 0) (gw + 0 + 0) A Cq C ?_ ?_ ?_ ?_ ?_ ?_
    · skip
      exact s1
    · skip
      exact s2
    · skip
      rw [eF]; exact s3
    · skip
      exact s4
    · skip
      exact hE
    · skip
      unfold LgF
      omega
  · skip
    obtain ⟨-, ev, eP, eT, eF⟩ := hv_387.resolve_left (fun q => hk q.1)
    obtain ⟨-, ev2, eP2⟩ := hv_396.resolve_left (fun q => hk (by have q1 := q.1; omega))
    refine z_eqj ZC 859 dL_law_399 (by decide) (by omega) ?_
    refine z_ws (ws2 := (lW K h x ato an ac xu xf xv hm am To Ne ((upf Cr.1 0 Pl_387), Cr.2) ((upf U.1 8 Th_387), U.2) aqu Nqu Squ f F2_387 V aqt Nqt Sqt ((upf M.1 13 Pl_396), M.2) ++ lgW K hs ag Lg nr)) rfl (z_lv (lv2 := [(0, .ref b), (1, .ref h), (2, .ref hm), (3, vZ i)]) ⟨rfl, rfl, rfl, rfl, trivial⟩ ?_)
    refine jn_859 To Ne ((upf Cr.1 0 Pl_387), Cr.2) ((upf U.1 8 Th_387), U.2) aqu Nqu Squ f F2_387 V aqt Nqt Sqt ((upf M.1 13 Pl_396), M.2) hs ag Lg nr (gv + 0 + 0) (gw + 0 + 0) A Cq C ?_ ?_ ?_ ?_ ?_ ?_
    · skip
      rw [eP, bd_same]; exact hA
    · skip
      rw [eP, bd_same]; exact hB
    · skip
      rw [eP, eT, eF, bd_same, bd_same]; exact hC
    · skip
      rw [eP, eP2, bd_same, bd_same]; exact hD
    · skip
      rw [eP2, bd_same]; exact hE
    · skip
      unfold LgF
      omega

set_option maxHeartbeats 4000000 in
set_option maxRecDepth 100000 in
theorem lw_hold {zp : Program} {zl : Launch} {ze : Env} {zR : Room} {zs : State} {zm : MethodId} {zargs : Array Value} {zbelow : List Frame} {zmeth : Method} {zc : Code} {D : va_G} {K : tyK} {zA : Nat → Prop} {zQ : State → Prop} {b L : Nat} {xs : Nat → Int32} (ZC : Zc zp zs zm zargs zc D K zA 4 cL_law RL) (hX : va_X b L xs zs zs.heap) (hbl : b < zs.heap.size) (hbA : ¬ zA b) (hL : L ≤ 2560) (hRf : zR.frames = 10) (hRc : zR.cells = 600000) (hRs : zR.slots = 7302250) (hRl : zR.locals = 366) (h : Nat) (x ato an ac xu xf xv : Nat → Nat) (hm : Nat) (am : Nat → Nat) (i : Int) (jn_859 : ∀ (To : Bd) (Ne : Bd) (Cr : Bd) (U : Bd) (aqu : Nat → Nat) (Nqu : Nat) (Squ : Bd) (f : Nat → Option Nat) (F : Bd) (V : Bd) (aqt : Nat → Nat) (Nqt : Nat) (Sqt : Bd) (M : Bd) (hs : Nat → Nat) (ag : Nat → Nat → Nat) (Lg : Nat → Bd) (nr : Nat) (gv : Nat) (gw : Nat) (A : Ab) (Cq : Int → List Pt3) (C : Int → List Pt3), LgA To Ne Cr → LgB Ne Cr A → LgC To Ne Cr U Nqu Squ F Nqt A Cq → LgD To Ne Cr A M C → LgE Ne f M hs Lg nr A → LgF Nqu Nqt nr gv gw → Zw zp zl ze zR zs zm zargs zbelow zmeth zc D zA 4 zQ gv gw (lW K h x ato an ac xu xf xv hm am To Ne Cr U aqu Nqu Squ f F V aqt Nqt Sqt M ++ lgW K hs ag Lg nr) 859 [(0, .ref b), (1, .ref h), (2, .ref hm), (3, vZ i)] []) (To : Bd) (Ne : Bd) (Cr : Bd) (U : Bd) (aqu : Nat → Nat) (Nqu : Nat) (Squ : Bd) (f : Nat → Option Nat) (F : Bd) (V : Bd) (aqt : Nat → Nat) (Nqt : Nat) (Sqt : Bd) (M : Bd) (hs : Nat → Nat) (ag : Nat → Nat → Nat) (Lg : Nat → Bd) (nr : Nat) (gv : Nat) (gw : Nat) (A : Ab) (Cq : Int → List Pt3) (C : Int → List Pt3) (hA : LgA To Ne Cr) (hB : LgB Ne Cr A) (hC : LgC To Ne Cr U Nqu Squ F Nqt A Cq) (hD : LgD To Ne Cr A M C) (hE : LgE Ne f M hs Lg nr A) (hF : LgF Nqu Nqt nr gv gw) (hi : 0 ≤ i ∧ i + 5 ≤ (L : Int))  : Zw zp zl ze zR zs zm zargs zbelow zmeth zc D zA 4 zQ gv gw (lW K h x ato an ac xu xf xv hm am To Ne Cr U aqu Nqu Squ f F V aqt Nqt Sqt M ++ lgW K hs ag Lg nr) 404 [(0, .ref b), (1, .ref h), (2, .ref hm), (3, vZ i)] [] := by
  obtain ⟨a1, a2, a3, a4, a5, a6, a7, a8⟩ := id hA
  obtain ⟨b1, b2, b3, b4, b5, b6⟩ := id hB
  obtain ⟨c1, c2, c3, c4⟩ := id hC
  obtain ⟨d1, d2, d3, d4⟩ := id hD
  obtain ⟨e1, e2, e3, e4⟩ := id hE
  obtain ⟨hf1, hf2⟩ := id hF
  have hne := a1.1
  have hcr := a1.2.1
  have hls := nw_ls a2
  have enw : U.2 12 = A.2.1 0 := c1.2.2.2.2.1.1
  have hnw0 := b1.2.1
  have m0 : M.2 0 = To.2 3 := d1.1.1
  have m3 : M.2 3 = To.2 2 := d1.1.2.1
  have m4 : M.2 4 = Ne.2 8 := d1.2.1.1
  have m12 : M.2 12 = Cr.2 3 := d1.2.2.1
  have m20 : M.2 20 = A.2.1 0 := d2.2.2.2.1
  have hG1 := lo_rng c1.1
  have hpr1 := pw_rng c3
  have hus0 := mx_us d2 a1 b1
  have hmn := m11 d1.2.1 a2
  have hx1 := xz_rng xs (i + 1)
  have hx2 := xz_rng xs (i + 2)
  have hx3 := xz_rng xs (i + 3)
  have hx4 := xz_rng xs (i + 4)
  have hnr := e1.1
  have hq : ∀ c : Int, 0 ≤ c → c < Cr.2 3 → (M.1 28 c = 0 ↔ ¬ U.1 5 c < U.2 12) ∧ U.1 5 c = A.1 0 c := by
    intro c p q
    have g1 := (c1.2.2.1 c p (by omega)).1
    have g2 := (d2.1.2.2.1 c p (by omega)).1
    have g3 := (b1.2.2.1 c p q).2
    have g4 := b4 c p (by omega)
    rw [g1, g2, enw]
    omega
  refine z_aload_n ZC 1 dL_law_404 rfl rfl ?_
  refine z_aload_n ZC 0 dL_law_405 rfl rfl ?_
  refine z_iload_n ZC 3 dL_law_406 rfl rfl ?_
  refine z_iconst ZC dL_law_407 ?_
  refine z_iadd ZC dL_law_408 ?_
  refine z_sld ZC hX hbl hbA dL_law_409 (by omega) ?_
  refine z_aload_n ZC 0 dL_law_410 rfl rfl ?_
  refine z_iload_n ZC 3 dL_law_411 rfl rfl ?_
  refine z_iconst ZC dL_law_412 ?_
  refine z_iadd ZC dL_law_413 ?_
  refine z_sld ZC hX hbl hbA dL_law_414 (by omega) ?_
  refine z_callV ZC 2 (c_X7_hold zl D K h x ac Cr xu U xf F (xz xs (i + 1)) (xz xs (i + 2)) (by omega) (by omega) (by omega) (by omega) (fun c p q => by rw [(c1.2.2.1 c p (by omega)).1]; exact (b1.2.2.1 c p q).1)) (gdV uM_L_51 uI_X7_hold uS_X7_hold uN_X7 uC_X7_hold) (by decide +kernel) rfl ⟨by omega, by omega⟩ ⟨by omega, by omega⟩ (Nat.le_of_ble_eq_true rfl) [0, 13, 14, 15, 16, 17, 18, 19, 20, 21, 22, 23, 24, 34, 35, 36, 37] rfl (by decide) rfl rfl rfl rfl dL_law_415 (fun r w2 gc_415 gs_415 hp => ?_)
  obtain ⟨U2_415, F2_415, v_415, rfl, rfl, rfl, rfl, hv_415⟩ := hp
  refine z_ws (ws2 := (lW K h x ato an ac xu xf xv hm am To Ne Cr U2_415 aqu Nqu Squ f F2_415 V aqt Nqt Sqt M ++ lgW K hs ag Lg nr)) ((rep_pre (is := [0, 13, 14, 15, 16, 17, 18, 19, 20, 21, 22, 23, 24, 34, 35, 36, 37]) (pre := (lW K h x ato an ac xu xf xv hm am To Ne Cr U aqu Nqu Squ f F V aqt Nqt Sqt M)) (w1 := ((wSh h x) ++ (wCr K (x 2) ac Cr) ++ (wTr K (x 3) (upf (upf (upf xu 0 (x 0)) 1 (x 1)) 2 (x 2)) U) ++ (wFo K (x 5) (upf xf 0 (x 3)) F))) rfl (Nat.le_of_ble_eq_true rfl)).trans rfl) ?_
  refine z_st (st2 := [vZ v_415]) rfl ?_
  refine z_aload_n ZC 2 dL_law_418 rfl rfl ?_
  refine z_aload_n ZC 0 dL_law_419 rfl rfl ?_
  refine z_iload_n ZC 3 dL_law_420 rfl rfl ?_
  refine z_iconst ZC dL_law_421 ?_
  refine z_iadd ZC dL_law_422 ?_
  refine z_sld ZC hX hbl hbA dL_law_423 (by omega) ?_
  refine z_aload_n ZC 0 dL_law_424 rfl rfl ?_
  refine z_iload_n ZC 3 dL_law_425 rfl rfl ?_
  refine z_iconst ZC dL_law_426 ?_
  refine z_iadd ZC dL_law_427 ?_
  refine z_sld ZC hX hbl hbA dL_law_428 (by omega) ?_
  refine z_callV ZC 2 (c_X8_hold zl D K hm am M (xz xs (i + 1)) (xz xs (i + 2)) (by omega) (by omega) (by omega) (by omega) (fun c p q => mx_off d2 b4 c p (by omega))) (gdV uM_L_54 uI_X8_hold uS_X8_hold uN_X8 uC_X8_hold) (by decide +kernel) rfl ⟨by omega, by omega⟩ ⟨by omega, by omega⟩ (Nat.le_of_ble_eq_true rfl) [54, 55, 56, 57, 58, 59, 60, 61, 62, 63, 64, 65, 66, 67, 68, 69, 70, 71, 72, 73, 74, 75, 76, 77, 78, 79, 80, 81, 82, 83, 84, 85] rfl (by decide) rfl rfl rfl rfl dL_law_429 (fun r w2 gc_429 gs_429 hp => ?_)
  obtain ⟨M2_429, v_429, rfl, rfl, rfl, rfl, hv_429⟩ := hp
  refine z_ws (ws2 := (lW K h x ato an ac xu xf xv hm am To Ne Cr U2_415 aqu Nqu Squ f F2_415 V aqt Nqt Sqt M2_429 ++ lgW K hs ag Lg nr)) ((rep_pre (is := [54, 55, 56, 57, 58, 59, 60, 61, 62, 63, 64, 65, 66, 67, 68, 69, 70, 71, 72, 73, 74, 75, 76, 77, 78, 79, 80, 81, 82, 83, 84, 85]) (pre := (lW K h x ato an ac xu xf xv hm am To Ne Cr U2_415 aqu Nqu Squ f F2_415 V aqt Nqt Sqt M)) (w1 := (wMo K hm am M)) rfl (Nat.le_of_ble_eq_true rfl)).trans rfl) ?_
  refine z_st (st2 := [vZ v_429, vZ v_415]) rfl ?_
  by_cases hk : (0 ≤ (xz xs (i + 1)) ∧ (xz xs (i + 1)) < Cr.2 3) ∧ ¬ U.1 5 (xz xs (i + 1)) < U.2 12 ∧ (U.2 12 ≤ (xz xs (i + 2)) ∧ (xz xs (i + 2)) ≤ 199)
  · skip
    obtain ⟨-, ev, eU, eF⟩ := hv_415.resolve_right (fun q => q.1 hk)
    obtain ⟨-, ev2, eM⟩ := hv_429.resolve_right (fun q => q.1 (by have hq1 := hq (xz xs (i + 1)) hk.1.1 hk.1.2; omega))
    have hq1 := hq (xz xs (i + 1)) hk.1.1 hk.1.2
    obtain ⟨s2, s3, s4⟩ := s_hold (cw := (xz xs (i + 1))) (hr := (xz xs (i + 2))) hA hB hC hD (by omega)
    refine z_eqj ZC 859 dL_law_432 (by decide) (by omega) ?_
    refine z_ws (ws2 := (lW K h x ato an ac xu xf xv hm am To Ne Cr U2_415 aqu Nqu Squ f F2_415 V aqt Nqt Sqt M2_429 ++ lgW K hs ag Lg nr)) rfl (z_lv (lv2 := [(0, .ref b), (1, .ref h), (2, .ref hm), (3, vZ i)]) ⟨rfl, rfl, rfl, rfl, trivial⟩ ?_)
    refine jn_859 To Ne Cr U2_415 aqu Nqu Squ f F2_415 V aqt Nqt Sqt M2_429 hs ag Lg nr (gv + 0 + 0) (gw + 0 + 0) (aI A 0 (upz (A.1 0) (xz xs (i + 1)) (xz xs (i + 2)))) Cq C ?_ ?_ ?_ ?_ ?_ ?_
    · skip
      exact hA
    · skip
      exact s2
    · skip
      rw [eU, eF]; exact s3
    · skip
      rw [eM]; exact s4
    · skip
      rw [eM]; exact hE
    · skip
      unfold LgF
      omega
  · skip
    obtain ⟨-, ev, eU, eF⟩ := hv_415.resolve_left (fun q => hk q.1)
    obtain ⟨-, ev2, eM⟩ := hv_429.resolve_left (fun q => hk (by have q1 := q.1; have hq1 := hq (xz xs (i + 1)) (by omega) (by omega); omega))
    refine z_eqj ZC 859 dL_law_432 (by decide) (by omega) ?_
    refine z_ws (ws2 := (lW K h x ato an ac xu xf xv hm am To Ne Cr U2_415 aqu Nqu Squ f F2_415 V aqt Nqt Sqt M2_429 ++ lgW K hs ag Lg nr)) rfl (z_lv (lv2 := [(0, .ref b), (1, .ref h), (2, .ref hm), (3, vZ i)]) ⟨rfl, rfl, rfl, rfl, trivial⟩ ?_)
    refine jn_859 To Ne Cr U2_415 aqu Nqu Squ f F2_415 V aqt Nqt Sqt M2_429 hs ag Lg nr (gv + 0 + 0) (gw + 0 + 0) A Cq C ?_ ?_ ?_ ?_ ?_ ?_
    · skip
      exact hA
    · skip
      exact hB
    · skip
      rw [eU, eF]; exact hC
    · skip
      rw [eM]; exact hD
    · skip
      rw [eM]; exact hE
    · skip
      unfold LgF
      omega

set_option maxHeartbeats 4000000 in
set_option maxRecDepth 100000 in
theorem lw_shut {zp : Program} {zl : Launch} {ze : Env} {zR : Room} {zs : State} {zm : MethodId} {zargs : Array Value} {zbelow : List Frame} {zmeth : Method} {zc : Code} {D : va_G} {K : tyK} {zA : Nat → Prop} {zQ : State → Prop} {b L : Nat} {xs : Nat → Int32} (ZC : Zc zp zs zm zargs zc D K zA 4 cL_law RL) (hX : va_X b L xs zs zs.heap) (hbl : b < zs.heap.size) (hbA : ¬ zA b) (hL : L ≤ 2560) (hRf : zR.frames = 10) (hRc : zR.cells = 600000) (hRs : zR.slots = 7302250) (hRl : zR.locals = 366) (h : Nat) (x ato an ac xu xf xv : Nat → Nat) (hm : Nat) (am : Nat → Nat) (i : Int) (jn_859 : ∀ (To : Bd) (Ne : Bd) (Cr : Bd) (U : Bd) (aqu : Nat → Nat) (Nqu : Nat) (Squ : Bd) (f : Nat → Option Nat) (F : Bd) (V : Bd) (aqt : Nat → Nat) (Nqt : Nat) (Sqt : Bd) (M : Bd) (hs : Nat → Nat) (ag : Nat → Nat → Nat) (Lg : Nat → Bd) (nr : Nat) (gv : Nat) (gw : Nat) (A : Ab) (Cq : Int → List Pt3) (C : Int → List Pt3), LgA To Ne Cr → LgB Ne Cr A → LgC To Ne Cr U Nqu Squ F Nqt A Cq → LgD To Ne Cr A M C → LgE Ne f M hs Lg nr A → LgF Nqu Nqt nr gv gw → Zw zp zl ze zR zs zm zargs zbelow zmeth zc D zA 4 zQ gv gw (lW K h x ato an ac xu xf xv hm am To Ne Cr U aqu Nqu Squ f F V aqt Nqt Sqt M ++ lgW K hs ag Lg nr) 859 [(0, .ref b), (1, .ref h), (2, .ref hm), (3, vZ i)] []) (To : Bd) (Ne : Bd) (Cr : Bd) (U : Bd) (aqu : Nat → Nat) (Nqu : Nat) (Squ : Bd) (f : Nat → Option Nat) (F : Bd) (V : Bd) (aqt : Nat → Nat) (Nqt : Nat) (Sqt : Bd) (M : Bd) (hs : Nat → Nat) (ag : Nat → Nat → Nat) (Lg : Nat → Bd) (nr : Nat) (gv : Nat) (gw : Nat) (A : Ab) (Cq : Int → List Pt3) (C : Int → List Pt3) (hA : LgA To Ne Cr) (hB : LgB Ne Cr A) (hC : LgC To Ne Cr U Nqu Squ F Nqt A Cq) (hD : LgD To Ne Cr A M C) (hE : LgE Ne f M hs Lg nr A) (hF : LgF Nqu Nqt nr gv gw) (hi : 0 ≤ i ∧ i + 5 ≤ (L : Int))  : Zw zp zl ze zR zs zm zargs zbelow zmeth zc D zA 4 zQ gv gw (lW K h x ato an ac xu xf xv hm am To Ne Cr U aqu Nqu Squ f F V aqt Nqt Sqt M ++ lgW K hs ag Lg nr) 437 [(0, .ref b), (1, .ref h), (2, .ref hm), (3, vZ i)] [] := by
  obtain ⟨a1, a2, a3, a4, a5, a6, a7, a8⟩ := id hA
  obtain ⟨b1, b2, b3, b4, b5, b6⟩ := id hB
  obtain ⟨c1, c2, c3, c4⟩ := id hC
  obtain ⟨d1, d2, d3, d4⟩ := id hD
  obtain ⟨e1, e2, e3, e4⟩ := id hE
  obtain ⟨hf1, hf2⟩ := id hF
  have hne := a1.1
  have hcr := a1.2.1
  have hls := nw_ls a2
  have enw : U.2 12 = A.2.1 0 := c1.2.2.2.2.1.1
  have hnw0 := b1.2.1
  have m0 : M.2 0 = To.2 3 := d1.1.1
  have m3 : M.2 3 = To.2 2 := d1.1.2.1
  have m4 : M.2 4 = Ne.2 8 := d1.2.1.1
  have m12 : M.2 12 = Cr.2 3 := d1.2.2.1
  have m20 : M.2 20 = A.2.1 0 := d2.2.2.2.1
  have hG1 := lo_rng c1.1
  have hpr1 := pw_rng c3
  have hus0 := mx_us d2 a1 b1
  have hmn := m11 d1.2.1 a2
  have hx1 := xz_rng xs (i + 1)
  have hx2 := xz_rng xs (i + 2)
  have hx3 := xz_rng xs (i + 3)
  have hx4 := xz_rng xs (i + 4)
  have hnr := e1.1
  refine z_aload_n ZC 1 dL_law_437 rfl rfl ?_
  refine z_aload_n ZC 0 dL_law_438 rfl rfl ?_
  refine z_iload_n ZC 3 dL_law_439 rfl rfl ?_
  refine z_iconst ZC dL_law_440 ?_
  refine z_iadd ZC dL_law_441 ?_
  refine z_sld ZC hX hbl hbA dL_law_442 (by omega) ?_
  refine z_aload_n ZC 0 dL_law_443 rfl rfl ?_
  refine z_iload_n ZC 3 dL_law_444 rfl rfl ?_
  refine z_iconst ZC dL_law_445 ?_
  refine z_iadd ZC dL_law_446 ?_
  refine z_sld ZC hX hbl hbA dL_law_447 (by omega) ?_
  refine z_aload_n ZC 0 dL_law_448 rfl rfl ?_
  refine z_iload_n ZC 3 dL_law_449 rfl rfl ?_
  refine z_iconst ZC dL_law_450 ?_
  refine z_iadd ZC dL_law_451 ?_
  refine z_sld ZC hX hbl hbA dL_law_452 (by omega) ?_
  refine z_callV ZC 3 (c_X7_shut zl D K h x an Ne xu U xf F (xz xs (i + 1)) (xz xs (i + 2)) (xz xs (i + 3)) (by omega) (by omega) (by omega) (by omega) (by omega)) (gdV uM_L_55 uI_X7_shut uS_X7_shut uN_X7 uC_X7_shut) (by decide +kernel) rfl ⟨by omega, by omega⟩ ⟨by omega, by omega⟩ (Nat.le_of_ble_eq_true rfl) [0, 4, 5, 6, 7, 8, 9, 10, 11, 12, 17, 18, 19, 20, 21, 22, 23, 24, 34, 35, 36, 37] rfl (by decide) rfl rfl rfl rfl dL_law_453 (fun r w2 gc_453 gs_453 hp => ?_)
  obtain ⟨Ne2_453, F2_453, v_453, rfl, rfl, rfl, rfl, hv_453⟩ := hp
  refine z_ws (ws2 := (lW K h x ato an ac xu xf xv hm am To Ne2_453 Cr U aqu Nqu Squ f F2_453 V aqt Nqt Sqt M ++ lgW K hs ag Lg nr)) ((rep_pre (is := [0, 4, 5, 6, 7, 8, 9, 10, 11, 12, 17, 18, 19, 20, 21, 22, 23, 24, 34, 35, 36, 37]) (pre := (lW K h x ato an ac xu xf xv hm am To Ne Cr U aqu Nqu Squ f F V aqt Nqt Sqt M)) (w1 := ((wSh h x) ++ (wNe K (x 1) an Ne) ++ (wTr K (x 3) (upf (upf (upf xu 0 (x 0)) 1 (x 1)) 2 (x 2)) U) ++ (wFo K (x 5) (upf xf 0 (x 3)) F))) rfl (Nat.le_of_ble_eq_true rfl)).trans rfl) ?_
  refine z_st (st2 := [vZ v_453]) rfl ?_
  refine z_aload_n ZC 2 dL_law_456 rfl rfl ?_
  refine z_aload_n ZC 0 dL_law_457 rfl rfl ?_
  refine z_iload_n ZC 3 dL_law_458 rfl rfl ?_
  refine z_iconst ZC dL_law_459 ?_
  refine z_iadd ZC dL_law_460 ?_
  refine z_sld ZC hX hbl hbA dL_law_461 (by omega) ?_
  refine z_aload_n ZC 0 dL_law_462 rfl rfl ?_
  refine z_iload_n ZC 3 dL_law_463 rfl rfl ?_
  refine z_iconst ZC dL_law_464 ?_
  refine z_iadd ZC dL_law_465 ?_
  refine z_sld ZC hX hbl hbA dL_law_466 (by omega) ?_
  refine z_aload_n ZC 0 dL_law_467 rfl rfl ?_
  refine z_iload_n ZC 3 dL_law_468 rfl rfl ?_
  refine z_iconst ZC dL_law_469 ?_
  refine z_iadd ZC dL_law_470 ?_
  refine z_sld ZC hX hbl hbA dL_law_471 (by omega) ?_
  refine z_callV ZC 3 (c_X8_shut zl D K hm am M (xz xs (i + 1)) (xz xs (i + 2)) (xz xs (i + 3)) (by omega) (by omega) (by omega) (by omega) (by omega)) (gdV uM_L_59 uI_X8_shut uS_X8_shut uN_X8 uC_X8_shut) (by decide +kernel) rfl ⟨by omega, by omega⟩ ⟨by omega, by omega⟩ (Nat.le_of_ble_eq_true rfl) [54, 55, 56, 57, 58, 59, 60, 61, 62, 63, 64, 65, 66, 67, 68, 69, 70, 71, 72, 73, 74, 75, 76, 77, 78, 79, 80, 81, 82, 83, 84, 85] rfl (by decide) rfl rfl rfl rfl dL_law_472 (fun r w2 gc_472 gs_472 hp => ?_)
  obtain ⟨M2_472, v_472, rfl, rfl, rfl, rfl, hv_472⟩ := hp
  refine z_ws (ws2 := (lW K h x ato an ac xu xf xv hm am To Ne2_453 Cr U aqu Nqu Squ f F2_453 V aqt Nqt Sqt M2_472 ++ lgW K hs ag Lg nr)) ((rep_pre (is := [54, 55, 56, 57, 58, 59, 60, 61, 62, 63, 64, 65, 66, 67, 68, 69, 70, 71, 72, 73, 74, 75, 76, 77, 78, 79, 80, 81, 82, 83, 84, 85]) (pre := (lW K h x ato an ac xu xf xv hm am To Ne2_453 Cr U aqu Nqu Squ f F2_453 V aqt Nqt Sqt M)) (w1 := (wMo K hm am M)) rfl (Nat.le_of_ble_eq_true rfl)).trans rfl) ?_
  refine z_st (st2 := [vZ v_472, vZ v_453]) rfl ?_
  by_cases hk : (0 ≤ (xz xs (i + 1)) ∧ (xz xs (i + 1)) < Ne.2 8) ∧ U.2 12 ≤ (xz xs (i + 2)) ∧ (xz xs (i + 2)) < (xz xs (i + 3))
  · skip
    obtain ⟨-, ev, eN, eF⟩ := hv_453.resolve_right (fun q => q.1 hk)
    obtain ⟨-, ev2, eM⟩ := hv_472.resolve_right (fun q => q.1 (by omega))
    obtain ⟨s1, s2, s3, s4⟩ := s_shut (rd := (xz xs (i + 1))) (fr := (xz xs (i + 2))) (tt := (xz xs (i + 3))) hA hB hC hD hx2.2 hx3.2 (by omega)
    refine z_eqj ZC 859 dL_law_475 (by decide) (by omega) ?_
    refine z_ws (ws2 := (lW K h x ato an ac xu xf xv hm am To Ne2_453 Cr U aqu Nqu Squ f F2_453 V aqt Nqt Sqt M2_472 ++ lgW K hs ag Lg nr)) rfl (z_lv (lv2 := [(0, .ref b), (1, .ref h), (2, .ref hm), (3, vZ i)]) ⟨rfl, rfl, rfl, rfl, trivial⟩ ?_)
    refine jn_859 To Ne2_453 Cr U aqu Nqu Squ f F2_453 V aqt Nqt Sqt M2_472 hs ag Lg nr (gv + 0 + 0) (gw + 0 + 0) A Cq C ?_ ?_ ?_ ?_ ?_ ?_
    · skip
      rw [eN]; exact s1
    · skip
      rw [eN]; exact s2
    · skip
      rw [eN, eF]; exact s3
    · skip
      rw [eN, eM]; exact s4
    · skip
      rw [eN, eM]; exact hE
    · skip
      unfold LgF
      omega
  · skip
    obtain ⟨-, ev, eN, eF⟩ := hv_453.resolve_left (fun q => hk q.1)
    obtain ⟨-, ev2, eM⟩ := hv_472.resolve_left (fun q => hk (by have q1 := q.1; omega))
    refine z_eqj ZC 859 dL_law_475 (by decide) (by omega) ?_
    refine z_ws (ws2 := (lW K h x ato an ac xu xf xv hm am To Ne2_453 Cr U aqu Nqu Squ f F2_453 V aqt Nqt Sqt M2_472 ++ lgW K hs ag Lg nr)) rfl (z_lv (lv2 := [(0, .ref b), (1, .ref h), (2, .ref hm), (3, vZ i)]) ⟨rfl, rfl, rfl, rfl, trivial⟩ ?_)
    refine jn_859 To Ne2_453 Cr U aqu Nqu Squ f F2_453 V aqt Nqt Sqt M2_472 hs ag Lg nr (gv + 0 + 0) (gw + 0 + 0) A Cq C ?_ ?_ ?_ ?_ ?_ ?_
    · skip
      rw [eN]; exact hA
    · skip
      rw [eN]; exact hB
    · skip
      rw [eN, eF]; exact hC
    · skip
      rw [eN, eM]; exact hD
    · skip
      rw [eN, eM]; exact hE
    · skip
      unfold LgF
      omega

