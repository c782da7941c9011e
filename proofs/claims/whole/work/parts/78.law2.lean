/-! ===== the law: call by call (2) ===== -/
set_option maxHeartbeats 4000000 in
set_option maxRecDepth 100000 in
theorem lw_go {zp : Program} {zl : Launch} {ze : Env} {zR : Room} {zs : State} {zm : MethodId} {zargs : Array Value} {zbelow : List Frame} {zmeth : Method} {zc : Code} {D : va_G} {K : tyK} {zA : Nat → Prop} {zQ : State → Prop} {b L : Nat} {xs : Nat → Int32} (ZC : Zc zp zs zm zargs zc D K zA 4 cL_law RL) (hX : va_X b L xs zs zs.heap) (hbl : b < zs.heap.size) (hbA : ¬ zA b) (hL : L ≤ 2560) (hRf : zR.frames = 10) (hRc : zR.cells = 600000) (hRs : zR.slots = 7302250) (hRl : zR.locals = 366) (h : Nat) (x ato an ac xu xf xv : Nat → Nat) (hm : Nat) (am : Nat → Nat) (i : Int) (jn_859 : ∀ (To : Bd) (Ne : Bd) (Cr : Bd) (U : Bd) (aqu : Nat → Nat) (Nqu : Nat) (Squ : Bd) (f : Nat → Option Nat) (F : Bd) (V : Bd) (aqt : Nat → Nat) (Nqt : Nat) (Sqt : Bd) (M : Bd) (hs : Nat → Nat) (ag : Nat → Nat → Nat) (Lg : Nat → Bd) (nr : Nat) (gv : Nat) (gw : Nat) (A : Ab) (Cq : Int → List Pt3) (C : Int → List Pt3), LgA To Ne Cr → LgB Ne Cr A → LgC To Ne Cr U Nqu Squ F Nqt A Cq → LgD To Ne Cr A M C → LgE Ne f M hs Lg nr A → LgF Nqu Nqt nr gv gw → Zw zp zl ze zR zs zm zargs zbelow zmeth zc D zA 4 zQ gv gw (lW K h x ato an ac xu xf xv hm am To Ne Cr U aqu Nqu Squ f F V aqt Nqt Sqt M ++ lgW K hs ag Lg nr) 859 [(0, .ref b), (1, .ref h), (2, .ref hm), (3, vZ i)] []) (To : Bd) (Ne : Bd) (Cr : Bd) (U : Bd) (aqu : Nat → Nat) (Nqu : Nat) (Squ : Bd) (f : Nat → Option Nat) (F : Bd) (V : Bd) (aqt : Nat → Nat) (Nqt : Nat) (Sqt : Bd) (M : Bd) (hs : Nat → Nat) (ag : Nat → Nat → Nat) (Lg : Nat → Bd) (nr : Nat) (gv : Nat) (gw : Nat) (A : Ab) (Cq : Int → List Pt3) (C : Int → List Pt3) (hA : LgA To Ne Cr) (hB : LgB Ne Cr A) (hC : LgC To Ne Cr U Nqu Squ F Nqt A Cq) (hD : LgD To Ne Cr A M C) (hE : LgE Ne f M hs Lg nr A) (hF : LgF Nqu Nqt nr gv gw) (hi : 0 ≤ i ∧ i + 5 ≤ (L : Int))  : Zw zp zl ze zR zs zm zargs zbelow zmeth zc D zA 4 zQ gv gw (lW K h x ato an ac xu xf xv hm am To Ne Cr U aqu Nqu Squ f F V aqt Nqt Sqt M ++ lgW K hs ag Lg nr) 480 [(0, .ref b), (1, .ref h), (2, .ref hm), (3, vZ i)] [] := by
  obtain ⟨a1, a2, a3, a4, a5, a6, a7, a8⟩ := id hA
  obtain ⟨b1, b2, b3, b4, b5, b6⟩ := id hB
  obtain ⟨c1, c2, c3, c4⟩ := id hC
  obtain ⟨d1, d2, d3, d4⟩ := id hD
  obtain ⟨e1, e2, e3, e4⟩ := id hE
  obtain ⟨hf1, hf2⟩ := id hF
  have hne := a1.1
  have hcr := a1.2.1
  have hls := nw_ls a2
  have enw : U.2 12 = A.2.1 0 := c1.2.2.2.2.1.1
  have hnw0 := b1.2.1
  have m0 : M.2 0 = To.2 3 := d1.1.1
  have m3 : M.2 3 = To.2 2 := d1.1.2.1
  have m4 : M.2 4 = Ne.2 8 := d1.2.1.1
  have m12 : M.2 12 = Cr.2 3 := d1.2.2.1
  have m20 : M.2 20 = A.2.1 0 := d2.2.2.2.1
  have hG1 := lo_rng c1.1
  have hpr1 := pw_rng c3
  have hus0 := mx_us d2 a1 b1
  have hmn := m11 d1.2.1 a2
  have hx1 := xz_rng xs (i + 1)
  have hx2 := xz_rng xs (i + 2)
  have hx3 := xz_rng xs (i + 3)
  have hx4 := xz_rng xs (i + 4)
  have hnr := e1.1
  refine z_aload_n ZC 1 dL_law_480 rfl rfl ?_
  refine z_aload_n ZC 0 dL_law_481 rfl rfl ?_
  refine z_iload_n ZC 3 dL_law_482 rfl rfl ?_
  refine z_iconst ZC dL_law_483 ?_
  refine z_iadd ZC dL_law_484 ?_
  refine z_sld ZC hX hbl hbA dL_law_485 (by omega) ?_
  have hbm_486 : ([0, 1, 2, 3, 4, 5, 6, 7, 8, 9, 10, 11, 12, 13, 14, 15, 16, 17, 18, 19, 20, 21, 22, 23, 24, 25, 26, 27, 28, 29, 30, 31, 32, 33, 34, 35, 36, 37] : List Nat).map (fun k => ((lW K h x ato an ac xu xf xv hm am To Ne Cr U aqu Nqu Squ f F V aqt Nqt Sqt M) : va_W)[k]?) = (((wSh h x) ++ (wTo K (x 0) ato To) ++ (wNe K (x 1) an Ne) ++ (wCr K (x 2) ac Cr) ++ (wTr K (x 3) (upf (upf (upf xu 0 (x 0)) 1 (x 1)) 2 (x 2)) U) ++ (wLn K (xu 3) aqu Nqu Squ) ++ (wLA K (x 4) f) ++ (wFo K (x 5) (upf xf 0 (x 3)) F)) : va_W).map some := rfl
  refine z_callV ZC 1 (c_X7_go zl D K h x ato To an Ne ac Cr xu U aqu Nqu Squ f xf F hs ag Lg nr 3300 Cq A (xz xs (i + 1)) (by omega) (a1) (a3) (b1) (b2) (c1) (c2) (⟨Nat.le_of_ble_eq_true rfl, Nat.le_of_ble_eq_true rfl⟩) (e1.1) (e1.2) (c4)) (gdV uM_L_60 uI_X7_go uS_X7_go uN_X7 uC_X7_go) (by decide +kernel) rfl ⟨by omega, by omega⟩ ⟨by omega, by omega⟩ (Nat.le_of_ble_eq_true rfl) ([0, 1, 2, 3, 4, 5, 6, 7, 8, 9, 10, 11, 12, 13, 14, 15, 16, 17, 18, 19, 20, 21, 22, 23, 24, 25, 26, 27, 28, 29, 30, 31, 32, 33, 34, 35, 36, 37] ++ List.range' 86 (4 * nr)) (blk_map hbm_486 rfl (lgW_len _ _ _ _ _).symm) (blk_nd hbm_486 (by decide) rfl) rfl rfl rfl rfl dL_law_486 (fun r w2 gc_486 gs_486 hp => ?_)
  obtain ⟨U2_486, aqu2_486, Nqu2_486, Squ2_486, F2_486, Lg2_486, v_486, Cq2_486, rfl, rfl, hv_486, hT2_486, hpb2_486, hab2_486, hF2_486, hL2_486, hN_486, hgc_486, hgs_486⟩ := hp
  refine z_ws (ws2 := (lW K h x ato an ac xu xf xv hm am To Ne Cr U2_486 aqu2_486 Nqu2_486 Squ2_486 f F2_486 V aqt Nqt Sqt M ++ lgW K hs ag Lg2_486 nr)) ((blk_rep (w2 := ((wSh h x) ++ (wTo K (x 0) ato To) ++ (wNe K (x 1) an Ne) ++ (wCr K (x 2) ac Cr) ++ (wTr K (x 3) (upf (upf (upf xu 0 (x 0)) 1 (x 1)) 2 (x 2)) U2_486) ++ (wLn K (xu 3) aqu2_486 Nqu2_486 Squ2_486) ++ (wLA K (x 4) f) ++ (wFo K (x 5) (upf xf 0 (x 3)) F2_486))) hbm_486 rfl (by rw [lgW_len, lgW_len]) rfl (lgW_len _ _ _ _ _).symm).trans rfl) ?_
  refine z_st (st2 := [vZ v_486]) rfl ?_
  refine z_aload_n ZC 2 dL_law_489 rfl rfl ?_
  refine z_aload_n ZC 0 dL_law_490 rfl rfl ?_
  refine z_iload_n ZC 3 dL_law_491 rfl rfl ?_
  refine z_iconst ZC dL_law_492 ?_
  refine z_iadd ZC dL_law_493 ?_
  refine z_sld ZC hX hbl hbA dL_law_494 (by omega) ?_
  refine z_callV ZC 1 (c_X8_go zl D K hm am M To Ne Cr A C Lg (xz xs (i + 1)) (by omega) (a1) (a2) (d1) (a3) (b1) (d2) (b3) (d3) (e2)) (gdV uM_L_63 uI_X8_go uS_X8_go uN_X8 uC_X8_go) (by decide +kernel) rfl ⟨by omega, by omega⟩ ⟨by omega, by omega⟩ (Nat.le_of_ble_eq_true rfl) [54, 55, 56, 57, 58, 59, 60, 61, 62, 63, 64, 65, 66, 67, 68, 69, 70, 71, 72, 73, 74, 75, 76, 77, 78, 79, 80, 81, 82, 83, 84, 85] rfl (by decide) rfl rfl rfl rfl dL_law_495 (fun r w2 gc_495 gs_495 hp => ?_)
  obtain ⟨M2_495, C2_495, v_495, rfl, rfl, rfl, rfl, hv_495, hmx2_495, har2_495, hli2_495, hlr2_495, hkp_495⟩ := hp
  refine z_ws (ws2 := (lW K h x ato an ac xu xf xv hm am To Ne Cr U2_486 aqu2_486 Nqu2_486 Squ2_486 f F2_486 V aqt Nqt Sqt M2_495 ++ lgW K hs ag Lg2_486 nr)) ((rep_pre (is := [54, 55, 56, 57, 58, 59, 60, 61, 62, 63, 64, 65, 66, 67, 68, 69, 70, 71, 72, 73, 74, 75, 76, 77, 78, 79, 80, 81, 82, 83, 84, 85]) (pre := (lW K h x ato an ac xu xf xv hm am To Ne Cr U2_486 aqu2_486 Nqu2_486 Squ2_486 f F2_486 V aqt Nqt Sqt M)) (w1 := (wMo K hm am M)) rfl (Nat.le_of_ble_eq_true rfl)).trans rfl) ?_
  refine z_st (st2 := [vZ v_495, vZ v_486]) rfl ?_
  have heq : v_486 = v_495 := by
    rcases hv_486 with z | z <;> rcases hv_495 with y | y
    · rw [z.2, y.2]
    · exact absurd z.1 y.1
    · exact absurd y.1 z.1
    · rw [z.2, y.2]
  have hgk := goK_le (n := (xz xs (i + 1))) (now := A.2.1 0) (by omega)
  refine z_eqj ZC 859 dL_law_498 (by decide) (heq) ?_
  refine z_ws (ws2 := (lW K h x ato an ac xu xf xv hm am To Ne Cr U2_486 aqu2_486 Nqu2_486 Squ2_486 f F2_486 V aqt Nqt Sqt M2_495 ++ lgW K hs ag Lg2_486 nr)) rfl (z_lv (lv2 := [(0, .ref b), (1, .ref h), (2, .ref hm), (3, vZ i)]) ⟨rfl, rfl, rfl, rfl, trivial⟩ ?_)
  refine jn_859 To Ne Cr U2_486 aqu2_486 Nqu2_486 Squ2_486 f F2_486 V aqt Nqt Sqt M2_495 hs ag Lg2_486 nr (gv + gc_486 + 0) (gw + gs_486 + 0) (aHrs To Ne Cr A (goK (xz xs (i + 1)) (A.2.1 0))) Cq2_486 C2_495 ?_ ?_ ?_ ?_ ?_ ?_
  · skip
    exact hA
  · skip
    exact s_goB hA hB hgk hab2_486.2
  · skip
    exact ⟨hT2_486, hpb2_486, c3, hF2_486⟩
  · skip
    exact lgD_keep hD hkp_495 hmx2_495 hli2_495 rfl rfl
  · skip
    exact s_goE hE hlr2_495 hL2_486 (hkp_495.1 17 rfl) hne.1
  · skip
    unfold LgF
    omega

set_option maxHeartbeats 4000000 in
set_option maxRecDepth 100000 in
theorem lw_queue {zp : Program} {zl : Launch} {ze : Env} {zR : Room} {zs : State} {zm : MethodId} {zargs : Array Value} {zbelow : List Frame} {zmeth : Method} {zc : Code} {D : va_G} {K : tyK} {zA : Nat → Prop} {zQ : State → Prop} {b L : Nat} {xs : Nat → Int32} (ZC : Zc zp zs zm zargs zc D K zA 4 cL_law RL) (hX : va_X b L xs zs zs.heap) (hbl : b < zs.heap.size) (hbA : ¬ zA b) (hL : L ≤ 2560) (hRf : zR.frames = 10) (hRc : zR.cells = 600000) (hRs : zR.slots = 7302250) (hRl : zR.locals = 366) (h : Nat) (x ato an ac xu xf xv : Nat → Nat) (hm : Nat) (am : Nat → Nat) (i : Int) (jn_859 : ∀ (To : Bd) (Ne : Bd) (Cr : Bd) (U : Bd) (aqu : Nat → Nat) (Nqu : Nat) (Squ : Bd) (f : Nat → Option Nat) (F : Bd) (V : Bd) (aqt : Nat → Nat) (Nqt : Nat) (Sqt : Bd) (M : Bd) (hs : Nat → Nat) (ag : Nat → Nat → Nat) (Lg : Nat → Bd) (nr : Nat) (gv : Nat) (gw : Nat) (A : Ab) (Cq : Int → List Pt3) (C : Int → List Pt3), LgA To Ne Cr → LgB Ne Cr A → LgC To Ne Cr U Nqu Squ F Nqt A Cq → LgD To Ne Cr A M C → LgE Ne f M hs Lg nr A → LgF Nqu Nqt nr gv gw → Zw zp zl ze zR zs zm zargs zbelow zmeth zc D zA 4 zQ gv gw (lW K h x ato an ac xu xf xv hm am To Ne Cr U aqu Nqu Squ f F V aqt Nqt Sqt M ++ lgW K hs ag Lg nr) 859 [(0, .ref b), (1, .ref h), (2, .ref hm), (3, vZ i)] []) (To : Bd) (Ne : Bd) (Cr : Bd) (U : Bd) (aqu : Nat → Nat) (Nqu : Nat) (Squ : Bd) (f : Nat → Option Nat) (F : Bd) (V : Bd) (aqt : Nat → Nat) (Nqt : Nat) (Sqt : Bd) (M : Bd) (hs : Nat → Nat) (ag : Nat → Nat → Nat) (Lg : Nat → Bd) (nr : Nat) (gv : Nat) (gw : Nat) (A : Ab) (Cq : Int → List Pt3) (C : Int → List Pt3) (hA : LgA To Ne Cr) (hB : LgB Ne Cr A) (hC : LgC To Ne Cr U Nqu Squ F Nqt A Cq) (hD : LgD To Ne Cr A M C) (hE : LgE Ne f M hs Lg nr A) (hF : LgF Nqu Nqt nr gv gw) (hi : 0 ≤ i ∧ i + 5 ≤ (L : Int))  : Zw zp zl ze zR zs zm zargs zbelow zmeth zc D zA 4 zQ gv gw (lW K h x ato an ac xu xf xv hm am To Ne Cr U aqu Nqu Squ f F V aqt Nqt Sqt M ++ lgW K hs ag Lg nr) 503 [(0, .ref b), (1, .ref h), (2, .ref hm), (3, vZ i)] [] := by
  obtain ⟨a1, a2, a3, a4, a5, a6, a7, a8⟩ := id hA
  obtain ⟨b1, b2, b3, b4, b5, b6⟩ := id hB
  obtain ⟨c1, c2, c3, c4⟩ := id hC
  obtain ⟨d1, d2, d3, d4⟩ := id hD
  obtain ⟨e1, e2, e3, e4⟩ := id hE
  obtain ⟨hf1, hf2⟩ := id hF
  have hne := a1.1
  have hcr := a1.2.1
  have hls := nw_ls a2
  have enw : U.2 12 = A.2.1 0 := c1.2.2.2.2.1.1
  have hnw0 := b1.2.1
  have m0 : M.2 0 = To.2 3 := d1.1.1
  have m3 : M.2 3 = To.2 2 := d1.1.2.1
  have m4 : M.2 4 = Ne.2 8 := d1.2.1.1
  have m12 : M.2 12 = Cr.2 3 := d1.2.2.1
  have m20 : M.2 20 = A.2.1 0 := d2.2.2.2.1
  have hG1 := lo_rng c1.1
  have hpr1 := pw_rng c3
  have hus0 := mx_us d2 a1 b1
  have hmn := m11 d1.2.1 a2
  have hx1 := xz_rng xs (i + 1)
  have hx2 := xz_rng xs (i + 2)
  have hx3 := xz_rng xs (i + 3)
  have hx4 := xz_rng xs (i + 4)
  have hnr := e1.1
  refine z_aload_n ZC 1 dL_law_503 rfl rfl ?_
  refine z_aload_n ZC 0 dL_law_504 rfl rfl ?_
  refine z_iload_n ZC 3 dL_law_505 rfl rfl ?_
  refine z_iconst ZC dL_law_506 ?_
  refine z_iadd ZC dL_law_507 ?_
  refine z_sld ZC hX hbl hbA dL_law_508 (by omega) ?_
  refine z_callV ZC 1 (c_X7_queue zl D K h x an Ne xu U aqu Nqu Squ (xz xs (i + 1)) (by omega) (by omega)) (gdV uM_L_64 uI_X7_queue uS_X7_queue uN_X7 uC_X7_queue) (by decide +kernel) rfl ⟨by omega, by omega⟩ ⟨by omega, by omega⟩ (Nat.le_of_ble_eq_true rfl) [0, 4, 5, 6, 7, 8, 9, 10, 11, 12, 17, 18, 19, 20, 21, 22, 23, 24, 25, 26, 27, 28, 29, 30, 31, 32] rfl (by decide) rfl rfl rfl rfl dL_law_509 (fun r w2 gc_509 gs_509 hp => ?_)
  obtain ⟨v_509, rfl, rfl, rfl, rfl, hv_509⟩ := hp
  refine z_ws (ws2 := (lW K h x ato an ac xu xf xv hm am To Ne Cr U aqu Nqu Squ f F V aqt Nqt Sqt M ++ lgW K hs ag Lg nr)) ((rep_pre (is := [0, 4, 5, 6, 7, 8, 9, 10, 11, 12, 17, 18, 19, 20, 21, 22, 23, 24, 25, 26, 27, 28, 29, 30, 31, 32]) (pre := (lW K h x ato an ac xu xf xv hm am To Ne Cr U aqu Nqu Squ f F V aqt Nqt Sqt M)) (w1 := ((wSh h x) ++ (wNe K (x 1) an Ne) ++ (wTr K (x 3) (upf (upf (upf xu 0 (x 0)) 1 (x 1)) 2 (x 2)) U) ++ (wLn K (xu 3) aqu Nqu Squ))) rfl (Nat.le_of_ble_eq_true rfl)).trans rfl) ?_
  refine z_st (st2 := [vZ v_509]) rfl ?_
  refine z_aload_n ZC 2 dL_law_512 rfl rfl ?_
  refine z_aload_n ZC 0 dL_law_513 rfl rfl ?_
  refine z_iload_n ZC 3 dL_law_514 rfl rfl ?_
  refine z_iconst ZC dL_law_515 ?_
  refine z_iadd ZC dL_law_516 ?_
  refine z_sld ZC hX hbl hbA dL_law_517 (by omega) ?_
  refine z_callV ZC 1 (c_X8_queue zl D K hm am M Ne Cr A C (xz xs (i + 1)) (by omega) (a1) (a2) (d1.2.1) (d1.2.2) (d2.1) (by omega) (b1.1)) (gdV uM_L_67 uI_X8_queue uS_X8_queue uN_X8 uC_X8_queue) (by decide +kernel) rfl ⟨by omega, by omega⟩ ⟨by omega, by omega⟩ (Nat.le_of_ble_eq_true rfl) [54, 55, 56, 57, 58, 59, 60, 61, 62, 63, 64, 65, 66, 67, 68, 69, 70, 71, 72, 73, 74, 75, 76, 77, 78, 79, 80, 81, 82, 83, 84, 85] rfl (by decide) rfl rfl rfl rfl dL_law_518 (fun r w2 gc_518 gs_518 hp => ?_)
  obtain ⟨v_518, rfl, rfl, rfl, rfl, hv_518⟩ := hp
  refine z_ws (ws2 := (lW K h x ato an ac xu xf xv hm am To Ne Cr U aqu Nqu Squ f F V aqt Nqt Sqt M ++ lgW K hs ag Lg nr)) ((rep_pre (is := [54, 55, 56, 57, 58, 59, 60, 61, 62, 63, 64, 65, 66, 67, 68, 69, 70, 71, 72, 73, 74, 75, 76, 77, 78, 79, 80, 81, 82, 83, 84, 85]) (pre := (lW K h x ato an ac xu xf xv hm am To Ne Cr U aqu Nqu Squ f F V aqt Nqt Sqt M)) (w1 := (wMo K hm am M)) rfl (Nat.le_of_ble_eq_true rfl)).trans rfl) ?_
  refine z_st (st2 := [vZ v_518, vZ v_509]) rfl ?_
  have heq : v_509 = v_518 := by
    by_cases hk : 0 ≤ (xz xs (i + 1)) ∧ (xz xs (i + 1)) < Ne.2 8
    · rw [(hv_509.resolve_right (fun q => q.1 hk)).2.1, (hv_518.resolve_right (fun q => q.1 hk)).2.1]
      exact (q_len c1 ⟨hk.1, by omega⟩).1
    · rw [(hv_509.resolve_left (fun q => hk q.1)).2.1, (hv_518.resolve_left (fun q => hk q.1)).2.1]
  refine z_eqj ZC 859 dL_law_521 (by decide) (heq) ?_
  refine z_ws (ws2 := (lW K h x ato an ac xu xf xv hm am To Ne Cr U aqu Nqu Squ f F V aqt Nqt Sqt M ++ lgW K hs ag Lg nr)) rfl (z_lv (lv2 := [(0, .ref b), (1, .ref h), (2, .ref hm), (3, vZ i)]) ⟨rfl, rfl, rfl, rfl, trivial⟩ ?_)
  refine jn_859 To Ne Cr U aqu Nqu Squ f F V aqt Nqt Sqt M hs ag Lg nr (gv + 0 + 0) (gw + 0 + 0) A Cq C ?_ ?_ ?_ ?_ ?_ ?_
  · skip
    exact hA
  · skip
    exact hB
  · skip
    exact hC
  · skip
    exact hD
  · skip
    exact hE
  · skip
    unfold LgF
    omega

set_option maxHeartbeats 4000000 in
set_option maxRecDepth 100000 in
theorem lw_on {zp : Program} {zl : Launch} {ze : Env} {zR : Room} {zs : State} {zm : MethodId} {zargs : Array Value} {zbelow : List Frame} {zmeth : Method} {zc : Code} {D : va_G} {K : tyK} {zA : Nat → Prop} {zQ : State → Prop} {b L : Nat} {xs : Nat → Int32} (ZC : Zc zp zs zm zargs zc D K zA 4 cL_law RL) (hX : va_X b L xs zs zs.heap) (hbl : b < zs.heap.size) (hbA : ¬ zA b) (hL : L ≤ 2560) (hRf : zR.frames = 10) (hRc : zR.cells = 600000) (hRs : zR.slots = 7302250) (hRl : zR.locals = 366) (h : Nat) (x ato an ac xu xf xv : Nat → Nat) (hm : Nat) (am : Nat → Nat) (i : Int) (jn_859 : ∀ (To : Bd) (Ne : Bd) (Cr : Bd) (U : Bd) (aqu : Nat → Nat) (Nqu : Nat) (Squ : Bd) (f : Nat → Option Nat) (F : Bd) (V : Bd) (aqt : Nat → Nat) (Nqt : Nat) (Sqt : Bd) (M : Bd) (hs : Nat → Nat) (ag : Nat → Nat → Nat) (Lg : Nat → Bd) (nr : Nat) (gv : Nat) (gw : Nat) (A : Ab) (Cq : Int → List Pt3) (C : Int → List Pt3), LgA To Ne Cr → LgB Ne Cr A → LgC To Ne Cr U Nqu Squ F Nqt A Cq → LgD To Ne Cr A M C → LgE Ne f M hs Lg nr A → LgF Nqu Nqt nr gv gw → Zw zp zl ze zR zs zm zargs zbelow zmeth zc D zA 4 zQ gv gw (lW K h x ato an ac xu xf xv hm am To Ne Cr U aqu Nqu Squ f F V aqt Nqt Sqt M ++ lgW K hs ag Lg nr) 859 [(0, .ref b), (1, .ref h), (2, .ref hm), (3, vZ i)] []) (To : Bd) (Ne : Bd) (Cr : Bd) (U : Bd) (aqu : Nat → Nat) (Nqu : Nat) (Squ : Bd) (f : Nat → Option Nat) (F : Bd) (V : Bd) (aqt : Nat → Nat) (Nqt : Nat) (Sqt : Bd) (M : Bd) (hs : Nat → Nat) (ag : Nat → Nat → Nat) (Lg : Nat → Bd) (nr : Nat) (gv : Nat) (gw : Nat) (A : Ab) (Cq : Int → List Pt3) (C : Int → List Pt3) (hA : LgA To Ne Cr) (hB : LgB Ne Cr A) (hC : LgC To Ne Cr U Nqu Squ F Nqt A Cq) (hD : LgD To Ne Cr A M C) (hE : LgE Ne f M hs Lg nr A) (hF : LgF Nqu Nqt nr gv gw) (hi : 0 ≤ i ∧ i + 5 ≤ (L : Int))  : Zw zp zl ze zR zs zm zargs zbelow zmeth zc D zA 4 zQ gv gw (lW K h x ato an ac xu xf xv hm am To Ne Cr U aqu Nqu Squ f F V aqt Nqt Sqt M ++ lgW K hs ag Lg nr) 526 [(0, .ref b), (1, .ref h), (2, .ref hm), (3, vZ i)] [] := by
  obtain ⟨a1, a2, a3, a4, a5, a6, a7, a8⟩ := id hA
  obtain ⟨b1, b2, b3, b4, b5, b6⟩ := id hB
  obtain ⟨c1, c2, c3, c4⟩ := id hC
  obtain ⟨d1, d2, d3, d4⟩ := id hD
  obtain ⟨e1, e2, e3, e4⟩ := id hE
  obtain ⟨hf1, hf2⟩ := id hF
  have hne := a1.1
  have hcr := a1.2.1
  have hls := nw_ls a2
  have enw : U.2 12 = A.2.1 0 := c1.2.2.2.2.1.1
  have hnw0 := b1.2.1
  have m0 : M.2 0 = To.2 3 := d1.1.1
  have m3 : M.2 3 = To.2 2 := d1.1.2.1
  have m4 : M.2 4 = Ne.2 8 := d1.2.1.1
  have m12 : M.2 12 = Cr.2 3 := d1.2.2.1
  have m20 : M.2 20 = A.2.1 0 := d2.2.2.2.1
  have hG1 := lo_rng c1.1
  have hpr1 := pw_rng c3
  have hus0 := mx_us d2 a1 b1
  have hmn := m11 d1.2.1 a2
  have hx1 := xz_rng xs (i + 1)
  have hx2 := xz_rng xs (i + 2)
  have hx3 := xz_rng xs (i + 3)
  have hx4 := xz_rng xs (i + 4)
  have hnr := e1.1
  refine z_aload_n ZC 1 dL_law_526 rfl rfl ?_
  refine z_aload_n ZC 0 dL_law_527 rfl rfl ?_
  refine z_iload_n ZC 3 dL_law_528 rfl rfl ?_
  refine z_iconst ZC dL_law_529 ?_
  refine z_iadd ZC dL_law_530 ?_
  refine z_sld ZC hX hbl hbA dL_law_531 (by omega) ?_
  refine z_callV ZC 1 (c_X7_on zl D K h x an Ne xu U aqu Nqu Squ (xz xs (i + 1)) (by omega) (by omega)) (gdV uM_L_68 uI_X7_on uS_X7_on uN_X7 uC_X7_on) (by decide +kernel) rfl ⟨by omega, by omega⟩ ⟨by omega, by omega⟩ (Nat.le_of_ble_eq_true rfl) [0, 4, 5, 6, 7, 8, 9, 10, 11, 12, 17, 18, 19, 20, 21, 22, 23, 24, 25, 26, 27, 28, 29, 30, 31, 32] rfl (by decide) rfl rfl rfl rfl dL_law_532 (fun r w2 gc_532 gs_532 hp => ?_)
  obtain ⟨v_532, rfl, rfl, rfl, rfl, hv_532⟩ := hp
  refine z_ws (ws2 := (lW K h x ato an ac xu xf xv hm am To Ne Cr U aqu Nqu Squ f F V aqt Nqt Sqt M ++ lgW K hs ag Lg nr)) ((rep_pre (is := [0, 4, 5, 6, 7, 8, 9, 10, 11, 12, 17, 18, 19, 20, 21, 22, 23, 24, 25, 26, 27, 28, 29, 30, 31, 32]) (pre := (lW K h x ato an ac xu xf xv hm am To Ne Cr U aqu Nqu Squ f F V aqt Nqt Sqt M)) (w1 := ((wSh h x) ++ (wNe K (x 1) an Ne) ++ (wTr K (x 3) (upf (upf (upf xu 0 (x 0)) 1 (x 1)) 2 (x 2)) U) ++ (wLn K (xu 3) aqu Nqu Squ))) rfl (Nat.le_of_ble_eq_true rfl)).trans rfl) ?_
  refine z_st (st2 := [vZ v_532]) rfl ?_
  refine z_aload_n ZC 2 dL_law_535 rfl rfl ?_
  refine z_aload_n ZC 0 dL_law_536 rfl rfl ?_
  refine z_iload_n ZC 3 dL_law_537 rfl rfl ?_
  refine z_iconst ZC dL_law_538 ?_
  refine z_iadd ZC dL_law_539 ?_
  refine z_sld ZC hX hbl hbA dL_law_540 (by omega) ?_
  refine z_callV ZC 1 (c_X8_on zl D K hm am M Ne Cr A C (xz xs (i + 1)) (by omega) (a1) (a2) (d1.2.1) (d1.2.2) (d2.1) (by omega) (b1.1)) (gdV uM_L_71 uI_X8_on uS_X8_on uN_X8 uC_X8_on) (by decide +kernel) rfl ⟨by omega, by omega⟩ ⟨by omega, by omega⟩ (Nat.le_of_ble_eq_true rfl) [54, 55, 56, 57, 58, 59, 60, 61, 62, 63, 64, 65, 66, 67, 68, 69, 70, 71, 72, 73, 74, 75, 76, 77, 78, 79, 80, 81, 82, 83, 84, 85] rfl (by decide) rfl rfl rfl rfl dL_law_541 (fun r w2 gc_541 gs_541 hp => ?_)
  obtain ⟨v_541, rfl, rfl, rfl, rfl, hv_541⟩ := hp
  refine z_ws (ws2 := (lW K h x ato an ac xu xf xv hm am To Ne Cr U aqu Nqu Squ f F V aqt Nqt Sqt M ++ lgW K hs ag Lg nr)) ((rep_pre (is := [54, 55, 56, 57, 58, 59, 60, 61, 62, 63, 64, 65, 66, 67, 68, 69, 70, 71, 72, 73, 74, 75, 76, 77, 78, 79, 80, 81, 82, 83, 84, 85]) (pre := (lW K h x ato an ac xu xf xv hm am To Ne Cr U aqu Nqu Squ f F V aqt Nqt Sqt M)) (w1 := (wMo K hm am M)) rfl (Nat.le_of_ble_eq_true rfl)).trans rfl) ?_
  refine z_st (st2 := [vZ v_541, vZ v_532]) rfl ?_
  have heq : v_532 = v_541 := by
    by_cases hk : 0 ≤ (xz xs (i + 1)) ∧ (xz xs (i + 1)) < Ne.2 8
    · rw [(hv_532.resolve_right (fun q => q.1 hk)).2.1, (hv_541.resolve_right (fun q => q.1 hk)).2.1]
      exact (q_len c1 ⟨hk.1, by omega⟩).2
    · rw [(hv_532.resolve_left (fun q => hk q.1)).2.1, (hv_541.resolve_left (fun q => hk q.1)).2.1]
  refine z_eqj ZC 859 dL_law_544 (by decide) (heq) ?_
  refine z_ws (ws2 := (lW K h x ato an ac xu xf xv hm am To Ne Cr U aqu Nqu Squ f F V aqt Nqt Sqt M ++ lgW K hs ag Lg nr)) rfl (z_lv (lv2 := [(0, .ref b), (1, .ref h), (2, .ref hm), (3, vZ i)]) ⟨rfl, rfl, rfl, rfl, trivial⟩ ?_)
  refine jn_859 To Ne Cr U aqu Nqu Squ f F V aqt Nqt Sqt M hs ag Lg nr (gv + 0 + 0) (gw + 0 + 0) A Cq C ?_ ?_ ?_ ?_ ?_ ?_
  · skip
    exact hA
  · skip
    exact hB
  · skip
    exact hC
  · skip
    exact hD
  · skip
    exact hE
  · skip
    unfold LgF
    omega

set_option maxHeartbeats 4000000 in
set_option maxRecDepth 100000 in
theorem lw_foretold {zp : Program} {zl : Launch} {ze : Env} {zR : Room} {zs : State} {zm : MethodId} {zargs : Array Value} {zbelow : List Frame} {zmeth : Method} {zc : Code} {D : va_G} {K : tyK} {zA : Nat → Prop} {zQ : State → Prop} {b L : Nat} {xs : Nat → Int32} (ZC : Zc zp zs zm zargs zc D K zA 4 cL_law RL) (hX : va_X b L xs zs zs.heap) (hbl : b < zs.heap.size) (hbA : ¬ zA b) (hL : L ≤ 2560) (hRf : zR.frames = 10) (hRc : zR.cells = 600000) (hRs : zR.slots = 7302250) (hRl : zR.locals = 366) (h : Nat) (x ato an ac xu xf xv : Nat → Nat) (hm : Nat) (am : Nat → Nat) (i : Int) (jn_859 : ∀ (To : Bd) (Ne : Bd) (Cr : Bd) (U : Bd) (aqu : Nat → Nat) (Nqu : Nat) (Squ : Bd) (f : Nat → Option Nat) (F : Bd) (V : Bd) (aqt : Nat → Nat) (Nqt : Nat) (Sqt : Bd) (M : Bd) (hs : Nat → Nat) (ag : Nat → Nat → Nat) (Lg : Nat → Bd) (nr : Nat) (gv : Nat) (gw : Nat) (A : Ab) (Cq : Int → List Pt3) (C : Int → List Pt3), LgA To Ne Cr → LgB Ne Cr A → LgC To Ne Cr U Nqu Squ F Nqt A Cq → LgD To Ne Cr A M C → LgE Ne f M hs Lg nr A → LgF Nqu Nqt nr gv gw → Zw zp zl ze zR zs zm zargs zbelow zmeth zc D zA 4 zQ gv gw (lW K h x ato an ac xu xf xv hm am To Ne Cr U aqu Nqu Squ f F V aqt Nqt Sqt M ++ lgW K hs ag Lg nr) 859 [(0, .ref b), (1, .ref h), (2, .ref hm), (3, vZ i)] []) (To : Bd) (Ne : Bd) (Cr : Bd) (U : Bd) (aqu : Nat → Nat) (Nqu : Nat) (Squ : Bd) (f : Nat → Option Nat) (F : Bd) (V : Bd) (aqt : Nat → Nat) (Nqt : Nat) (Sqt : Bd) (M : Bd) (hs : Nat → Nat) (ag : Nat → Nat → Nat) (Lg : Nat → Bd) (nr : Nat) (gv : Nat) (gw : Nat) (A : Ab) (Cq : Int → List Pt3) (C : Int → List Pt3) (hA : LgA To Ne Cr) (hB : LgB Ne Cr A) (hC : LgC To Ne Cr U Nqu Squ F Nqt A Cq) (hD : LgD To Ne Cr A M C) (hE : LgE Ne f M hs Lg nr A) (hF : LgF Nqu Nqt nr gv gw) (hi : 0 ≤ i ∧ i + 5 ≤ (L : Int))  : Zw zp zl ze zR zs zm zargs zbelow zmeth zc D zA 4 zQ gv gw (lW K h x ato an ac xu xf xv hm am To Ne Cr U aqu Nqu Squ f F V aqt Nqt Sqt M ++ lgW K hs ag Lg nr) 549 [(0, .ref b), (1, .ref h), (2, .ref hm), (3, vZ i)] [] := by
  obtain ⟨a1, a2, a3, a4, a5, a6, a7, a8⟩ := id hA
  obtain ⟨b1, b2, b3, b4, b5, b6⟩ := id hB
  obtain ⟨c1, c2, c3, c4⟩ := id hC
  obtain ⟨d1, d2, d3, d4⟩ := id hD
  obtain ⟨e1, e2, e3, e4⟩ := id hE
  obtain ⟨hf1, hf2⟩ := id hF
  have hne := a1.1
  have hcr := a1.2.1
  have hls := nw_ls a2
  have enw : U.2 12 = A.2.1 0 := c1.2.2.2.2.1.1
  have hnw0 := b1.2.1
  have m0 : M.2 0 = To.2 3 := d1.1.1
  have m3 : M.2 3 = To.2 2 := d1.1.2.1
  have m4 : M.2 4 = Ne.2 8 := d1.2.1.1
  have m12 : M.2 12 = Cr.2 3 := d1.2.2.1
  have m20 : M.2 20 = A.2.1 0 := d2.2.2.2.1
  have hG1 := lo_rng c1.1
  have hpr1 := pw_rng c3
  have hus0 := mx_us d2 a1 b1
  have hmn := m11 d1.2.1 a2
  have hx1 := xz_rng xs (i + 1)
  have hx2 := xz_rng xs (i + 2)
  have hx3 := xz_rng xs (i + 3)
  have hx4 := xz_rng xs (i + 4)
  have hnr := e1.1
  refine z_aload_n ZC 1 dL_law_549 rfl rfl ?_
  refine z_aload_n ZC 0 dL_law_550 rfl rfl ?_
  refine z_iload_n ZC 3 dL_law_551 rfl rfl ?_
  refine z_iconst ZC dL_law_552 ?_
  refine z_iadd ZC dL_law_553 ?_
  refine z_sld ZC hX hbl hbA dL_law_554 (by omega) ?_
  refine z_callV ZC 1 (c_X7_foretold zl D K h x ato To an Ne ac Cr xu U aqu Nqu Squ xf F xv V aqt Nqt Sqt 3300 Cq A (xz xs (i + 1)) (by omega) (a1) (a3) (b1) (b2) (a7) (c1) (c2) (⟨Nat.le_of_ble_eq_true rfl, Nat.le_of_ble_eq_true rfl⟩) (c3) (c4) (b5)) (gdV uM_L_72 uI_X7_foretold uS_X7_foretold uN_X7 uC_X7_foretold) (by decide +kernel) rfl ⟨by omega, by omega⟩ ⟨by omega, by omega⟩ (Nat.le_of_ble_eq_true rfl) [0, 1, 2, 3, 4, 5, 6, 7, 8, 9, 10, 11, 12, 13, 14, 15, 16, 17, 18, 19, 20, 21, 22, 23, 24, 25, 26, 27, 28, 29, 30, 31, 32, 34, 35, 36, 37, 38, 39, 40, 41, 42, 43, 44, 45, 46, 47, 48, 49, 50, 51, 52, 53] rfl (by decide) rfl rfl rfl rfl dL_law_555 (fun r w2 gc_555 gs_555 hp => ?_)
  obtain ⟨F2_555, V2_555, aqt2_555, Nqt2_555, Sqt2_555, v_555, rfl, rfl, hF2_555, hv_555, hpw2_555, hgc_555, hgs_555⟩ := hp
  refine z_ws (ws2 := (lW K h x ato an ac xu xf xv hm am To Ne Cr U aqu Nqu Squ f F2_555 V2_555 aqt2_555 Nqt2_555 Sqt2_555 M ++ lgW K hs ag Lg nr)) ((rep_pre (is := [0, 1, 2, 3, 4, 5, 6, 7, 8, 9, 10, 11, 12, 13, 14, 15, 16, 17, 18, 19, 20, 21, 22, 23, 24, 25, 26, 27, 28, 29, 30, 31, 32, 34, 35, 36, 37, 38, 39, 40, 41, 42, 43, 44, 45, 46, 47, 48, 49, 50, 51, 52, 53]) (pre := (lW K h x ato an ac xu xf xv hm am To Ne Cr U aqu Nqu Squ f F V aqt Nqt Sqt M)) (w1 := ((wSh h x) ++ (wTo K (x 0) ato To) ++ (wNe K (x 1) an Ne) ++ (wCr K (x 2) ac Cr) ++ (wTr K (x 3) (upf (upf (upf xu 0 (x 0)) 1 (x 1)) 2 (x 2)) U) ++ (wLn K (xu 3) aqu Nqu Squ) ++ (wFo K (x 5) (upf xf 0 (x 3)) F) ++ (wTr K (xf 1) (upf (upf (upf xv 0 (x 0)) 1 (x 1)) 2 (x 2)) V) ++ (wLn K (xv 3) aqt Nqt Sqt))) rfl (Nat.le_of_ble_eq_true rfl)).trans rfl) ?_
  refine z_st (st2 := [vZ v_555]) rfl ?_
  refine z_aload_n ZC 2 dL_law_558 rfl rfl ?_
  refine z_aload_n ZC 0 dL_law_559 rfl rfl ?_
  refine z_iload_n ZC 3 dL_law_560 rfl rfl ?_
  refine z_iconst ZC dL_law_561 ?_
  refine z_iadd ZC dL_law_562 ?_
  refine z_sld ZC hX hbl hbA dL_law_563 (by omega) ?_
  refine z_callV ZC 1 (c_X8_foretold zl D K hm am M To Ne Cr A C (xz xs (i + 1)) (by omega) (a1) (a2) (d1) (a3) (b1) (d2) (b3) (b4) (d3)) (gdV uM_L_75 uI_X8_foretold uS_X8_foretold uN_X8 uC_X8_foretold) (by decide +kernel) rfl ⟨by omega, by omega⟩ ⟨by omega, by omega⟩ (Nat.le_of_ble_eq_true rfl) [54, 55, 56, 57, 58, 59, 60, 61, 62, 63, 64, 65, 66, 67, 68, 69, 70, 71, 72, 73, 74, 75, 76, 77, 78, 79, 80, 81, 82, 83, 84, 85] rfl (by decide) rfl rfl rfl rfl dL_law_564 (fun r w2 gc_564 gs_564 hp => ?_)
  obtain ⟨M2_564, v_564, rfl, rfl, rfl, rfl, hv_564, hmx2_564, hkp_564, hli2_564⟩ := hp
  refine z_ws (ws2 := (lW K h x ato an ac xu xf xv hm am To Ne Cr U aqu Nqu Squ f F2_555 V2_555 aqt2_555 Nqt2_555 Sqt2_555 M2_564 ++ lgW K hs ag Lg nr)) ((rep_pre (is := [54, 55, 56, 57, 58, 59, 60, 61, 62, 63, 64, 65, 66, 67, 68, 69, 70, 71, 72, 73, 74, 75, 76, 77, 78, 79, 80, 81, 82, 83, 84, 85]) (pre := (lW K h x ato an ac xu xf xv hm am To Ne Cr U aqu Nqu Squ f F2_555 V2_555 aqt2_555 Nqt2_555 Sqt2_555 M)) (w1 := (wMo K hm am M)) rfl (Nat.le_of_ble_eq_true rfl)).trans rfl) ?_
  refine z_st (st2 := [vZ v_564, vZ v_555]) rfl ?_
  have heq : v_555 = v_564 := by
    rcases hv_555 with z | z | z <;> rcases hv_564 with y | y | y <;> omega
  have hz0 := hpw2_555
  have hz1 := hgc_555
  have hz2 := hgs_555
  refine z_eqj ZC 859 dL_law_567 (by decide) (heq) ?_
  refine z_ws (ws2 := (lW K h x ato an ac xu xf xv hm am To Ne Cr U aqu Nqu Squ f F2_555 V2_555 aqt2_555 Nqt2_555 Sqt2_555 M2_564 ++ lgW K hs ag Lg nr)) rfl (z_lv (lv2 := [(0, .ref b), (1, .ref h), (2, .ref hm), (3, vZ i)]) ⟨rfl, rfl, rfl, rfl, trivial⟩ ?_)
  refine jn_859 To Ne Cr U aqu Nqu Squ f F2_555 V2_555 aqt2_555 Nqt2_555 Sqt2_555 M2_564 hs ag Lg nr (gv + gc_555 + 0) (gw + gs_555 + 0) A Cq C ?_ ?_ ?_ ?_ ?_ ?_
  · skip
    exact hA
  · skip
    exact hB
  · skip
    exact ⟨c1, c2, hpw2_555.1, hF2_555⟩
  · skip
    exact lgD_keep hD hkp_564 hmx2_564 hli2_564 rfl rfl
  · skip
    exact lgE_keep hE hkp_564 rfl
  · skip
    unfold LgF
    omega

set_option maxHeartbeats 4000000 in
set_option maxRecDepth 100000 in
theorem lw_lacks {zp : Program} {zl : Launch} {ze : Env} {zR : Room} {zs : State} {zm : MethodId} {zargs : Array Value} {zbelow : List Frame} {zmeth : Method} {zc : Code} {D : va_G} {K : tyK} {zA : Nat → Prop} {zQ : State → Prop} {b L : Nat} {xs : Nat → Int32} (ZC : Zc zp zs zm zargs zc D K zA 4 cL_law RL) (hX : va_X b L xs zs zs.heap) (hbl : b < zs.heap.size) (hbA : ¬ zA b) (hL : L ≤ 2560) (hRf : zR.frames = 10) (hRc : zR.cells = 600000) (hRs : zR.slots = 7302250) (hRl : zR.locals = 366) (h : Nat) (x ato an ac xu xf xv : Nat → Nat) (hm : Nat) (am : Nat → Nat) (i : Int) (jn_859 : ∀ (To : Bd) (Ne : Bd) (Cr : Bd) (U : Bd) (aqu : Nat → Nat) (Nqu : Nat) (Squ : Bd) (f : Nat → Option Nat) (F : Bd) (V : Bd) (aqt : Nat → Nat) (Nqt : Nat) (Sqt : Bd) (M : Bd) (hs : Nat → Nat) (ag : Nat → Nat → Nat) (Lg : Nat → Bd) (nr : Nat) (gv : Nat) (gw : Nat) (A : Ab) (Cq : Int → List Pt3) (C : Int → List Pt3), LgA To Ne Cr → LgB Ne Cr A → LgC To Ne Cr U Nqu Squ F Nqt A Cq → LgD To Ne Cr A M C → LgE Ne f M hs Lg nr A → LgF Nqu Nqt nr gv gw → Zw zp zl ze zR zs zm zargs zbelow zmeth zc D zA 4 zQ gv gw (lW K h x ato an ac xu xf xv hm am To Ne Cr U aqu Nqu Squ f F V aqt Nqt Sqt M ++ lgW K hs ag Lg nr) 859 [(0, .ref b), (1, .ref h), (2, .ref hm), (3, vZ i)] []) (To : Bd) (Ne : Bd) (Cr : Bd) (U : Bd) (aqu : Nat → Nat) (Nqu : Nat) (Squ : Bd) (f : Nat → Option Nat) (F : Bd) (V : Bd) (aqt : Nat → Nat) (Nqt : Nat) (Sqt : Bd) (M : Bd) (hs : Nat → Nat) (ag : Nat → Nat → Nat) (Lg : Nat → Bd) (nr : Nat) (gv : Nat) (gw : Nat) (A : Ab) (Cq : Int → List Pt3) (C : Int → List Pt3) (hA : LgA To Ne Cr) (hB : LgB Ne Cr A) (hC : LgC To Ne Cr U Nqu Squ F Nqt A Cq) (hD : LgD To Ne Cr A M C) (hE : LgE Ne f M hs Lg nr A) (hF : LgF Nqu Nqt nr gv gw) (hi : 0 ≤ i ∧ i + 5 ≤ (L : Int))  : Zw zp zl ze zR zs zm zargs zbelow zmeth zc D zA 4 zQ gv gw (lW K h x ato an ac xu xf xv hm am To Ne Cr U aqu Nqu Squ f F V aqt Nqt Sqt M ++ lgW K hs ag Lg nr) 572 [(0, .ref b), (1, .ref h), (2, .ref hm), (3, vZ i)] [] := by
  obtain ⟨a1, a2, a3, a4, a5, a6, a7, a8⟩ := id hA
  obtain ⟨b1, b2, b3, b4, b5, b6⟩ := id hB
  obtain ⟨c1, c2, c3, c4⟩ := id hC
  obtain ⟨d1, d2, d3, d4⟩ := id hD
  obtain ⟨e1, e2, e3, e4⟩ := id hE
  obtain ⟨hf1, hf2⟩ := id hF
  have hne := a1.1
  have hcr := a1.2.1
  have hls := nw_ls a2
  have enw : U.2 12 = A.2.1 0 := c1.2.2.2.2.1.1
  have hnw0 := b1.2.1
  have m0 : M.2 0 = To.2 3 := d1.1.1
  have m3 : M.2 3 = To.2 2 := d1.1.2.1
  have m4 : M.2 4 = Ne.2 8 := d1.2.1.1
  have m12 : M.2 12 = Cr.2 3 := d1.2.2.1
  have m20 : M.2 20 = A.2.1 0 := d2.2.2.2.1
  have hG1 := lo_rng c1.1
  have hpr1 := pw_rng c3
  have hus0 := mx_us d2 a1 b1
  have hmn := m11 d1.2.1 a2
  have hx1 := xz_rng xs (i + 1)
  have hx2 := xz_rng xs (i + 2)
  have hx3 := xz_rng xs (i + 3)
  have hx4 := xz_rng xs (i + 4)
  have hnr := e1.1
  refine z_aload_n ZC 1 dL_law_572 rfl rfl ?_
  refine z_aload_n ZC 0 dL_law_573 rfl rfl ?_
  refine z_iload_n ZC 3 dL_law_574 rfl rfl ?_
  refine z_iconst ZC dL_law_575 ?_
  refine z_iadd ZC dL_law_576 ?_
  refine z_sld ZC hX hbl hbA dL_law_577 (by omega) ?_
  refine z_callV ZC 1 (c_X7_lacks zl D K h x ato To an Ne ac Cr xu U aqu Nqu Squ xf F xv V aqt Nqt Sqt 3300 Cq A (xz xs (i + 1)) (by omega) (a1) (a3) (b1) (b2) (a7) (c1) (c2) (⟨Nat.le_of_ble_eq_true rfl, Nat.le_of_ble_eq_true rfl⟩) (c3) (c4) (b5)) (gdV uM_L_76 uI_X7_lacks uS_X7_lacks uN_X7 uC_X7_lacks) (by decide +kernel) rfl ⟨by omega, by omega⟩ ⟨by omega, by omega⟩ (Nat.le_of_ble_eq_true rfl) [0, 1, 2, 3, 4, 5, 6, 7, 8, 9, 10, 11, 12, 13, 14, 15, 16, 17, 18, 19, 20, 21, 22, 23, 24, 25, 26, 27, 28, 29, 30, 31, 32, 34, 35, 36, 37, 38, 39, 40, 41, 42, 43, 44, 45, 46, 47, 48, 49, 50, 51, 52, 53] rfl (by decide) rfl rfl rfl rfl dL_law_578 (fun r w2 gc_578 gs_578 hp => ?_)
  obtain ⟨F2_578, V2_578, aqt2_578, Nqt2_578, Sqt2_578, v_578, rfl, rfl, hF2_578, hv_578, hpw2_578, hgc_578, hgs_578⟩ := hp
  refine z_ws (ws2 := (lW K h x ato an ac xu xf xv hm am To Ne Cr U aqu Nqu Squ f F2_578 V2_578 aqt2_578 Nqt2_578 Sqt2_578 M ++ lgW K hs ag Lg nr)) ((rep_pre (is := [0, 1, 2, 3, 4, 5, 6, 7, 8, 9, 10, 11, 12, 13, 14, 15, 16, 17, 18, 19, 20, 21, 22, 23, 24, 25, 26, 27, 28, 29, 30, 31, 32, 34, 35, 36, 37, 38, 39, 40, 41, 42, 43, 44, 45, 46, 47, 48, 49, 50, 51, 52, 53]) (pre := (lW K h x ato an ac xu xf xv hm am To Ne Cr U aqu Nqu Squ f F V aqt Nqt Sqt M)) (w1 := ((wSh h x) ++ (wTo K (x 0) ato To) ++ (wNe K (x 1) an Ne) ++ (wCr K (x 2) ac Cr) ++ (wTr K (x 3) (upf (upf (upf xu 0 (x 0)) 1 (x 1)) 2 (x 2)) U) ++ (wLn K (xu 3) aqu Nqu Squ) ++ (wFo K (x 5) (upf xf 0 (x 3)) F) ++ (wTr K (xf 1) (upf (upf (upf xv 0 (x 0)) 1 (x 1)) 2 (x 2)) V) ++ (wLn K (xv 3) aqt Nqt Sqt))) rfl (Nat.le_of_ble_eq_true rfl)).trans rfl) ?_
  refine z_st (st2 := [vZ v_578]) rfl ?_
  refine z_aload_n ZC 2 dL_law_581 rfl rfl ?_
  refine z_aload_n ZC 0 dL_law_582 rfl rfl ?_
  refine z_iload_n ZC 3 dL_law_583 rfl rfl ?_
  refine z_iconst ZC dL_law_584 ?_
  refine z_iadd ZC dL_law_585 ?_
  refine z_sld ZC hX hbl hbA dL_law_586 (by omega) ?_
  refine z_callV ZC 1 (c_X8_lacks zl D K hm am M To Ne Cr A C (xz xs (i + 1)) (by omega) (a1) (a2) (d1) (a3) (b1) (d2) (b3) (b4) (d3)) (gdV uM_L_79 uI_X8_lacks uS_X8_lacks uN_X8 uC_X8_lacks) (by decide +kernel) rfl ⟨by omega, by omega⟩ ⟨by omega, by omega⟩ (Nat.le_of_ble_eq_true rfl) [54, 55, 56, 57, 58, 59, 60, 61, 62, 63, 64, 65, 66, 67, 68, 69, 70, 71, 72, 73, 74, 75, 76, 77, 78, 79, 80, 81, 82, 83, 84, 85] rfl (by decide) rfl rfl rfl rfl dL_law_587 (fun r w2 gc_587 gs_587 hp => ?_)
  obtain ⟨M2_587, v_587, rfl, rfl, rfl, rfl, hv_587, hmx2_587, hkp_587, hli2_587⟩ := hp
  refine z_ws (ws2 := (lW K h x ato an ac xu xf xv hm am To Ne Cr U aqu Nqu Squ f F2_578 V2_578 aqt2_578 Nqt2_578 Sqt2_578 M2_587 ++ lgW K hs ag Lg nr)) ((rep_pre (is := [54, 55, 56, 57, 58, 59, 60, 61, 62, 63, 64, 65, 66, 67, 68, 69, 70, 71, 72, 73, 74, 75, 76, 77, 78, 79, 80, 81, 82, 83, 84, 85]) (pre := (lW K h x ato an ac xu xf xv hm am To Ne Cr U aqu Nqu Squ f F2_578 V2_578 aqt2_578 Nqt2_578 Sqt2_578 M)) (w1 := (wMo K hm am M)) rfl (Nat.le_of_ble_eq_true rfl)).trans rfl) ?_
  refine z_st (st2 := [vZ v_587, vZ v_578]) rfl ?_
  have heq : v_578 = v_587 := by
    rcases hv_578 with z | z <;> rcases hv_587 with y | y <;> omega
  have hz0 := hpw2_578
  have hz1 := hgc_578
  have hz2 := hgs_578
  refine z_eqj ZC 859 dL_law_590 (by decide) (heq) ?_
  refine z_ws (ws2 := (lW K h x ato an ac xu xf xv hm am To Ne Cr U aqu Nqu Squ f F2_578 V2_578 aqt2_578 Nqt2_578 Sqt2_578 M2_587 ++ lgW K hs ag Lg nr)) rfl (z_lv (lv2 := [(0, .ref b), (1, .ref h), (2, .ref hm), (3, vZ i)]) ⟨rfl, rfl, rfl, rfl, trivial⟩ ?_)
  refine jn_859 To Ne Cr U aqu Nqu Squ f F2_578 V2_578 aqt2_578 Nqt2_578 Sqt2_578 M2_587 hs ag Lg nr (gv + gc_578 + 0) (gw + gs_578 + 0) A Cq C ?_ ?_ ?_ ?_ ?_ ?_
  · skip
    exact hA
  · skip
    exact hB
  · skip
    exact ⟨c1, c2, hpw2_578.1, hF2_578⟩
  · skip
    exact lgD_keep hD hkp_587 hmx2_587 hli2_587 rfl rfl
  · skip
    exact lgE_keep hE hkp_587 rfl
  · skip
    unfold LgF
    omega

set_option maxHeartbeats 4000000 in
set_option maxRecDepth 100000 in
theorem lw_plan {zp : Program} {zl : Launch} {ze : Env} {zR : Room} {zs : State} {zm : MethodId} {zargs : Array Value} {zbelow : List Frame} {zmeth : Method} {zc : Code} {D : va_G} {K : tyK} {zA : Nat → Prop} {zQ : State → Prop} {b L : Nat} {xs : Nat → Int32} (ZC : Zc zp zs zm zargs zc D K zA 4 cL_law RL) (hX : va_X b L xs zs zs.heap) (hbl : b < zs.heap.size) (hbA : ¬ zA b) (hL : L ≤ 2560) (hRf : zR.frames = 10) (hRc : zR.cells = 600000) (hRs : zR.slots = 7302250) (hRl : zR.locals = 366) (h : Nat) (x ato an ac xu xf xv : Nat → Nat) (hm : Nat) (am : Nat → Nat) (i : Int) (jn_859 : ∀ (To : Bd) (Ne : Bd) (Cr : Bd) (U : Bd) (aqu : Nat → Nat) (Nqu : Nat) (Squ : Bd) (f : Nat → Option Nat) (F : Bd) (V : Bd) (aqt : Nat → Nat) (Nqt : Nat) (Sqt : Bd) (M : Bd) (hs : Nat → Nat) (ag : Nat → Nat → Nat) (Lg : Nat → Bd) (nr : Nat) (gv : Nat) (gw : Nat) (A : Ab) (Cq : Int → List Pt3) (C : Int → List Pt3), LgA To Ne Cr → LgB Ne Cr A → LgC To Ne Cr U Nqu Squ F Nqt A Cq → LgD To Ne Cr A M C → LgE Ne f M hs Lg nr A → LgF Nqu Nqt nr gv gw → Zw zp zl ze zR zs zm zargs zbelow zmeth zc D zA 4 zQ gv gw (lW K h x ato an ac xu xf xv hm am To Ne Cr U aqu Nqu Squ f F V aqt Nqt Sqt M ++ lgW K hs ag Lg nr) 859 [(0, .ref b), (1, .ref h), (2, .ref hm), (3, vZ i)] []) (To : Bd) (Ne : Bd) (Cr : Bd) (U : Bd) (aqu : Nat → Nat) (Nqu : Nat) (Squ : Bd) (f : Nat → Option Nat) (F : Bd) (V : Bd) (aqt : Nat → Nat) (Nqt : Nat) (Sqt : Bd) (M : Bd) (hs : Nat → Nat) (ag : Nat → Nat → Nat) (Lg : Nat → Bd) (nr : Nat) (gv : Nat) (gw : Nat) (A : Ab) (Cq : Int → List Pt3) (C : Int → List Pt3) (hA : LgA To Ne Cr) (hB : LgB Ne Cr A) (hC : LgC To Ne Cr U Nqu Squ F Nqt A Cq) (hD : LgD To Ne Cr A M C) (hE : LgE Ne f M hs Lg nr A) (hF : LgF Nqu Nqt nr gv gw) (hi : 0 ≤ i ∧ i + 5 ≤ (L : Int))  : Zw zp zl ze zR zs zm zargs zbelow zmeth zc D zA 4 zQ gv gw (lW K h x ato an ac xu xf xv hm am To Ne Cr U aqu Nqu Squ f F V aqt Nqt Sqt M ++ lgW K hs ag Lg nr) 595 [(0, .ref b), (1, .ref h), (2, .ref hm), (3, vZ i)] [] := by
  obtain ⟨a1, a2, a3, a4, a5, a6, a7, a8⟩ := id hA
  obtain ⟨b1, b2, b3, b4, b5, b6⟩ := id hB
  obtain ⟨c1, c2, c3, c4⟩ := id hC
  obtain ⟨d1, d2, d3, d4⟩ := id hD
  obtain ⟨e1, e2, e3, e4⟩ := id hE
  obtain ⟨hf1, hf2⟩ := id hF
  have hne := a1.1
  have hcr := a1.2.1
  have hls := nw_ls a2
  have enw : U.2 12 = A.2.1 0 := c1.2.2.2.2.1.1
  have hnw0 := b1.2.1
  have m0 : M.2 0 = To.2 3 := d1.1.1
  have m3 : M.2 3 = To.2 2 := d1.1.2.1
  have m4 : M.2 4 = Ne.2 8 := d1.2.1.1
  have m12 : M.2 12 = Cr.2 3 := d1.2.2.1
  have m20 : M.2 20 = A.2.1 0 := d2.2.2.2.1
  have hG1 := lo_rng c1.1
  have hpr1 := pw_rng c3
  have hus0 := mx_us d2 a1 b1
  have hmn := m11 d1.2.1 a2
  have hx1 := xz_rng xs (i + 1)
  have hx2 := xz_rng xs (i + 2)
  have hx3 := xz_rng xs (i + 3)
  have hx4 := xz_rng xs (i + 4)
  have hnr := e1.1
  refine z_aload_n ZC 1 dL_law_595 rfl rfl ?_
  refine z_aload_n ZC 0 dL_law_596 rfl rfl ?_
  refine z_iload_n ZC 3 dL_law_597 rfl rfl ?_
  refine z_iconst ZC dL_law_598 ?_
  refine z_iadd ZC dL_law_599 ?_
  refine z_sld ZC hX hbl hbA dL_law_600 (by omega) ?_
  refine z_callV ZC 1 (c_X7_plan zl D K h x ato To an Ne ac Cr xu U aqu Nqu Squ xf F xv V aqt Nqt Sqt 3300 Cq A (xz xs (i + 1)) (by omega) (a1) (a3) (b1) (b2) (a7) (c1) (c2) (⟨Nat.le_of_ble_eq_true rfl, Nat.le_of_ble_eq_true rfl⟩) (c3) (c4) (b5)) (gdV uM_L_80 uI_X7_plan uS_X7_plan uN_X7 uC_X7_plan) (by decide +kernel) rfl ⟨by omega, by omega⟩ ⟨by omega, by omega⟩ (Nat.le_of_ble_eq_true rfl) [0, 1, 2, 3, 4, 5, 6, 7, 8, 9, 10, 11, 12, 13, 14, 15, 16, 17, 18, 19, 20, 21, 22, 23, 24, 25, 26, 27, 28, 29, 30, 31, 32, 34, 35, 36, 37, 38, 39, 40, 41, 42, 43, 44, 45, 46, 47, 48, 49, 50, 51, 52, 53] rfl (by decide) rfl rfl rfl rfl dL_law_601 (fun r w2 gc_601 gs_601 hp => ?_)
  obtain ⟨F2_601, V2_601, aqt2_601, Nqt2_601, Sqt2_601, v_601, rfl, rfl, hF2_601, hv_601, hpw2_601, hgc_601, hgs_601⟩ := hp
  refine z_ws (ws2 := (lW K h x ato an ac xu xf xv hm am To Ne Cr U aqu Nqu Squ f F2_601 V2_601 aqt2_601 Nqt2_601 Sqt2_601 M ++ lgW K hs ag Lg nr)) ((rep_pre (is := [0, 1, 2, 3, 4, 5, 6, 7, 8, 9, 10, 11, 12, 13, 14, 15, 16, 17, 18, 19, 20, 21, 22, 23, 24, 25, 26, 27, 28, 29, 30, 31, 32, 34, 35, 36, 37, 38, 39, 40, 41, 42, 43, 44, 45, 46, 47, 48, 49, 50, 51, 52, 53]) (pre := (lW K h x ato an ac xu xf xv hm am To Ne Cr U aqu Nqu Squ f F V aqt Nqt Sqt M)) (w1 := ((wSh h x) ++ (wTo K (x 0) ato To) ++ (wNe K (x 1) an Ne) ++ (wCr K (x 2) ac Cr) ++ (wTr K (x 3) (upf (upf (upf xu 0 (x 0)) 1 (x 1)) 2 (x 2)) U) ++ (wLn K (xu 3) aqu Nqu Squ) ++ (wFo K (x 5) (upf xf 0 (x 3)) F) ++ (wTr K (xf 1) (upf (upf (upf xv 0 (x 0)) 1 (x 1)) 2 (x 2)) V) ++ (wLn K (xv 3) aqt Nqt Sqt))) rfl (Nat.le_of_ble_eq_true rfl)).trans rfl) ?_
  refine z_st (st2 := [vZ v_601]) rfl ?_
  refine z_aload_n ZC 2 dL_law_604 rfl rfl ?_
  refine z_aload_n ZC 0 dL_law_605 rfl rfl ?_
  refine z_iload_n ZC 3 dL_law_606 rfl rfl ?_
  refine z_iconst ZC dL_law_607 ?_
  refine z_iadd ZC dL_law_608 ?_
  refine z_sld ZC hX hbl hbA dL_law_609 (by omega) ?_
  refine z_callV ZC 1 (c_X8_plan zl D K hm am M To Ne Cr A C (xz xs (i + 1)) (by omega) (a1) (a2) (d1) (a3) (b1) (d2) (b3) (b4) (d3) (b5)) (gdV uM_L_83 uI_X8_plan uS_X8_plan uN_X8 uC_X8_plan) (by decide +kernel) rfl ⟨by omega, by omega⟩ ⟨by omega, by omega⟩ (Nat.le_of_ble_eq_true rfl) [54, 55, 56, 57, 58, 59, 60, 61, 62, 63, 64, 65, 66, 67, 68, 69, 70, 71, 72, 73, 74, 75, 76, 77, 78, 79, 80, 81, 82, 83, 84, 85] rfl (by decide) rfl rfl rfl rfl dL_law_610 (fun r w2 gc_610 gs_610 hp => ?_)
  obtain ⟨M2_610, v_610, rfl, rfl, rfl, rfl, hv_610, hmx2_610, hkp_610, hli2_610⟩ := hp
  refine z_ws (ws2 := (lW K h x ato an ac xu xf xv hm am To Ne Cr U aqu Nqu Squ f F2_601 V2_601 aqt2_601 Nqt2_601 Sqt2_601 M2_610 ++ lgW K hs ag Lg nr)) ((rep_pre (is := [54, 55, 56, 57, 58, 59, 60, 61, 62, 63, 64, 65, 66, 67, 68, 69, 70, 71, 72, 73, 74, 75, 76, 77, 78, 79, 80, 81, 82, 83, 84, 85]) (pre := (lW K h x ato an ac xu xf xv hm am To Ne Cr U aqu Nqu Squ f F2_601 V2_601 aqt2_601 Nqt2_601 Sqt2_601 M)) (w1 := (wMo K hm am M)) rfl (Nat.le_of_ble_eq_true rfl)).trans rfl) ?_
  refine z_st (st2 := [vZ v_610, vZ v_601]) rfl ?_
  have heq : v_601 = v_610 := by
    exact plan_eq hcr.1 hv_601 hv_610
  have hz0 := hpw2_601
  have hz1 := hgc_601
  have hz2 := hgs_601
  refine z_eqj ZC 859 dL_law_613 (by decide) (heq) ?_
  refine z_ws (ws2 := (lW K h x ato an ac xu xf xv hm am To Ne Cr U aqu Nqu Squ f F2_601 V2_601 aqt2_601 Nqt2_601 Sqt2_601 M2_610 ++ lgW K hs ag Lg nr)) rfl (z_lv (lv2 := [(0, .ref b), (1, .ref h), (2, .ref hm), (3, vZ i)]) ⟨rfl, rfl, rfl, rfl, trivial⟩ ?_)
  refine jn_859 To Ne Cr U aqu Nqu Squ f F2_601 V2_601 aqt2_601 Nqt2_601 Sqt2_601 M2_610 hs ag Lg nr (gv + gc_601 + 0) (gw + gs_601 + 0) A Cq C ?_ ?_ ?_ ?_ ?_ ?_
  · skip
    exact hA
  · skip
    exact hB
  · skip
    exact ⟨c1, c2, hpw2_601.1, hF2_601⟩
  · skip
    exact lgD_keep hD hkp_610 hmx2_610 hli2_610 rfl rfl
  · skip
    exact lgE_keep hE hkp_610 rfl
  · skip
    unfold LgF
    omega

set_option maxHeartbeats 4000000 in
set_option maxRecDepth 100000 in
theorem lw_planned {zp : Program} {zl : Launch} {ze : Env} {zR : Room} {zs : State} {zm : MethodId} {zargs : Array Value} {zbelow : List Frame} {zmeth : Method} {zc : Code} {D : va_G} {K : tyK} {zA : Nat → Prop} {zQ : State → Prop} {b L : Nat} {xs : Nat → Int32} (ZC : Zc zp zs zm zargs zc D K zA 4 cL_law RL) (hX : va_X b L xs zs zs.heap) (hbl : b < zs.heap.size) (hbA : ¬ zA b) (hL : L ≤ 2560) (hRf : zR.frames = 10) (hRc : zR.cells = 600000) (hRs : zR.slots = 7302250) (hRl : zR.locals = 366) (h : Nat) (x ato an ac xu xf xv : Nat → Nat) (hm : Nat) (am : Nat → Nat) (i : Int) (jn_859 : ∀ (To : Bd) (Ne : Bd) (Cr : Bd) (U : Bd) (aqu : Nat → Nat) (Nqu : Nat) (Squ : Bd) (f : Nat → Option Nat) (F : Bd) (V : Bd) (aqt : Nat → Nat) (Nqt : Nat) (Sqt : Bd) (M : Bd) (hs : Nat → Nat) (ag : Nat → Nat → Nat) (Lg : Nat → Bd) (nr : Nat) (gv : Nat) (gw : Nat) (A : Ab) (Cq : Int → List Pt3) (C : Int → List Pt3), LgA To Ne Cr → LgB Ne Cr A → LgC To Ne Cr U Nqu Squ F Nqt A Cq → LgD To Ne Cr A M C → LgE Ne f M hs Lg nr A → LgF Nqu Nqt nr gv gw → Zw zp zl ze zR zs zm zargs zbelow zmeth zc D zA 4 zQ gv gw (lW K h x ato an ac xu xf xv hm am To Ne Cr U aqu Nqu Squ f F V aqt Nqt Sqt M ++ lgW K hs ag Lg nr) 859 [(0, .ref b), (1, .ref h), (2, .ref hm), (3, vZ i)] []) (To : Bd) (Ne : Bd) (Cr : Bd) (U : Bd) (aqu : Nat → Nat) (Nqu : Nat) (Squ : Bd) (f : Nat → Option Nat) (F : Bd) (V : Bd) (aqt : Nat → Nat) (Nqt : Nat) (Sqt : Bd) (M : Bd) (hs : Nat → Nat) (ag : Nat → Nat → Nat) (Lg : Nat → Bd) (nr : Nat) (gv : Nat) (gw : Nat) (A : Ab) (Cq : Int → List Pt3) (C : Int → List Pt3) (hA : LgA To Ne Cr) (hB : LgB Ne Cr A) (hC : LgC To Ne Cr U Nqu Squ F Nqt A Cq) (hD : LgD To Ne Cr A M C) (hE : LgE Ne f M hs Lg nr A) (hF : LgF Nqu Nqt nr gv gw) (hi : 0 ≤ i ∧ i + 5 ≤ (L : Int))  : Zw zp zl ze zR zs zm zargs zbelow zmeth zc D zA 4 zQ gv gw (lW K h x ato an ac xu xf xv hm am To Ne Cr U aqu Nqu Squ f F V aqt Nqt Sqt M ++ lgW K hs ag Lg nr) 618 [(0, .ref b), (1, .ref h), (2, .ref hm), (3, vZ i)] [] := by
  obtain ⟨a1, a2, a3, a4, a5, a6, a7, a8⟩ := id hA
  obtain ⟨b1, b2, b3, b4, b5, b6⟩ := id hB
  obtain ⟨c1, c2, c3, c4⟩ := id hC
  obtain ⟨d1, d2, d3, d4⟩ := id hD
  obtain ⟨e1, e2, e3, e4⟩ := id hE
  obtain ⟨hf1, hf2⟩ := id hF
  have hne := a1.1
  have hcr := a1.2.1
  have hls := nw_ls a2
  have enw : U.2 12 = A.2.1 0 := c1.2.2.2.2.1.1
  have hnw0 := b1.2.1
  have m0 : M.2 0 = To.2 3 := d1.1.1
  have m3 : M.2 3 = To.2 2 := d1.1.2.1
  have m4 : M.2 4 = Ne.2 8 := d1.2.1.1
  have m12 : M.2 12 = Cr.2 3 := d1.2.2.1
  have m20 : M.2 20 = A.2.1 0 := d2.2.2.2.1
  have hG1 := lo_rng c1.1
  have hpr1 := pw_rng c3
  have hus0 := mx_us d2 a1 b1
  have hmn := m11 d1.2.1 a2
  have hx1 := xz_rng xs (i + 1)
  have hx2 := xz_rng xs (i + 2)
  have hx3 := xz_rng xs (i + 3)
  have hx4 := xz_rng xs (i + 4)
  have hnr := e1.1
  refine z_aload_n ZC 1 dL_law_618 rfl rfl ?_
  refine z_aload_n ZC 0 dL_law_619 rfl rfl ?_
  refine z_iload_n ZC 3 dL_law_620 rfl rfl ?_
  refine z_iconst ZC dL_law_621 ?_
  refine z_iadd ZC dL_law_622 ?_
  refine z_sld ZC hX hbl hbA dL_law_623 (by omega) ?_
  refine z_callV ZC 1 (c_X7_planned zl D K h x ato To an Ne ac Cr xu U aqu Nqu Squ xf F xv V aqt Nqt Sqt 3300 Cq A (xz xs (i + 1)) (by omega) (a1) (a3) (b1) (b2) (a7) (c1) (c2) (⟨Nat.le_of_ble_eq_true rfl, Nat.le_of_ble_eq_true rfl⟩) (c3) (c4) (b5)) (gdV uM_L_84 uI_X7_planned uS_X7_planned uN_X7 uC_X7_planned) (by decide +kernel) rfl ⟨by omega, by omega⟩ ⟨by omega, by omega⟩ (Nat.le_of_ble_eq_true rfl) [0, 1, 2, 3, 4, 5, 6, 7, 8, 9, 10, 11, 12, 13, 14, 15, 16, 17, 18, 19, 20, 21, 22, 23, 24, 25, 26, 27, 28, 29, 30, 31, 32, 34, 35, 36, 37, 38, 39, 40, 41, 42, 43, 44, 45, 46, 47, 48, 49, 50, 51, 52, 53] rfl (by decide) rfl rfl rfl rfl dL_law_624 (fun r w2 gc_624 gs_624 hp => ?_)
  obtain ⟨F2_624, V2_624, aqt2_624, Nqt2_624, Sqt2_624, v_624, rfl, rfl, hF2_624, hv_624, hpw2_624, hgc_624, hgs_624⟩ := hp
  refine z_ws (ws2 := (lW K h x ato an ac xu xf xv hm am To Ne Cr U aqu Nqu Squ f F2_624 V2_624 aqt2_624 Nqt2_624 Sqt2_624 M ++ lgW K hs ag Lg nr)) ((rep_pre (is := [0, 1, 2, 3, 4, 5, 6, 7, 8, 9, 10, 11, 12, 13, 14, 15, 16, 17, 18, 19, 20, 21, 22, 23, 24, 25, 26, 27, 28, 29, 30, 31, 32, 34, 35, 36, 37, 38, 39, 40, 41, 42, 43, 44, 45, 46, 47, 48, 49, 50, 51, 52, 53]) (pre := (lW K h x ato an ac xu xf xv hm am To Ne Cr U aqu Nqu Squ f F V aqt Nqt Sqt M)) (w1 := ((wSh h x) ++ (wTo K (x 0) ato To) ++ (wNe K (x 1) an Ne) ++ (wCr K (x 2) ac Cr) ++ (wTr K (x 3) (upf (upf (upf xu 0 (x 0)) 1 (x 1)) 2 (x 2)) U) ++ (wLn K (xu 3) aqu Nqu Squ) ++ (wFo K (x 5) (upf xf 0 (x 3)) F) ++ (wTr K (xf 1) (upf (upf (upf xv 0 (x 0)) 1 (x 1)) 2 (x 2)) V) ++ (wLn K (xv 3) aqt Nqt Sqt))) rfl (Nat.le_of_ble_eq_true rfl)).trans rfl) ?_
  refine z_st (st2 := [vZ v_624]) rfl ?_
  refine z_aload_n ZC 2 dL_law_627 rfl rfl ?_
  refine z_aload_n ZC 0 dL_law_628 rfl rfl ?_
  refine z_iload_n ZC 3 dL_law_629 rfl rfl ?_
  refine z_iconst ZC dL_law_630 ?_
  refine z_iadd ZC dL_law_631 ?_
  refine z_sld ZC hX hbl hbA dL_law_632 (by omega) ?_
  refine z_callV ZC 1 (c_X8_planned zl D K hm am M To Ne Cr A C (xz xs (i + 1)) (by omega) (a1) (a2) (d1) (a3) (b1) (d2) (b3) (b4) (d3) (b5)) (gdV uM_L_87 uI_X8_planned uS_X8_planned uN_X8 uC_X8_planned) (by decide +kernel) rfl ⟨by omega, by omega⟩ ⟨by omega, by omega⟩ (Nat.le_of_ble_eq_true rfl) [54, 55, 56, 57, 58, 59, 60, 61, 62, 63, 64, 65, 66, 67, 68, 69, 70, 71, 72, 73, 74, 75, 76, 77, 78, 79, 80, 81, 82, 83, 84, 85] rfl (by decide) rfl rfl rfl rfl dL_law_633 (fun r w2 gc_633 gs_633 hp => ?_)
  obtain ⟨M2_633, v_633, rfl, rfl, rfl, rfl, hv_633, hmx2_633, hkp_633, hli2_633⟩ := hp
  refine z_ws (ws2 := (lW K h x ato an ac xu xf xv hm am To Ne Cr U aqu Nqu Squ f F2_624 V2_624 aqt2_624 Nqt2_624 Sqt2_624 M2_633 ++ lgW K hs ag Lg nr)) ((rep_pre (is := [54, 55, 56, 57, 58, 59, 60, 61, 62, 63, 64, 65, 66, 67, 68, 69, 70, 71, 72, 73, 74, 75, 76, 77, 78, 79, 80, 81, 82, 83, 84, 85]) (pre := (lW K h x ato an ac xu xf xv hm am To Ne Cr U aqu Nqu Squ f F2_624 V2_624 aqt2_624 Nqt2_624 Sqt2_624 M)) (w1 := (wMo K hm am M)) rfl (Nat.le_of_ble_eq_true rfl)).trans rfl) ?_
  refine z_st (st2 := [vZ v_633, vZ v_624]) rfl ?_
  have heq : v_624 = v_633 := by
    rcases hv_624 with ⟨z1, z | z⟩ | z <;> rcases hv_633 with ⟨y1, y | y⟩ | y
    · rw [z.2, y.2]
    · have := z.1; have := y.1; omega
    · exact absurd z1 y.1
    · have := z.1; have := y.1; omega
    · rw [z.2, y.2]
    · exact absurd z1 y.1
    · exact absurd y1 z.1
    · exact absurd y1 z.1
    · rw [z.2, y.2]
  have hz0 := hpw2_624
  have hz1 := hgc_624
  have hz2 := hgs_624
  refine z_eqj ZC 859 dL_law_636 (by decide) (heq) ?_
  refine z_ws (ws2 := (lW K h x ato an ac xu xf xv hm am To Ne Cr U aqu Nqu Squ f F2_624 V2_624 aqt2_624 Nqt2_624 Sqt2_624 M2_633 ++ lgW K hs ag Lg nr)) rfl (z_lv (lv2 := [(0, .ref b), (1, .ref h), (2, .ref hm), (3, vZ i)]) ⟨rfl, rfl, rfl, rfl, trivial⟩ ?_)
  refine jn_859 To Ne Cr U aqu Nqu Squ f F2_624 V2_624 aqt2_624 Nqt2_624 Sqt2_624 M2_633 hs ag Lg nr (gv + gc_624 + 0) (gw + gs_624 + 0) A Cq C ?_ ?_ ?_ ?_ ?_ ?_
  · skip
    exact hA
  · skip
    exact hB
  · skip
    exact ⟨c1, c2, hpw2_624.1, hF2_624⟩
  · skip
    exact lgD_keep hD hkp_633 hmx2_633 hli2_633 rfl rfl
  · skip
    exact lgE_keep hE hkp_633 rfl
  · skip
    unfold LgF
    omega

set_option maxHeartbeats 4000000 in
set_option maxRecDepth 100000 in
theorem lw_counted_y {zp : Program} {zl : Launch} {ze : Env} {zR : Room} {zs : State} {zm : MethodId} {zargs : Array Value} {zbelow : List Frame} {zmeth : Method} {zc : Code} {D : va_G} {K : tyK} {zA : Nat → Prop} {zQ : State → Prop} {b L : Nat} {xs : Nat → Int32} (ZC : Zc zp zs zm zargs zc D K zA 4 cL_law RL) (hX : va_X b L xs zs zs.heap) (hbl : b < zs.heap.size) (hbA : ¬ zA b) (hL : L ≤ 2560) (hRf : zR.frames = 10) (hRc : zR.cells = 600000) (hRs : zR.slots = 7302250) (hRl : zR.locals = 366) (h : Nat) (x ato an ac xu xf xv : Nat → Nat) (hm : Nat) (am : Nat → Nat) (i : Int) (jn_859 : ∀ (To : Bd) (Ne : Bd) (Cr : Bd) (U : Bd) (aqu : Nat → Nat) (Nqu : Nat) (Squ : Bd) (f : Nat → Option Nat) (F : Bd) (V : Bd) (aqt : Nat → Nat) (Nqt : Nat) (Sqt : Bd) (M : Bd) (hs : Nat → Nat) (ag : Nat → Nat → Nat) (Lg : Nat → Bd) (nr : Nat) (gv : Nat) (gw : Nat) (A : Ab) (Cq : Int → List Pt3) (C : Int → List Pt3), LgA To Ne Cr → LgB Ne Cr A → LgC To Ne Cr U Nqu Squ F Nqt A Cq → LgD To Ne Cr A M C → LgE Ne f M hs Lg nr A → LgF Nqu Nqt nr gv gw → Zw zp zl ze zR zs zm zargs zbelow zmeth zc D zA 4 zQ gv gw (lW K h x ato an ac xu xf xv hm am To Ne Cr U aqu Nqu Squ f F V aqt Nqt Sqt M ++ lgW K hs ag Lg nr) 859 [(0, .ref b), (1, .ref h), (2, .ref hm), (3, vZ i)] []) (To : Bd) (Ne : Bd) (Cr : Bd) (U : Bd) (aqu : Nat → Nat) (Nqu : Nat) (Squ : Bd) (f : Nat → Option Nat) (F : Bd) (V : Bd) (aqt : Nat → Nat) (Nqt : Nat) (Sqt : Bd) (M : Bd) (hs : Nat → Nat) (ag : Nat → Nat → Nat) (Lg : Nat → Bd) (nr : Nat) (gv : Nat) (gw : Nat) (A : Ab) (Cq : Int → List Pt3) (C : Int → List Pt3) (hA : LgA To Ne Cr) (hB : LgB Ne Cr A) (hC : LgC To Ne Cr U Nqu Squ F Nqt A Cq) (hD : LgD To Ne Cr A M C) (hE : LgE Ne f M hs Lg nr A) (hF : LgF Nqu Nqt nr gv gw) (hi : 0 ≤ i ∧ i + 5 ≤ (L : Int)) (hrd : 0 ≤ (xz xs (i + 1)) ∧ (xz xs (i + 1)) < Ne.2 8) : Zw zp zl ze zR zs zm zargs zbelow zmeth zc D zA 4 zQ gv gw (lW K h x ato an ac xu xf xv hm am To Ne Cr U aqu Nqu Squ f F V aqt Nqt Sqt M ++ lgW K hs ag Lg nr) 641 [(0, .ref b), (1, .ref h), (2, .ref hm), (3, vZ i)] [] := by
  obtain ⟨a1, a2, a3, a4, a5, a6, a7, a8⟩ := id hA
  obtain ⟨b1, b2, b3, b4, b5, b6⟩ := id hB
  obtain ⟨c1, c2, c3, c4⟩ := id hC
  obtain ⟨d1, d2, d3, d4⟩ := id hD
  obtain ⟨e1, e2, e3, e4⟩ := id hE
  obtain ⟨hf1, hf2⟩ := id hF
  have hne := a1.1
  have hcr := a1.2.1
  have hls := nw_ls a2
  have enw : U.2 12 = A.2.1 0 := c1.2.2.2.2.1.1
  have hnw0 := b1.2.1
  have m0 : M.2 0 = To.2 3 := d1.1.1
  have m3 : M.2 3 = To.2 2 := d1.1.2.1
  have m4 : M.2 4 = Ne.2 8 := d1.2.1.1
  have m12 : M.2 12 = Cr.2 3 := d1.2.2.1
  have m20 : M.2 20 = A.2.1 0 := d2.2.2.2.1
  have hG1 := lo_rng c1.1
  have hpr1 := pw_rng c3
  have hus0 := mx_us d2 a1 b1
  have hmn := m11 d1.2.1 a2
  have hx1 := xz_rng xs (i + 1)
  have hx2 := xz_rng xs (i + 2)
  have hx3 := xz_rng xs (i + 3)
  have hx4 := xz_rng xs (i + 4)
  have hnr := e1.1
  refine z_aload_n ZC 1 dL_law_641 rfl rfl ?_
  refine z_aload_n ZC 0 dL_law_642 rfl rfl ?_
  refine z_iload_n ZC 3 dL_law_643 rfl rfl ?_
  refine z_iconst ZC dL_law_644 ?_
  refine z_iadd ZC dL_law_645 ?_
  refine z_sld ZC hX hbl hbA dL_law_646 (by omega) ?_
  refine z_aload_n ZC 0 dL_law_647 rfl rfl ?_
  refine z_iload_n ZC 3 dL_law_648 rfl rfl ?_
  refine z_iconst ZC dL_law_649 ?_
  refine z_iadd ZC dL_law_650 ?_
  refine z_sld ZC hX hbl hbA dL_law_651 (by omega) ?_
  refine z_aload_n ZC 0 dL_law_652 rfl rfl ?_
  refine z_iload_n ZC 3 dL_law_653 rfl rfl ?_
  refine z_iconst ZC dL_law_654 ?_
  refine z_iadd ZC dL_law_655 ?_
  refine z_sld ZC hX hbl hbA dL_law_656 (by omega) ?_
  have hbm_657 : ([0, 4, 5, 6, 7, 8, 9, 10, 11, 12, 17, 18, 19, 20, 21, 22, 23, 24, 33] : List Nat).map (fun k => ((lW K h x ato an ac xu xf xv hm am To Ne Cr U aqu Nqu Squ f F V aqt Nqt Sqt M) : va_W)[k]?) = (((wSh h x) ++ (wNe K (x 1) an Ne) ++ (wTr K (x 3) (upf (upf (upf xu 0 (x 0)) 1 (x 1)) 2 (x 2)) U) ++ (wLA K (x 4) f)) : va_W).map some := rfl
  refine z_callV ZC 3 (c_X7_counted zl D K h x an Ne xu U f (hs (xz xs (i + 1)).toNat) (ag (xz xs (i + 1)).toNat) (Lg (xz xs (i + 1)).toNat) (xz xs (i + 1)) (xz xs (i + 2)) (xz xs (i + 3)) (by omega) (by omega) (by omega) (by omega) (by omega) (hrd) (e1.2 (xz xs (i + 1)).toNat (by omega))) (gdV uM_L_88 uI_X7_counted uS_X7_counted uN_X7 uC_X7_counted) (by decide +kernel) rfl ⟨by omega, by omega⟩ ⟨by omega, by omega⟩ (Nat.le_of_ble_eq_true rfl) ([0, 4, 5, 6, 7, 8, 9, 10, 11, 12, 17, 18, 19, 20, 21, 22, 23, 24, 33] ++ is4 86 ((xz xs (i + 1)).toNat)) (pl_map (by omega) hbm_657 rfl) (pl_nd hbm_657 (by decide) rfl) rfl rfl rfl rfl dL_law_657 (fun r w2 gc_657 gs_657 hp => ?_)
  obtain ⟨Lo2_657, v_657, rfl, rfl, rfl, rfl, hv_657⟩ := hp
  refine z_ws (ws2 := (lW K h x ato an ac xu xf xv hm am To Ne Cr U aqu Nqu Squ f F V aqt Nqt Sqt M ++ lgW K hs ag (va_up Lg ((xz xs (i + 1)).toNat) Lo2_657) nr)) ((pl_rep (w2 := ((wSh h x) ++ (wNe K (x 1) an Ne) ++ (wTr K (x 3) (upf (upf (upf xu 0 (x 0)) 1 (x 1)) 2 (x 2)) U) ++ (wLA K (x 4) f))) (by omega) Lo2_657 hbm_657 rfl rfl).trans rfl) ?_
  refine z_st (st2 := [vZ v_657]) rfl ?_
  refine z_aload_n ZC 2 dL_law_660 rfl rfl ?_
  refine z_aload_n ZC 0 dL_law_661 rfl rfl ?_
  refine z_iload_n ZC 3 dL_law_662 rfl rfl ?_
  refine z_iconst ZC dL_law_663 ?_
  refine z_iadd ZC dL_law_664 ?_
  refine z_sld ZC hX hbl hbA dL_law_665 (by omega) ?_
  refine z_aload_n ZC 0 dL_law_666 rfl rfl ?_
  refine z_iload_n ZC 3 dL_law_667 rfl rfl ?_
  refine z_iconst ZC dL_law_668 ?_
  refine z_iadd ZC dL_law_669 ?_
  refine z_sld ZC hX hbl hbA dL_law_670 (by omega) ?_
  refine z_aload_n ZC 0 dL_law_671 rfl rfl ?_
  refine z_iload_n ZC 3 dL_law_672 rfl rfl ?_
  refine z_iconst ZC dL_law_673 ?_
  refine z_iadd ZC dL_law_674 ?_
  refine z_sld ZC hX hbl hbA dL_law_675 (by omega) ?_
  refine z_callV ZC 3 (c_X8_counted zl D K hm am M (xz xs (i + 1)) (xz xs (i + 2)) (xz xs (i + 3)) (by omega) (by omega) (by omega) (by omega) (by omega)) (gdV uM_L_91 uI_X8_counted uS_X8_counted uN_X8 uC_X8_counted) (by decide +kernel) rfl ⟨by omega, by omega⟩ ⟨by omega, by omega⟩ (Nat.le_of_ble_eq_true rfl) [54, 55, 56, 57, 58, 59, 60, 61, 62, 63, 64, 65, 66, 67, 68, 69, 70, 71, 72, 73, 74, 75, 76, 77, 78, 79, 80, 81, 82, 83, 84, 85] rfl (by decide) rfl rfl rfl rfl dL_law_676 (fun r w2 gc_676 gs_676 hp => ?_)
  obtain ⟨M2_676, v_676, rfl, rfl, rfl, rfl, hv_676⟩ := hp
  refine z_ws (ws2 := (lW K h x ato an ac xu xf xv hm am To Ne Cr U aqu Nqu Squ f F V aqt Nqt Sqt M2_676 ++ lgW K hs ag (va_up Lg ((xz xs (i + 1)).toNat) Lo2_657) nr)) ((rep_pre (is := [54, 55, 56, 57, 58, 59, 60, 61, 62, 63, 64, 65, 66, 67, 68, 69, 70, 71, 72, 73, 74, 75, 76, 77, 78, 79, 80, 81, 82, 83, 84, 85]) (pre := (lW K h x ato an ac xu xf xv hm am To Ne Cr U aqu Nqu Squ f F V aqt Nqt Sqt M)) (w1 := (wMo K hm am M)) rfl (Nat.le_of_ble_eq_true rfl)).trans rfl) ?_
  refine z_st (st2 := [vZ v_676, vZ v_657]) rfl ?_
  by_cases hk : (0 ≤ (xz xs (i + 2)) ∧ (xz xs (i + 2)) < U.2 12 ∧ (xz xs (i + 2)) < 200) ∧ (-1 ≤ (xz xs (i + 3)) ∧ (xz xs (i + 3)) ≤ 5000)
  · skip
    obtain ⟨-, ev, eL⟩ := hv_657.resolve_right (fun q => q.1 hk)
    obtain ⟨-, ev2, eM⟩ := hv_676.resolve_right (fun q => q.1 (by omega))
    refine z_eqj ZC 859 dL_law_679 (by decide) (by omega) ?_
    refine z_ws (ws2 := (lW K h x ato an ac xu xf xv hm am To Ne Cr U aqu Nqu Squ f F V aqt Nqt Sqt M2_676 ++ lgW K hs ag (va_up Lg ((xz xs (i + 1)).toNat) Lo2_657) nr)) rfl (z_lv (lv2 := [(0, .ref b), (1, .ref h), (2, .ref hm), (3, vZ i)]) ⟨rfl, rfl, rfl, rfl, trivial⟩ ?_)
    refine jn_859 To Ne Cr U aqu Nqu Squ f F V aqt Nqt Sqt M2_676 hs ag (va_up Lg ((xz xs (i + 1)).toNat) Lo2_657) nr (gv + 0 + 0) (gw + 0 + 0) A Cq C ?_ ?_ ?_ ?_ ?_ ?_
    · skip
      exact hA
    · skip
      exact hB
    · skip
      exact hC
    · skip
      rw [eM]; exact hD
    · skip
      rw [eL, eM]; exact s_counted hE hrd (by omega) hk.2
    · skip
      unfold LgF
      omega
  · skip
    obtain ⟨-, ev, eL⟩ := hv_657.resolve_left (fun q => hk q.1)
    obtain ⟨-, ev2, eM⟩ := hv_676.resolve_left (fun q => hk (by have q1 := q.1; omega))
    refine z_eqj ZC 859 dL_law_679 (by decide) (by omega) ?_
    refine z_ws (ws2 := (lW K h x ato an ac xu xf xv hm am To Ne Cr U aqu Nqu Squ f F V aqt Nqt Sqt M2_676 ++ lgW K hs ag (va_up Lg ((xz xs (i + 1)).toNat) Lo2_657) nr)) rfl (z_lv (lv2 := [(0, .ref b), (1, .ref h), (2, .ref hm), (3, vZ i)]) ⟨rfl, rfl, rfl, rfl, trivial⟩ ?_)
    refine jn_859 To Ne Cr U aqu Nqu Squ f F V aqt Nqt Sqt M2_676 hs ag (va_up Lg ((xz xs (i + 1)).toNat) Lo2_657) nr (gv + 0 + 0) (gw + 0 + 0) A Cq C ?_ ?_ ?_ ?_ ?_ ?_
    · skip
      exact hA
    · skip
      exact hB
    · skip
      exact hC
    · skip
      rw [eM]; exact hD
    · skip
      rw [eL, eM]
      have e : va_up Lg (xz xs (i + 1)).toNat (Lg (xz xs (i + 1)).toNat) = Lg := by
        funext j
        by_cases z : j = (xz xs (i + 1)).toNat
        · rw [z, va_up_self]
        · rw [va_up_ne _ _ z]
      rw [e]
      exact hE
    · skip
      unfold LgF
      omega

set_option maxHeartbeats 4000000 in
set_option maxRecDepth 100000 in
theorem lw_counted_n {zp : Program} {zl : Launch} {ze : Env} {zR : Room} {zs : State} {zm : MethodId} {zargs : Array Value} {zbelow : List Frame} {zmeth : Method} {zc : Code} {D : va_G} {K : tyK} {zA : Nat → Prop} {zQ : State → Prop} {b L : Nat} {xs : Nat → Int32} (ZC : Zc zp zs zm zargs zc D K zA 4 cL_law RL) (hX : va_X b L xs zs zs.heap) (hbl : b < zs.heap.size) (hbA : ¬ zA b) (hL : L ≤ 2560) (hRf : zR.frames = 10) (hRc : zR.cells = 600000) (hRs : zR.slots = 7302250) (hRl : zR.locals = 366) (h : Nat) (x ato an ac xu xf xv : Nat → Nat) (hm : Nat) (am : Nat → Nat) (i : Int) (jn_859 : ∀ (To : Bd) (Ne : Bd) (Cr : Bd) (U : Bd) (aqu : Nat → Nat) (Nqu : Nat) (Squ : Bd) (f : Nat → Option Nat) (F : Bd) (V : Bd) (aqt : Nat → Nat) (Nqt : Nat) (Sqt : Bd) (M : Bd) (hs : Nat → Nat) (ag : Nat → Nat → Nat) (Lg : Nat → Bd) (nr : Nat) (gv : Nat) (gw : Nat) (A : Ab) (Cq : Int → List Pt3) (C : Int → List Pt3), LgA To Ne Cr → LgB Ne Cr A → LgC To Ne Cr U Nqu Squ F Nqt A Cq → LgD To Ne Cr A M C → LgE Ne f M hs Lg nr A → LgF Nqu Nqt nr gv gw → Zw zp zl ze zR zs zm zargs zbelow zmeth zc D zA 4 zQ gv gw (lW K h x ato an ac xu xf xv hm am To Ne Cr U aqu Nqu Squ f F V aqt Nqt Sqt M ++ lgW K hs ag Lg nr) 859 [(0, .ref b), (1, .ref h), (2, .ref hm), (3, vZ i)] []) (To : Bd) (Ne : Bd) (Cr : Bd) (U : Bd) (aqu : Nat → Nat) (Nqu : Nat) (Squ : Bd) (f : Nat → Option Nat) (F : Bd) (V : Bd) (aqt : Nat → Nat) (Nqt : Nat) (Sqt : Bd) (M : Bd) (hs : Nat → Nat) (ag : Nat → Nat → Nat) (Lg : Nat → Bd) (nr : Nat) (gv : Nat) (gw : Nat) (A : Ab) (Cq : Int → List Pt3) (C : Int → List Pt3) (hA : LgA To Ne Cr) (hB : LgB Ne Cr A) (hC : LgC To Ne Cr U Nqu Squ F Nqt A Cq) (hD : LgD To Ne Cr A M C) (hE : LgE Ne f M hs Lg nr A) (hF : LgF Nqu Nqt nr gv gw) (hi : 0 ≤ i ∧ i + 5 ≤ (L : Int)) (hrd : ¬ (0 ≤ (xz xs (i + 1)) ∧ (xz xs (i + 1)) < Ne.2 8)) : Zw zp zl ze zR zs zm zargs zbelow zmeth zc D zA 4 zQ gv gw (lW K h x ato an ac xu xf xv hm am To Ne Cr U aqu Nqu Squ f F V aqt Nqt Sqt M ++ lgW K hs ag Lg nr) 641 [(0, .ref b), (1, .ref h), (2, .ref hm), (3, vZ i)] [] := by
  obtain ⟨a1, a2, a3, a4, a5, a6, a7, a8⟩ := id hA
  obtain ⟨b1, b2, b3, b4, b5, b6⟩ := id hB
  obtain ⟨c1, c2, c3, c4⟩ := id hC
  obtain ⟨d1, d2, d3, d4⟩ := id hD
  obtain ⟨e1, e2, e3, e4⟩ := id hE
  obtain ⟨hf1, hf2⟩ := id hF
  have hne := a1.1
  have hcr := a1.2.1
  have hls := nw_ls a2
  have enw : U.2 12 = A.2.1 0 := c1.2.2.2.2.1.1
  have hnw0 := b1.2.1
  have m0 : M.2 0 = To.2 3 := d1.1.1
  have m3 : M.2 3 = To.2 2 := d1.1.2.1
  have m4 : M.2 4 = Ne.2 8 := d1.2.1.1
  have m12 : M.2 12 = Cr.2 3 := d1.2.2.1
  have m20 : M.2 20 = A.2.1 0 := d2.2.2.2.1
  have hG1 := lo_rng c1.1
  have hpr1 := pw_rng c3
  have hus0 := mx_us d2 a1 b1
  have hmn := m11 d1.2.1 a2
  have hx1 := xz_rng xs (i + 1)
  have hx2 := xz_rng xs (i + 2)
  have hx3 := xz_rng xs (i + 3)
  have hx4 := xz_rng xs (i + 4)
  have hnr := e1.1
  refine z_aload_n ZC 1 dL_law_641 rfl rfl ?_
  refine z_aload_n ZC 0 dL_law_642 rfl rfl ?_
  refine z_iload_n ZC 3 dL_law_643 rfl rfl ?_
  refine z_iconst ZC dL_law_644 ?_
  refine z_iadd ZC dL_law_645 ?_
  refine z_sld ZC hX hbl hbA dL_law_646 (by omega) ?_
  refine z_aload_n ZC 0 dL_law_647 rfl rfl ?_
  refine z_iload_n ZC 3 dL_law_648 rfl rfl ?_
  refine z_iconst ZC dL_law_649 ?_
  refine z_iadd ZC dL_law_650 ?_
  refine z_sld ZC hX hbl hbA dL_law_651 (by omega) ?_
  refine z_aload_n ZC 0 dL_law_652 rfl rfl ?_
  refine z_iload_n ZC 3 dL_law_653 rfl rfl ?_
  refine z_iconst ZC dL_law_654 ?_
  refine z_iadd ZC dL_law_655 ?_
  refine z_sld ZC hX hbl hbA dL_law_656 (by omega) ?_
  refine z_callV ZC 3 (c_X7_countedN zl D K h x an Ne xu U f (xz xs (i + 1)) (xz xs (i + 2)) (xz xs (i + 3)) (by omega) (by omega) (by omega) (by omega) (hrd)) (gdV uM_L_88 uI_X7_counted uS_X7_counted uN_X7 uC_X7_counted) (by decide +kernel) rfl ⟨by omega, by omega⟩ ⟨by omega, by omega⟩ (Nat.le_of_ble_eq_true rfl) [0, 4, 5, 6, 7, 8, 9, 10, 11, 12, 17, 18, 19, 20, 21, 22, 23, 24, 33] rfl (by decide) rfl rfl rfl rfl dL_law_657 (fun r w2 gc_657 gs_657 hp => ?_)
  obtain ⟨rfl, rfl, rfl, rfl⟩ := hp
  refine z_ws (ws2 := (lW K h x ato an ac xu xf xv hm am To Ne Cr U aqu Nqu Squ f F V aqt Nqt Sqt M ++ lgW K hs ag Lg nr)) ((rep_pre (is := [0, 4, 5, 6, 7, 8, 9, 10, 11, 12, 17, 18, 19, 20, 21, 22, 23, 24, 33]) (pre := (lW K h x ato an ac xu xf xv hm am To Ne Cr U aqu Nqu Squ f F V aqt Nqt Sqt M)) (w1 := ((wSh h x) ++ (wNe K (x 1) an Ne) ++ (wTr K (x 3) (upf (upf (upf xu 0 (x 0)) 1 (x 1)) 2 (x 2)) U) ++ (wLA K (x 4) f))) rfl (Nat.le_of_ble_eq_true rfl)).trans rfl) ?_
  refine z_st (st2 := [vZ 0]) rfl ?_
  refine z_aload_n ZC 2 dL_law_660 rfl rfl ?_
  refine z_aload_n ZC 0 dL_law_661 rfl rfl ?_
  refine z_iload_n ZC 3 dL_law_662 rfl rfl ?_
  refine z_iconst ZC dL_law_663 ?_
  refine z_iadd ZC dL_law_664 ?_
  refine z_sld ZC hX hbl hbA dL_law_665 (by omega) ?_
  refine z_aload_n ZC 0 dL_law_666 rfl rfl ?_
  refine z_iload_n ZC 3 dL_law_667 rfl rfl ?_
  refine z_iconst ZC dL_law_668 ?_
  refine z_iadd ZC dL_law_669 ?_
  refine z_sld ZC hX hbl hbA dL_law_670 (by omega) ?_
  refine z_aload_n ZC 0 dL_law_671 rfl rfl ?_
  refine z_iload_n ZC 3 dL_law_672 rfl rfl ?_
  refine z_iconst ZC dL_law_673 ?_
  refine z_iadd ZC dL_law_674 ?_
  refine z_sld ZC hX hbl hbA dL_law_675 (by omega) ?_
  refine z_callV ZC 3 (c_X8_counted zl D K hm am M (xz xs (i + 1)) (xz xs (i + 2)) (xz xs (i + 3)) (by omega) (by omega) (by omega) (by omega) (by omega)) (gdV uM_L_91 uI_X8_counted uS_X8_counted uN_X8 uC_X8_counted) (by decide +kernel) rfl ⟨by omega, by omega⟩ ⟨by omega, by omega⟩ (Nat.le_of_ble_eq_true rfl) [54, 55, 56, 57, 58, 59, 60, 61, 62, 63, 64, 65, 66, 67, 68, 69, 70, 71, 72, 73, 74, 75, 76, 77, 78, 79, 80, 81, 82, 83, 84, 85] rfl (by decide) rfl rfl rfl rfl dL_law_676 (fun r w2 gc_676 gs_676 hp => ?_)
  obtain ⟨M2_676, v_676, rfl, rfl, rfl, rfl, hv_676⟩ := hp
  refine z_ws (ws2 := (lW K h x ato an ac xu xf xv hm am To Ne Cr U aqu Nqu Squ f F V aqt Nqt Sqt M2_676 ++ lgW K hs ag Lg nr)) ((rep_pre (is := [54, 55, 56, 57, 58, 59, 60, 61, 62, 63, 64, 65, 66, 67, 68, 69, 70, 71, 72, 73, 74, 75, 76, 77, 78, 79, 80, 81, 82, 83, 84, 85]) (pre := (lW K h x ato an ac xu xf xv hm am To Ne Cr U aqu Nqu Squ f F V aqt Nqt Sqt M)) (w1 := (wMo K hm am M)) rfl (Nat.le_of_ble_eq_true rfl)).trans rfl) ?_
  refine z_st (st2 := [vZ v_676, vZ 0]) rfl ?_
  obtain ⟨-, ev2, eM⟩ := hv_676.resolve_left (fun q => hrd (by have q1 := q.1; omega))
  refine z_eqj ZC 859 dL_law_679 (by decide) (by omega) ?_
  refine z_ws (ws2 := (lW K h x ato an ac xu xf xv hm am To Ne Cr U aqu Nqu Squ f F V aqt Nqt Sqt M2_676 ++ lgW K hs ag Lg nr)) rfl (z_lv (lv2 := [(0, .ref b), (1, .ref h), (2, .ref hm), (3, vZ i)]) ⟨rfl, rfl, rfl, rfl, trivial⟩ ?_)
  refine jn_859 To Ne Cr U aqu Nqu Squ f F V aqt Nqt Sqt M2_676 hs ag Lg nr (gv + 0 + 0) (gw + 0 + 0) A Cq C ?_ ?_ ?_ ?_ ?_ ?_
  · skip
    exact hA
  · skip
    exact hB
  · skip
    exact hC
  · skip
    rw [eM]; exact hD
  · skip
    rw [eM]; exact hE
  · skip
    unfold LgF
    omega

set_option maxHeartbeats 4000000 in
set_option maxRecDepth 100000 in
theorem lw_came_y {zp : Program} {zl : Launch} {ze : Env} {zR : Room} {zs : State} {zm : MethodId} {zargs : Array Value} {zbelow : List Frame} {zmeth : Method} {zc : Code} {D : va_G} {K : tyK} {zA : Nat → Prop} {zQ : State → Prop} {b L : Nat} {xs : Nat → Int32} (ZC : Zc zp zs zm zargs zc D K zA 4 cL_law RL) (hX : va_X b L xs zs zs.heap) (hbl : b < zs.heap.size) (hbA : ¬ zA b) (hL : L ≤ 2560) (hRf : zR.frames = 10) (hRc : zR.cells = 600000) (hRs : zR.slots = 7302250) (hRl : zR.locals = 366) (h : Nat) (x ato an ac xu xf xv : Nat → Nat) (hm : Nat) (am : Nat → Nat) (i : Int) (jn_859 : ∀ (To : Bd) (Ne : Bd) (Cr : Bd) (U : Bd) (aqu : Nat → Nat) (Nqu : Nat) (Squ : Bd) (f : Nat → Option Nat) (F : Bd) (V : Bd) (aqt : Nat → Nat) (Nqt : Nat) (Sqt : Bd) (M : Bd) (hs : Nat → Nat) (ag : Nat → Nat → Nat) (Lg : Nat → Bd) (nr : Nat) (gv : Nat) (gw : Nat) (A : Ab) (Cq : Int → List Pt3) (C : Int → List Pt3), LgA To Ne Cr → LgB Ne Cr A → LgC To Ne Cr U Nqu Squ F Nqt A Cq → LgD To Ne Cr A M C → LgE Ne f M hs Lg nr A → LgF Nqu Nqt nr gv gw → Zw zp zl ze zR zs zm zargs zbelow zmeth zc D zA 4 zQ gv gw (lW K h x ato an ac xu xf xv hm am To Ne Cr U aqu Nqu Squ f F V aqt Nqt Sqt M ++ lgW K hs ag Lg nr) 859 [(0, .ref b), (1, .ref h), (2, .ref hm), (3, vZ i)] []) (To : Bd) (Ne : Bd) (Cr : Bd) (U : Bd) (aqu : Nat → Nat) (Nqu : Nat) (Squ : Bd) (f : Nat → Option Nat) (F : Bd) (V : Bd) (aqt : Nat → Nat) (Nqt : Nat) (Sqt : Bd) (M : Bd) (hs : Nat → Nat) (ag : Nat → Nat → Nat) (Lg : Nat → Bd) (nr : Nat) (gv : Nat) (gw : Nat) (A : Ab) (Cq : Int → List Pt3) (C : Int → List Pt3) (hA : LgA To Ne Cr) (hB : LgB Ne Cr A) (hC : LgC To Ne Cr U Nqu Squ F Nqt A Cq) (hD : LgD To Ne Cr A M C) (hE : LgE Ne f M hs Lg nr A) (hF : LgF Nqu Nqt nr gv gw) (hi : 0 ≤ i ∧ i + 5 ≤ (L : Int)) (hrd : 0 ≤ (xz xs (i + 1)) ∧ (xz xs (i + 1)) < Ne.2 8) : Zw zp zl ze zR zs zm zargs zbelow zmeth zc D zA 4 zQ gv gw (lW K h x ato an ac xu xf xv hm am To Ne Cr U aqu Nqu Squ f F V aqt Nqt Sqt M ++ lgW K hs ag Lg nr) 684 [(0, .ref b), (1, .ref h), (2, .ref hm), (3, vZ i)] [] := by
  obtain ⟨a1, a2, a3, a4, a5, a6, a7, a8⟩ := id hA
  obtain ⟨b1, b2, b3, b4, b5, b6⟩ := id hB
  obtain ⟨c1, c2, c3, c4⟩ := id hC
  obtain ⟨d1, d2, d3, d4⟩ := id hD
  obtain ⟨e1, e2, e3, e4⟩ := id hE
  obtain ⟨hf1, hf2⟩ := id hF
  have hne := a1.1
  have hcr := a1.2.1
  have hls := nw_ls a2
  have enw : U.2 12 = A.2.1 0 := c1.2.2.2.2.1.1
  have hnw0 := b1.2.1
  have m0 : M.2 0 = To.2 3 := d1.1.1
  have m3 : M.2 3 = To.2 2 := d1.1.2.1
  have m4 : M.2 4 = Ne.2 8 := d1.2.1.1
  have m12 : M.2 12 = Cr.2 3 := d1.2.2.1
  have m20 : M.2 20 = A.2.1 0 := d2.2.2.2.1
  have hG1 := lo_rng c1.1
  have hpr1 := pw_rng c3
  have hus0 := mx_us d2 a1 b1
  have hmn := m11 d1.2.1 a2
  have hx1 := xz_rng xs (i + 1)
  have hx2 := xz_rng xs (i + 2)
  have hx3 := xz_rng xs (i + 3)
  have hx4 := xz_rng xs (i + 4)
  have hnr := e1.1
  have hc17 : ∀ k : Int, 0 ≤ k → k < 3200 → (-1 ≤ M.1 17 k ∧ M.1 17 k ≤ 5000) ∧ (0 ≤ M.1 19 k ∧ M.1 19 k ≤ 1) := by
    intro k p q
    refine ⟨?_, e2.1 k p q⟩
    by_cases z : k / 200 < Ne.2 8
    · have g := (e2.2 (k / 200).toNat (k % 200) (by omega) (by omega) (by omega)).1
      have g2 := e3 (k / 200).toNat (by omega) (k % 200) (by omega) (by omega)
      rw [show 200 * (((k / 200).toNat : Nat) : Int) + k % 200 = k by omega] at g
      rw [g]; exact g2
    · have g := e4 (k / 200) (k % 200) (by omega) (by omega) (by omega) (by omega)
      rw [show 200 * (k / 200) + k % 200 = k by omega] at g
      rw [g]; omega
  refine z_aload_n ZC 1 dL_law_684 rfl rfl ?_
  refine z_aload_n ZC 0 dL_law_685 rfl rfl ?_
  refine z_iload_n ZC 3 dL_law_686 rfl rfl ?_
  refine z_iconst ZC dL_law_687 ?_
  refine z_iadd ZC dL_law_688 ?_
  refine z_sld ZC hX hbl hbA dL_law_689 (by omega) ?_
  refine z_aload_n ZC 0 dL_law_690 rfl rfl ?_
  refine z_iload_n ZC 3 dL_law_691 rfl rfl ?_
  refine z_iconst ZC dL_law_692 ?_
  refine z_iadd ZC dL_law_693 ?_
  refine z_sld ZC hX hbl hbA dL_law_694 (by omega) ?_
  refine z_aload_n ZC 0 dL_law_695 rfl rfl ?_
  refine z_iload_n ZC 3 dL_law_696 rfl rfl ?_
  refine z_iconst ZC dL_law_697 ?_
  refine z_iadd ZC dL_law_698 ?_
  refine z_sld ZC hX hbl hbA dL_law_699 (by omega) ?_
  refine z_aload_n ZC 0 dL_law_700 rfl rfl ?_
  refine z_iload_n ZC 3 dL_law_701 rfl rfl ?_
  refine z_iconst ZC dL_law_702 ?_
  refine z_iadd ZC dL_law_703 ?_
  refine z_sld ZC hX hbl hbA dL_law_704 (by omega) ?_
  have hbm_705 : ([0, 4, 5, 6, 7, 8, 9, 10, 11, 12, 17, 18, 19, 20, 21, 22, 23, 24, 33] : List Nat).map (fun k => ((lW K h x ato an ac xu xf xv hm am To Ne Cr U aqu Nqu Squ f F V aqt Nqt Sqt M) : va_W)[k]?) = (((wSh h x) ++ (wNe K (x 1) an Ne) ++ (wTr K (x 3) (upf (upf (upf xu 0 (x 0)) 1 (x 1)) 2 (x 2)) U) ++ (wLA K (x 4) f)) : va_W).map some := rfl
  refine z_callV ZC 4 (c_X7_came zl D K h x an Ne xu U f (hs (xz xs (i + 1)).toNat) (ag (xz xs (i + 1)).toNat) (Lg (xz xs (i + 1)).toNat) (xz xs (i + 1)) (xz xs (i + 2)) (xz xs (i + 3)) (xz xs (i + 4)) (by omega) (by omega) (by omega) (by omega) (by omega) (by omega) (hrd) (e1.2 (xz xs (i + 1)).toNat (by omega)) (e3 (xz xs (i + 1)).toNat (by omega))) (gdV uM_L_92 uI_X7_came uS_X7_came uN_X7 uC_X7_came) (by decide +kernel) rfl ⟨by omega, by omega⟩ ⟨by omega, by omega⟩ (Nat.le_of_ble_eq_true rfl) ([0, 4, 5, 6, 7, 8, 9, 10, 11, 12, 17, 18, 19, 20, 21, 22, 23, 24, 33] ++ is4 86 ((xz xs (i + 1)).toNat)) (pl_map (by omega) hbm_705 rfl) (pl_nd hbm_705 (by decide) rfl) rfl rfl rfl rfl dL_law_705 (fun r w2 gc_705 gs_705 hp => ?_)
  obtain ⟨v_705, rfl, rfl, rfl, rfl, hv_705⟩ := hp
  refine z_ws (ws2 := (lW K h x ato an ac xu xf xv hm am To Ne Cr U aqu Nqu Squ f F V aqt Nqt Sqt M ++ lgW K hs ag Lg nr)) ((pl_rep0 (w2 := ((wSh h x) ++ (wNe K (x 1) an Ne) ++ (wTr K (x 3) (upf (upf (upf xu 0 (x 0)) 1 (x 1)) 2 (x 2)) U) ++ (wLA K (x 4) f))) (by omega) hbm_705 rfl rfl).trans rfl) ?_
  refine z_st (st2 := [vZ v_705]) rfl ?_
  refine z_aload_n ZC 2 dL_law_708 rfl rfl ?_
  refine z_aload_n ZC 0 dL_law_709 rfl rfl ?_
  refine z_iload_n ZC 3 dL_law_710 rfl rfl ?_
  refine z_iconst ZC dL_law_711 ?_
  refine z_iadd ZC dL_law_712 ?_
  refine z_sld ZC hX hbl hbA dL_law_713 (by omega) ?_
  refine z_aload_n ZC 0 dL_law_714 rfl rfl ?_
  refine z_iload_n ZC 3 dL_law_715 rfl rfl ?_
  refine z_iconst ZC dL_law_716 ?_
  refine z_iadd ZC dL_law_717 ?_
  refine z_sld ZC hX hbl hbA dL_law_718 (by omega) ?_
  refine z_aload_n ZC 0 dL_law_719 rfl rfl ?_
  refine z_iload_n ZC 3 dL_law_720 rfl rfl ?_
  refine z_iconst ZC dL_law_721 ?_
  refine z_iadd ZC dL_law_722 ?_
  refine z_sld ZC hX hbl hbA dL_law_723 (by omega) ?_
  refine z_aload_n ZC 0 dL_law_724 rfl rfl ?_
  refine z_iload_n ZC 3 dL_law_725 rfl rfl ?_
  refine z_iconst ZC dL_law_726 ?_
  refine z_iadd ZC dL_law_727 ?_
  refine z_sld ZC hX hbl hbA dL_law_728 (by omega) ?_
  refine z_callV ZC 4 (c_X8_came zl D K hm am M (xz xs (i + 1)) (xz xs (i + 2)) (xz xs (i + 3)) (xz xs (i + 4)) (by omega) (by omega) (by omega) (by omega) (by omega) (by omega) (hc17)) (gdV uM_L_95 uI_X8_came uS_X8_came uN_X8 uC_X8_came) (by decide +kernel) rfl ⟨by omega, by omega⟩ ⟨by omega, by omega⟩ (Nat.le_of_ble_eq_true rfl) [54, 55, 56, 57, 58, 59, 60, 61, 62, 63, 64, 65, 66, 67, 68, 69, 70, 71, 72, 73, 74, 75, 76, 77, 78, 79, 80, 81, 82, 83, 84, 85] rfl (by decide) rfl rfl rfl rfl dL_law_729 (fun r w2 gc_729 gs_729 hp => ?_)
  obtain ⟨v_729, rfl, rfl, rfl, rfl, hv_729⟩ := hp
  refine z_ws (ws2 := (lW K h x ato an ac xu xf xv hm am To Ne Cr U aqu Nqu Squ f F V aqt Nqt Sqt M ++ lgW K hs ag Lg nr)) ((rep_pre (is := [54, 55, 56, 57, 58, 59, 60, 61, 62, 63, 64, 65, 66, 67, 68, 69, 70, 71, 72, 73, 74, 75, 76, 77, 78, 79, 80, 81, 82, 83, 84, 85]) (pre := (lW K h x ato an ac xu xf xv hm am To Ne Cr U aqu Nqu Squ f F V aqt Nqt Sqt M)) (w1 := (wMo K hm am M)) rfl (Nat.le_of_ble_eq_true rfl)).trans rfl) ?_
  refine z_st (st2 := [vZ v_729, vZ v_705]) rfl ?_
  have heq : v_705 = v_729 := by
    rcases hv_705 with z | z | z
    · have hq := came_eq (fr := (xz xs (i + 2))) (tt := (xz xs (i + 3))) e2 hrd (d1.2.1.2.1 (xz xs (i + 1)) hrd.1 hrd.2).2.2.1 (by omega)
      have hy := (hv_729.resolve_right (fun q => q.1 (by omega))).2.1
      rw [z.2.1] at hy
      rw [z.2.2, hy]
      exact hq.1
    · have hq := came_eq (fr := (xz xs (i + 2))) (tt := (xz xs (i + 3))) e2 hrd (d1.2.1.2.1 (xz xs (i + 1)) hrd.1 hrd.2).2.2.1 (by omega)
      have hy := (hv_729.resolve_right (fun q => q.1 (by omega))).2.1
      rw [z.2.1] at hy
      rw [z.2.2, hy]
      exact hq.2
    · have hy := (hv_729.resolve_left (fun q => z.1 (by have q1 := q.1; omega))).2.1
      rw [z.2, hy]
  refine z_eqj ZC 859 dL_law_732 (by decide) (heq) ?_
  refine z_ws (ws2 := (lW K h x ato an ac xu xf xv hm am To Ne Cr U aqu Nqu Squ f F V aqt Nqt Sqt M ++ lgW K hs ag Lg nr)) rfl (z_lv (lv2 := [(0, .ref b), (1, .ref h), (2, .ref hm), (3, vZ i)]) ⟨rfl, rfl, rfl, rfl, trivial⟩ ?_)
  refine jn_859 To Ne Cr U aqu Nqu Squ f F V aqt Nqt Sqt M hs ag Lg nr (gv + 0 + 0) (gw + 0 + 0) A Cq C ?_ ?_ ?_ ?_ ?_ ?_
  · skip
    exact hA
  · skip
    exact hB
  · skip
    exact hC
  · skip
    exact hD
  · skip
    exact hE
  · skip
    unfold LgF
    omega

set_option maxHeartbeats 4000000 in
set_option maxRecDepth 100000 in
theorem lw_came_n {zp : Program} {zl : Launch} {ze : Env} {zR : Room} {zs : State} {zm : MethodId} {zargs : Array Value} {zbelow : List Frame} {zmeth : Method} {zc : Code} {D : va_G} {K : tyK} {zA : Nat → Prop} {zQ : State → Prop} {b L : Nat} {xs : Nat → Int32} (ZC : Zc zp zs zm zargs zc D K zA 4 cL_law RL) (hX : va_X b L xs zs zs.heap) (hbl : b < zs.heap.size) (hbA : ¬ zA b) (hL : L ≤ 2560) (hRf : zR.frames = 10) (hRc : zR.cells = 600000) (hRs : zR.slots = 7302250) (hRl : zR.locals = 366) (h : Nat) (x ato an ac xu xf xv : Nat → Nat) (hm : Nat) (am : Nat → Nat) (i : Int) (jn_859 : ∀ (To : Bd) (Ne : Bd) (Cr : Bd) (U : Bd) (aqu : Nat → Nat) (Nqu : Nat) (Squ : Bd) (f : Nat → Option Nat) (F : Bd) (V : Bd) (aqt : Nat → Nat) (Nqt : Nat) (Sqt : Bd) (M : Bd) (hs : Nat → Nat) (ag : Nat → Nat → Nat) (Lg : Nat → Bd) (nr : Nat) (gv : Nat) (gw : Nat) (A : Ab) (Cq : Int → List Pt3) (C : Int → List Pt3), LgA To Ne Cr → LgB Ne Cr A → LgC To Ne Cr U Nqu Squ F Nqt A Cq → LgD To Ne Cr A M C → LgE Ne f M hs Lg nr A → LgF Nqu Nqt nr gv gw → Zw zp zl ze zR zs zm zargs zbelow zmeth zc D zA 4 zQ gv gw (lW K h x ato an ac xu xf xv hm am To Ne Cr U aqu Nqu Squ f F V aqt Nqt Sqt M ++ lgW K hs ag Lg nr) 859 [(0, .ref b), (1, .ref h), (2, .ref hm), (3, vZ i)] []) (To : Bd) (Ne : Bd) (Cr : Bd) (U : Bd) (aqu : Nat → Nat) (Nqu : Nat) (Squ : Bd) (f : Nat → Option Nat) (F : Bd) (V : Bd) (aqt : Nat → Nat) (Nqt : Nat) (Sqt : Bd) (M : Bd) (hs : Nat → Nat) (ag : Nat → Nat → Nat) (Lg : Nat → Bd) (nr : Nat) (gv : Nat) (gw : Nat) (A : Ab) (Cq : Int → List Pt3) (C : Int → List Pt3) (hA : LgA To Ne Cr) (hB : LgB Ne Cr A) (hC : LgC To Ne Cr U Nqu Squ F Nqt A Cq) (hD : LgD To Ne Cr A M C) (hE : LgE Ne f M hs Lg nr A) (hF : LgF Nqu Nqt nr gv gw) (hi : 0 ≤ i ∧ i + 5 ≤ (L : Int)) (hrd : ¬ (0 ≤ (xz xs (i + 1)) ∧ (xz xs (i + 1)) < Ne.2 8)) : Zw zp zl ze zR zs zm zargs zbelow zmeth zc D zA 4 zQ gv gw (lW K h x ato an ac xu xf xv hm am To Ne Cr U aqu Nqu Squ f F V aqt Nqt Sqt M ++ lgW K hs ag Lg nr) 684 [(0, .ref b), (1, .ref h), (2, .ref hm), (3, vZ i)] [] := by
  obtain ⟨a1, a2, a3, a4, a5, a6, a7, a8⟩ := id hA
  obtain ⟨b1, b2, b3, b4, b5, b6⟩ := id hB
  obtain ⟨c1, c2, c3, c4⟩ := id hC
  obtain ⟨d1, d2, d3, d4⟩ := id hD
  obtain ⟨e1, e2, e3, e4⟩ := id hE
  obtain ⟨hf1, hf2⟩ := id hF
  have hne := a1.1
  have hcr := a1.2.1
  have hls := nw_ls a2
  have enw : U.2 12 = A.2.1 0 := c1.2.2.2.2.1.1
  have hnw0 := b1.2.1
  have m0 : M.2 0 = To.2 3 := d1.1.1
  have m3 : M.2 3 = To.2 2 := d1.1.2.1
  have m4 : M.2 4 = Ne.2 8 := d1.2.1.1
  have m12 : M.2 12 = Cr.2 3 := d1.2.2.1
  have m20 : M.2 20 = A.2.1 0 := d2.2.2.2.1
  have hG1 := lo_rng c1.1
  have hpr1 := pw_rng c3
  have hus0 := mx_us d2 a1 b1
  have hmn := m11 d1.2.1 a2
  have hx1 := xz_rng xs (i + 1)
  have hx2 := xz_rng xs (i + 2)
  have hx3 := xz_rng xs (i + 3)
  have hx4 := xz_rng xs (i + 4)
  have hnr := e1.1
  have hc17 : ∀ k : Int, 0 ≤ k → k < 3200 → (-1 ≤ M.1 17 k ∧ M.1 17 k ≤ 5000) ∧ (0 ≤ M.1 19 k ∧ M.1 19 k ≤ 1) := by
    intro k p q
    refine ⟨?_, e2.1 k p q⟩
    by_cases z : k / 200 < Ne.2 8
    · have g := (e2.2 (k / 200).toNat (k % 200) (by omega) (by omega) (by omega)).1
      have g2 := e3 (k / 200).toNat (by omega) (k % 200) (by omega) (by omega)
      rw [show 200 * (((k / 200).toNat : Nat) : Int) + k % 200 = k by omega] at g
      rw [g]; exact g2
    · have g := e4 (k / 200) (k % 200) (by omega) (by omega) (by omega) (by omega)
      rw [show 200 * (k / 200) + k % 200 = k by omega] at g
      rw [g]; omega
  refine z_aload_n ZC 1 dL_law_684 rfl rfl ?_
  refine z_aload_n ZC 0 dL_law_685 rfl rfl ?_
  refine z_iload_n ZC 3 dL_law_686 rfl rfl ?_
  refine z_iconst ZC dL_law_687 ?_
  refine z_iadd ZC dL_law_688 ?_
  refine z_sld ZC hX hbl hbA dL_law_689 (by omega) ?_
  refine z_aload_n ZC 0 dL_law_690 rfl rfl ?_
  refine z_iload_n ZC 3 dL_law_691 rfl rfl ?_
  refine z_iconst ZC dL_law_692 ?_
  refine z_iadd ZC dL_law_693 ?_
  refine z_sld ZC hX hbl hbA dL_law_694 (by omega) ?_
  refine z_aload_n ZC 0 dL_law_695 rfl rfl ?_
  refine z_iload_n ZC 3 dL_law_696 rfl rfl ?_
  refine z_iconst ZC dL_law_697 ?_
  refine z_iadd ZC dL_law_698 ?_
  refine z_sld ZC hX hbl hbA dL_law_699 (by omega) ?_
  refine z_aload_n ZC 0 dL_law_700 rfl rfl ?_
  refine z_iload_n ZC 3 dL_law_701 rfl rfl ?_
  refine z_iconst ZC dL_law_702 ?_
  refine z_iadd ZC dL_law_703 ?_
  refine z_sld ZC hX hbl hbA dL_law_704 (by omega) ?_
  refine z_callV ZC 4 (c_X7_cameN zl D K h x an Ne xu U f (xz xs (i + 1)) (xz xs (i + 2)) (xz xs (i + 3)) (xz xs (i + 4)) (by omega) (by omega) (by omega) (by omega) (by omega) (hrd)) (gdV uM_L_92 uI_X7_came uS_X7_came uN_X7 uC_X7_came) (by decide +kernel) rfl ⟨by omega, by omega⟩ ⟨by omega, by omega⟩ (Nat.le_of_ble_eq_true rfl) [0, 4, 5, 6, 7, 8, 9, 10, 11, 12, 17, 18, 19, 20, 21, 22, 23, 24, 33] rfl (by decide) rfl rfl rfl rfl dL_law_705 (fun r w2 gc_705 gs_705 hp => ?_)
  obtain ⟨rfl, rfl, rfl, rfl⟩ := hp
  refine z_ws (ws2 := (lW K h x ato an ac xu xf xv hm am To Ne Cr U aqu Nqu Squ f F V aqt Nqt Sqt M ++ lgW K hs ag Lg nr)) ((rep_pre (is := [0, 4, 5, 6, 7, 8, 9, 10, 11, 12, 17, 18, 19, 20, 21, 22, 23, 24, 33]) (pre := (lW K h x ato an ac xu xf xv hm am To Ne Cr U aqu Nqu Squ f F V aqt Nqt Sqt M)) (w1 := ((wSh h x) ++ (wNe K (x 1) an Ne) ++ (wTr K (x 3) (upf (upf (upf xu 0 (x 0)) 1 (x 1)) 2 (x 2)) U) ++ (wLA K (x 4) f))) rfl (Nat.le_of_ble_eq_true rfl)).trans rfl) ?_
  refine z_st (st2 := [vZ (-1)]) rfl ?_
  refine z_aload_n ZC 2 dL_law_708 rfl rfl ?_
  refine z_aload_n ZC 0 dL_law_709 rfl rfl ?_
  refine z_iload_n ZC 3 dL_law_710 rfl rfl ?_
  refine z_iconst ZC dL_law_711 ?_
  refine z_iadd ZC dL_law_712 ?_
  refine z_sld ZC hX hbl hbA dL_law_713 (by omega) ?_
  refine z_aload_n ZC 0 dL_law_714 rfl rfl ?_
  refine z_iload_n ZC 3 dL_law_715 rfl rfl ?_
  refine z_iconst ZC dL_law_716 ?_
  refine z_iadd ZC dL_law_717 ?_
  refine z_sld ZC hX hbl hbA dL_law_718 (by omega) ?_
  refine z_aload_n ZC 0 dL_law_719 rfl rfl ?_
  refine z_iload_n ZC 3 dL_law_720 rfl rfl ?_
  refine z_iconst ZC dL_law_721 ?_
  refine z_iadd ZC dL_law_722 ?_
  refine z_sld ZC hX hbl hbA dL_law_723 (by omega) ?_
  refine z_aload_n ZC 0 dL_law_724 rfl rfl ?_
  refine z_iload_n ZC 3 dL_law_725 rfl rfl ?_
  refine z_iconst ZC dL_law_726 ?_
  refine z_iadd ZC dL_law_727 ?_
  refine z_sld ZC hX hbl hbA dL_law_728 (by omega) ?_
  refine z_callV ZC 4 (c_X8_came zl D K hm am M (xz xs (i + 1)) (xz xs (i + 2)) (xz xs (i + 3)) (xz xs (i + 4)) (by omega) (by omega) (by omega) (by omega) (by omega) (by omega) (hc17)) (gdV uM_L_95 uI_X8_came uS_X8_came uN_X8 uC_X8_came) (by decide +kernel) rfl ⟨by omega, by omega⟩ ⟨by omega, by omega⟩ (Nat.le_of_ble_eq_true rfl) [54, 55, 56, 57, 58, 59, 60, 61, 62, 63, 64, 65, 66, 67, 68, 69, 70, 71, 72, 73, 74, 75, 76, 77, 78, 79, 80, 81, 82, 83, 84, 85] rfl (by decide) rfl rfl rfl rfl dL_law_729 (fun r w2 gc_729 gs_729 hp => ?_)
  obtain ⟨v_729, rfl, rfl, rfl, rfl, hv_729⟩ := hp
  refine z_ws (ws2 := (lW K h x ato an ac xu xf xv hm am To Ne Cr U aqu Nqu Squ f F V aqt Nqt Sqt M ++ lgW K hs ag Lg nr)) ((rep_pre (is := [54, 55, 56, 57, 58, 59, 60, 61, 62, 63, 64, 65, 66, 67, 68, 69, 70, 71, 72, 73, 74, 75, 76, 77, 78, 79, 80, 81, 82, 83, 84, 85]) (pre := (lW K h x ato an ac xu xf xv hm am To Ne Cr U aqu Nqu Squ f F V aqt Nqt Sqt M)) (w1 := (wMo K hm am M)) rfl (Nat.le_of_ble_eq_true rfl)).trans rfl) ?_
  refine z_st (st2 := [vZ v_729, vZ (-1)]) rfl ?_
  have hy := (hv_729.resolve_left (fun q => hrd (by have q1 := q.1; omega))).2.1
  refine z_eqj ZC 859 dL_law_732 (by decide) (by omega) ?_
  refine z_ws (ws2 := (lW K h x ato an ac xu xf xv hm am To Ne Cr U aqu Nqu Squ f F V aqt Nqt Sqt M ++ lgW K hs ag Lg nr)) rfl (z_lv (lv2 := [(0, .ref b), (1, .ref h), (2, .ref hm), (3, vZ i)]) ⟨rfl, rfl, rfl, rfl, trivial⟩ ?_)
  refine jn_859 To Ne Cr U aqu Nqu Squ f F V aqt Nqt Sqt M hs ag Lg nr (gv + 0 + 0) (gw + 0 + 0) A Cq C ?_ ?_ ?_ ?_ ?_ ?_
  · skip
    exact hA
  · skip
    exact hB
  · skip
    exact hC
  · skip
    exact hD
  · skip
    exact hE
  · skip
    unfold LgF
    omega

set_option maxHeartbeats 4000000 in
set_option maxRecDepth 100000 in
theorem lw_out_y {zp : Program} {zl : Launch} {ze : Env} {zR : Room} {zs : State} {zm : MethodId} {zargs : Array Value} {zbelow : List Frame} {zmeth : Method} {zc : Code} {D : va_G} {K : tyK} {zA : Nat → Prop} {zQ : State → Prop} {b L : Nat} {xs : Nat → Int32} (ZC : Zc zp zs zm zargs zc D K zA 4 cL_law RL) (hX : va_X b L xs zs zs.heap) (hbl : b < zs.heap.size) (hbA : ¬ zA b) (hL : L ≤ 2560) (hRf : zR.frames = 10) (hRc : zR.cells = 600000) (hRs : zR.slots = 7302250) (hRl : zR.locals = 366) (h : Nat) (x ato an ac xu xf xv : Nat → Nat) (hm : Nat) (am : Nat → Nat) (i : Int) (jn_859 : ∀ (To : Bd) (Ne : Bd) (Cr : Bd) (U : Bd) (aqu : Nat → Nat) (Nqu : Nat) (Squ : Bd) (f : Nat → Option Nat) (F : Bd) (V : Bd) (aqt : Nat → Nat) (Nqt : Nat) (Sqt : Bd) (M : Bd) (hs : Nat → Nat) (ag : Nat → Nat → Nat) (Lg : Nat → Bd) (nr : Nat) (gv : Nat) (gw : Nat) (A : Ab) (Cq : Int → List Pt3) (C : Int → List Pt3), LgA To Ne Cr → LgB Ne Cr A → LgC To Ne Cr U Nqu Squ F Nqt A Cq → LgD To Ne Cr A M C → LgE Ne f M hs Lg nr A → LgF Nqu Nqt nr gv gw → Zw zp zl ze zR zs zm zargs zbelow zmeth zc D zA 4 zQ gv gw (lW K h x ato an ac xu xf xv hm am To Ne Cr U aqu Nqu Squ f F V aqt Nqt Sqt M ++ lgW K hs ag Lg nr) 859 [(0, .ref b), (1, .ref h), (2, .ref hm), (3, vZ i)] []) (To : Bd) (Ne : Bd) (Cr : Bd) (U : Bd) (aqu : Nat → Nat) (Nqu : Nat) (Squ : Bd) (f : Nat → Option Nat) (F : Bd) (V : Bd) (aqt : Nat → Nat) (Nqt : Nat) (Sqt : Bd) (M : Bd) (hs : Nat → Nat) (ag : Nat → Nat → Nat) (Lg : Nat → Bd) (nr : Nat) (gv : Nat) (gw : Nat) (A : Ab) (Cq : Int → List Pt3) (C : Int → List Pt3) (hA : LgA To Ne Cr) (hB : LgB Ne Cr A) (hC : LgC To Ne Cr U Nqu Squ F Nqt A Cq) (hD : LgD To Ne Cr A M C) (hE : LgE Ne f M hs Lg nr A) (hF : LgF Nqu Nqt nr gv gw) (hi : 0 ≤ i ∧ i + 5 ≤ (L : Int)) (hrd : 0 ≤ (xz xs (i + 1)) ∧ (xz xs (i + 1)) < Ne.2 8) : Zw zp zl ze zR zs zm zargs zbelow zmeth zc D zA 4 zQ gv gw (lW K h x ato an ac xu xf xv hm am To Ne Cr U aqu Nqu Squ f F V aqt Nqt Sqt M ++ lgW K hs ag Lg nr) 737 [(0, .ref b), (1, .ref h), (2, .ref hm), (3, vZ i)] [] := by
  obtain ⟨a1, a2, a3, a4, a5, a6, a7, a8⟩ := id hA
  obtain ⟨b1, b2, b3, b4, b5, b6⟩ := id hB
  obtain ⟨c1, c2, c3, c4⟩ := id hC
  obtain ⟨d1, d2, d3, d4⟩ := id hD
  obtain ⟨e1, e2, e3, e4⟩ := id hE
  obtain ⟨hf1, hf2⟩ := id hF
  have hne := a1.1
  have hcr := a1.2.1
  have hls := nw_ls a2
  have enw : U.2 12 = A.2.1 0 := c1.2.2.2.2.1.1
  have hnw0 := b1.2.1
  have m0 : M.2 0 = To.2 3 := d1.1.1
  have m3 : M.2 3 = To.2 2 := d1.1.2.1
  have m4 : M.2 4 = Ne.2 8 := d1.2.1.1
  have m12 : M.2 12 = Cr.2 3 := d1.2.2.1
  have m20 : M.2 20 = A.2.1 0 := d2.2.2.2.1
  have hG1 := lo_rng c1.1
  have hpr1 := pw_rng c3
  have hus0 := mx_us d2 a1 b1
  have hmn := m11 d1.2.1 a2
  have hx1 := xz_rng xs (i + 1)
  have hx2 := xz_rng xs (i + 2)
  have hx3 := xz_rng xs (i + 3)
  have hx4 := xz_rng xs (i + 4)
  have hnr := e1.1
  refine z_aload_n ZC 1 dL_law_737 rfl rfl ?_
  refine z_aload_n ZC 0 dL_law_738 rfl rfl ?_
  refine z_iload_n ZC 3 dL_law_739 rfl rfl ?_
  refine z_iconst ZC dL_law_740 ?_
  refine z_iadd ZC dL_law_741 ?_
  refine z_sld ZC hX hbl hbA dL_law_742 (by omega) ?_
  refine z_aload_n ZC 0 dL_law_743 rfl rfl ?_
  refine z_iload_n ZC 3 dL_law_744 rfl rfl ?_
  refine z_iconst ZC dL_law_745 ?_
  refine z_iadd ZC dL_law_746 ?_
  refine z_sld ZC hX hbl hbA dL_law_747 (by omega) ?_
  have hbm_748 : ([0, 4, 5, 6, 7, 8, 9, 10, 11, 12, 17, 18, 19, 20, 21, 22, 23, 24, 33] : List Nat).map (fun k => ((lW K h x ato an ac xu xf xv hm am To Ne Cr U aqu Nqu Squ f F V aqt Nqt Sqt M) : va_W)[k]?) = (((wSh h x) ++ (wNe K (x 1) an Ne) ++ (wTr K (x 3) (upf (upf (upf xu 0 (x 0)) 1 (x 1)) 2 (x 2)) U) ++ (wLA K (x 4) f)) : va_W).map some := rfl
  refine z_callV ZC 2 (c_X7_out zl D K h x an Ne xu U f (hs (xz xs (i + 1)).toNat) (ag (xz xs (i + 1)).toNat) (Lg (xz xs (i + 1)).toNat) (xz xs (i + 1)) (xz xs (i + 2)) (by omega) (by omega) (by omega) (by omega) (hrd) (e1.2 (xz xs (i + 1)).toNat (by omega))) (gdV uM_L_96 uI_X7_out uS_X7_out uN_X7 uC_X7_out) (by decide +kernel) rfl ⟨by omega, by omega⟩ ⟨by omega, by omega⟩ (Nat.le_of_ble_eq_true rfl) ([0, 4, 5, 6, 7, 8, 9, 10, 11, 12, 17, 18, 19, 20, 21, 22, 23, 24, 33] ++ is4 86 ((xz xs (i + 1)).toNat)) (pl_map (by omega) hbm_748 rfl) (pl_nd hbm_748 (by decide) rfl) rfl rfl rfl rfl dL_law_748 (fun r w2 gc_748 gs_748 hp => ?_)
  obtain ⟨v_748, rfl, rfl, rfl, rfl, hv_748⟩ := hp
  refine z_ws (ws2 := (lW K h x ato an ac xu xf xv hm am To Ne Cr U aqu Nqu Squ f F V aqt Nqt Sqt M ++ lgW K hs ag Lg nr)) ((pl_rep0 (w2 := ((wSh h x) ++ (wNe K (x 1) an Ne) ++ (wTr K (x 3) (upf (upf (upf xu 0 (x 0)) 1 (x 1)) 2 (x 2)) U) ++ (wLA K (x 4) f))) (by omega) hbm_748 rfl rfl).trans rfl) ?_
  refine z_st (st2 := [vZ v_748]) rfl ?_
  refine z_aload_n ZC 2 dL_law_751 rfl rfl ?_
  refine z_aload_n ZC 0 dL_law_752 rfl rfl ?_
  refine z_iload_n ZC 3 dL_law_753 rfl rfl ?_
  refine z_iconst ZC dL_law_754 ?_
  refine z_iadd ZC dL_law_755 ?_
  refine z_sld ZC hX hbl hbA dL_law_756 (by omega) ?_
  refine z_aload_n ZC 0 dL_law_757 rfl rfl ?_
  refine z_iload_n ZC 3 dL_law_758 rfl rfl ?_
  refine z_iconst ZC dL_law_759 ?_
  refine z_iadd ZC dL_law_760 ?_
  refine z_sld ZC hX hbl hbA dL_law_761 (by omega) ?_
  refine z_callV ZC 2 (c_X8_out zl D K hm am M (xz xs (i + 1)) (xz xs (i + 2)) (by omega) (by omega) (by omega) (by omega)) (gdV uM_L_99 uI_X8_out uS_X8_out uN_X8 uC_X8_out) (by decide +kernel) rfl ⟨by omega, by omega⟩ ⟨by omega, by omega⟩ (Nat.le_of_ble_eq_true rfl) [54, 55, 56, 57, 58, 59, 60, 61, 62, 63, 64, 65, 66, 67, 68, 69, 70, 71, 72, 73, 74, 75, 76, 77, 78, 79, 80, 81, 82, 83, 84, 85] rfl (by decide) rfl rfl rfl rfl dL_law_762 (fun r w2 gc_762 gs_762 hp => ?_)
  obtain ⟨v_762, rfl, rfl, rfl, rfl, hv_762⟩ := hp
  refine z_ws (ws2 := (lW K h x ato an ac xu xf xv hm am To Ne Cr U aqu Nqu Squ f F V aqt Nqt Sqt M ++ lgW K hs ag Lg nr)) ((rep_pre (is := [54, 55, 56, 57, 58, 59, 60, 61, 62, 63, 64, 65, 66, 67, 68, 69, 70, 71, 72, 73, 74, 75, 76, 77, 78, 79, 80, 81, 82, 83, 84, 85]) (pre := (lW K h x ato an ac xu xf xv hm am To Ne Cr U aqu Nqu Squ f F V aqt Nqt Sqt M)) (w1 := (wMo K hm am M)) rfl (Nat.le_of_ble_eq_true rfl)).trans rfl) ?_
  refine z_st (st2 := [vZ v_762, vZ v_748]) rfl ?_
  have heq : v_748 = v_762 := by
    by_cases hk : (0 ≤ (xz xs (i + 2)) ∧ (xz xs (i + 2)) < U.2 12 ∧ (xz xs (i + 2)) < 200)
    · rw [(hv_748.resolve_right (fun q => q.1 hk)).2.1, (hv_762.resolve_right (fun q => q.1 (by omega))).2.1]
      have g := ((e2.2 (xz xs (i + 1)).toNat (xz xs (i + 2)) (by omega) (by omega) (by omega)).2 (by omega)).1
      rw [show (((xz xs (i + 1)).toNat : Nat) : Int) = (xz xs (i + 1)) by omega] at g
      exact g.symm
    · rw [(hv_748.resolve_left (fun q => hk q.1)).2.1, (hv_762.resolve_left (fun q => hk (by have q1 := q.1; omega))).2.1]
  refine z_eqj ZC 859 dL_law_765 (by decide) (heq) ?_
  refine z_ws (ws2 := (lW K h x ato an ac xu xf xv hm am To Ne Cr U aqu Nqu Squ f F V aqt Nqt Sqt M ++ lgW K hs ag Lg nr)) rfl (z_lv (lv2 := [(0, .ref b), (1, .ref h), (2, .ref hm), (3, vZ i)]) ⟨rfl, rfl, rfl, rfl, trivial⟩ ?_)
  refine jn_859 To Ne Cr U aqu Nqu Squ f F V aqt Nqt Sqt M hs ag Lg nr (gv + 0 + 0) (gw + 0 + 0) A Cq C ?_ ?_ ?_ ?_ ?_ ?_
  · skip
    exact hA
  · skip
    exact hB
  · skip
    exact hC
  · skip
    exact hD
  · skip
    exact hE
  · skip
    unfold LgF
    omega

set_option maxHeartbeats 4000000 in
set_option maxRecDepth 100000 in
theorem lw_out_n {zp : Program} {zl : Launch} {ze : Env} {zR : Room} {zs : State} {zm : MethodId} {zargs : Array Value} {zbelow : List Frame} {zmeth : Method} {zc : Code} {D : va_G} {K : tyK} {zA : Nat → Prop} {zQ : State → Prop} {b L : Nat} {xs : Nat → Int32} (ZC : Zc zp zs zm zargs zc D K zA 4 cL_law RL) (hX : va_X b L xs zs zs.heap) (hbl : b < zs.heap.size) (hbA : ¬ zA b) (hL : L ≤ 2560) (hRf : zR.frames = 10) (hRc : zR.cells = 600000) (hRs : zR.slots = 7302250) (hRl : zR.locals = 366) (h : Nat) (x ato an ac xu xf xv : Nat → Nat) (hm : Nat) (am : Nat → Nat) (i : Int) (jn_859 : ∀ (To : Bd) (Ne : Bd) (Cr : Bd) (U : Bd) (aqu : Nat → Nat) (Nqu : Nat) (Squ : Bd) (f : Nat → Option Nat) (F : Bd) (V : Bd) (aqt : Nat → Nat) (Nqt : Nat) (Sqt : Bd) (M : Bd) (hs : Nat → Nat) (ag : Nat → Nat → Nat) (Lg : Nat → Bd) (nr : Nat) (gv : Nat) (gw : Nat) (A : Ab) (Cq : Int → List Pt3) (C : Int → List Pt3), LgA To Ne Cr → LgB Ne Cr A → LgC To Ne Cr U Nqu Squ F Nqt A Cq → LgD To Ne Cr A M C → LgE Ne f M hs Lg nr A → LgF Nqu Nqt nr gv gw → Zw zp zl ze zR zs zm zargs zbelow zmeth zc D zA 4 zQ gv gw (lW K h x ato an ac xu xf xv hm am To Ne Cr U aqu Nqu Squ f F V aqt Nqt Sqt M ++ lgW K hs ag Lg nr) 859 [(0, .ref b), (1, .ref h), (2, .ref hm), (3, vZ i)] []) (To : Bd) (Ne : Bd) (Cr : Bd) (U : Bd) (aqu : Nat → Nat) (Nqu : Nat) (Squ : Bd) (f : Nat → Option Nat) (F : Bd) (V : Bd) (aqt : Nat → Nat) (Nqt : Nat) (Sqt : Bd) (M : Bd) (hs : Nat → Nat) (ag : Nat → Nat → Nat) (Lg : Nat → Bd) (nr : Nat) (gv : Nat) (gw : Nat) (A : Ab) (Cq : Int → List Pt3) (C : Int → List Pt3) (hA : LgA To Ne Cr) (hB : LgB Ne Cr A) (hC : LgC To Ne Cr U Nqu Squ F Nqt A Cq) (hD : LgD To Ne Cr A M C) (hE : LgE Ne f M hs Lg nr A) (hF : LgF Nqu Nqt nr gv gw) (hi : 0 ≤ i ∧ i + 5 ≤ (L : Int)) (hrd : ¬ (0 ≤ (xz xs (i + 1)) ∧ (xz xs (i + 1)) < Ne.2 8)) : Zw zp zl ze zR zs zm zargs zbelow zmeth zc D zA 4 zQ gv gw (lW K h x ato an ac xu xf xv hm am To Ne Cr U aqu Nqu Squ f F V aqt Nqt Sqt M ++ lgW K hs ag Lg nr) 737 [(0, .ref b), (1, .ref h), (2, .ref hm), (3, vZ i)] [] := by
  obtain ⟨a1, a2, a3, a4, a5, a6, a7, a8⟩ := id hA
  obtain ⟨b1, b2, b3, b4, b5, b6⟩ := id hB
  obtain ⟨c1, c2, c3, c4⟩ := id hC
  obtain ⟨d1, d2, d3, d4⟩ := id hD
  obtain ⟨e1, e2, e3, e4⟩ := id hE
  obtain ⟨hf1, hf2⟩ := id hF
  have hne := a1.1
  have hcr := a1.2.1
  have hls := nw_ls a2
  have enw : U.2 12 = A.2.1 0 := c1.2.2.2.2.1.1
  have hnw0 := b1.2.1
  have m0 : M.2 0 = To.2 3 := d1.1.1
  have m3 : M.2 3 = To.2 2 := d1.1.2.1
  have m4 : M.2 4 = Ne.2 8 := d1.2.1.1
  have m12 : M.2 12 = Cr.2 3 := d1.2.2.1
  have m20 : M.2 20 = A.2.1 0 := d2.2.2.2.1
  have hG1 := lo_rng c1.1
  have hpr1 := pw_rng c3
  have hus0 := mx_us d2 a1 b1
  have hmn := m11 d1.2.1 a2
  have hx1 := xz_rng xs (i + 1)
  have hx2 := xz_rng xs (i + 2)
  have hx3 := xz_rng xs (i + 3)
  have hx4 := xz_rng xs (i + 4)
  have hnr := e1.1
  refine z_aload_n ZC 1 dL_law_737 rfl rfl ?_
  refine z_aload_n ZC 0 dL_law_738 rfl rfl ?_
  refine z_iload_n ZC 3 dL_law_739 rfl rfl ?_
  refine z_iconst ZC dL_law_740 ?_
  refine z_iadd ZC dL_law_741 ?_
  refine z_sld ZC hX hbl hbA dL_law_742 (by omega) ?_
  refine z_aload_n ZC 0 dL_law_743 rfl rfl ?_
  refine z_iload_n ZC 3 dL_law_744 rfl rfl ?_
  refine z_iconst ZC dL_law_745 ?_
  refine z_iadd ZC dL_law_746 ?_
  refine z_sld ZC hX hbl hbA dL_law_747 (by omega) ?_
  refine z_callV ZC 2 (c_X7_outN zl D K h x an Ne xu U f (xz xs (i + 1)) (xz xs (i + 2)) (by omega) (by omega) (by omega) (hrd)) (gdV uM_L_96 uI_X7_out uS_X7_out uN_X7 uC_X7_out) (by decide +kernel) rfl ⟨by omega, by omega⟩ ⟨by omega, by omega⟩ (Nat.le_of_ble_eq_true rfl) [0, 4, 5, 6, 7, 8, 9, 10, 11, 12, 17, 18, 19, 20, 21, 22, 23, 24, 33] rfl (by decide) rfl rfl rfl rfl dL_law_748 (fun r w2 gc_748 gs_748 hp => ?_)
  obtain ⟨rfl, rfl, rfl, rfl⟩ := hp
  refine z_ws (ws2 := (lW K h x ato an ac xu xf xv hm am To Ne Cr U aqu Nqu Squ f F V aqt Nqt Sqt M ++ lgW K hs ag Lg nr)) ((rep_pre (is := [0, 4, 5, 6, 7, 8, 9, 10, 11, 12, 17, 18, 19, 20, 21, 22, 23, 24, 33]) (pre := (lW K h x ato an ac xu xf xv hm am To Ne Cr U aqu Nqu Squ f F V aqt Nqt Sqt M)) (w1 := ((wSh h x) ++ (wNe K (x 1) an Ne) ++ (wTr K (x 3) (upf (upf (upf xu 0 (x 0)) 1 (x 1)) 2 (x 2)) U) ++ (wLA K (x 4) f))) rfl (Nat.le_of_ble_eq_true rfl)).trans rfl) ?_
  refine z_st (st2 := [vZ (-1)]) rfl ?_
  refine z_aload_n ZC 2 dL_law_751 rfl rfl ?_
  refine z_aload_n ZC 0 dL_law_752 rfl rfl ?_
  refine z_iload_n ZC 3 dL_law_753 rfl rfl ?_
  refine z_iconst ZC dL_law_754 ?_
  refine z_iadd ZC dL_law_755 ?_
  refine z_sld ZC hX hbl hbA dL_law_756 (by omega) ?_
  refine z_aload_n ZC 0 dL_law_757 rfl rfl ?_
  refine z_iload_n ZC 3 dL_law_758 rfl rfl ?_
  refine z_iconst ZC dL_law_759 ?_
  refine z_iadd ZC dL_law_760 ?_
  refine z_sld ZC hX hbl hbA dL_law_761 (by omega) ?_
  refine z_callV ZC 2 (c_X8_out zl D K hm am M (xz xs (i + 1)) (xz xs (i + 2)) (by omega) (by omega) (by omega) (by omega)) (gdV uM_L_99 uI_X8_out uS_X8_out uN_X8 uC_X8_out) (by decide +kernel) rfl ⟨by omega, by omega⟩ ⟨by omega, by omega⟩ (Nat.le_of_ble_eq_true rfl) [54, 55, 56, 57, 58, 59, 60, 61, 62, 63, 64, 65, 66, 67, 68, 69, 70, 71, 72, 73, 74, 75, 76, 77, 78, 79, 80, 81, 82, 83, 84, 85] rfl (by decide) rfl rfl rfl rfl dL_law_762 (fun r w2 gc_762 gs_762 hp => ?_)
  obtain ⟨v_762, rfl, rfl, rfl, rfl, hv_762⟩ := hp
  refine z_ws (ws2 := (lW K h x ato an ac xu xf xv hm am To Ne Cr U aqu Nqu Squ f F V aqt Nqt Sqt M ++ lgW K hs ag Lg nr)) ((rep_pre (is := [54, 55, 56, 57, 58, 59, 60, 61, 62, 63, 64, 65, 66, 67, 68, 69, 70, 71, 72, 73, 74, 75, 76, 77, 78, 79, 80, 81, 82, 83, 84, 85]) (pre := (lW K h x ato an ac xu xf xv hm am To Ne Cr U aqu Nqu Squ f F V aqt Nqt Sqt M)) (w1 := (wMo K hm am M)) rfl (Nat.le_of_ble_eq_true rfl)).trans rfl) ?_
  refine z_st (st2 := [vZ v_762, vZ (-1)]) rfl ?_
  have hy := (hv_762.resolve_left (fun q => hrd (by have q1 := q.1; omega))).2.1
  refine z_eqj ZC 859 dL_law_765 (by decide) (by omega) ?_
  refine z_ws (ws2 := (lW K h x ato an ac xu xf xv hm am To Ne Cr U aqu Nqu Squ f F V aqt Nqt Sqt M ++ lgW K hs ag Lg nr)) rfl (z_lv (lv2 := [(0, .ref b), (1, .ref h), (2, .ref hm), (3, vZ i)]) ⟨rfl, rfl, rfl, rfl, trivial⟩ ?_)
  refine jn_859 To Ne Cr U aqu Nqu Squ f F V aqt Nqt Sqt M hs ag Lg nr (gv + 0 + 0) (gw + 0 + 0) A Cq C ?_ ?_ ?_ ?_ ?_ ?_
  · skip
    exact hA
  · skip
    exact hB
  · skip
    exact hC
  · skip
    exact hD
  · skip
    exact hE
  · skip
    unfold LgF
    omega

set_option maxHeartbeats 4000000 in
set_option maxRecDepth 100000 in
theorem lw_told {zp : Program} {zl : Launch} {ze : Env} {zR : Room} {zs : State} {zm : MethodId} {zargs : Array Value} {zbelow : List Frame} {zmeth : Method} {zc : Code} {D : va_G} {K : tyK} {zA : Nat → Prop} {zQ : State → Prop} {b L : Nat} {xs : Nat → Int32} (ZC : Zc zp zs zm zargs zc D K zA 4 cL_law RL) (hX : va_X b L xs zs zs.heap) (hbl : b < zs.heap.size) (hbA : ¬ zA b) (hL : L ≤ 2560) (hRf : zR.frames = 10) (hRc : zR.cells = 600000) (hRs : zR.slots = 7302250) (hRl : zR.locals = 366) (h : Nat) (x ato an ac xu xf xv : Nat → Nat) (hm : Nat) (am : Nat → Nat) (i : Int) (jn_859 : ∀ (To : Bd) (Ne : Bd) (Cr : Bd) (U : Bd) (aqu : Nat → Nat) (Nqu : Nat) (Squ : Bd) (f : Nat → Option Nat) (F : Bd) (V : Bd) (aqt : Nat → Nat) (Nqt : Nat) (Sqt : Bd) (M : Bd) (hs : Nat → Nat) (ag : Nat → Nat → Nat) (Lg : Nat → Bd) (nr : Nat) (gv : Nat) (gw : Nat) (A : Ab) (Cq : Int → List Pt3) (C : Int → List Pt3), LgA To Ne Cr → LgB Ne Cr A → LgC To Ne Cr U Nqu Squ F Nqt A Cq → LgD To Ne Cr A M C → LgE Ne f M hs Lg nr A → LgF Nqu Nqt nr gv gw → Zw zp zl ze zR zs zm zargs zbelow zmeth zc D zA 4 zQ gv gw (lW K h x ato an ac xu xf xv hm am To Ne Cr U aqu Nqu Squ f F V aqt Nqt Sqt M ++ lgW K hs ag Lg nr) 859 [(0, .ref b), (1, .ref h), (2, .ref hm), (3, vZ i)] []) (To : Bd) (Ne : Bd) (Cr : Bd) (U : Bd) (aqu : Nat → Nat) (Nqu : Nat) (Squ : Bd) (f : Nat → Option Nat) (F : Bd) (V : Bd) (aqt : Nat → Nat) (Nqt : Nat) (Sqt : Bd) (M : Bd) (hs : Nat → Nat) (ag : Nat → Nat → Nat) (Lg : Nat → Bd) (nr : Nat) (gv : Nat) (gw : Nat) (A : Ab) (Cq : Int → List Pt3) (C : Int → List Pt3) (hA : LgA To Ne Cr) (hB : LgB Ne Cr A) (hC : LgC To Ne Cr U Nqu Squ F Nqt A Cq) (hD : LgD To Ne Cr A M C) (hE : LgE Ne f M hs Lg nr A) (hF : LgF Nqu Nqt nr gv gw) (hi : 0 ≤ i ∧ i + 5 ≤ (L : Int))  : Zw zp zl ze zR zs zm zargs zbelow zmeth zc D zA 4 zQ gv gw (lW K h x ato an ac xu xf xv hm am To Ne Cr U aqu Nqu Squ f F V aqt Nqt Sqt M ++ lgW K hs ag Lg nr) 770 [(0, .ref b), (1, .ref h), (2, .ref hm), (3, vZ i)] [] := by
  obtain ⟨a1, a2, a3, a4, a5, a6, a7, a8⟩ := id hA
  obtain ⟨b1, b2, b3, b4, b5, b6⟩ := id hB
  obtain ⟨c1, c2, c3, c4⟩ := id hC
  obtain ⟨d1, d2, d3, d4⟩ := id hD
  obtain ⟨e1, e2, e3, e4⟩ := id hE
  obtain ⟨hf1, hf2⟩ := id hF
  have hne := a1.1
  have hcr := a1.2.1
  have hls := nw_ls a2
  have enw : U.2 12 = A.2.1 0 := c1.2.2.2.2.1.1
  have hnw0 := b1.2.1
  have m0 : M.2 0 = To.2 3 := d1.1.1
  have m3 : M.2 3 = To.2 2 := d1.1.2.1
  have m4 : M.2 4 = Ne.2 8 := d1.2.1.1
  have m12 : M.2 12 = Cr.2 3 := d1.2.2.1
  have m20 : M.2 20 = A.2.1 0 := d2.2.2.2.1
  have hG1 := lo_rng c1.1
  have hpr1 := pw_rng c3
  have hus0 := mx_us d2 a1 b1
  have hmn := m11 d1.2.1 a2
  have hx1 := xz_rng xs (i + 1)
  have hx2 := xz_rng xs (i + 2)
  have hx3 := xz_rng xs (i + 3)
  have hx4 := xz_rng xs (i + 4)
  have hnr := e1.1
  refine z_aload_n ZC 1 dL_law_770 rfl rfl ?_
  refine z_aload_n ZC 0 dL_law_771 rfl rfl ?_
  refine z_iload_n ZC 3 dL_law_772 rfl rfl ?_
  refine z_iconst ZC dL_law_773 ?_
  refine z_iadd ZC dL_law_774 ?_
  refine z_sld ZC hX hbl hbA dL_law_775 (by omega) ?_
  refine z_aload_n ZC 0 dL_law_776 rfl rfl ?_
  refine z_iload_n ZC 3 dL_law_777 rfl rfl ?_
  refine z_iconst ZC dL_law_778 ?_
  refine z_iadd ZC dL_law_779 ?_
  refine z_sld ZC hX hbl hbA dL_law_780 (by omega) ?_
  refine z_callV ZC 2 (c_X7_told zl D K h x ac Cr xu U (xz xs (i + 1)) (xz xs (i + 2)) (by omega) (by omega) (by omega) (fun c p q => by rw [(c1.2.2.1 c p (by omega)).2.1]; have g := aok_home b1.1 p q; have k := (a1.2.2.2.1 c p q).2.2.2.1; omega)) (gdV uM_L_100 uI_X7_told uS_X7_told uN_X7 uC_X7_told) (by decide +kernel) rfl ⟨by omega, by omega⟩ ⟨by omega, by omega⟩ (Nat.le_of_ble_eq_true rfl) [0, 13, 14, 15, 16, 17, 18, 19, 20, 21, 22, 23, 24] rfl (by decide) rfl rfl rfl rfl dL_law_781 (fun r w2 gc_781 gs_781 hp => ?_)
  obtain ⟨v_781, rfl, rfl, rfl, rfl, hv_781⟩ := hp
  refine z_ws (ws2 := (lW K h x ato an ac xu xf xv hm am To Ne Cr U aqu Nqu Squ f F V aqt Nqt Sqt M ++ lgW K hs ag Lg nr)) ((rep_pre (is := [0, 13, 14, 15, 16, 17, 18, 19, 20, 21, 22, 23, 24]) (pre := (lW K h x ato an ac xu xf xv hm am To Ne Cr U aqu Nqu Squ f F V aqt Nqt Sqt M)) (w1 := ((wSh h x) ++ (wCr K (x 2) ac Cr) ++ (wTr K (x 3) (upf (upf (upf xu 0 (x 0)) 1 (x 1)) 2 (x 2)) U))) rfl (Nat.le_of_ble_eq_true rfl)).trans rfl) ?_
  refine z_st (st2 := [vZ v_781]) rfl ?_
  refine z_aload_n ZC 2 dL_law_784 rfl rfl ?_
  refine z_aload_n ZC 0 dL_law_785 rfl rfl ?_
  refine z_iload_n ZC 3 dL_law_786 rfl rfl ?_
  refine z_iconst ZC dL_law_787 ?_
  refine z_iadd ZC dL_law_788 ?_
  refine z_sld ZC hX hbl hbA dL_law_789 (by omega) ?_
  refine z_aload_n ZC 0 dL_law_790 rfl rfl ?_
  refine z_iload_n ZC 3 dL_law_791 rfl rfl ?_
  refine z_iconst ZC dL_law_792 ?_
  refine z_iadd ZC dL_law_793 ?_
  refine z_sld ZC hX hbl hbA dL_law_794 (by omega) ?_
  refine z_callV ZC 2 (c_X8_told zl D K hm am M Cr A C (xz xs (i + 1)) (xz xs (i + 2)) (by omega) (by omega) (d1.2.2) (hcr) (d2)) (gdV uM_L_103 uI_X8_told uS_X8_told uN_X8 uC_X8_told) (by decide +kernel) rfl ⟨by omega, by omega⟩ ⟨by omega, by omega⟩ (Nat.le_of_ble_eq_true rfl) [54, 55, 56, 57, 58, 59, 60, 61, 62, 63, 64, 65, 66, 67, 68, 69, 70, 71, 72, 73, 74, 75, 76, 77, 78, 79, 80, 81, 82, 83, 84, 85] rfl (by decide) rfl rfl rfl rfl dL_law_795 (fun r w2 gc_795 gs_795 hp => ?_)
  obtain ⟨v_795, rfl, rfl, rfl, rfl, hv_795⟩ := hp
  refine z_ws (ws2 := (lW K h x ato an ac xu xf xv hm am To Ne Cr U aqu Nqu Squ f F V aqt Nqt Sqt M ++ lgW K hs ag Lg nr)) ((rep_pre (is := [54, 55, 56, 57, 58, 59, 60, 61, 62, 63, 64, 65, 66, 67, 68, 69, 70, 71, 72, 73, 74, 75, 76, 77, 78, 79, 80, 81, 82, 83, 84, 85]) (pre := (lW K h x ato an ac xu xf xv hm am To Ne Cr U aqu Nqu Squ f F V aqt Nqt Sqt M)) (w1 := (wMo K hm am M)) rfl (Nat.le_of_ble_eq_true rfl)).trans rfl) ?_
  refine z_st (st2 := [vZ v_795, vZ v_781]) rfl ?_
  have heq : v_781 = v_795 := by
    by_cases hk : 0 ≤ (xz xs (i + 1)) ∧ (xz xs (i + 1)) < Cr.2 3
    · rw [(hv_781.resolve_right (fun q => q.1 hk)).2.1, (hv_795.resolve_right (fun q => q.1 hk)).2.1]
      exact told_eq c1 b1.1 ⟨hk.1, hk.2, hcr.2⟩ _
    · rw [(hv_781.resolve_left (fun q => hk q.1)).2.1, (hv_795.resolve_left (fun q => hk q.1)).2.1]
  refine z_eqj ZC 859 dL_law_798 (by decide) (heq) ?_
  refine z_ws (ws2 := (lW K h x ato an ac xu xf xv hm am To Ne Cr U aqu Nqu Squ f F V aqt Nqt Sqt M ++ lgW K hs ag Lg nr)) rfl (z_lv (lv2 := [(0, .ref b), (1, .ref h), (2, .ref hm), (3, vZ i)]) ⟨rfl, rfl, rfl, rfl, trivial⟩ ?_)
  refine jn_859 To Ne Cr U aqu Nqu Squ f F V aqt Nqt Sqt M hs ag Lg nr (gv + 0 + 0) (gw + 0 + 0) A Cq C ?_ ?_ ?_ ?_ ?_ ?_
  · skip
    exact hA
  · skip
    exact hB
  · skip
    exact hC
  · skip
    exact hD
  · skip
    exact hE
  · skip
    unfold LgF
    omega

set_option maxHeartbeats 4000000 in
set_option maxRecDepth 100000 in
theorem lw_at {zp : Program} {zl : Launch} {ze : Env} {zR : Room} {zs : State} {zm : MethodId} {zargs : Array Value} {zbelow : List Frame} {zmeth : Method} {zc : Code} {D : va_G} {K : tyK} {zA : Nat → Prop} {zQ : State → Prop} {b L : Nat} {xs : Nat → Int32} (ZC : Zc zp zs zm zargs zc D K zA 4 cL_law RL) (hX : va_X b L xs zs zs.heap) (hbl : b < zs.heap.size) (hbA : ¬ zA b) (hL : L ≤ 2560) (hRf : zR.frames = 10) (hRc : zR.cells = 600000) (hRs : zR.slots = 7302250) (hRl : zR.locals = 366) (h : Nat) (x ato an ac xu xf xv : Nat → Nat) (hm : Nat) (am : Nat → Nat) (i : Int) (jn_859 : ∀ (To : Bd) (Ne : Bd) (Cr : Bd) (U : Bd) (aqu : Nat → Nat) (Nqu : Nat) (Squ : Bd) (f : Nat → Option Nat) (F : Bd) (V : Bd) (aqt : Nat → Nat) (Nqt : Nat) (Sqt : Bd) (M : Bd) (hs : Nat → Nat) (ag : Nat → Nat → Nat) (Lg : Nat → Bd) (nr : Nat) (gv : Nat) (gw : Nat) (A : Ab) (Cq : Int → List Pt3) (C : Int → List Pt3), LgA To Ne Cr → LgB Ne Cr A → LgC To Ne Cr U Nqu Squ F Nqt A Cq → LgD To Ne Cr A M C → LgE Ne f M hs Lg nr A → LgF Nqu Nqt nr gv gw → Zw zp zl ze zR zs zm zargs zbelow zmeth zc D zA 4 zQ gv gw (lW K h x ato an ac xu xf xv hm am To Ne Cr U aqu Nqu Squ f F V aqt Nqt Sqt M ++ lgW K hs ag Lg nr) 859 [(0, .ref b), (1, .ref h), (2, .ref hm), (3, vZ i)] []) (To : Bd) (Ne : Bd) (Cr : Bd) (U : Bd) (aqu : Nat → Nat) (Nqu : Nat) (Squ : Bd) (f : Nat → Option Nat) (F : Bd) (V : Bd) (aqt : Nat → Nat) (Nqt : Nat) (Sqt : Bd) (M : Bd) (hs : Nat → Nat) (ag : Nat → Nat → Nat) (Lg : Nat → Bd) (nr : Nat) (gv : Nat) (gw : Nat) (A : Ab) (Cq : Int → List Pt3) (C : Int → List Pt3) (hA : LgA To Ne Cr) (hB : LgB Ne Cr A) (hC : LgC To Ne Cr U Nqu Squ F Nqt A Cq) (hD : LgD To Ne Cr A M C) (hE : LgE Ne f M hs Lg nr A) (hF : LgF Nqu Nqt nr gv gw) (hi : 0 ≤ i ∧ i + 5 ≤ (L : Int))  : Zw zp zl ze zR zs zm zargs zbelow zmeth zc D zA 4 zQ gv gw (lW K h x ato an ac xu xf xv hm am To Ne Cr U aqu Nqu Squ f F V aqt Nqt Sqt M ++ lgW K hs ag Lg nr) 803 [(0, .ref b), (1, .ref h), (2, .ref hm), (3, vZ i)] [] := by
  obtain ⟨a1, a2, a3, a4, a5, a6, a7, a8⟩ := id hA
  obtain ⟨b1, b2, b3, b4, b5, b6⟩ := id hB
  obtain ⟨c1, c2, c3, c4⟩ := id hC
  obtain ⟨d1, d2, d3, d4⟩ := id hD
  obtain ⟨e1, e2, e3, e4⟩ := id hE
  obtain ⟨hf1, hf2⟩ := id hF
  have hne := a1.1
  have hcr := a1.2.1
  have hls := nw_ls a2
  have enw : U.2 12 = A.2.1 0 := c1.2.2.2.2.1.1
  have hnw0 := b1.2.1
  have m0 : M.2 0 = To.2 3 := d1.1.1
  have m3 : M.2 3 = To.2 2 := d1.1.2.1
  have m4 : M.2 4 = Ne.2 8 := d1.2.1.1
  have m12 : M.2 12 = Cr.2 3 := d1.2.2.1
  have m20 : M.2 20 = A.2.1 0 := d2.2.2.2.1
  have hG1 := lo_rng c1.1
  have hpr1 := pw_rng c3
  have hus0 := mx_us d2 a1 b1
  have hmn := m11 d1.2.1 a2
  have hx1 := xz_rng xs (i + 1)
  have hx2 := xz_rng xs (i + 2)
  have hx3 := xz_rng xs (i + 3)
  have hx4 := xz_rng xs (i + 4)
  have hnr := e1.1
  refine z_aload_n ZC 1 dL_law_803 rfl rfl ?_
  refine z_aload_n ZC 0 dL_law_804 rfl rfl ?_
  refine z_iload_n ZC 3 dL_law_805 rfl rfl ?_
  refine z_iconst ZC dL_law_806 ?_
  refine z_iadd ZC dL_law_807 ?_
  refine z_sld ZC hX hbl hbA dL_law_808 (by omega) ?_
  refine z_aload_n ZC 0 dL_law_809 rfl rfl ?_
  refine z_iload_n ZC 3 dL_law_810 rfl rfl ?_
  refine z_iconst ZC dL_law_811 ?_
  refine z_iadd ZC dL_law_812 ?_
  refine z_sld ZC hX hbl hbA dL_law_813 (by omega) ?_
  refine z_callV ZC 2 (c_X7_at zl D K h x ato To xu U (xz xs (i + 1)) (xz xs (i + 2)) (by omega) (by omega) (by omega)) (gdV uM_L_104 uI_X7_at uS_X7_at uN_X7 uC_X7_at) (by decide +kernel) rfl ⟨by omega, by omega⟩ ⟨by omega, by omega⟩ (Nat.le_of_ble_eq_true rfl) [0, 1, 2, 3, 17, 18, 19, 20, 21, 22, 23, 24] rfl (by decide) rfl rfl rfl rfl dL_law_814 (fun r w2 gc_814 gs_814 hp => ?_)
  obtain ⟨v_814, rfl, rfl, rfl, rfl, hv_814⟩ := hp
  refine z_ws (ws2 := (lW K h x ato an ac xu xf xv hm am To Ne Cr U aqu Nqu Squ f F V aqt Nqt Sqt M ++ lgW K hs ag Lg nr)) ((rep_pre (is := [0, 1, 2, 3, 17, 18, 19, 20, 21, 22, 23, 24]) (pre := (lW K h x ato an ac xu xf xv hm am To Ne Cr U aqu Nqu Squ f F V aqt Nqt Sqt M)) (w1 := ((wSh h x) ++ (wTo K (x 0) ato To) ++ (wTr K (x 3) (upf (upf (upf xu 0 (x 0)) 1 (x 1)) 2 (x 2)) U))) rfl (Nat.le_of_ble_eq_true rfl)).trans rfl) ?_
  refine z_st (st2 := [vZ v_814]) rfl ?_
  refine z_aload_n ZC 2 dL_law_817 rfl rfl ?_
  refine z_aload_n ZC 0 dL_law_818 rfl rfl ?_
  refine z_iload_n ZC 3 dL_law_819 rfl rfl ?_
  refine z_iconst ZC dL_law_820 ?_
  refine z_iadd ZC dL_law_821 ?_
  refine z_sld ZC hX hbl hbA dL_law_822 (by omega) ?_
  refine z_aload_n ZC 0 dL_law_823 rfl rfl ?_
  refine z_iload_n ZC 3 dL_law_824 rfl rfl ?_
  refine z_iconst ZC dL_law_825 ?_
  refine z_iadd ZC dL_law_826 ?_
  refine z_sld ZC hX hbl hbA dL_law_827 (by omega) ?_
  refine z_callV ZC 2 (c_X8_at zl D K hm am M To Ne Cr A C (xz xs (i + 1)) (xz xs (i + 2)) (by omega) (by omega) (d1) (a1) (a2) (a3) (b1) (d2)) (gdV uM_L_107 uI_X8_at uS_X8_at uN_X8 uC_X8_at) (by decide +kernel) rfl ⟨by omega, by omega⟩ ⟨by omega, by omega⟩ (Nat.le_of_ble_eq_true rfl) [54, 55, 56, 57, 58, 59, 60, 61, 62, 63, 64, 65, 66, 67, 68, 69, 70, 71, 72, 73, 74, 75, 76, 77, 78, 79, 80, 81, 82, 83, 84, 85] rfl (by decide) rfl rfl rfl rfl dL_law_828 (fun r w2 gc_828 gs_828 hp => ?_)
  obtain ⟨v_828, rfl, rfl, rfl, rfl, hv_828⟩ := hp
  refine z_ws (ws2 := (lW K h x ato an ac xu xf xv hm am To Ne Cr U aqu Nqu Squ f F V aqt Nqt Sqt M ++ lgW K hs ag Lg nr)) ((rep_pre (is := [54, 55, 56, 57, 58, 59, 60, 61, 62, 63, 64, 65, 66, 67, 68, 69, 70, 71, 72, 73, 74, 75, 76, 77, 78, 79, 80, 81, 82, 83, 84, 85]) (pre := (lW K h x ato an ac xu xf xv hm am To Ne Cr U aqu Nqu Squ f F V aqt Nqt Sqt M)) (w1 := (wMo K hm am M)) rfl (Nat.le_of_ble_eq_true rfl)).trans rfl) ?_
  refine z_st (st2 := [vZ v_828, vZ v_814]) rfl ?_
  have heq : v_814 = v_828 := by
    by_cases hk : 0 ≤ (xz xs (i + 1)) ∧ (xz xs (i + 1)) < To.2 3
    · rw [(hv_814.resolve_right (fun q => q.1 hk)).2.1, (hv_828.resolve_right (fun q => q.1 hk)).2.1]
      exact at_eq c1 ⟨hk.1, by omega⟩ _
    · rw [(hv_814.resolve_left (fun q => hk q.1)).2.1, (hv_828.resolve_left (fun q => hk q.1)).2.1]
  refine z_eqj ZC 859 dL_law_831 (by decide) (heq) ?_
  refine z_ws (ws2 := (lW K h x ato an ac xu xf xv hm am To Ne Cr U aqu Nqu Squ f F V aqt Nqt Sqt M ++ lgW K hs ag Lg nr)) rfl (z_lv (lv2 := [(0, .ref b), (1, .ref h), (2, .ref hm), (3, vZ i)]) ⟨rfl, rfl, rfl, rfl, trivial⟩ ?_)
  refine jn_859 To Ne Cr U aqu Nqu Squ f F V aqt Nqt Sqt M hs ag Lg nr (gv + 0 + 0) (gw + 0 + 0) A Cq C ?_ ?_ ?_ ?_ ?_ ?_
  · skip
    exact hA
  · skip
    exact hB
  · skip
    exact hC
  · skip
    exact hD
  · skip
    exact hE
  · skip
    unfold LgF
    omega

set_option maxHeartbeats 4000000 in
set_option maxRecDepth 100000 in
theorem lw_count {zp : Program} {zl : Launch} {ze : Env} {zR : Room} {zs : State} {zm : MethodId} {zargs : Array Value} {zbelow : List Frame} {zmeth : Method} {zc : Code} {D : va_G} {K : tyK} {zA : Nat → Prop} {zQ : State → Prop} {b L : Nat} {xs : Nat → Int32} (ZC : Zc zp zs zm zargs zc D K zA 4 cL_law RL) (hX : va_X b L xs zs zs.heap) (hbl : b < zs.heap.size) (hbA : ¬ zA b) (hL : L ≤ 2560) (hRf : zR.frames = 10) (hRc : zR.cells = 600000) (hRs : zR.slots = 7302250) (hRl : zR.locals = 366) (h : Nat) (x ato an ac xu xf xv : Nat → Nat) (hm : Nat) (am : Nat → Nat) (i : Int) (jn_859 : ∀ (To : Bd) (Ne : Bd) (Cr : Bd) (U : Bd) (aqu : Nat → Nat) (Nqu : Nat) (Squ : Bd) (f : Nat → Option Nat) (F : Bd) (V : Bd) (aqt : Nat → Nat) (Nqt : Nat) (Sqt : Bd) (M : Bd) (hs : Nat → Nat) (ag : Nat → Nat → Nat) (Lg : Nat → Bd) (nr : Nat) (gv : Nat) (gw : Nat) (A : Ab) (Cq : Int → List Pt3) (C : Int → List Pt3), LgA To Ne Cr → LgB Ne Cr A → LgC To Ne Cr U Nqu Squ F Nqt A Cq → LgD To Ne Cr A M C → LgE Ne f M hs Lg nr A → LgF Nqu Nqt nr gv gw → Zw zp zl ze zR zs zm zargs zbelow zmeth zc D zA 4 zQ gv gw (lW K h x ato an ac xu xf xv hm am To Ne Cr U aqu Nqu Squ f F V aqt Nqt Sqt M ++ lgW K hs ag Lg nr) 859 [(0, .ref b), (1, .ref h), (2, .ref hm), (3, vZ i)] []) (To : Bd) (Ne : Bd) (Cr : Bd) (U : Bd) (aqu : Nat → Nat) (Nqu : Nat) (Squ : Bd) (f : Nat → Option Nat) (F : Bd) (V : Bd) (aqt : Nat → Nat) (Nqt : Nat) (Sqt : Bd) (M : Bd) (hs : Nat → Nat) (ag : Nat → Nat → Nat) (Lg : Nat → Bd) (nr : Nat) (gv : Nat) (gw : Nat) (A : Ab) (Cq : Int → List Pt3) (C : Int → List Pt3) (hA : LgA To Ne Cr) (hB : LgB Ne Cr A) (hC : LgC To Ne Cr U Nqu Squ F Nqt A Cq) (hD : LgD To Ne Cr A M C) (hE : LgE Ne f M hs Lg nr A) (hF : LgF Nqu Nqt nr gv gw) (hi : 0 ≤ i ∧ i + 5 ≤ (L : Int))  : Zw zp zl ze zR zs zm zargs zbelow zmeth zc D zA 4 zQ gv gw (lW K h x ato an ac xu xf xv hm am To Ne Cr U aqu Nqu Squ f F V aqt Nqt Sqt M ++ lgW K hs ag Lg nr) 836 [(0, .ref b), (1, .ref h), (2, .ref hm), (3, vZ i)] [] := by
  obtain ⟨a1, a2, a3, a4, a5, a6, a7, a8⟩ := id hA
  obtain ⟨b1, b2, b3, b4, b5, b6⟩ := id hB
  obtain ⟨c1, c2, c3, c4⟩ := id hC
  obtain ⟨d1, d2, d3, d4⟩ := id hD
  obtain ⟨e1, e2, e3, e4⟩ := id hE
  obtain ⟨hf1, hf2⟩ := id hF
  have hne := a1.1
  have hcr := a1.2.1
  have hls := nw_ls a2
  have enw : U.2 12 = A.2.1 0 := c1.2.2.2.2.1.1
  have hnw0 := b1.2.1
  have m0 : M.2 0 = To.2 3 := d1.1.1
  have m3 : M.2 3 = To.2 2 := d1.1.2.1
  have m4 : M.2 4 = Ne.2 8 := d1.2.1.1
  have m12 : M.2 12 = Cr.2 3 := d1.2.2.1
  have m20 : M.2 20 = A.2.1 0 := d2.2.2.2.1
  have hG1 := lo_rng c1.1
  have hpr1 := pw_rng c3
  have hus0 := mx_us d2 a1 b1
  have hmn := m11 d1.2.1 a2
  have hx1 := xz_rng xs (i + 1)
  have hx2 := xz_rng xs (i + 2)
  have hx3 := xz_rng xs (i + 3)
  have hx4 := xz_rng xs (i + 4)
  have hnr := e1.1
  refine z_aload_n ZC 1 dL_law_836 rfl rfl ?_
  refine z_aload_n ZC 0 dL_law_837 rfl rfl ?_
  refine z_iload_n ZC 3 dL_law_838 rfl rfl ?_
  refine z_iconst ZC dL_law_839 ?_
  refine z_iadd ZC dL_law_840 ?_
  refine z_sld ZC hX hbl hbA dL_law_841 (by omega) ?_
  refine z_callV ZC 1 (c_X7_count zl D K h x ato To an Ne ac Cr xu U aqu Nqu Squ (xz xs (i + 1)) (by omega) (by omega)) (gdV uM_L_108 uI_X7_count uS_X7_count uN_X7 uC_X7_count) (by decide +kernel) rfl ⟨by omega, by omega⟩ ⟨by omega, by omega⟩ (Nat.le_of_ble_eq_true rfl) [0, 1, 2, 3, 4, 5, 6, 7, 8, 9, 10, 11, 12, 13, 14, 15, 16, 17, 18, 19, 20, 21, 22, 23, 24, 25, 26, 27, 28, 29, 30, 31, 32] rfl (by decide) rfl rfl rfl rfl dL_law_842 (fun r w2 gc_842 gs_842 hp => ?_)
  obtain ⟨v_842, rfl, rfl, rfl, rfl, hv_842⟩ := hp
  refine z_ws (ws2 := (lW K h x ato an ac xu xf xv hm am To Ne Cr U aqu Nqu Squ f F V aqt Nqt Sqt M ++ lgW K hs ag Lg nr)) ((rep_pre (is := [0, 1, 2, 3, 4, 5, 6, 7, 8, 9, 10, 11, 12, 13, 14, 15, 16, 17, 18, 19, 20, 21, 22, 23, 24, 25, 26, 27, 28, 29, 30, 31, 32]) (pre := (lW K h x ato an ac xu xf xv hm am To Ne Cr U aqu Nqu Squ f F V aqt Nqt Sqt M)) (w1 := ((wSh h x) ++ (wTo K (x 0) ato To) ++ (wNe K (x 1) an Ne) ++ (wCr K (x 2) ac Cr) ++ (wTr K (x 3) (upf (upf (upf xu 0 (x 0)) 1 (x 1)) 2 (x 2)) U) ++ (wLn K (xu 3) aqu Nqu Squ))) rfl (Nat.le_of_ble_eq_true rfl)).trans rfl) ?_
  refine z_st (st2 := [vZ v_842]) rfl ?_
  refine z_aload_n ZC 2 dL_law_845 rfl rfl ?_
  refine z_aload_n ZC 0 dL_law_846 rfl rfl ?_
  refine z_iload_n ZC 3 dL_law_847 rfl rfl ?_
  refine z_iconst ZC dL_law_848 ?_
  refine z_iadd ZC dL_law_849 ?_
  refine z_sld ZC hX hbl hbA dL_law_850 (by omega) ?_
  refine z_callV ZC 1 (c_X8_count zl D K hm am M To Ne Cr A C (xz xs (i + 1)) (by omega) (d1) (a1) (b1) (d2)) (gdV uM_L_111 uI_X8_count uS_X8_count uN_X8 uC_X8_count) (by decide +kernel) rfl ⟨by omega, by omega⟩ ⟨by omega, by omega⟩ (Nat.le_of_ble_eq_true rfl) [54, 55, 56, 57, 58, 59, 60, 61, 62, 63, 64, 65, 66, 67, 68, 69, 70, 71, 72, 73, 74, 75, 76, 77, 78, 79, 80, 81, 82, 83, 84, 85] rfl (by decide) rfl rfl rfl rfl dL_law_851 (fun r w2 gc_851 gs_851 hp => ?_)
  obtain ⟨v_851, rfl, rfl, rfl, rfl, hv_851⟩ := hp
  refine z_ws (ws2 := (lW K h x ato an ac xu xf xv hm am To Ne Cr U aqu Nqu Squ f F V aqt Nqt Sqt M ++ lgW K hs ag Lg nr)) ((rep_pre (is := [54, 55, 56, 57, 58, 59, 60, 61, 62, 63, 64, 65, 66, 67, 68, 69, 70, 71, 72, 73, 74, 75, 76, 77, 78, 79, 80, 81, 82, 83, 84, 85]) (pre := (lW K h x ato an ac xu xf xv hm am To Ne Cr U aqu Nqu Squ f F V aqt Nqt Sqt M)) (w1 := (wMo K hm am M)) rfl (Nat.le_of_ble_eq_true rfl)).trans rfl) ?_
  refine z_st (st2 := [vZ v_851, vZ v_842]) rfl ?_
  have heq : v_842 = v_851 := by
    rw [hv_842, hv_851]
    exact count_eq c1 hne _
  refine z_eqj ZC 859 dL_law_854 (by decide) (heq) ?_
  refine z_ws (ws2 := (lW K h x ato an ac xu xf xv hm am To Ne Cr U aqu Nqu Squ f F V aqt Nqt Sqt M ++ lgW K hs ag Lg nr)) rfl (z_lv (lv2 := [(0, .ref b), (1, .ref h), (2, .ref hm), (3, vZ i)]) ⟨rfl, rfl, rfl, rfl, trivial⟩ ?_)
  refine jn_859 To Ne Cr U aqu Nqu Squ f F V aqt Nqt Sqt M hs ag Lg nr (gv + 0 + 0) (gw + 0 + 0) A Cq C ?_ ?_ ?_ ?_ ?_ ?_
  · skip
    exact hA
  · skip
    exact hB
  · skip
    exact hC
  · skip
    exact hD
  · skip
    exact hE
  · skip
    unfold LgF
    omega

