/-! ===== the law: its loop ===== -/
set_option maxHeartbeats 4000000 in
set_option maxRecDepth 100000 in
theorem law_loop {zp : Program} {zl : Launch} {ze : Env} {zR : Room} {zs : State} {zm : MethodId} {zargs : Array Value} {zbelow : List Frame} {zmeth : Method} {zc : Code} {D : va_G} {K : tyK} {zA : Nat → Prop} {zQ : State → Prop} {b L : Nat} {xs : Nat → Int32} (ZC : Zc zp zs zm zargs zc D K zA 4 cL_law RL) (hX : va_X b L xs zs zs.heap) (hbl : b < zs.heap.size) (hbA : ¬ zA b) (hL : L ≤ 2560) (hRf : zR.frames = 10) (hRc : zR.cells = 600000) (hRs : zR.slots = 7302250) (hRl : zR.locals = 366) (hend : ∀ (ws : va_W) (cl sl : Nat) (lv : List (Nat × Value)), cl ≤ 600000 → sl ≤ 7302250 → Zw zp zl ze zR zs zm zargs zbelow zmeth zc D zA 4 zQ cl sl ws 866 lv [vZ 1]) (h : Nat) (x ato an ac xu xf xv : Nat → Nat) (hm : Nat) (am : Nat → Nat) : ∀ (n : Nat) (i : Int) (To : Bd) (Ne : Bd) (Cr : Bd) (U : Bd) (aqu : Nat → Nat) (Nqu : Nat) (Squ : Bd) (f : Nat → Option Nat) (F : Bd) (V : Bd) (aqt : Nat → Nat) (Nqt : Nat) (Sqt : Bd) (M : Bd) (hs : Nat → Nat) (ag : Nat → Nat → Nat) (Lg : Nat → Bd) (nr : Nat) (gv : Nat) (gw : Nat) (A : Ab) (Cq : Int → List Pt3) (C : Int → List Pt3), (0 ≤ i ∧ i ≤ 2565) → ((L : Int) + 5 - i).toNat < n → LgA To Ne Cr → LgB Ne Cr A → LgC To Ne Cr U Nqu Squ F Nqt A Cq → LgD To Ne Cr A M C → LgE Ne f M hs Lg nr A → LgF Nqu Nqt nr gv gw → Zw zp zl ze zR zs zm zargs zbelow zmeth zc D zA 4 zQ gv gw (lW K h x ato an ac xu xf xv hm am To Ne Cr U aqu Nqu Squ f F V aqt Nqt Sqt M ++ lgW K hs ag Lg nr) 18 [(0, .ref b), (1, .ref h), (2, .ref hm), (3, vZ i)] [] := by
  intro n
  induction n with
  | zero => intro i To Ne Cr U aqu Nqu Squ f F V aqt Nqt Sqt M hs ag Lg nr gv gw A Cq C hi0 hn; exact absurd hn (Nat.not_lt_zero _)
  | succ n ih =>
    intro i To Ne Cr U aqu Nqu Squ f F V aqt Nqt Sqt M hs ag Lg nr gv gw A Cq C hi0 hn hA hB hC hD hE hF
    have hG1 := lo_rng hC.1.1
    have hpr1 := pw_rng hC.2.2.1
    have hnr := hE.1.1
    have hne := hA.1.1
    obtain ⟨hf1, hf2⟩ := id hF
    refine z_iload_n ZC 3 dL_law_18 rfl rfl ?_
    refine z_aload_n ZC 0 dL_law_19 rfl rfl ?_
    refine z_slen ZC hX hbl hbA dL_law_20 ?_
    refine z_iconst ZC dL_law_21 ?_
    refine z_isub ZC dL_law_22 ?_
    refine z_icmp_gt ZC 865 dL_law_23 (by decide) (by omega) (by omega) (fun c_23 => ?_) (fun c_23 => ?_)
    · refine z_iconst ZC dL_law_865 ?_
      exact hend _ _ _ _ (by omega) (by omega)
    · have jn : ∀ (To : Bd) (Ne : Bd) (Cr : Bd) (U : Bd) (aqu : Nat → Nat) (Nqu : Nat) (Squ : Bd) (f : Nat → Option Nat) (F : Bd) (V : Bd) (aqt : Nat → Nat) (Nqt : Nat) (Sqt : Bd) (M : Bd) (hs : Nat → Nat) (ag : Nat → Nat → Nat) (Lg : Nat → Bd) (nr : Nat) (gv : Nat) (gw : Nat) (A : Ab) (Cq : Int → List Pt3) (C : Int → List Pt3), LgA To Ne Cr → LgB Ne Cr A → LgC To Ne Cr U Nqu Squ F Nqt A Cq → LgD To Ne Cr A M C → LgE Ne f M hs Lg nr A → LgF Nqu Nqt nr gv gw → Zw zp zl ze zR zs zm zargs zbelow zmeth zc D zA 4 zQ gv gw (lW K h x ato an ac xu xf xv hm am To Ne Cr U aqu Nqu Squ f F V aqt Nqt Sqt M ++ lgW K hs ag Lg nr) 859 [(0, .ref b), (1, .ref h), (2, .ref hm), (3, vZ i)] [] := by
        intro To Ne Cr U aqu Nqu Squ f F V aqt Nqt Sqt M hs ag Lg nr gv gw A Cq C hA hB hC hD hE hF
        refine z_iinc ZC dL_law_859 rfl (by decide) ?_
        refine z_goto ZC 18 dL_law_862 (by decide) ?_
        exact z_lv (lv2 := [(0, .ref b), (1, .ref h), (2, .ref hm), (3, vZ (i + 5))]) ⟨rfl, rfl, rfl, rfl, trivial⟩ (ih (i + 5) To Ne Cr U aqu Nqu Squ f F V aqt Nqt Sqt M hs ag Lg nr gv gw A Cq C (by omega) (by omega) hA hB hC hD hE hF)
      refine z_aload_n ZC 0 dL_law_26 rfl rfl ?_
      refine z_iload_n ZC 3 dL_law_27 rfl rfl ?_
      refine z_sld ZC hX hbl hbA dL_law_28 (by omega) ?_
      refine z_bipush ZC dL_law_29 (by decide) ?_
      refine z_and31 ZC dL_law_31 (fun jj hjj => ?_)
      rcases (show jj = 0 ∨ jj = 1 ∨ jj = 2 ∨ jj = 3 ∨ jj = 4 ∨ jj = 5 ∨ jj = 6 ∨ jj = 7 ∨ jj = 8 ∨ jj = 9 ∨ jj = 10 ∨ jj = 11 ∨ jj = 12 ∨ jj = 13 ∨ jj = 14 ∨ jj = 15 ∨ jj = 16 ∨ jj = 17 ∨ jj = 18 ∨ jj = 19 ∨ jj = 20 ∨ jj = 21 ∨ jj = 22 ∨ 23 ≤ jj by omega) with rfl | rfl | rfl | rfl | rfl | rfl | rfl | rfl | rfl | rfl | rfl | rfl | rfl | rfl | rfl | rfl | rfl | rfl | rfl | rfl | rfl | rfl | rfl | hj
      · refine z_tabIn ZC (off := 108) 140 dL_law_32 (by omega) (by decide) (by decide) (by decide) (by decide) ?_
        exact lw_town ZC hX hbl hbA hL hRf hRc hRs hRl h x ato an ac xu xf xv hm am i jn To Ne Cr U aqu Nqu Squ f F V aqt Nqt Sqt M hs ag Lg nr gv gw A Cq C hA hB hC hD hE hF ⟨hi0.1, by omega⟩
      · refine z_tabIn ZC (off := 141) 173 dL_law_32 (by omega) (by decide) (by decide) (by decide) (by decide) ?_
        exact lw_path ZC hX hbl hbA hL hRf hRc hRs hRl h x ato an ac xu xf xv hm am i jn To Ne Cr U aqu Nqu Squ f F V aqt Nqt Sqt M hs ag Lg nr gv gw A Cq C hA hB hC hD hE hF ⟨hi0.1, by omega⟩
      · refine z_tabIn ZC (off := 164) 196 dL_law_32 (by omega) (by decide) (by decide) (by decide) (by decide) ?_
        exact lw_seconds ZC hX hbl hbA hL hRf hRc hRs hRl h x ato an ac xu xf xv hm am i jn To Ne Cr U aqu Nqu Squ f F V aqt Nqt Sqt M hs ag Lg nr gv gw A Cq C hA hB hC hD hE hF ⟨hi0.1, by omega⟩
      · refine z_tabIn ZC (off := 187) 219 dL_law_32 (by omega) (by decide) (by decide) (by decide) (by decide) ?_
        exact lw_clouds ZC hX hbl hbA hL hRf hRc hRs hRl h x ato an ac xu xf xv hm am i jn To Ne Cr U aqu Nqu Squ f F V aqt Nqt Sqt M hs ag Lg nr gv gw A Cq C hA hB hC hD hE hF ⟨hi0.1, by omega⟩
      · refine z_tabIn ZC (off := 220) 252 dL_law_32 (by omega) (by decide) (by decide) (by decide) (by decide) ?_
        by_cases hk : U.2 12 = 0 ∧ Ne.2 8 < 16 ∧ ((0 ≤ (xz xs (i + 1)) ∧ (xz xs (i + 1)) < To.2 3) ∧ (0 ≤ (xz xs (i + 2)) ∧ (xz xs (i + 2)) < To.2 3) ∧ (xz xs (i + 1)) ≠ (xz xs (i + 2))) ∧ (1 ≤ (xz xs (i + 3)) ∧ (xz xs (i + 3)) ≤ 5000) ∧ (1 ≤ (xz xs (i + 4)) ∧ (xz xs (i + 4)) ≤ 9)
        · exact lw_road_y ZC hX hbl hbA hL hRf hRc hRs hRl h x ato an ac xu xf xv hm am i jn To Ne Cr U aqu Nqu Squ f F V aqt Nqt Sqt M hs ag Lg nr gv gw A Cq C hA hB hC hD hE hF ⟨hi0.1, by omega⟩ hk
        · exact lw_road_n ZC hX hbl hbA hL hRf hRc hRs hRl h x ato an ac xu xf xv hm am i jn To Ne Cr U aqu Nqu Squ f F V aqt Nqt Sqt M hs ag Lg nr gv gw A Cq C hA hB hC hD hE hF ⟨hi0.1, by omega⟩ hk
      · refine z_tabIn ZC (off := 273) 305 dL_law_32 (by omega) (by decide) (by decide) (by decide) (by decide) ?_
        exact lw_least ZC hX hbl hbA hL hRf hRc hRs hRl h x ato an ac xu xf xv hm am i jn To Ne Cr U aqu Nqu Squ f F V aqt Nqt Sqt M hs ag Lg nr gv gw A Cq C hA hB hC hD hE hF ⟨hi0.1, by omega⟩
      · refine z_tabIn ZC (off := 306) 338 dL_law_32 (by omega) (by decide) (by decide) (by decide) (by decide) ?_
        exact lw_crowd ZC hX hbl hbA hL hRf hRc hRs hRl h x ato an ac xu xf xv hm am i jn To Ne Cr U aqu Nqu Squ f F V aqt Nqt Sqt M hs ag Lg nr gv gw A Cq C hA hB hC hD hE hF ⟨hi0.1, by omega⟩
      · refine z_tabIn ZC (off := 349) 381 dL_law_32 (by omega) (by decide) (by decide) (by decide) (by decide) ?_
        exact lw_dawn ZC hX hbl hbA hL hRf hRc hRs hRl h x ato an ac xu xf xv hm am i jn To Ne Cr U aqu Nqu Squ f F V aqt Nqt Sqt M hs ag Lg nr gv gw A Cq C hA hB hC hD hE hF ⟨hi0.1, by omega⟩
      · refine z_tabIn ZC (off := 372) 404 dL_law_32 (by omega) (by decide) (by decide) (by decide) (by decide) ?_
        exact lw_hold ZC hX hbl hbA hL hRf hRc hRs hRl h x ato an ac xu xf xv hm am i jn To Ne Cr U aqu Nqu Squ f F V aqt Nqt Sqt M hs ag Lg nr gv gw A Cq C hA hB hC hD hE hF ⟨hi0.1, by omega⟩
      · refine z_tabIn ZC (off := 405) 437 dL_law_32 (by omega) (by decide) (by decide) (by decide) (by decide) ?_
        exact lw_shut ZC hX hbl hbA hL hRf hRc hRs hRl h x ato an ac xu xf xv hm am i jn To Ne Cr U aqu Nqu Squ f F V aqt Nqt Sqt M hs ag Lg nr gv gw A Cq C hA hB hC hD hE hF ⟨hi0.1, by omega⟩
      · refine z_tabIn ZC (off := 448) 480 dL_law_32 (by omega) (by decide) (by decide) (by decide) (by decide) ?_
        exact lw_go ZC hX hbl hbA hL hRf hRc hRs hRl h x ato an ac xu xf xv hm am i jn To Ne Cr U aqu Nqu Squ f F V aqt Nqt Sqt M hs ag Lg nr gv gw A Cq C hA hB hC hD hE hF ⟨hi0.1, by omega⟩
      · refine z_tabIn ZC (off := 471) 503 dL_law_32 (by omega) (by decide) (by decide) (by decide) (by decide) ?_
        exact lw_queue ZC hX hbl hbA hL hRf hRc hRs hRl h x ato an ac xu xf xv hm am i jn To Ne Cr U aqu Nqu Squ f F V aqt Nqt Sqt M hs ag Lg nr gv gw A Cq C hA hB hC hD hE hF ⟨hi0.1, by omega⟩
      · refine z_tabIn ZC (off := 494) 526 dL_law_32 (by omega) (by decide) (by decide) (by decide) (by decide) ?_
        exact lw_on ZC hX hbl hbA hL hRf hRc hRs hRl h x ato an ac xu xf xv hm am i jn To Ne Cr U aqu Nqu Squ f F V aqt Nqt Sqt M hs ag Lg nr gv gw A Cq C hA hB hC hD hE hF ⟨hi0.1, by omega⟩
      · refine z_tabIn ZC (off := 517) 549 dL_law_32 (by omega) (by decide) (by decide) (by decide) (by decide) ?_
        exact lw_foretold ZC hX hbl hbA hL hRf hRc hRs hRl h x ato an ac xu xf xv hm am i jn To Ne Cr U aqu Nqu Squ f F V aqt Nqt Sqt M hs ag Lg nr gv gw A Cq C hA hB hC hD hE hF ⟨hi0.1, by omega⟩
      · refine z_tabIn ZC (off := 540) 572 dL_law_32 (by omega) (by decide) (by decide) (by decide) (by decide) ?_
        exact lw_lacks ZC hX hbl hbA hL hRf hRc hRs hRl h x ato an ac xu xf xv hm am i jn To Ne Cr U aqu Nqu Squ f F V aqt Nqt Sqt M hs ag Lg nr gv gw A Cq C hA hB hC hD hE hF ⟨hi0.1, by omega⟩
      · refine z_tabIn ZC (off := 563) 595 dL_law_32 (by omega) (by decide) (by decide) (by decide) (by decide) ?_
        exact lw_plan ZC hX hbl hbA hL hRf hRc hRs hRl h x ato an ac xu xf xv hm am i jn To Ne Cr U aqu Nqu Squ f F V aqt Nqt Sqt M hs ag Lg nr gv gw A Cq C hA hB hC hD hE hF ⟨hi0.1, by omega⟩
      · refine z_tabIn ZC (off := 586) 618 dL_law_32 (by omega) (by decide) (by decide) (by decide) (by decide) ?_
        exact lw_planned ZC hX hbl hbA hL hRf hRc hRs hRl h x ato an ac xu xf xv hm am i jn To Ne Cr U aqu Nqu Squ f F V aqt Nqt Sqt M hs ag Lg nr gv gw A Cq C hA hB hC hD hE hF ⟨hi0.1, by omega⟩
      · refine z_tabIn ZC (off := 609) 641 dL_law_32 (by omega) (by decide) (by decide) (by decide) (by decide) ?_
        by_cases hk : 0 ≤ (xz xs (i + 1)) ∧ (xz xs (i + 1)) < Ne.2 8
        · exact lw_counted_y ZC hX hbl hbA hL hRf hRc hRs hRl h x ato an ac xu xf xv hm am i jn To Ne Cr U aqu Nqu Squ f F V aqt Nqt Sqt M hs ag Lg nr gv gw A Cq C hA hB hC hD hE hF ⟨hi0.1, by omega⟩ hk
        · exact lw_counted_n ZC hX hbl hbA hL hRf hRc hRs hRl h x ato an ac xu xf xv hm am i jn To Ne Cr U aqu Nqu Squ f F V aqt Nqt Sqt M hs ag Lg nr gv gw A Cq C hA hB hC hD hE hF ⟨hi0.1, by omega⟩ hk
      · refine z_tabIn ZC (off := 652) 684 dL_law_32 (by omega) (by decide) (by decide) (by decide) (by decide) ?_
        by_cases hk : 0 ≤ (xz xs (i + 1)) ∧ (xz xs (i + 1)) < Ne.2 8
        · exact lw_came_y ZC hX hbl hbA hL hRf hRc hRs hRl h x ato an ac xu xf xv hm am i jn To Ne Cr U aqu Nqu Squ f F V aqt Nqt Sqt M hs ag Lg nr gv gw A Cq C hA hB hC hD hE hF ⟨hi0.1, by omega⟩ hk
        · exact lw_came_n ZC hX hbl hbA hL hRf hRc hRs hRl h x ato an ac xu xf xv hm am i jn To Ne Cr U aqu Nqu Squ f F V aqt Nqt Sqt M hs ag Lg nr gv gw A Cq C hA hB hC hD hE hF ⟨hi0.1, by omega⟩ hk
      · refine z_tabIn ZC (off := 705) 737 dL_law_32 (by omega) (by decide) (by decide) (by decide) (by decide) ?_
        by_cases hk : 0 ≤ (xz xs (i + 1)) ∧ (xz xs (i + 1)) < Ne.2 8
        · exact lw_out_y ZC hX hbl hbA hL hRf hRc hRs hRl h x ato an ac xu xf xv hm am i jn To Ne Cr U aqu Nqu Squ f F V aqt Nqt Sqt M hs ag Lg nr gv gw A Cq C hA hB hC hD hE hF ⟨hi0.1, by omega⟩ hk
        · exact lw_out_n ZC hX hbl hbA hL hRf hRc hRs hRl h x ato an ac xu xf xv hm am i jn To Ne Cr U aqu Nqu Squ f F V aqt Nqt Sqt M hs ag Lg nr gv gw A Cq C hA hB hC hD hE hF ⟨hi0.1, by omega⟩ hk
      · refine z_tabIn ZC (off := 738) 770 dL_law_32 (by omega) (by decide) (by decide) (by decide) (by decide) ?_
        exact lw_told ZC hX hbl hbA hL hRf hRc hRs hRl h x ato an ac xu xf xv hm am i jn To Ne Cr U aqu Nqu Squ f F V aqt Nqt Sqt M hs ag Lg nr gv gw A Cq C hA hB hC hD hE hF ⟨hi0.1, by omega⟩
      · refine z_tabIn ZC (off := 771) 803 dL_law_32 (by omega) (by decide) (by decide) (by decide) (by decide) ?_
        exact lw_at ZC hX hbl hbA hL hRf hRc hRs hRl h x ato an ac xu xf xv hm am i jn To Ne Cr U aqu Nqu Squ f F V aqt Nqt Sqt M hs ag Lg nr gv gw A Cq C hA hB hC hD hE hF ⟨hi0.1, by omega⟩
      · refine z_tabIn ZC (off := 804) 836 dL_law_32 (by omega) (by decide) (by decide) (by decide) (by decide) ?_
        exact lw_count ZC hX hbl hbA hL hRf hRc hRs hRl h x ato an ac xu xf xv hm am i jn To Ne Cr U aqu Nqu Squ f F V aqt Nqt Sqt M hs ag Lg nr gv gw A Cq C hA hB hC hD hE hF ⟨hi0.1, by omega⟩
      · refine z_tabOut ZC 859 dL_law_32 (by omega) (by omega) (by decide) ?_
        exact jn To Ne Cr U aqu Nqu Squ f F V aqt Nqt Sqt M hs ag Lg nr gv gw A Cq C hA hB hC hD hE hF

set_option maxHeartbeats 4000000 in
set_option maxRecDepth 100000 in
theorem law_go {zp : Program} {zl : Launch} {ze : Env} {zR : Room} {zs : State} {zm : MethodId} {zargs : Array Value} {zbelow : List Frame} {zmeth : Method} {zc : Code} {D : va_G} {K : tyK} {zA : Nat → Prop} {zQ : State → Prop} {b L : Nat} {xs : Nat → Int32} (ZC : Zc zp zs zm zargs zc D K zA 4 cL_law RL) (hX : va_X b L xs zs zs.heap) (hbl : b < zs.heap.size) (hbA : ¬ zA b) (hL : L ≤ 2560) (hRf : zR.frames = 10) (hRc : zR.cells = 600000) (hRs : zR.slots = 7302250) (hRl : zR.locals = 366) (hNq : Nq zs) (hend : ∀ (ws : va_W) (cl sl : Nat) (lv : List (Nat × Value)), cl ≤ 600000 → sl ≤ 7302250 → Zw zp zl ze zR zs zm zargs zbelow zmeth zc D zA 4 zQ cl sl ws 866 lv [vZ 1]) : Zw zp zl ze zR zs zm zargs zbelow zmeth zc D zA 4 zQ 0 0 [] 0 [(0, .ref b)] [] := by
  refine z_new ZC (ci := 7) (fs := [.null, .null, .null, .null, .null, .null]) inUX7 tyX7_ok uL_L_7 uB_X7 uN_X7 rfl (new_fs_X7) (by omega) (by omega) dL_law_0 (fun q0 => ?_)
  refine z_dup ZC dL_law_3 rfl ?_
  refine z_callIq ZC (hNq) 0 (c_X7_init zl D K q0 3300 ) uC_X7_init uN_X7 uM_L_9 uI_X7_init rfl (by decide +kernel) rfl ⟨by omega, by omega⟩ ⟨by omega, by omega⟩ (Nat.le_of_ble_eq_true rfl) [0] rfl (by decide) rfl dL_law_4 (fun r w2 gc_4 gs_4 hp => ?_)
  obtain ⟨x_4, ato_4, To_4, an_4, Ne_4, ac_4, Cr_4, xu_4, U_4, aqu_4, Squ_4, xf_4, F_4, xv_4, V_4, aqt_4, Sqt_4, rfl, rfl, rfl, rfl, hto_4, hcr_4, hne_4, hu1_4, hu2_4, huq_4, hF_4⟩ := hp
  refine z_ws (ws2 := [(q0, .inr (7, [.ref (x_4 0), .ref (x_4 1), .ref (x_4 2), .ref (x_4 3), .ref (x_4 4), .ref (x_4 5)])), ((x_4 0), .inr (5, [.ref (ato_4 0), .ref (ato_4 1), vZ (To_4.2 2), vZ (To_4.2 3)])), ((ato_4 0), .inl (K.1, 10, .inl (ar (To_4.1 0)))), ((ato_4 1), .inl (K.1, 10, .inl (ar (To_4.1 1)))), ((x_4 1), .inr (4, [.ref (an_4 0), .ref (an_4 1), .ref (an_4 2), .ref (an_4 3), .ref (an_4 4), .ref (an_4 5), .ref (an_4 6), .ref (an_4 7), vZ (Ne_4.2 8)])), ((an_4 0), .inl (K.1, 16, .inl (ar (Ne_4.1 0)))), ((an_4 1), .inl (K.1, 16, .inl (ar (Ne_4.1 1)))), ((an_4 2), .inl (K.1, 16, .inl (ar (Ne_4.1 2)))), ((an_4 3), .inl (K.1, 16, .inl (ar (Ne_4.1 3)))), ((an_4 4), .inl (K.1, 16, .inl (ar (Ne_4.1 4)))), ((an_4 5), .inl (K.1, 16, .inl (ar (Ne_4.1 5)))), ((an_4 6), .inl (K.1, 100, .inl (ar (Ne_4.1 6)))), ((an_4 7), .inl (K.1, 100, .inl (ar (Ne_4.1 7)))), ((x_4 2), .inr (0, [.ref (ac_4 0), .ref (ac_4 1), .ref (ac_4 2), vZ (Cr_4.2 3), vZ (Cr_4.2 4)])), ((ac_4 0), .inl (K.1, 8, .inl (ar (Cr_4.1 0)))), ((ac_4 1), .inl (K.1, 8, .inl (ar (Cr_4.1 1)))), ((ac_4 2), .inl (K.1, 8, .inl (ar (Cr_4.1 2)))), ((x_4 3), .inr (6, [.ref (x_4 0), .ref (x_4 1), .ref (x_4 2), .ref (xu_4 3), .ref (xu_4 5), .ref (xu_4 6), .ref (xu_4 7), .ref (xu_4 8), .ref (xu_4 9), .ref (xu_4 10), .ref (xu_4 11), vZ (U_4.2 12), vZ (U_4.2 13), vZ (U_4.2 14), vZ (U_4.2 15)])), ((xu_4 5), .inl (K.1, 8, .inl (ar (U_4.1 5)))), ((xu_4 6), .inl (K.1, 8, .inl (ar (U_4.1 6)))), ((xu_4 7), .inl (K.1, 8, .inl (ar (U_4.1 7)))), ((xu_4 8), .inl (K.1, 10, .inl (ar (U_4.1 8)))), ((xu_4 9), .inl (K.1, 10, .inl (ar (U_4.1 9)))), ((xu_4 10), .inl (K.1, 10, .inl (ar (U_4.1 10)))), ((xu_4 11), .inl (K.1, 16, .inl (ar (U_4.1 11)))), ((xu_4 3), .inr (2, [.ref (aqu_4 0), .ref (aqu_4 1), .ref (aqu_4 2), .ref (aqu_4 3), .ref (aqu_4 4), .ref (aqu_4 5), .ref (aqu_4 6), vZ (Squ_4.2 7), vZ (Squ_4.2 8)])), ((aqu_4 0), .inl (K.1, 32, .inl (ar (Squ_4.1 0)))), ((aqu_4 1), .inl (K.1, 32, .inl (ar (Squ_4.1 1)))), ((aqu_4 2), .inl (K.1, 32, .inl (ar (Squ_4.1 2)))), ((aqu_4 3), .inl (K.1, 32, .inl (ar (Squ_4.1 3)))), ((aqu_4 4), .inl (K.1, 32, .inl (ar (Squ_4.1 4)))), ((aqu_4 5), .inl (K.1, 32, .inl (ar (Squ_4.1 5)))), ((aqu_4 6), .inl (K.1, 32, .inl (ar (Squ_4.1 6)))), ((x_4 4), .inl (K.2.2, 16, .inr (.inr (.inr (.inr (fun _ => none)))))), ((x_4 5), .inr (1, [.ref (x_4 3), .ref (xf_4 1), .ref (xf_4 2), .ref (xf_4 3), .ref (xf_4 4), vZ (F_4.2 5), vZ (F_4.2 6), vZ (F_4.2 7), vZ (F_4.2 8), vZ (F_4.2 9), vZ (F_4.2 10), vZ (F_4.2 11)])), ((xf_4 2), .inl (K.1, 10, .inl (ar (F_4.1 2)))), ((xf_4 3), .inl (K.1, 4, .inl (ar (F_4.1 3)))), ((xf_4 4), .inl (K.1, 4, .inl (ar (F_4.1 4)))), ((xf_4 1), .inr (6, [.ref (x_4 0), .ref (x_4 1), .ref (x_4 2), .ref (xv_4 3), .ref (xv_4 5), .ref (xv_4 6), .ref (xv_4 7), .ref (xv_4 8), .ref (xv_4 9), .ref (xv_4 10), .ref (xv_4 11), vZ (V_4.2 12), vZ (V_4.2 13), vZ (V_4.2 14), vZ (V_4.2 15)])), ((xv_4 5), .inl (K.1, 8, .inl (ar (V_4.1 5)))), ((xv_4 6), .inl (K.1, 8, .inl (ar (V_4.1 6)))), ((xv_4 7), .inl (K.1, 8, .inl (ar (V_4.1 7)))), ((xv_4 8), .inl (K.1, 10, .inl (ar (V_4.1 8)))), ((xv_4 9), .inl (K.1, 10, .inl (ar (V_4.1 9)))), ((xv_4 10), .inl (K.1, 10, .inl (ar (V_4.1 10)))), ((xv_4 11), .inl (K.1, 16, .inl (ar (V_4.1 11)))), ((xv_4 3), .inr (2, [.ref (aqt_4 0), .ref (aqt_4 1), .ref (aqt_4 2), .ref (aqt_4 3), .ref (aqt_4 4), .ref (aqt_4 5), .ref (aqt_4 6), vZ (Sqt_4.2 7), vZ (Sqt_4.2 8)])), ((aqt_4 0), .inl (K.1, 32, .inl (ar (Sqt_4.1 0)))), ((aqt_4 1), .inl (K.1, 32, .inl (ar (Sqt_4.1 1)))), ((aqt_4 2), .inl (K.1, 32, .inl (ar (Sqt_4.1 2)))), ((aqt_4 3), .inl (K.1, 32, .inl (ar (Sqt_4.1 3)))), ((aqt_4 4), .inl (K.1, 32, .inl (ar (Sqt_4.1 4)))), ((aqt_4 5), .inl (K.1, 32, .inl (ar (Sqt_4.1 5)))), ((aqt_4 6), .inl (K.1, 32, .inl (ar (Sqt_4.1 6))))]) rfl ?_
  refine z_st (st2 := [.ref q0]) rfl ?_
  refine z_astore_n ZC 1 dL_law_7 rfl (by decide) ?_
  refine z_new ZC (ci := 8) (fs := [vZ 0, .null, .null, vZ 0, vZ 0, .null, .null, .null, .null, .null, .null, .null, vZ 0, .null, .null, .null, .null, .null, .null, .null, vZ 0, vZ 0, .null, .null, .null, .null, .null, .null, .null, .null, .null, .null, .null, .null, vZ 0, .null, vZ 0, vZ 0, vZ 0, .null, .null, vZ 0, vZ 0, vZ 0]) inUX8 tyX8_ok uL_L_10 uB_X8 uN_X8 rfl (new_fs_X8) (by omega) (by omega) dL_law_8 (fun q8 => ?_)
  refine z_dup ZC dL_law_11 rfl ?_
  refine z_callI ZC 0 (c_X8_init zl D K q8 ) uC_X8_init uN_X8 uM_L_12 uI_X8_init rfl (by decide +kernel) rfl ⟨by omega, by omega⟩ ⟨by omega, by omega⟩ (Nat.le_of_ble_eq_true rfl) [54] rfl (by decide) rfl dL_law_12 (fun r w2 gc_12 gs_12 hp => ?_)
  obtain ⟨a_12, M_12, rfl, rfl, rfl, rfl, hz_12, h0_12, hhe_12, hct_12, hsp_12⟩ := hp
  refine z_ws (ws2 := [(q0, .inr (7, [.ref (x_4 0), .ref (x_4 1), .ref (x_4 2), .ref (x_4 3), .ref (x_4 4), .ref (x_4 5)])), ((x_4 0), .inr (5, [.ref (ato_4 0), .ref (ato_4 1), vZ (To_4.2 2), vZ (To_4.2 3)])), ((ato_4 0), .inl (K.1, 10, .inl (ar (To_4.1 0)))), ((ato_4 1), .inl (K.1, 10, .inl (ar (To_4.1 1)))), ((x_4 1), .inr (4, [.ref (an_4 0), .ref (an_4 1), .ref (an_4 2), .ref (an_4 3), .ref (an_4 4), .ref (an_4 5), .ref (an_4 6), .ref (an_4 7), vZ (Ne_4.2 8)])), ((an_4 0), .inl (K.1, 16, .inl (ar (Ne_4.1 0)))), ((an_4 1), .inl (K.1, 16, .inl (ar (Ne_4.1 1)))), ((an_4 2), .inl (K.1, 16, .inl (ar (Ne_4.1 2)))), ((an_4 3), .inl (K.1, 16, .inl (ar (Ne_4.1 3)))), ((an_4 4), .inl (K.1, 16, .inl (ar (Ne_4.1 4)))), ((an_4 5), .inl (K.1, 16, .inl (ar (Ne_4.1 5)))), ((an_4 6), .inl (K.1, 100, .inl (ar (Ne_4.1 6)))), ((an_4 7), .inl (K.1, 100, .inl (ar (Ne_4.1 7)))), ((x_4 2), .inr (0, [.ref (ac_4 0), .ref (ac_4 1), .ref (ac_4 2), vZ (Cr_4.2 3), vZ (Cr_4.2 4)])), ((ac_4 0), .inl (K.1, 8, .inl (ar (Cr_4.1 0)))), ((ac_4 1), .inl (K.1, 8, .inl (ar (Cr_4.1 1)))), ((ac_4 2), .inl (K.1, 8, .inl (ar (Cr_4.1 2)))), ((x_4 3), .inr (6, [.ref (x_4 0), .ref (x_4 1), .ref (x_4 2), .ref (xu_4 3), .ref (xu_4 5), .ref (xu_4 6), .ref (xu_4 7), .ref (xu_4 8), .ref (xu_4 9), .ref (xu_4 10), .ref (xu_4 11), vZ (U_4.2 12), vZ (U_4.2 13), vZ (U_4.2 14), vZ (U_4.2 15)])), ((xu_4 5), .inl (K.1, 8, .inl (ar (U_4.1 5)))), ((xu_4 6), .inl (K.1, 8, .inl (ar (U_4.1 6)))), ((xu_4 7), .inl (K.1, 8, .inl (ar (U_4.1 7)))), ((xu_4 8), .inl (K.1, 10, .inl (ar (U_4.1 8)))), ((xu_4 9), .inl (K.1, 10, .inl (ar (U_4.1 9)))), ((xu_4 10), .inl (K.1, 10, .inl (ar (U_4.1 10)))), ((xu_4 11), .inl (K.1, 16, .inl (ar (U_4.1 11)))), ((xu_4 3), .inr (2, [.ref (aqu_4 0), .ref (aqu_4 1), .ref (aqu_4 2), .ref (aqu_4 3), .ref (aqu_4 4), .ref (aqu_4 5), .ref (aqu_4 6), vZ (Squ_4.2 7), vZ (Squ_4.2 8)])), ((aqu_4 0), .inl (K.1, 32, .inl (ar (Squ_4.1 0)))), ((aqu_4 1), .inl (K.1, 32, .inl (ar (Squ_4.1 1)))), ((aqu_4 2), .inl (K.1, 32, .inl (ar (Squ_4.1 2)))), ((aqu_4 3), .inl (K.1, 32, .inl (ar (Squ_4.1 3)))), ((aqu_4 4), .inl (K.1, 32, .inl (ar (Squ_4.1 4)))), ((aqu_4 5), .inl (K.1, 32, .inl (ar (Squ_4.1 5)))), ((aqu_4 6), .inl (K.1, 32, .inl (ar (Squ_4.1 6)))), ((x_4 4), .inl (K.2.2, 16, .inr (.inr (.inr (.inr (fun _ => none)))))), ((x_4 5), .inr (1, [.ref (x_4 3), .ref (xf_4 1), .ref (xf_4 2), .ref (xf_4 3), .ref (xf_4 4), vZ (F_4.2 5), vZ (F_4.2 6), vZ (F_4.2 7), vZ (F_4.2 8), vZ (F_4.2 9), vZ (F_4.2 10), vZ (F_4.2 11)])), ((xf_4 2), .inl (K.1, 10, .inl (ar (F_4.1 2)))), ((xf_4 3), .inl (K.1, 4, .inl (ar (F_4.1 3)))), ((xf_4 4), .inl (K.1, 4, .inl (ar (F_4.1 4)))), ((xf_4 1), .inr (6, [.ref (x_4 0), .ref (x_4 1), .ref (x_4 2), .ref (xv_4 3), .ref (xv_4 5), .ref (xv_4 6), .ref (xv_4 7), .ref (xv_4 8), .ref (xv_4 9), .ref (xv_4 10), .ref (xv_4 11), vZ (V_4.2 12), vZ (V_4.2 13), vZ (V_4.2 14), vZ (V_4.2 15)])), ((xv_4 5), .inl (K.1, 8, .inl (ar (V_4.1 5)))), ((xv_4 6), .inl (K.1, 8, .inl (ar (V_4.1 6)))), ((xv_4 7), .inl (K.1, 8, .inl (ar (V_4.1 7)))), ((xv_4 8), .inl (K.1, 10, .inl (ar (V_4.1 8)))), ((xv_4 9), .inl (K.1, 10, .inl (ar (V_4.1 9)))), ((xv_4 10), .inl (K.1, 10, .inl (ar (V_4.1 10)))), ((xv_4 11), .inl (K.1, 16, .inl (ar (V_4.1 11)))), ((xv_4 3), .inr (2, [.ref (aqt_4 0), .ref (aqt_4 1), .ref (aqt_4 2), .ref (aqt_4 3), .ref (aqt_4 4), .ref (aqt_4 5), .ref (aqt_4 6), vZ (Sqt_4.2 7), vZ (Sqt_4.2 8)])), ((aqt_4 0), .inl (K.1, 32, .inl (ar (Sqt_4.1 0)))), ((aqt_4 1), .inl (K.1, 32, .inl (ar (Sqt_4.1 1)))), ((aqt_4 2), .inl (K.1, 32, .inl (ar (Sqt_4.1 2)))), ((aqt_4 3), .inl (K.1, 32, .inl (ar (Sqt_4.1 3)))), ((aqt_4 4), .inl (K.1, 32, .inl (ar (Sqt_4.1 4)))), ((aqt_4 5), .inl (K.1, 32, .inl (ar (Sqt_4.1 5)))), ((aqt_4 6), .inl (K.1, 32, .inl (ar (Sqt_4.1 6)))), (q8, .inr (8, [vZ (M_12.2 0), .ref (a_12 1), .ref (a_12 2), vZ (M_12.2 3), vZ (M_12.2 4), .ref (a_12 5), .ref (a_12 6), .ref (a_12 7), .ref (a_12 8), .ref (a_12 9), .ref (a_12 10), .ref (a_12 11), vZ (M_12.2 12), .ref (a_12 13), .ref (a_12 14), .ref (a_12 15), .ref (a_12 16), .ref (a_12 17), .ref (a_12 18), .ref (a_12 19), vZ (M_12.2 20), vZ (M_12.2 21), .ref (a_12 22), .ref (a_12 23), .ref (a_12 24), .ref (a_12 25), .ref (a_12 26), .ref (a_12 27), .ref (a_12 28), .ref (a_12 29), .ref (a_12 30), .ref (a_12 31), .ref (a_12 32), .ref (a_12 33), vZ (M_12.2 34), .ref (a_12 35), vZ (M_12.2 36), vZ (M_12.2 37), vZ (M_12.2 38), .ref (a_12 39), .ref (a_12 40), vZ (M_12.2 41), vZ (M_12.2 42), vZ (M_12.2 43)])), ((a_12 1), .inl (K.1, 10, .inl (ar (M_12.1 1)))), ((a_12 2), .inl (K.1, 10, .inl (ar (M_12.1 2)))), ((a_12 5), .inl (K.1, 16, .inl (ar (M_12.1 5)))), ((a_12 6), .inl (K.1, 16, .inl (ar (M_12.1 6)))), ((a_12 7), .inl (K.1, 16, .inl (ar (M_12.1 7)))), ((a_12 8), .inl (K.1, 16, .inl (ar (M_12.1 8)))), ((a_12 9), .inl (K.1, 16, .inl (ar (M_12.1 9)))), ((a_12 10), .inl (K.1, 16, .inl (ar (M_12.1 10)))), ((a_12 11), .inl (K.1, 100, .inl (ar (M_12.1 11)))), ((a_12 13), .inl (K.1, 8, .inl (ar (M_12.1 13)))), ((a_12 14), .inl (K.1, 8, .inl (ar (M_12.1 14)))), ((a_12 15), .inl (K.1, 8, .inl (ar (M_12.1 15)))), ((a_12 16), .inl (K.1, 8, .inl (ar (M_12.1 16)))), ((a_12 17), .inl (K.1, 3200, .inl (ar (M_12.1 17)))), ((a_12 18), .inl (K.1, 3200, .inl (ar (M_12.1 18)))), ((a_12 19), .inl (K.2.1, 3200, .inl (ar (M_12.1 19)))), ((a_12 22), .inl (K.1, 3400, .inl (ar (M_12.1 22)))), ((a_12 23), .inl (K.1, 3400, .inl (ar (M_12.1 23)))), ((a_12 24), .inl (K.1, 3400, .inl (ar (M_12.1 24)))), ((a_12 25), .inl (K.1, 3400, .inl (ar (M_12.1 25)))), ((a_12 26), .inl (K.1, 32, .inl (ar (M_12.1 26)))), ((a_12 27), .inl (K.1, 32, .inl (ar (M_12.1 27)))), ((a_12 28), .inl (K.2.1, 8, .inl (ar (M_12.1 28)))), ((a_12 29), .inl (K.1, 8, .inl (ar (M_12.1 29)))), ((a_12 30), .inl (K.1, 8, .inl (ar (M_12.1 30)))), ((a_12 31), .inl (K.1, 10, .inl (ar (M_12.1 31)))), ((a_12 32), .inl (K.1, 10, .inl (ar (M_12.1 32)))), ((a_12 33), .inl (K.1, 10, .inl (ar (M_12.1 33)))), ((a_12 35), .inl (K.1, 13711, .inl (ar (M_12.1 35)))), ((a_12 39), .inl (K.1, 4, .inl (ar (M_12.1 39)))), ((a_12 40), .inl (K.1, 4, .inl (ar (M_12.1 40))))]) rfl ?_
  refine z_st (st2 := [.ref q8]) rfl ?_
  refine z_astore_n ZC 2 dL_law_15 rfl (by decide) ?_
  refine z_iconst ZC dL_law_16 ?_
  refine z_istore_n ZC 3 dL_law_17 rfl (by decide) ?_
  obtain ⟨s1, s2, s3, s4, s5⟩ := l_begin (hs := fun _ => 0) (Lg := fun _ => B0) (f := fun _ => none) hto_4 hcr_4 hne_4 hu1_4 hu2_4 huq_4 hF_4 hz_12 h0_12 hhe_12 hct_12 hsp_12
  refine z_ws (ws2 := (lW K q0 x_4 ato_4 an_4 ac_4 xu_4 xf_4 xv_4 q8 a_12 To_4 Ne_4 Cr_4 U_4 aqu_4 32 Squ_4 (fun _ => none) F_4 V_4 aqt_4 32 Sqt_4 M_12 ++ lgW K (fun _ => 0) (fun _ _ => 0) (fun _ => B0) 0)) rfl (z_lv (lv2 := [(0, .ref b), (1, .ref q0), (2, .ref q8), (3, vZ 0)]) ⟨rfl, rfl, rfl, rfl, trivial⟩ ?_)
  exact law_loop ZC hX hbl hbA hL hRf hRc hRs hRl hend q0 x_4 ato_4 an_4 ac_4 xu_4 xf_4 xv_4 q8 a_12 _ 0 To_4 Ne_4 Cr_4 U_4 aqu_4 32 Squ_4 (fun _ => none) F_4 V_4 aqt_4 32 Sqt_4 M_12 (fun _ => 0) (fun _ _ => 0) (fun _ => B0) 0 _ _ A00 (fun _ => []) (fun _ => []) (by omega) (Nat.lt_succ_self _) s1 s2 s3 s4 s5 ⟨by omega, by omega⟩

theorem arr_of {s : State} {args : Array Value} {ty : FieldType} (hc : ∀ C, ty ≠ .object C) (h : (Cond.arrayClass ty).before args s = true) : ∃ cA : ClassId, ArrOfT s cA ty ∧ va_RA s cA ty := by
  obtain ⟨cA, kA, comp, hfind, hk, hkind⟩ := Cond.arrayClass_spec h
  refine ⟨cA, fun n z => ⟨(fun k h => by cases h), kA, hk, comp, hkind⟩, ?_⟩
  cases ty <;> first | exact hfind | exact absurd rfl (hc _)
theorem arr_ofQ {s : State} (h : va_AO RX3 s) : ∃ cA : ClassId, ArrOfT s cA (.object RX3) ∧ va_RA s cA (.object RX3) := by
  obtain ⟨comp, c, k, h1, h2, h3, h4, h5⟩ := Cond.arrayOver_spec h
  exact ⟨c, fun n z => ⟨(fun k h => by cases h), k, h3, comp, h4⟩, k, comp, h3, h4, h1, h5⟩

set_option maxHeartbeats 4000000 in
set_option maxRecDepth 100000 in
theorem whole_start {p : Program} {e : Env} {s : State} {m : MethodId} {below : List Frame} {meth : Method} {c : Code} (l : Launch) {b L : Nat} {xs : Nat → Int32} (hL : L ≤ 2560) (C0 : lw_At p s m meth c b L xs) : W p l e room_1 s m #[Value.ref b] below meth c s.heap [] 0 0 (lw_Z below #[Value.ref b] s) (entryFrame m ([Value.ref b] : List Value).toArray 4) := by
  obtain ⟨hx, hb, hr, hml, hown, hts, hX, hbl, hlocks, hgv⟩ := id C0
  have hbA : ¬ (fun q : Nat => s.heap.size ≤ q) b := Nat.not_le.mpr hbl
  have htw : ∀ w ∈ wU, w.before #[Value.ref b] s = true := fun w hw => hts w (wU_in w hw)
  obtain ⟨c0, iS0, hKn0⟩ := u_known (C := RX0) (T := TX0) (N := 5) (n := 5) hts inLX0 (htw _ uB_X0)
  obtain ⟨c1, iS1, hKn1⟩ := u_known (C := RX1) (T := TX1) (N := 12) (n := 12) hts inLX1 (htw _ uB_X1)
  obtain ⟨c2, iS2, hKn2⟩ := u_known (C := RX2) (T := TX2) (N := 9) (n := 9) hts inLX2 (htw _ uB_X2)
  obtain ⟨c3, iS3, hKn3⟩ := u_known (C := RX3) (T := TX3) (N := 3) (n := 3) hts inLX3 (htw _ uB_X3)
  obtain ⟨c4, iS4, hKn4⟩ := u_known (C := RX4) (T := TX4) (N := 9) (n := 9) hts inLX4 (htw _ uB_X4)
  obtain ⟨c5, iS5, hKn5⟩ := u_known (C := RX5) (T := TX5) (N := 4) (n := 4) hts inLX5 (htw _ uB_X5)
  obtain ⟨c6, iS6, hKn6⟩ := u_known (C := RX6) (T := TX6) (N := 15) (n := 15) hts inLX6 (htw _ uB_X6)
  obtain ⟨c7, iS7, hKn7⟩ := u_known (C := RX7) (T := TX7) (N := 6) (n := 6) hts inLX7 (htw _ uB_X7)
  obtain ⟨c8, iS8, hKn8⟩ := u_known (C := RX8) (T := TX8) (N := 44) (n := 44) hts inLX8 (htw _ uB_X8)
  obtain ⟨dC, dI, hKc⟩ : ∃ (dC : Nat → ClassId) (dI : Nat → Nat → Nat), ∀ (k : Nat) (q : vw_C), vwCl[k]? = some q → u_Kn s q.1 q.2.1 q.2.2 (dC k) (dI k) := by
    refine ⟨fun k => if k = 0 then c0 else if k = 1 then c1 else if k = 2 then c2 else if k = 3 then c3 else if k = 4 then c4 else if k = 5 then c5 else if k = 6 then c6 else if k = 7 then c7 else c8, fun k => if k = 0 then iS0 else if k = 1 then iS1 else if k = 2 then iS2 else if k = 3 then iS3 else if k = 4 then iS4 else if k = 5 then iS5 else if k = 6 then iS6 else if k = 7 then iS7 else iS8, ?_⟩
    intro k q hq
    match k, hq with
    | 0, hq => cases hq; exact hKn0
    | 1, hq => cases hq; exact hKn1
    | 2, hq => cases hq; exact hKn2
    | 3, hq => cases hq; exact hKn3
    | 4, hq => cases hq; exact hKn4
    | 5, hq => cases hq; exact hKn5
    | 6, hq => cases hq; exact hKn6
    | 7, hq => cases hq; exact hKn7
    | 8, hq => cases hq; exact hKn8
    | k + 9, hq => simp [vwCl] at hq
  have hNq : Nq s := ⟨va_Nw.of rfl (hts _ uT_X7_11), va_Nw.of rfl (hts _ uT_X7_25), va_AO.of (hts _ uA_268)⟩
  obtain ⟨kI, hI1, hI2⟩ := arr_of (ty := .int) (fun _ h => by cases h) (hts _ uA_86)
  obtain ⟨kB, hB1, hB2⟩ := arr_of (ty := .boolean) (fun _ h => by cases h) (hts _ uA_866)
  obtain ⟨kL, hL1, hL2⟩ := arr_ofQ hNq.2.2
  have hK : va_K (dC, dI) vwCl (ty3 (kI, kB, kL)) s := by
    refine ⟨hKc, fun k q hq => ?_⟩
    match k, hq with
    | 0, hq => cases hq; exact ⟨hI1, hI2⟩
    | 1, hq => cases hq; exact ⟨hB1, hB2⟩
    | 2, hq => cases hq; exact ⟨hL1, hL2⟩
    | k + 3, hq => simp at hq
  have hP : va_P (dC, dI) vwCl [] s.heap := fun k q h => by simp at h
  have hD : va_D (fun q : Nat => s.heap.size ≤ q) [] := ⟨fun i j p q h => by simp at h, fun k q h => by simp at h⟩
  have hl := lv_entry ([.ref b]) (n := 4) (Nat.le_of_ble_eq_true rfl)
  rw [lg_entry_eq]
  generalize (lg_sl ([.ref b]) ++ List.replicate (4 - (lg_sl ([.ref b])).length) Slot.unset).toArray = ls at hl ⊢
  have hl : lv_has ls 4 [(0, .ref b)] := hl
  have ZC : Zc p s m #[Value.ref b] c (dC, dI) (kI, kB, kL) (fun q : Nat => s.heap.size ≤ q) 4 cL_law RL := ⟨hx, hb, hml, hown, htw, hK, fun q h => h⟩
  exact law_go (zR := room_1) (zl := l) (ze := e) (zbelow := below) (zmeth := meth) (zQ := lw_Z below #[Value.ref b] s) ZC hX hbl hbA hL rfl rfl rfl rfl hNq (fun ws cl sl lv h1 h2 => z_lawret hx hb hr hlocks dL_law_866 h1 h2) s.heap [] ls hP hD va_S.rf (lh_of_has hl (fun q hq => by rw [List.mem_singleton.mp hq]; rfl))

set_option maxHeartbeats 4000000 in
theorem lw_walk (l : Launch) (b : Addr) (xs : List Int32) : MetFree l x (headSpec (Jvm.Cond.code x code maxLocals ret :: tables_1) room_1) (lw_P b xs) (fun _ _ _ _ _ => True) lw_Q := by
  refine MetFree.of_bodyS (code := code) (maxLocals := maxLocals) (ret := ret) (by decide) ?_ ?_
  · intro args s m h hn
    obtain ⟨meth, c, h1, h2, h3, h4, h5, h6, -, -⟩ := Cond.code_spec hn (atoms_spec (ws := Jvm.Cond.code x code maxLocals ret :: tables_1) h _ List.mem_cons_self)
    exact ⟨meth, c, h1, h2, h3, h4, h5, h6⟩
  · intro p e s m args below meth c s₁ B hml0 hP _
    obtain ⟨rfl, hx, hbd, hgv⟩ := hP
    obtain ⟨scr, harrAt, hlist, hof, hsmall⟩ := hx
    obtain ⟨hcb, hkn, -, -⟩ := State.arrayAt?_spec harrAt
    have hown : s.vm.findClass R_law = some m.cls := findClass_of_methodNamed B.named
    have hts0 : ∀ c ∈ (Jvm.Cond.code x code maxLocals ret :: tables_1), c.before #[Value.ref b] s = true := atoms_spec (ws := Jvm.Cond.code x code maxLocals ret :: tables_1) B.pre
    have hts : ∀ w ∈ lw_tbl, w.before #[Value.ref b] s = true := k2_hts_sels lw_privs (fun w hw => hts0 w (List.mem_cons_of_mem _ hw)) lw_privs_ok
    have hml : c.maxLocals = 4 := B.maxLocals_eq (hts0 _ List.mem_cons_self)
    have X₀ : Stand p l e room_1 s m #[Value.ref b] below meth c s₁ [] 0 0 := Stand.of_body B
    have hh0 : s₁.heap = s.heap := by rw [B.state]; rfl
    have hsz : scr.slots.size = xs.length := by rw [← Array.length_toList, hlist, List.length_map]
    have hval : ∀ j : Nat, j < xs.length → scr.slots[j]? = some (.int (xs.getD j 0)) := fun j hj => by
      rw [← Array.getElem?_toList, hlist]
      simp [hj]
    have hbl : b < s.heap.size := (Array.getElem?_eq_some_iff.mp hcb).1
    have hX : va_X b xs.length (fun j => xs.getD j 0) s s.heap := ⟨scr, hcb, hof, hkn, hsz, hval⟩
    have K : W p l e room_1 s m #[Value.ref b] below meth c s₁.heap [] 0 0 (lw_Z below #[Value.ref b] s) (entryFrame m ([Value.ref b] : List Value).toArray 4) := by
      rw [hh0]
      exact whole_start l hbd ⟨B.exec, B.bytes, B.returns, hml, hown, hts, hX, hbl, B.notSynchronized, hgv⟩
    obtain ⟨t, a1, o, b1, b2, b3⟩ := K s₁ rfl X₀
    exact ⟨t, o, a1, b1, b2, b3⟩
theorem lw_pre_spec {args : Array Value} {s : State} (h : (Jvm.Cond.and given_1 narrow_1).before args s = true) (hr : rest_1_c.before args s = true) : ∃ (b : Addr) (xs : List Int32), lw_P b xs args s := by
  have hs := flat_of_before _ h
  have hq := flat_of_before _ hr
  have hc : (Cond.count 1).before args s = true := hs _ (by decide +kernel)
  have harr : (Cond.arrayOf (.arg 0) .int).before args s = true := hs _ (by decide +kernel)
  have hle : (Cond.le (.length (.arg 0)) (.int 2560)).before args s = true := hs _ (by decide +kernel)
  have hlen : (Cond.isInt (.length (.arg 0))).before args s = true := hq _ (by decide +kernel)
  have hall : (Cond.all (.arg 0) (.isInt (.elem (.arg 0) (.index 0)))).before args s = true := hq _ (by decide +kernel)
  obtain ⟨b, xs, hb, hx⟩ := State.ints_of_pre rfl harr hlen hall
  have hsm : xs.length < 2 ^ 31 := hx.choose_spec.2.2.2
  have hev : (Term.length (.arg 0)).eval args s none [] s = some (.int xs.length.toInt32) := hx.length_eval hb
  have hv := Cond.le_ints hev (show (Term.int 2560).eval args s none [] s = some (.int 2560) from rfl)
  have hd : xs.length.toInt32 ≤ 2560 := by
    simpa [Cond.before, Cond.holds, hv] using hle
  have hN : xs.length ≤ 2560 := (Int32.ofNat_le_ofNat hsm (by decide)).mp (show Int32.ofNat xs.length ≤ Int32.ofNat 2560 from hd)
  exact ⟨b, xs, Cond.one_arg hc (show args[0]? = some (.ref b) from hb), hx, hN, h⟩
theorem lw_comes (l : Launch) : Comes l x (Jvm.Cond.code x code maxLocals ret :: tables_1) room_1 (fun tb e args s => Calls_1 tb e args s ∧ rest_1 tb e args s ∧ Pre_1 tb e args s)
    (fun _ _ args s o t => lw_Q args s o t) := by
  intro p e ha hc hk s m args below hf hfit hheap happ hpre
  obtain ⟨b, xs, hP⟩ := lw_pre_spec hpre.2.2 hpre.2.1
  obtain ⟨k, o, h1, h2, h3, hQ⟩ := lw_walk l b xs p e ha hc hk s m args below hf ((Spec.applies_iff_loose hf).mp happ).1 hP trivial
  exact ⟨k, o, h1, h2, h3, hQ⟩
theorem lw_frame {s t : State} {o : Outcome} {args : Array Value} (h : Framed s o t [] 600000 7302250) :
    Framed s o t (fieldLocs frame_1_writes args s ++ arrayLocs frame_1_arrays args s ++ staticLocs frame_1_statics s) 600000 7302250 := h
theorem lw_limb (L : Cond) (hL : ∀ (args : Array Value) (s t : State), L.after args s (.returned (some (.int 1))) t = true) :
    ArmFor flags0 classFile x code maxLocals ret World_1 tables_1 room_1 Calls_1 rest_1 Pre_1
      (fun tb e a s o t => postC L tb e a s o t ∧ Framed s o t (fieldLocs frame_1_writes a s ++ arrayLocs frame_1_arrays a s ++ staticLocs frame_1_statics s) 600000 7302250) := by
  intro l _ _ _ p e ha hc hk s m args below hf hfit hheap happ hpre
  obtain ⟨k, o, h1, h2, h3, rfl, hF⟩ := lw_comes l p e ha hc hk s m args below hf hfit hheap happ hpre
  exact ⟨k, _, h1, h2, h3, hL args s _, lw_frame hF⟩
theorem i_vc : Claimed_1_1 ∧ Claimed_1_2 := ⟨lw_limb limb_1_1 (fun args s t => by simp [limb_1_1, Cond.after, Cond.holds, Cond.value]), lw_limb limb_1_2 (fun args s t => Cond.after_iff.mpr (by
  first | (rw [show limb_1_2 = Cond.eq .result (.int 1) from rfl, Cond.eq_ints (x := 1) (y := 1) rfl rfl]; simp; done) | (simp [limb_1_2, Cond.value, Term.eval]; done)))⟩
