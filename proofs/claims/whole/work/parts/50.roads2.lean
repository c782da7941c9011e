/-! ===== ShadowRoads: what it tells ===== -/
def toldU (Cr U : Bd) (c what : Int) : Int := if what = 0 then Cr.1 0 c else if what = 1 then Cr.1 1 c else if what = 2 then Cr.1 2 c else if what = 3 then U.1 5 c else if what = 4 then U.1 6 c else if what = 5 then (if U.1 6 c = Cr.1 1 c then U.1 7 c else -1) else -1
def atU (U : Bd) (t what : Int) : Int := if what = 0 then U.1 9 t else if what = 1 then U.1 8 t else if what = 2 then U.1 10 t else -1
def countU (To Ne Cr U Sq : Bd) (what : Int) : Int := if what = 0 then U.2 12 else if what = 1 then To.2 3 else if what = 2 then Ne.2 8 else if what = 3 then Cr.2 3 else if what = 4 then U.2 13 else if what = 5 then smI (Sq.1 2) 0 (Ne.2 8).toNat else if what = 6 then U.2 15 else -1

set_option maxHeartbeats 4000000 in
set_option maxRecDepth 100000 in
theorem c_X7_queue (zl : Launch) (D : va_G) (K : tyK) (h : Nat) (x : Nat → Nat) (an : Nat → Nat) (Ne : Bd) (xu : Nat → Nat) (U : Bd) (aqu : Nat → Nat) (Nqu : Nat) (Squ : Bd) (rd : Int) (hz_rd : -2147483648 ≤ rd ∧ rd < 2147483648) (hne : 0 ≤ Ne.2 8 ∧ Ne.2 8 ≤ 16) : Mz zl yX7_queue cX7_queue 2 (some .int) 2 41 0 0 D K [.ref h, vZ rd] ((wSh h x) ++ (wNe K (x 1) an Ne) ++ (wTr K (x 3) (upf (upf (upf xu 0 (x 0)) 1 (x 1)) 2 (x 2)) U) ++ (wLn K (xu 3) aqu Nqu Squ)) (fun r_ w2_ gc gs => ∃ (v : Int), r_ = some (vZ v) ∧ w2_ = ((wSh h x) ++ (wNe K (x 1) an Ne) ++ (wTr K (x 3) (upf (upf (upf xu 0 (x 0)) 1 (x 1)) 2 (x 2)) U) ++ (wLn K (xu 3) aqu Nqu Squ)) ∧ gc = 0 ∧ gs = 0 ∧ (((0 ≤ rd ∧ rd < Ne.2 8) ∧ v = Squ.1 2 rd ∧ True) ∨ (¬ (0 ≤ rd ∧ rd < Ne.2 8) ∧ v = -1 ∧ True))) := by
  refine Mz.ofZ (by decide) rfl (Nat.le_of_ble_eq_true rfl) ?_
  intro zp ze zR zs zm zargs zbelow zmeth zc zA zQ ZC ZE hRf hRc hRs hRl
  refine z_aload_n ZC 0 dX7_queue_0 rfl rfl ?_
  refine z_get ZC inUX7 0 rfl rfl 1 (by decide) uF_X7_19 rfl dX7_queue_1 ?_
  refine z_iload_n ZC 1 dX7_queue_4 rfl rfl ?_
  refine z_callV ZC 1 (c_X4_has zl D K (x 1) an Ne rd (by omega) (by omega)) (gdV uM_X7_129 uI_X4_has uS_X4_has uN_X4 uC_X4_has) (by decide +kernel) rfl ⟨by omega, by omega⟩ ⟨by omega, by omega⟩ (Nat.le_of_ble_eq_true rfl) [1, 2, 3, 4, 5, 6, 7, 8, 9] rfl (by decide) rfl rfl rfl rfl dX7_queue_5 (fun r w2 gc_5 gs_5 hp => ?_)
  obtain ⟨b_5, rfl, rfl, rfl, rfl, hb_5⟩ := hp
  refine z_ws (ws2 := [(h, .inr (7, [.ref (x 0), .ref (x 1), .ref (x 2), .ref (x 3), .ref (x 4), .ref (x 5)])), ((x 1), .inr (4, [.ref (an 0), .ref (an 1), .ref (an 2), .ref (an 3), .ref (an 4), .ref (an 5), .ref (an 6), .ref (an 7), vZ (Ne.2 8)])), ((an 0), .inl (K.1, 16, .inl (ar (Ne.1 0)))), ((an 1), .inl (K.1, 16, .inl (ar (Ne.1 1)))), ((an 2), .inl (K.1, 16, .inl (ar (Ne.1 2)))), ((an 3), .inl (K.1, 16, .inl (ar (Ne.1 3)))), ((an 4), .inl (K.1, 16, .inl (ar (Ne.1 4)))), ((an 5), .inl (K.1, 16, .inl (ar (Ne.1 5)))), ((an 6), .inl (K.1, 100, .inl (ar (Ne.1 6)))), ((an 7), .inl (K.1, 100, .inl (ar (Ne.1 7)))), ((x 3), .inr (6, [.ref (x 0), .ref (x 1), .ref (x 2), .ref (xu 3), .ref (xu 5), .ref (xu 6), .ref (xu 7), .ref (xu 8), .ref (xu 9), .ref (xu 10), .ref (xu 11), vZ (U.2 12), vZ (U.2 13), vZ (U.2 14), vZ (U.2 15)])), ((xu 5), .inl (K.1, 8, .inl (ar (U.1 5)))), ((xu 6), .inl (K.1, 8, .inl (ar (U.1 6)))), ((xu 7), .inl (K.1, 8, .inl (ar (U.1 7)))), ((xu 8), .inl (K.1, 10, .inl (ar (U.1 8)))), ((xu 9), .inl (K.1, 10, .inl (ar (U.1 9)))), ((xu 10), .inl (K.1, 10, .inl (ar (U.1 10)))), ((xu 11), .inl (K.1, 16, .inl (ar (U.1 11)))), ((xu 3), .inr (2, [.ref (aqu 0), .ref (aqu 1), .ref (aqu 2), .ref (aqu 3), .ref (aqu 4), .ref (aqu 5), .ref (aqu 6), vZ (Squ.2 7), vZ (Squ.2 8)])), ((aqu 0), .inl (K.1, 32, .inl (ar (Squ.1 0)))), ((aqu 1), .inl (K.1, 32, .inl (ar (Squ.1 1)))), ((aqu 2), .inl (K.1, 32, .inl (ar (Squ.1 2)))), ((aqu 3), .inl (K.1, Nqu, .inl (ar (Squ.1 3)))), ((aqu 4), .inl (K.1, Nqu, .inl (ar (Squ.1 4)))), ((aqu 5), .inl (K.1, Nqu, .inl (ar (Squ.1 5)))), ((aqu 6), .inl (K.1, Nqu, .inl (ar (Squ.1 6))))]) rfl ?_
  refine z_st (st2 := [vZ b_5]) rfl ?_
  refine z_if_eq ZC 22 dX7_queue_8 (by decide) (by omega) (fun c_8 => ?_) (fun c_8 => ?_)
  · skip
    refine z_iconst ZC dX7_queue_22 ?_
    refine z_iret ZC ZE dX7_queue_23 (by omega) (by omega) (Nat.le_of_ble_eq_true rfl) ⟨(-1), rfl, rfl, by omega, by omega, ?_⟩
    · skip
      first | (left; exact ⟨by omega, rfl, trivial⟩) | (right; exact ⟨by omega, rfl, trivial⟩)
  · skip
    refine z_aload_n ZC 0 dX7_queue_11 rfl rfl ?_
    refine z_get ZC inUX7 0 rfl rfl 3 (by decide) uF_X7_35 rfl dX7_queue_12 ?_
    refine z_iload_n ZC 1 dX7_queue_15 rfl rfl ?_
    refine z_callV ZC 1 (c_X6_queued zl D K (x 3) (upf (upf (upf xu 0 (x 0)) 1 (x 1)) 2 (x 2)) U aqu Nqu Squ rd (by omega)) (gdV uM_X7_145 uI_X6_queued uS_X6_queued uN_X6 uC_X6_queued) (by decide +kernel) rfl ⟨by omega, by omega⟩ ⟨by omega, by omega⟩ (Nat.le_of_ble_eq_true rfl) [10, 11, 12, 13, 14, 15, 16, 17, 18, 19, 20, 21, 22, 23, 24, 25] rfl (by decide) rfl rfl rfl rfl dX7_queue_16 (fun r w2 gc_16 gs_16 hp => ?_)
    obtain ⟨rfl, rfl, rfl, rfl⟩ := hp
    refine z_ws (ws2 := [(h, .inr (7, [.ref (x 0), .ref (x 1), .ref (x 2), .ref (x 3), .ref (x 4), .ref (x 5)])), ((x 1), .inr (4, [.ref (an 0), .ref (an 1), .ref (an 2), .ref (an 3), .ref (an 4), .ref (an 5), .ref (an 6), .ref (an 7), vZ (Ne.2 8)])), ((an 0), .inl (K.1, 16, .inl (ar (Ne.1 0)))), ((an 1), .inl (K.1, 16, .inl (ar (Ne.1 1)))), ((an 2), .inl (K.1, 16, .inl (ar (Ne.1 2)))), ((an 3), .inl (K.1, 16, .inl (ar (Ne.1 3)))), ((an 4), .inl (K.1, 16, .inl (ar (Ne.1 4)))), ((an 5), .inl (K.1, 16, .inl (ar (Ne.1 5)))), ((an 6), .inl (K.1, 100, .inl (ar (Ne.1 6)))), ((an 7), .inl (K.1, 100, .inl (ar (Ne.1 7)))), ((x 3), .inr (6, [.ref (x 0), .ref (x 1), .ref (x 2), .ref (xu 3), .ref (xu 5), .ref (xu 6), .ref (xu 7), .ref (xu 8), .ref (xu 9), .ref (xu 10), .ref (xu 11), vZ (U.2 12), vZ (U.2 13), vZ (U.2 14), vZ (U.2 15)])), ((xu 5), .inl (K.1, 8, .inl (ar (U.1 5)))), ((xu 6), .inl (K.1, 8, .inl (ar (U.1 6)))), ((xu 7), .inl (K.1, 8, .inl (ar (U.1 7)))), ((xu 8), .inl (K.1, 10, .inl (ar (U.1 8)))), ((xu 9), .inl (K.1, 10, .inl (ar (U.1 9)))), ((xu 10), .inl (K.1, 10, .inl (ar (U.1 10)))), ((xu 11), .inl (K.1, 16, .inl (ar (U.1 11)))), ((xu 3), .inr (2, [.ref (aqu 0), .ref (aqu 1), .ref (aqu 2), .ref (aqu 3), .ref (aqu 4), .ref (aqu 5), .ref (aqu 6), vZ (Squ.2 7), vZ (Squ.2 8)])), ((aqu 0), .inl (K.1, 32, .inl (ar (Squ.1 0)))), ((aqu 1), .inl (K.1, 32, .inl (ar (Squ.1 1)))), ((aqu 2), .inl (K.1, 32, .inl (ar (Squ.1 2)))), ((aqu 3), .inl (K.1, Nqu, .inl (ar (Squ.1 3)))), ((aqu 4), .inl (K.1, Nqu, .inl (ar (Squ.1 4)))), ((aqu 5), .inl (K.1, Nqu, .inl (ar (Squ.1 5)))), ((aqu 6), .inl (K.1, Nqu, .inl (ar (Squ.1 6))))]) rfl ?_
    refine z_st (st2 := [vZ (Squ.1 2 rd)]) rfl ?_
    refine z_goto ZC 23 dX7_queue_19 (by decide) ?_
    refine z_iret ZC ZE dX7_queue_23 (by omega) (by omega) (Nat.le_of_ble_eq_true rfl) ⟨(Squ.1 2 rd), rfl, rfl, by omega, by omega, ?_⟩
    · skip
      first | (left; exact ⟨by omega, rfl, trivial⟩) | (right; exact ⟨by omega, rfl, trivial⟩)

set_option maxHeartbeats 4000000 in
set_option maxRecDepth 100000 in
theorem c_X7_on (zl : Launch) (D : va_G) (K : tyK) (h : Nat) (x : Nat → Nat) (an : Nat → Nat) (Ne : Bd) (xu : Nat → Nat) (U : Bd) (aqu : Nat → Nat) (Nqu : Nat) (Squ : Bd) (rd : Int) (hz_rd : -2147483648 ≤ rd ∧ rd < 2147483648) (hne : 0 ≤ Ne.2 8 ∧ Ne.2 8 ≤ 16) : Mz zl yX7_on cX7_on 2 (some .int) 2 41 0 0 D K [.ref h, vZ rd] ((wSh h x) ++ (wNe K (x 1) an Ne) ++ (wTr K (x 3) (upf (upf (upf xu 0 (x 0)) 1 (x 1)) 2 (x 2)) U) ++ (wLn K (xu 3) aqu Nqu Squ)) (fun r_ w2_ gc gs => ∃ (v : Int), r_ = some (vZ v) ∧ w2_ = ((wSh h x) ++ (wNe K (x 1) an Ne) ++ (wTr K (x 3) (upf (upf (upf xu 0 (x 0)) 1 (x 1)) 2 (x 2)) U) ++ (wLn K (xu 3) aqu Nqu Squ)) ∧ gc = 0 ∧ gs = 0 ∧ (((0 ≤ rd ∧ rd < Ne.2 8) ∧ v = Squ.1 2 (16 + rd) ∧ True) ∨ (¬ (0 ≤ rd ∧ rd < Ne.2 8) ∧ v = -1 ∧ True))) := by
  refine Mz.ofZ (by decide) rfl (Nat.le_of_ble_eq_true rfl) ?_
  intro zp ze zR zs zm zargs zbelow zmeth zc zA zQ ZC ZE hRf hRc hRs hRl
  refine z_aload_n ZC 0 dX7_on_0 rfl rfl ?_
  refine z_get ZC inUX7 0 rfl rfl 1 (by decide) uF_X7_19 rfl dX7_on_1 ?_
  refine z_iload_n ZC 1 dX7_on_4 rfl rfl ?_
  refine z_callV ZC 1 (c_X4_has zl D K (x 1) an Ne rd (by omega) (by omega)) (gdV uM_X7_129 uI_X4_has uS_X4_has uN_X4 uC_X4_has) (by decide +kernel) rfl ⟨by omega, by omega⟩ ⟨by omega, by omega⟩ (Nat.le_of_ble_eq_true rfl) [1, 2, 3, 4, 5, 6, 7, 8, 9] rfl (by decide) rfl rfl rfl rfl dX7_on_5 (fun r w2 gc_5 gs_5 hp => ?_)
  obtain ⟨b_5, rfl, rfl, rfl, rfl, hb_5⟩ := hp
  refine z_ws (ws2 := [(h, .inr (7, [.ref (x 0), .ref (x 1), .ref (x 2), .ref (x 3), .ref (x 4), .ref (x 5)])), ((x 1), .inr (4, [.ref (an 0), .ref (an 1), .ref (an 2), .ref (an 3), .ref (an 4), .ref (an 5), .ref (an 6), .ref (an 7), vZ (Ne.2 8)])), ((an 0), .inl (K.1, 16, .inl (ar (Ne.1 0)))), ((an 1), .inl (K.1, 16, .inl (ar (Ne.1 1)))), ((an 2), .inl (K.1, 16, .inl (ar (Ne.1 2)))), ((an 3), .inl (K.1, 16, .inl (ar (Ne.1 3)))), ((an 4), .inl (K.1, 16, .inl (ar (Ne.1 4)))), ((an 5), .inl (K.1, 16, .inl (ar (Ne.1 5)))), ((an 6), .inl (K.1, 100, .inl (ar (Ne.1 6)))), ((an 7), .inl (K.1, 100, .inl (ar (Ne.1 7)))), ((x 3), .inr (6, [.ref (x 0), .ref (x 1), .ref (x 2), .ref (xu 3), .ref (xu 5), .ref (xu 6), .ref (xu 7), .ref (xu 8), .ref (xu 9), .ref (xu 10), .ref (xu 11), vZ (U.2 12), vZ (U.2 13), vZ (U.2 14), vZ (U.2 15)])), ((xu 5), .inl (K.1, 8, .inl (ar (U.1 5)))), ((xu 6), .inl (K.1, 8, .inl (ar (U.1 6)))), ((xu 7), .inl (K.1, 8, .inl (ar (U.1 7)))), ((xu 8), .inl (K.1, 10, .inl (ar (U.1 8)))), ((xu 9), .inl (K.1, 10, .inl (ar (U.1 9)))), ((xu 10), .inl (K.1, 10, .inl (ar (U.1 10)))), ((xu 11), .inl (K.1, 16, .inl (ar (U.1 11)))), ((xu 3), .inr (2, [.ref (aqu 0), .ref (aqu 1), .ref (aqu 2), .ref (aqu 3), .ref (aqu 4), .ref (aqu 5), .ref (aqu 6), vZ (Squ.2 7), vZ (Squ.2 8)])), ((aqu 0), .inl (K.1, 32, .inl (ar (Squ.1 0)))), ((aqu 1), .inl (K.1, 32, .inl (ar (Squ.1 1)))), ((aqu 2), .inl (K.1, 32, .inl (ar (Squ.1 2)))), ((aqu 3), .inl (K.1, Nqu, .inl (ar (Squ.1 3)))), ((aqu 4), .inl (K.1, Nqu, .inl (ar (Squ.1 4)))), ((aqu 5), .inl (K.1, Nqu, .inl (ar (Squ.1 5)))), ((aqu 6), .inl (K.1, Nqu, .inl (ar (Squ.1 6))))]) rfl ?_
  refine z_st (st2 := [vZ b_5]) rfl ?_
  refine z_if_eq ZC 22 dX7_on_8 (by decide) (by omega) (fun c_8 => ?_) (fun c_8 => ?_)
  · skip
    refine z_iconst ZC dX7_on_22 ?_
    refine z_iret ZC ZE dX7_on_23 (by omega) (by omega) (Nat.le_of_ble_eq_true rfl) ⟨(-1), rfl, rfl, by omega, by omega, ?_⟩
    · skip
      first | (left; exact ⟨by omega, rfl, trivial⟩) | (right; exact ⟨by omega, rfl, trivial⟩)
  · skip
    refine z_aload_n ZC 0 dX7_on_11 rfl rfl ?_
    refine z_get ZC inUX7 0 rfl rfl 3 (by decide) uF_X7_35 rfl dX7_on_12 ?_
    refine z_iload_n ZC 1 dX7_on_15 rfl rfl ?_
    refine z_callV ZC 1 (c_X6_driving zl D K (x 3) (upf (upf (upf xu 0 (x 0)) 1 (x 1)) 2 (x 2)) U aqu Nqu Squ rd (by omega)) (gdV uM_X7_148 uI_X6_driving uS_X6_driving uN_X6 uC_X6_driving) (by decide +kernel) rfl ⟨by omega, by omega⟩ ⟨by omega, by omega⟩ (Nat.le_of_ble_eq_true rfl) [10, 11, 12, 13, 14, 15, 16, 17, 18, 19, 20, 21, 22, 23, 24, 25] rfl (by decide) rfl rfl rfl rfl dX7_on_16 (fun r w2 gc_16 gs_16 hp => ?_)
    obtain ⟨rfl, rfl, rfl, rfl⟩ := hp
    refine z_ws (ws2 := [(h, .inr (7, [.ref (x 0), .ref (x 1), .ref (x 2), .ref (x 3), .ref (x 4), .ref (x 5)])), ((x 1), .inr (4, [.ref (an 0), .ref (an 1), .ref (an 2), .ref (an 3), .ref (an 4), .ref (an 5), .ref (an 6), .ref (an 7), vZ (Ne.2 8)])), ((an 0), .inl (K.1, 16, .inl (ar (Ne.1 0)))), ((an 1), .inl (K.1, 16, .inl (ar (Ne.1 1)))), ((an 2), .inl (K.1, 16, .inl (ar (Ne.1 2)))), ((an 3), .inl (K.1, 16, .inl (ar (Ne.1 3)))), ((an 4), .inl (K.1, 16, .inl (ar (Ne.1 4)))), ((an 5), .inl (K.1, 16, .inl (ar (Ne.1 5)))), ((an 6), .inl (K.1, 100, .inl (ar (Ne.1 6)))), ((an 7), .inl (K.1, 100, .inl (ar (Ne.1 7)))), ((x 3), .inr (6, [.ref (x 0), .ref (x 1), .ref (x 2), .ref (xu 3), .ref (xu 5), .ref (xu 6), .ref (xu 7), .ref (xu 8), .ref (xu 9), .ref (xu 10), .ref (xu 11), vZ (U.2 12), vZ (U.2 13), vZ (U.2 14), vZ (U.2 15)])), ((xu 5), .inl (K.1, 8, .inl (ar (U.1 5)))), ((xu 6), .inl (K.1, 8, .inl (ar (U.1 6)))), ((xu 7), .inl (K.1, 8, .inl (ar (U.1 7)))), ((xu 8), .inl (K.1, 10, .inl (ar (U.1 8)))), ((xu 9), .inl (K.1, 10, .inl (ar (U.1 9)))), ((xu 10), .inl (K.1, 10, .inl (ar (U.1 10)))), ((xu 11), .inl (K.1, 16, .inl (ar (U.1 11)))), ((xu 3), .inr (2, [.ref (aqu 0), .ref (aqu 1), .ref (aqu 2), .ref (aqu 3), .ref (aqu 4), .ref (aqu 5), .ref (aqu 6), vZ (Squ.2 7), vZ (Squ.2 8)])), ((aqu 0), .inl (K.1, 32, .inl (ar (Squ.1 0)))), ((aqu 1), .inl (K.1, 32, .inl (ar (Squ.1 1)))), ((aqu 2), .inl (K.1, 32, .inl (ar (Squ.1 2)))), ((aqu 3), .inl (K.1, Nqu, .inl (ar (Squ.1 3)))), ((aqu 4), .inl (K.1, Nqu, .inl (ar (Squ.1 4)))), ((aqu 5), .inl (K.1, Nqu, .inl (ar (Squ.1 5)))), ((aqu 6), .inl (K.1, Nqu, .inl (ar (Squ.1 6))))]) rfl ?_
    refine z_st (st2 := [vZ (Squ.1 2 (16 + rd))]) rfl ?_
    refine z_goto ZC 23 dX7_on_19 (by decide) ?_
    refine z_iret ZC ZE dX7_on_23 (by omega) (by omega) (Nat.le_of_ble_eq_true rfl) ⟨(Squ.1 2 (16 + rd)), rfl, rfl, by omega, by omega, ?_⟩
    · skip
      first | (left; exact ⟨by omega, rfl, trivial⟩) | (right; exact ⟨by omega, rfl, trivial⟩)

set_option maxHeartbeats 4000000 in
set_option maxRecDepth 100000 in
theorem c_X7_told (zl : Launch) (D : va_G) (K : tyK) (h : Nat) (x : Nat → Nat) (ac : Nat → Nat) (Cr : Bd) (xu : Nat → Nat) (U : Bd) (cw : Int) (what : Int) (hz_cw : -2147483648 ≤ cw ∧ cw < 2147483648) (hz_what : -2147483648 ≤ what ∧ what < 2147483648) (hcr : 0 ≤ Cr.2 3 ∧ Cr.2 3 ≤ 8) (hur : ∀ c : Int, 0 ≤ c → c < Cr.2 3 → (0 ≤ U.1 6 c ∧ U.1 6 c ≤ 1000000) ∧ (0 ≤ Cr.1 1 c ∧ Cr.1 1 c ≤ 1000000)) : Mz zl yX7_told cX7_told 3 (some .int) 1 21 0 0 D K [.ref h, vZ cw, vZ what] ((wSh h x) ++ (wCr K (x 2) ac Cr) ++ (wTr K (x 3) (upf (upf (upf xu 0 (x 0)) 1 (x 1)) 2 (x 2)) U)) (fun r_ w2_ gc gs => ∃ (v : Int), r_ = some (vZ v) ∧ w2_ = ((wSh h x) ++ (wCr K (x 2) ac Cr) ++ (wTr K (x 3) (upf (upf (upf xu 0 (x 0)) 1 (x 1)) 2 (x 2)) U)) ∧ gc = 0 ∧ gs = 0 ∧ (((0 ≤ cw ∧ cw < Cr.2 3) ∧ v = toldU Cr U cw what ∧ True) ∨ (¬ (0 ≤ cw ∧ cw < Cr.2 3) ∧ v = -1 ∧ True))) := by
  refine Mz.ofZ (by decide) rfl (Nat.le_of_ble_eq_true rfl) ?_
  intro zp ze zR zs zm zargs zbelow zmeth zc zA zQ ZC ZE hRf hRc hRs hRl
  refine z_aload_n ZC 0 dX7_told_0 rfl rfl ?_
  refine z_get ZC inUX7 0 rfl rfl 2 (by decide) uF_X7_26 rfl dX7_told_1 ?_
  refine z_iload_n ZC 1 dX7_told_4 rfl rfl ?_
  refine z_callV ZC 1 (c_X0_has zl D K (x 2) ac Cr cw (by omega) (by omega)) (gdV uM_X7_122 uI_X0_has uS_X0_has uN_X0 uC_X0_has) (by decide +kernel) rfl ⟨by omega, by omega⟩ ⟨by omega, by omega⟩ (Nat.le_of_ble_eq_true rfl) [1, 2, 3, 4] rfl (by decide) rfl rfl rfl rfl dX7_told_5 (fun r w2 gc_5 gs_5 hp => ?_)
  obtain ⟨b_5, rfl, rfl, rfl, rfl, hb_5⟩ := hp
  refine z_ws (ws2 := [(h, .inr (7, [.ref (x 0), .ref (x 1), .ref (x 2), .ref (x 3), .ref (x 4), .ref (x 5)])), ((x 2), .inr (0, [.ref (ac 0), .ref (ac 1), .ref (ac 2), vZ (Cr.2 3), vZ (Cr.2 4)])), ((ac 0), .inl (K.1, 8, .inl (ar (Cr.1 0)))), ((ac 1), .inl (K.1, 8, .inl (ar (Cr.1 1)))), ((ac 2), .inl (K.1, 8, .inl (ar (Cr.1 2)))), ((x 3), .inr (6, [.ref (x 0), .ref (x 1), .ref (x 2), .ref (xu 3), .ref (xu 5), .ref (xu 6), .ref (xu 7), .ref (xu 8), .ref (xu 9), .ref (xu 10), .ref (xu 11), vZ (U.2 12), vZ (U.2 13), vZ (U.2 14), vZ (U.2 15)])), ((xu 5), .inl (K.1, 8, .inl (ar (U.1 5)))), ((xu 6), .inl (K.1, 8, .inl (ar (U.1 6)))), ((xu 7), .inl (K.1, 8, .inl (ar (U.1 7)))), ((xu 8), .inl (K.1, 10, .inl (ar (U.1 8)))), ((xu 9), .inl (K.1, 10, .inl (ar (U.1 9)))), ((xu 10), .inl (K.1, 10, .inl (ar (U.1 10)))), ((xu 11), .inl (K.1, 16, .inl (ar (U.1 11))))]) rfl ?_
  refine z_st (st2 := [vZ b_5]) rfl ?_
  refine z_if_ne ZC 13 dX7_told_8 (by decide) (by omega) (fun c_8 => ?_) (fun c_8 => ?_)
  · skip
    refine z_iload_n ZC 2 dX7_told_13 rfl rfl ?_
    rcases (show what = 0 ∨ what = 1 ∨ what = 2 ∨ what = 3 ∨ what = 4 ∨ what = 5 ∨ (what < 0 ∨ 5 < what) by omega) with rfl | rfl | rfl | rfl | rfl | rfl | hsw_14
    · skip
      refine z_tabIn ZC (off := 38) 52 dX7_told_14 (by omega) (by decide) (by decide) (by decide) (by decide) ?_
      refine z_aload_n ZC 0 dX7_told_52 rfl rfl ?_
      refine z_get ZC inUX7 0 rfl rfl 2 (by decide) uF_X7_26 rfl dX7_told_53 ?_
      refine z_get ZC inUX0 1 rfl rfl 0 (by decide) uF_X7_110 rfl dX7_told_56 ?_
      refine z_iload_n ZC 1 dX7_told_59 rfl rfl ?_
      refine z_iald ZC 2 rfl dX7_told_60 (by omega) ?_
      refine z_iret ZC ZE dX7_told_61 (by omega) (by omega) (Nat.le_of_ble_eq_true rfl) ⟨((Cr.1 0) cw), rfl, rfl, by omega, by omega, ?_⟩
      · skip
        left; exact ⟨by omega, rfl, trivial⟩
    · skip
      refine z_tabIn ZC (off := 48) 62 dX7_told_14 (by omega) (by decide) (by decide) (by decide) (by decide) ?_
      refine z_aload_n ZC 0 dX7_told_62 rfl rfl ?_
      refine z_get ZC inUX7 0 rfl rfl 2 (by decide) uF_X7_26 rfl dX7_told_63 ?_
      refine z_get ZC inUX0 1 rfl rfl 1 (by decide) uF_X7_119 rfl dX7_told_66 ?_
      refine z_iload_n ZC 1 dX7_told_69 rfl rfl ?_
      refine z_iald ZC 3 rfl dX7_told_70 (by omega) ?_
      refine z_iret ZC ZE dX7_told_71 (by omega) (by omega) (Nat.le_of_ble_eq_true rfl) ⟨((Cr.1 1) cw), rfl, rfl, by omega, by omega, ?_⟩
      · skip
        left; exact ⟨by omega, rfl, trivial⟩
    · skip
      refine z_tabIn ZC (off := 58) 72 dX7_told_14 (by omega) (by decide) (by decide) (by decide) (by decide) ?_
      refine z_aload_n ZC 0 dX7_told_72 rfl rfl ?_
      refine z_get ZC inUX7 0 rfl rfl 2 (by decide) uF_X7_26 rfl dX7_told_73 ?_
      refine z_get ZC inUX0 1 rfl rfl 2 (by decide) uF_X7_113 rfl dX7_told_76 ?_
      refine z_iload_n ZC 1 dX7_told_79 rfl rfl ?_
      refine z_iald ZC 4 rfl dX7_told_80 (by omega) ?_
      refine z_iret ZC ZE dX7_told_81 (by omega) (by omega) (Nat.le_of_ble_eq_true rfl) ⟨((Cr.1 2) cw), rfl, rfl, by omega, by omega, ?_⟩
      · skip
        left; exact ⟨by omega, rfl, trivial⟩
    · skip
      refine z_tabIn ZC (off := 68) 82 dX7_told_14 (by omega) (by decide) (by decide) (by decide) (by decide) ?_
      refine z_aload_n ZC 0 dX7_told_82 rfl rfl ?_
      refine z_get ZC inUX7 0 rfl rfl 3 (by decide) uF_X7_35 rfl dX7_told_83 ?_
      refine z_get ZC inUX6 5 rfl rfl 4 (by decide) uF_X7_126 rfl dX7_told_86 ?_
      refine z_iload_n ZC 1 dX7_told_89 rfl rfl ?_
      refine z_iald ZC 6 rfl dX7_told_90 (by omega) ?_
      refine z_iret ZC ZE dX7_told_91 (by omega) (by omega) (Nat.le_of_ble_eq_true rfl) ⟨((U.1 5) cw), rfl, rfl, by omega, by omega, ?_⟩
      · skip
        left; exact ⟨by omega, rfl, trivial⟩
    · skip
      refine z_tabIn ZC (off := 78) 92 dX7_told_14 (by omega) (by decide) (by decide) (by decide) (by decide) ?_
      refine z_aload_n ZC 0 dX7_told_92 rfl rfl ?_
      refine z_get ZC inUX7 0 rfl rfl 3 (by decide) uF_X7_35 rfl dX7_told_93 ?_
      refine z_get ZC inUX6 5 rfl rfl 5 (by decide) uF_X7_198 rfl dX7_told_96 ?_
      refine z_iload_n ZC 1 dX7_told_99 rfl rfl ?_
      refine z_iald ZC 7 rfl dX7_told_100 (by omega) ?_
      refine z_iret ZC ZE dX7_told_101 (by omega) (by omega) (Nat.le_of_ble_eq_true rfl) ⟨((U.1 6) cw), rfl, rfl, by omega, by omega, ?_⟩
      · skip
        left; exact ⟨by omega, rfl, trivial⟩
    · skip
      refine z_tabIn ZC (off := 88) 102 dX7_told_14 (by omega) (by decide) (by decide) (by decide) (by decide) ?_
      have hu := hur cw (by omega) (by omega)
      refine z_aload_n ZC 0 dX7_told_102 rfl rfl ?_
      refine z_get ZC inUX7 0 rfl rfl 3 (by decide) uF_X7_35 rfl dX7_told_103 ?_
      refine z_iload_n ZC 1 dX7_told_106 rfl rfl ?_
      refine z_callV ZC 1 (c_X6_lastHourOf zl D K (x 3) (upf (upf (upf xu 0 (x 0)) 1 (x 1)) 2 (x 2)) U ac Cr cw (by omega) (by omega) (by omega)) (gdV uM_X7_201 uI_X6_lastHourOf uS_X6_lastHourOf uN_X6 uC_X6_lastHourOf) (by decide +kernel) rfl ⟨by omega, by omega⟩ ⟨by omega, by omega⟩ (Nat.le_of_ble_eq_true rfl) [5, 6, 7, 8, 9, 10, 11, 12, 1, 2, 3, 4] rfl (by decide) rfl rfl rfl rfl dX7_told_107 (fun r w2 gc_107 gs_107 hp => ?_)
      obtain ⟨v_107, rfl, rfl, rfl, rfl, hv_107⟩ := hp
      refine z_ws (ws2 := [(h, .inr (7, [.ref (x 0), .ref (x 1), .ref (x 2), .ref (x 3), .ref (x 4), .ref (x 5)])), ((x 2), .inr (0, [.ref (ac 0), .ref (ac 1), .ref (ac 2), vZ (Cr.2 3), vZ (Cr.2 4)])), ((ac 0), .inl (K.1, 8, .inl (ar (Cr.1 0)))), ((ac 1), .inl (K.1, 8, .inl (ar (Cr.1 1)))), ((ac 2), .inl (K.1, 8, .inl (ar (Cr.1 2)))), ((x 3), .inr (6, [.ref (x 0), .ref (x 1), .ref (x 2), .ref (xu 3), .ref (xu 5), .ref (xu 6), .ref (xu 7), .ref (xu 8), .ref (xu 9), .ref (xu 10), .ref (xu 11), vZ (U.2 12), vZ (U.2 13), vZ (U.2 14), vZ (U.2 15)])), ((xu 5), .inl (K.1, 8, .inl (ar (U.1 5)))), ((xu 6), .inl (K.1, 8, .inl (ar (U.1 6)))), ((xu 7), .inl (K.1, 8, .inl (ar (U.1 7)))), ((xu 8), .inl (K.1, 10, .inl (ar (U.1 8)))), ((xu 9), .inl (K.1, 10, .inl (ar (U.1 9)))), ((xu 10), .inl (K.1, 10, .inl (ar (U.1 10)))), ((xu 11), .inl (K.1, 16, .inl (ar (U.1 11))))]) rfl ?_
      refine z_st (st2 := [vZ v_107]) rfl ?_
      refine z_iret ZC ZE dX7_told_110 (by omega) (by omega) (Nat.le_of_ble_eq_true rfl) ⟨v_107, rfl, rfl, by omega, by omega, ?_⟩
      · skip
        left; exact ⟨by omega, hv_107, trivial⟩
    · skip
      refine z_tabOut ZC 111 dX7_told_14 (by omega) (by omega) (by decide) ?_
      refine z_iconst ZC dX7_told_111 ?_
      refine z_iret ZC ZE dX7_told_112 (by omega) (by omega) (Nat.le_of_ble_eq_true rfl) ⟨(-1), rfl, rfl, by omega, by omega, ?_⟩
      · skip
        left; refine ⟨by omega, ?_, trivial⟩
        unfold toldU
        rw [if_neg (by omega), if_neg (by omega), if_neg (by omega), if_neg (by omega), if_neg (by omega), if_neg (by omega)]
  · skip
    refine z_iconst ZC dX7_told_11 ?_
    refine z_iret ZC ZE dX7_told_12 (by omega) (by omega) (Nat.le_of_ble_eq_true rfl) ⟨(-1), rfl, rfl, by omega, by omega, ?_⟩
    · skip
      right; exact ⟨by omega, rfl, trivial⟩

set_option maxHeartbeats 4000000 in
set_option maxRecDepth 100000 in
theorem c_X7_at (zl : Launch) (D : va_G) (K : tyK) (h : Nat) (x : Nat → Nat) (ato : Nat → Nat) (To : Bd) (xu : Nat → Nat) (U : Bd) (t : Int) (what : Int) (hz_t : -2147483648 ≤ t ∧ t < 2147483648) (hz_what : -2147483648 ≤ what ∧ what < 2147483648) (hto : 0 ≤ To.2 3 ∧ To.2 3 ≤ 10) : Mz zl yX7_at cX7_at 3 (some .int) 1 21 0 0 D K [.ref h, vZ t, vZ what] ((wSh h x) ++ (wTo K (x 0) ato To) ++ (wTr K (x 3) (upf (upf (upf xu 0 (x 0)) 1 (x 1)) 2 (x 2)) U)) (fun r_ w2_ gc gs => ∃ (v : Int), r_ = some (vZ v) ∧ w2_ = ((wSh h x) ++ (wTo K (x 0) ato To) ++ (wTr K (x 3) (upf (upf (upf xu 0 (x 0)) 1 (x 1)) 2 (x 2)) U)) ∧ gc = 0 ∧ gs = 0 ∧ (((0 ≤ t ∧ t < To.2 3) ∧ v = atU U t what ∧ True) ∨ (¬ (0 ≤ t ∧ t < To.2 3) ∧ v = -1 ∧ True))) := by
  refine Mz.ofZ (by decide) rfl (Nat.le_of_ble_eq_true rfl) ?_
  intro zp ze zR zs zm zargs zbelow zmeth zc zA zQ ZC ZE hRf hRc hRs hRl
  refine z_aload_n ZC 0 dX7_at_0 rfl rfl ?_
  refine z_get ZC inUX7 0 rfl rfl 0 (by decide) uF_X7_12 rfl dX7_at_1 ?_
  refine z_iload_n ZC 1 dX7_at_4 rfl rfl ?_
  refine z_callV ZC 1 (c_X5_has zl D K (x 0) ato To t (by omega) (by omega)) (gdV uM_X7_77 uI_X5_has uS_X5_has uN_X5 uC_X5_has) (by decide +kernel) rfl ⟨by omega, by omega⟩ ⟨by omega, by omega⟩ (Nat.le_of_ble_eq_true rfl) [1, 2, 3] rfl (by decide) rfl rfl rfl rfl dX7_at_5 (fun r w2 gc_5 gs_5 hp => ?_)
  obtain ⟨b_5, rfl, rfl, rfl, rfl, hb_5⟩ := hp
  refine z_ws (ws2 := [(h, .inr (7, [.ref (x 0), .ref (x 1), .ref (x 2), .ref (x 3), .ref (x 4), .ref (x 5)])), ((x 0), .inr (5, [.ref (ato 0), .ref (ato 1), vZ (To.2 2), vZ (To.2 3)])), ((ato 0), .inl (K.1, 10, .inl (ar (To.1 0)))), ((ato 1), .inl (K.1, 10, .inl (ar (To.1 1)))), ((x 3), .inr (6, [.ref (x 0), .ref (x 1), .ref (x 2), .ref (xu 3), .ref (xu 5), .ref (xu 6), .ref (xu 7), .ref (xu 8), .ref (xu 9), .ref (xu 10), .ref (xu 11), vZ (U.2 12), vZ (U.2 13), vZ (U.2 14), vZ (U.2 15)])), ((xu 5), .inl (K.1, 8, .inl (ar (U.1 5)))), ((xu 6), .inl (K.1, 8, .inl (ar (U.1 6)))), ((xu 7), .inl (K.1, 8, .inl (ar (U.1 7)))), ((xu 8), .inl (K.1, 10, .inl (ar (U.1 8)))), ((xu 9), .inl (K.1, 10, .inl (ar (U.1 9)))), ((xu 10), .inl (K.1, 10, .inl (ar (U.1 10)))), ((xu 11), .inl (K.1, 16, .inl (ar (U.1 11))))]) rfl ?_
  refine z_st (st2 := [vZ b_5]) rfl ?_
  refine z_if_ne ZC 13 dX7_at_8 (by decide) (by omega) (fun c_8 => ?_) (fun c_8 => ?_)
  · skip
    refine z_iload_n ZC 2 dX7_at_13 rfl rfl ?_
    rcases (show what = 0 ∨ what = 1 ∨ what = 2 ∨ (what < 0 ∨ 2 < what) by omega) with rfl | rfl | rfl | hsw_14
    · skip
      refine z_tabIn ZC (off := 26) 40 dX7_at_14 (by omega) (by decide) (by decide) (by decide) (by decide) ?_
      refine z_aload_n ZC 0 dX7_at_40 rfl rfl ?_
      refine z_get ZC inUX7 0 rfl rfl 3 (by decide) uF_X7_35 rfl dX7_at_41 ?_
      refine z_get ZC inUX6 4 rfl rfl 8 (by decide) uF_X7_67 rfl dX7_at_44 ?_
      refine z_iload_n ZC 1 dX7_at_47 rfl rfl ?_
      refine z_iald ZC 9 rfl dX7_at_48 (by omega) ?_
      refine z_iret ZC ZE dX7_at_49 (by omega) (by omega) (Nat.le_of_ble_eq_true rfl) ⟨((U.1 9) t), rfl, rfl, by omega, by omega, ?_⟩
      · skip
        left; exact ⟨by omega, rfl, trivial⟩
    · skip
      refine z_tabIn ZC (off := 36) 50 dX7_at_14 (by omega) (by decide) (by decide) (by decide) (by decide) ?_
      refine z_aload_n ZC 0 dX7_at_50 rfl rfl ?_
      refine z_get ZC inUX7 0 rfl rfl 3 (by decide) uF_X7_35 rfl dX7_at_51 ?_
      refine z_get ZC inUX6 4 rfl rfl 7 (by decide) uF_X7_107 rfl dX7_at_54 ?_
      refine z_iload_n ZC 1 dX7_at_57 rfl rfl ?_
      refine z_iald ZC 8 rfl dX7_at_58 (by omega) ?_
      refine z_iret ZC ZE dX7_at_59 (by omega) (by omega) (Nat.le_of_ble_eq_true rfl) ⟨((U.1 8) t), rfl, rfl, by omega, by omega, ?_⟩
      · skip
        left; exact ⟨by omega, rfl, trivial⟩
    · skip
      refine z_tabIn ZC (off := 46) 60 dX7_at_14 (by omega) (by decide) (by decide) (by decide) (by decide) ?_
      refine z_aload_n ZC 0 dX7_at_60 rfl rfl ?_
      refine z_get ZC inUX7 0 rfl rfl 3 (by decide) uF_X7_35 rfl dX7_at_61 ?_
      refine z_get ZC inUX6 4 rfl rfl 9 (by decide) uF_X7_204 rfl dX7_at_64 ?_
      refine z_iload_n ZC 1 dX7_at_67 rfl rfl ?_
      refine z_iald ZC 10 rfl dX7_at_68 (by omega) ?_
      refine z_iret ZC ZE dX7_at_69 (by omega) (by omega) (Nat.le_of_ble_eq_true rfl) ⟨((U.1 10) t), rfl, rfl, by omega, by omega, ?_⟩
      · skip
        left; exact ⟨by omega, rfl, trivial⟩
    · skip
      refine z_tabOut ZC 70 dX7_at_14 (by omega) (by omega) (by decide) ?_
      refine z_iconst ZC dX7_at_70 ?_
      refine z_iret ZC ZE dX7_at_71 (by omega) (by omega) (Nat.le_of_ble_eq_true rfl) ⟨(-1), rfl, rfl, by omega, by omega, ?_⟩
      · skip
        left; refine ⟨by omega, ?_, trivial⟩
        unfold atU
        rw [if_neg (by omega), if_neg (by omega), if_neg (by omega)]
  · skip
    refine z_iconst ZC dX7_at_11 ?_
    refine z_iret ZC ZE dX7_at_12 (by omega) (by omega) (Nat.le_of_ble_eq_true rfl) ⟨(-1), rfl, rfl, by omega, by omega, ?_⟩
    · skip
      right; exact ⟨by omega, rfl, trivial⟩

set_option maxHeartbeats 4000000 in
set_option maxRecDepth 100000 in
theorem c_X7_count (zl : Launch) (D : va_G) (K : tyK) (h : Nat) (x : Nat → Nat) (ato : Nat → Nat) (To : Bd) (an : Nat → Nat) (Ne : Bd) (ac : Nat → Nat) (Cr : Bd) (xu : Nat → Nat) (U : Bd) (aqu : Nat → Nat) (Nqu : Nat) (Squ : Bd) (what : Int) (hz_what : -2147483648 ≤ what ∧ what < 2147483648) (hne : 0 ≤ Ne.2 8 ∧ Ne.2 8 ≤ 16) : Mz zl yX7_count cX7_count 2 (some .int) 3 63 0 0 D K [.ref h, vZ what] ((wSh h x) ++ (wTo K (x 0) ato To) ++ (wNe K (x 1) an Ne) ++ (wCr K (x 2) ac Cr) ++ (wTr K (x 3) (upf (upf (upf xu 0 (x 0)) 1 (x 1)) 2 (x 2)) U) ++ (wLn K (xu 3) aqu Nqu Squ)) (fun r_ w2_ gc gs => ∃ (v : Int), r_ = some (vZ v) ∧ w2_ = ((wSh h x) ++ (wTo K (x 0) ato To) ++ (wNe K (x 1) an Ne) ++ (wCr K (x 2) ac Cr) ++ (wTr K (x 3) (upf (upf (upf xu 0 (x 0)) 1 (x 1)) 2 (x 2)) U) ++ (wLn K (xu 3) aqu Nqu Squ)) ∧ gc = 0 ∧ gs = 0 ∧ (v = countU To Ne Cr U Squ what)) := by
  refine Mz.ofZ (by decide) rfl (Nat.le_of_ble_eq_true rfl) ?_
  intro zp ze zR zs zm zargs zbelow zmeth zc zA zQ ZC ZE hRf hRc hRs hRl
  refine z_iload_n ZC 1 dX7_count_0 rfl rfl ?_
  rcases (show what = 0 ∨ what = 1 ∨ what = 2 ∨ what = 3 ∨ what = 4 ∨ what = 5 ∨ what = 6 ∨ (what < 0 ∨ 6 < what) by omega) with rfl | rfl | rfl | rfl | rfl | rfl | rfl | hsw_1
  · skip
    refine z_tabIn ZC (off := 43) 44 dX7_count_1 (by omega) (by decide) (by decide) (by decide) (by decide) ?_
    refine z_aload_n ZC 0 dX7_count_44 rfl rfl ?_
    refine z_get ZC inUX7 0 rfl rfl 3 (by decide) uF_X7_35 rfl dX7_count_45 ?_
    refine z_get ZC inUX6 17 rfl rfl 11 (by decide) uF_X7_87 rfl dX7_count_48 ?_
    refine z_iret ZC ZE dX7_count_51 (by omega) (by omega) (Nat.le_of_ble_eq_true rfl) ⟨(U.2 12), rfl, rfl, by omega, by omega, ?_⟩
    · skip
      rfl
  · skip
    refine z_tabIn ZC (off := 51) 52 dX7_count_1 (by omega) (by decide) (by decide) (by decide) (by decide) ?_
    refine z_aload_n ZC 0 dX7_count_52 rfl rfl ?_
    refine z_get ZC inUX7 0 rfl rfl 0 (by decide) uF_X7_12 rfl dX7_count_53 ?_
    refine z_get ZC inUX5 1 rfl rfl 3 (by decide) uF_X7_59 rfl dX7_count_56 ?_
    refine z_iret ZC ZE dX7_count_59 (by omega) (by omega) (Nat.le_of_ble_eq_true rfl) ⟨(To.2 3), rfl, rfl, by omega, by omega, ?_⟩
    · skip
      rfl
  · skip
    refine z_tabIn ZC (off := 59) 60 dX7_count_1 (by omega) (by decide) (by decide) (by decide) (by decide) ?_
    refine z_aload_n ZC 0 dX7_count_60 rfl rfl ?_
    refine z_get ZC inUX7 0 rfl rfl 1 (by decide) uF_X7_19 rfl dX7_count_61 ?_
    refine z_get ZC inUX4 4 rfl rfl 8 (by decide) uF_X7_90 rfl dX7_count_64 ?_
    refine z_iret ZC ZE dX7_count_67 (by omega) (by omega) (Nat.le_of_ble_eq_true rfl) ⟨(Ne.2 8), rfl, rfl, by omega, by omega, ?_⟩
    · skip
      rfl
  · skip
    refine z_tabIn ZC (off := 67) 68 dX7_count_1 (by omega) (by decide) (by decide) (by decide) (by decide) ?_
    refine z_aload_n ZC 0 dX7_count_68 rfl rfl ?_
    refine z_get ZC inUX7 0 rfl rfl 2 (by decide) uF_X7_26 rfl dX7_count_69 ?_
    refine z_get ZC inUX0 13 rfl rfl 3 (by decide) uF_X7_103 rfl dX7_count_72 ?_
    refine z_iret ZC ZE dX7_count_75 (by omega) (by omega) (Nat.le_of_ble_eq_true rfl) ⟨(Cr.2 3), rfl, rfl, by omega, by omega, ?_⟩
    · skip
      rfl
  · skip
    refine z_tabIn ZC (off := 75) 76 dX7_count_1 (by omega) (by decide) (by decide) (by decide) (by decide) ?_
    refine z_aload_n ZC 0 dX7_count_76 rfl rfl ?_
    refine z_get ZC inUX7 0 rfl rfl 3 (by decide) uF_X7_35 rfl dX7_count_77 ?_
    refine z_get ZC inUX6 17 rfl rfl 12 (by decide) uF_X7_207 rfl dX7_count_80 ?_
    refine z_iret ZC ZE dX7_count_83 (by omega) (by omega) (Nat.le_of_ble_eq_true rfl) ⟨(U.2 13), rfl, rfl, by omega, by omega, ?_⟩
    · skip
      rfl
  · skip
    refine z_tabIn ZC (off := 83) 84 dX7_count_1 (by omega) (by decide) (by decide) (by decide) (by decide) ?_
    refine z_aload_n ZC 0 dX7_count_84 rfl rfl ?_
    refine z_get ZC inUX7 0 rfl rfl 3 (by decide) uF_X7_35 rfl dX7_count_85 ?_
    refine z_callV ZC 0 (c_X6_allQueued zl D K (x 3) (upf (upf (upf xu 0 (x 0)) 1 (x 1)) 2 (x 2)) U aqu Nqu Squ an Ne (by omega)) (gdV uM_X7_210 uI_X6_allQueued uS_X6_allQueued uN_X6 uC_X6_allQueued) (by decide +kernel) rfl ⟨by omega, by omega⟩ ⟨by omega, by omega⟩ (Nat.le_of_ble_eq_true rfl) [17, 18, 19, 20, 21, 22, 23, 24, 25, 26, 27, 28, 29, 30, 31, 32, 4, 5, 6, 7, 8, 9, 10, 11, 12] rfl (by decide) rfl rfl rfl rfl dX7_count_88 (fun r w2 gc_88 gs_88 hp => ?_)
    obtain ⟨v_88, rfl, rfl, rfl, rfl, hv_88⟩ := hp
    refine z_ws (ws2 := [(h, .inr (7, [.ref (x 0), .ref (x 1), .ref (x 2), .ref (x 3), .ref (x 4), .ref (x 5)])), ((x 0), .inr (5, [.ref (ato 0), .ref (ato 1), vZ (To.2 2), vZ (To.2 3)])), ((ato 0), .inl (K.1, 10, .inl (ar (To.1 0)))), ((ato 1), .inl (K.1, 10, .inl (ar (To.1 1)))), ((x 1), .inr (4, [.ref (an 0), .ref (an 1), .ref (an 2), .ref (an 3), .ref (an 4), .ref (an 5), .ref (an 6), .ref (an 7), vZ (Ne.2 8)])), ((an 0), .inl (K.1, 16, .inl (ar (Ne.1 0)))), ((an 1), .inl (K.1, 16, .inl (ar (Ne.1 1)))), ((an 2), .inl (K.1, 16, .inl (ar (Ne.1 2)))), ((an 3), .inl (K.1, 16, .inl (ar (Ne.1 3)))), ((an 4), .inl (K.1, 16, .inl (ar (Ne.1 4)))), ((an 5), .inl (K.1, 16, .inl (ar (Ne.1 5)))), ((an 6), .inl (K.1, 100, .inl (ar (Ne.1 6)))), ((an 7), .inl (K.1, 100, .inl (ar (Ne.1 7)))), ((x 2), .inr (0, [.ref (ac 0), .ref (ac 1), .ref (ac 2), vZ (Cr.2 3), vZ (Cr.2 4)])), ((ac 0), .inl (K.1, 8, .inl (ar (Cr.1 0)))), ((ac 1), .inl (K.1, 8, .inl (ar (Cr.1 1)))), ((ac 2), .inl (K.1, 8, .inl (ar (Cr.1 2)))), ((x 3), .inr (6, [.ref (x 0), .ref (x 1), .ref (x 2), .ref (xu 3), .ref (xu 5), .ref (xu 6), .ref (xu 7), .ref (xu 8), .ref (xu 9), .ref (xu 10), .ref (xu 11), vZ (U.2 12), vZ (U.2 13), vZ (U.2 14), vZ (U.2 15)])), ((xu 5), .inl (K.1, 8, .inl (ar (U.1 5)))), ((xu 6), .inl (K.1, 8, .inl (ar (U.1 6)))), ((xu 7), .inl (K.1, 8, .inl (ar (U.1 7)))), ((xu 8), .inl (K.1, 10, .inl (ar (U.1 8)))), ((xu 9), .inl (K.1, 10, .inl (ar (U.1 9)))), ((xu 10), .inl (K.1, 10, .inl (ar (U.1 10)))), ((xu 11), .inl (K.1, 16, .inl (ar (U.1 11)))), ((xu 3), .inr (2, [.ref (aqu 0), .ref (aqu 1), .ref (aqu 2), .ref (aqu 3), .ref (aqu 4), .ref (aqu 5), .ref (aqu 6), vZ (Squ.2 7), vZ (Squ.2 8)])), ((aqu 0), .inl (K.1, 32, .inl (ar (Squ.1 0)))), ((aqu 1), .inl (K.1, 32, .inl (ar (Squ.1 1)))), ((aqu 2), .inl (K.1, 32, .inl (ar (Squ.1 2)))), ((aqu 3), .inl (K.1, Nqu, .inl (ar (Squ.1 3)))), ((aqu 4), .inl (K.1, Nqu, .inl (ar (Squ.1 4)))), ((aqu 5), .inl (K.1, Nqu, .inl (ar (Squ.1 5)))), ((aqu 6), .inl (K.1, Nqu, .inl (ar (Squ.1 6))))]) rfl ?_
    refine z_st (st2 := [vZ v_88]) rfl ?_
    refine z_iret ZC ZE dX7_count_91 (by omega) (by omega) (Nat.le_of_ble_eq_true rfl) ⟨v_88, rfl, rfl, by omega, by omega, ?_⟩
    · skip
      rw [hv_88, show (Ne.2 8 - 0).toNat = (Ne.2 8).toNat by omega]
      rfl
  · skip
    refine z_tabIn ZC (off := 91) 92 dX7_count_1 (by omega) (by decide) (by decide) (by decide) (by decide) ?_
    refine z_aload_n ZC 0 dX7_count_92 rfl rfl ?_
    refine z_get ZC inUX7 0 rfl rfl 3 (by decide) uF_X7_35 rfl dX7_count_93 ?_
    refine z_get ZC inUX6 17 rfl rfl 14 (by decide) uF_X7_214 rfl dX7_count_96 ?_
    refine z_iret ZC ZE dX7_count_99 (by omega) (by omega) (Nat.le_of_ble_eq_true rfl) ⟨(U.2 15), rfl, rfl, by omega, by omega, ?_⟩
    · skip
      rfl
  · skip
    refine z_tabOut ZC 100 dX7_count_1 (by omega) (by omega) (by decide) ?_
    refine z_iconst ZC dX7_count_100 ?_
    refine z_iret ZC ZE dX7_count_101 (by omega) (by omega) (Nat.le_of_ble_eq_true rfl) ⟨(-1), rfl, rfl, by omega, by omega, ?_⟩
    · skip
      unfold countU
      rw [if_neg (by omega), if_neg (by omega), if_neg (by omega), if_neg (by omega), if_neg (by omega), if_neg (by omega), if_neg (by omega)]

set_option maxHeartbeats 4000000 in
set_option maxRecDepth 100000 in
theorem c_X7_counted (zl : Launch) (D : va_G) (K : tyK) (h : Nat) (x : Nat → Nat) (an : Nat → Nat) (Ne : Bd) (xu : Nat → Nat) (U : Bd) (f : Nat → Option Nat) (hl : Nat) (al : Nat → Nat) (Lo : Bd) (rd : Int) (ho : Int) (cs : Int) (hz_rd : -2147483648 ≤ rd ∧ rd < 2147483648) (hz_ho : -2147483648 ≤ ho ∧ ho < 2147483648) (hz_cs : -2147483648 ≤ cs ∧ cs < 2147483648) (hne : 0 ≤ Ne.2 8 ∧ Ne.2 8 ≤ 16) (hnw : 0 ≤ U.2 12 ∧ U.2 12 ≤ 200) (hrd : 0 ≤ rd ∧ rd < Ne.2 8) (hf : f rd.toNat = some hl) : Mz zl yX7_counted cX7_counted 5 (some .boolean) 2 42 0 0 D K [.ref h, vZ rd, vZ ho, vZ cs] ((wSh h x) ++ (wNe K (x 1) an Ne) ++ (wTr K (x 3) (upf (upf (upf xu 0 (x 0)) 1 (x 1)) 2 (x 2)) U) ++ (wLA K (x 4) f) ++ (wLo K hl al Lo)) (fun r_ w2_ gc gs => ∃ (Lo2 : Bd), ∃ (v : Int), r_ = some (vZ v) ∧ w2_ = ((wSh h x) ++ (wNe K (x 1) an Ne) ++ (wTr K (x 3) (upf (upf (upf xu 0 (x 0)) 1 (x 1)) 2 (x 2)) U) ++ (wLA K (x 4) f) ++ (wLo K hl al Lo2)) ∧ gc = 0 ∧ gs = 0 ∧ ((((0 ≤ ho ∧ ho < U.2 12 ∧ ho < 200) ∧ (-1 ≤ cs ∧ cs ≤ 5000)) ∧ v = 1 ∧ Lo2 = ((upf Lo.1 2 (upz (Lo.1 2) ho cs)), Lo.2)) ∨ (¬ ((0 ≤ ho ∧ ho < U.2 12 ∧ ho < 200) ∧ (-1 ≤ cs ∧ cs ≤ 5000)) ∧ v = 0 ∧ Lo2 = Lo))) := by
  refine Mz.ofZ (by decide) rfl (Nat.le_of_ble_eq_true rfl) ?_
  intro zp ze zR zs zm zargs zbelow zmeth zc zA zQ ZC ZE hRf hRc hRs hRl
  refine z_aload_n ZC 0 dX7_counted_0 rfl rfl ?_
  refine z_iload_n ZC 1 dX7_counted_1 rfl rfl ?_
  refine z_callV ZC 1 (c_X7_logOf zl D K h x an Ne f rd hl (hne) (hrd) (hf)) (gdV uM_X7_179 uI_X7_logOf uS_X7_logOf uN_X7 uC_X7_logOf) (by decide +kernel) rfl ⟨by omega, by omega⟩ ⟨by omega, by omega⟩ (Nat.le_of_ble_eq_true rfl) [0, 1, 2, 3, 4, 5, 6, 7, 8, 9, 18] rfl (by decide) rfl rfl rfl rfl dX7_counted_2 (fun r w2 gc_2 gs_2 hp => ?_)
  obtain ⟨rfl, rfl, rfl, rfl⟩ := hp
  refine z_ws (ws2 := [(h, .inr (7, [.ref (x 0), .ref (x 1), .ref (x 2), .ref (x 3), .ref (x 4), .ref (x 5)])), ((x 1), .inr (4, [.ref (an 0), .ref (an 1), .ref (an 2), .ref (an 3), .ref (an 4), .ref (an 5), .ref (an 6), .ref (an 7), vZ (Ne.2 8)])), ((an 0), .inl (K.1, 16, .inl (ar (Ne.1 0)))), ((an 1), .inl (K.1, 16, .inl (ar (Ne.1 1)))), ((an 2), .inl (K.1, 16, .inl (ar (Ne.1 2)))), ((an 3), .inl (K.1, 16, .inl (ar (Ne.1 3)))), ((an 4), .inl (K.1, 16, .inl (ar (Ne.1 4)))), ((an 5), .inl (K.1, 16, .inl (ar (Ne.1 5)))), ((an 6), .inl (K.1, 100, .inl (ar (Ne.1 6)))), ((an 7), .inl (K.1, 100, .inl (ar (Ne.1 7)))), ((x 3), .inr (6, [.ref (x 0), .ref (x 1), .ref (x 2), .ref (xu 3), .ref (xu 5), .ref (xu 6), .ref (xu 7), .ref (xu 8), .ref (xu 9), .ref (xu 10), .ref (xu 11), vZ (U.2 12), vZ (U.2 13), vZ (U.2 14), vZ (U.2 15)])), ((xu 5), .inl (K.1, 8, .inl (ar (U.1 5)))), ((xu 6), .inl (K.1, 8, .inl (ar (U.1 6)))), ((xu 7), .inl (K.1, 8, .inl (ar (U.1 7)))), ((xu 8), .inl (K.1, 10, .inl (ar (U.1 8)))), ((xu 9), .inl (K.1, 10, .inl (ar (U.1 9)))), ((xu 10), .inl (K.1, 10, .inl (ar (U.1 10)))), ((xu 11), .inl (K.1, 16, .inl (ar (U.1 11)))), ((x 4), .inl (K.2.2, 16, .inr (.inr (.inr (.inr f))))), (hl, .inr (3, [.ref (al 0), .ref (al 1), .ref (al 2)])), ((al 0), .inl (K.1, 200, .inl (ar (Lo.1 0)))), ((al 1), .inl (K.1, 200, .inl (ar (Lo.1 1)))), ((al 2), .inl (K.1, 200, .inl (ar (Lo.1 2))))]) rfl ?_
  refine z_st (st2 := [.ref hl]) rfl ?_
  refine z_astore ZC dX7_counted_5 (by decide) ?_
  refine z_aload ZC dX7_counted_7 rfl ?_
  refine z_ifnull ZC dX7_counted_9 ?_
  refine z_aload_n ZC 0 dX7_counted_12 rfl rfl ?_
  refine z_iload_n ZC 2 dX7_counted_13 rfl rfl ?_
  refine z_callV ZC 1 (c_X7_isOver zl D K h x xu U ho (by omega) (by omega)) (gdV uM_X7_183 uI_X7_isOver uS_X7_isOver uN_X7 uC_X7_isOver) (by decide +kernel) rfl ⟨by omega, by omega⟩ ⟨by omega, by omega⟩ (Nat.le_of_ble_eq_true rfl) [0, 10, 11, 12, 13, 14, 15, 16, 17] rfl (by decide) rfl rfl rfl rfl dX7_counted_14 (fun r w2 gc_14 gs_14 hp => ?_)
  obtain ⟨v_14, rfl, rfl, rfl, rfl, hb_14⟩ := hp
  refine z_ws (ws2 := [(h, .inr (7, [.ref (x 0), .ref (x 1), .ref (x 2), .ref (x 3), .ref (x 4), .ref (x 5)])), ((x 1), .inr (4, [.ref (an 0), .ref (an 1), .ref (an 2), .ref (an 3), .ref (an 4), .ref (an 5), .ref (an 6), .ref (an 7), vZ (Ne.2 8)])), ((an 0), .inl (K.1, 16, .inl (ar (Ne.1 0)))), ((an 1), .inl (K.1, 16, .inl (ar (Ne.1 1)))), ((an 2), .inl (K.1, 16, .inl (ar (Ne.1 2)))), ((an 3), .inl (K.1, 16, .inl (ar (Ne.1 3)))), ((an 4), .inl (K.1, 16, .inl (ar (Ne.1 4)))), ((an 5), .inl (K.1, 16, .inl (ar (Ne.1 5)))), ((an 6), .inl (K.1, 100, .inl (ar (Ne.1 6)))), ((an 7), .inl (K.1, 100, .inl (ar (Ne.1 7)))), ((x 3), .inr (6, [.ref (x 0), .ref (x 1), .ref (x 2), .ref (xu 3), .ref (xu 5), .ref (xu 6), .ref (xu 7), .ref (xu 8), .ref (xu 9), .ref (xu 10), .ref (xu 11), vZ (U.2 12), vZ (U.2 13), vZ (U.2 14), vZ (U.2 15)])), ((xu 5), .inl (K.1, 8, .inl (ar (U.1 5)))), ((xu 6), .inl (K.1, 8, .inl (ar (U.1 6)))), ((xu 7), .inl (K.1, 8, .inl (ar (U.1 7)))), ((xu 8), .inl (K.1, 10, .inl (ar (U.1 8)))), ((xu 9), .inl (K.1, 10, .inl (ar (U.1 9)))), ((xu 10), .inl (K.1, 10, .inl (ar (U.1 10)))), ((xu 11), .inl (K.1, 16, .inl (ar (U.1 11)))), ((x 4), .inl (K.2.2, 16, .inr (.inr (.inr (.inr f))))), (hl, .inr (3, [.ref (al 0), .ref (al 1), .ref (al 2)])), ((al 0), .inl (K.1, 200, .inl (ar (Lo.1 0)))), ((al 1), .inl (K.1, 200, .inl (ar (Lo.1 1)))), ((al 2), .inl (K.1, 200, .inl (ar (Lo.1 2))))]) rfl ?_
  refine z_st (st2 := [vZ v_14]) rfl ?_
  refine z_if_eq ZC 31 dX7_counted_17 (by decide) (by omega) (fun c_17 => ?_) (fun c_17 => ?_)
  · skip
    refine z_iconst ZC dX7_counted_31 ?_
    refine z_zret ZC ZE dX7_counted_32 (by omega) (by omega) (by omega) (Nat.le_of_ble_eq_true rfl) ⟨Lo, 0, rfl, rfl, by omega, by omega, ?_⟩
    · skip
      first | (left; exact ⟨by omega, rfl, rfl⟩) | (right; exact ⟨by omega, rfl, rfl⟩)
  · skip
    refine z_iload_n ZC 3 dX7_counted_20 rfl rfl ?_
    refine z_iconst ZC dX7_counted_21 ?_
    refine z_sipush ZC dX7_counted_22 (by decide) ?_
    refine z_callS ZC 3 (c_X7_within zl D K cs (-1) 5000 (by omega) (by omega) (by omega)) (gdS uM_X7_54 uZ_X7_within uN_X7 uC_X7_within) (by decide +kernel) rfl ⟨by omega, by omega⟩ ⟨by omega, by omega⟩ (Nat.le_of_ble_eq_true rfl) [] rfl (by decide) rfl dX7_counted_25 (fun r w2 gc_25 gs_25 hp => ?_)
    obtain ⟨b_25, rfl, rfl, rfl, rfl, hb_25⟩ := hp
    refine z_st (st2 := [vZ b_25]) rfl ?_
    refine z_if_ne ZC 33 dX7_counted_28 (by decide) (by omega) (fun c_28 => ?_) (fun c_28 => ?_)
    · skip
      refine z_aload ZC dX7_counted_33 rfl ?_
      refine z_get ZC inUX3 19 rfl rfl 2 (by decide) uF_X7_186 rfl dX7_counted_35 ?_
      refine z_iload_n ZC 2 dX7_counted_38 rfl rfl ?_
      refine z_iload_n ZC 3 dX7_counted_39 rfl rfl ?_
      refine z_iast ZC 22 rfl dX7_counted_40 (by omega) ?_
      refine z_iconst ZC dX7_counted_41 ?_
      refine z_zret ZC ZE dX7_counted_42 (by omega) (by omega) (by omega) (Nat.le_of_ble_eq_true rfl) ⟨((upf Lo.1 2 (upz (Lo.1 2) ho cs)), Lo.2), 1, rfl, rfl, by omega, by omega, ?_⟩
      · skip
        first | (left; exact ⟨by omega, rfl, rfl⟩) | (right; exact ⟨by omega, rfl, rfl⟩)
    · skip
      refine z_iconst ZC dX7_counted_31 ?_
      refine z_zret ZC ZE dX7_counted_32 (by omega) (by omega) (by omega) (Nat.le_of_ble_eq_true rfl) ⟨Lo, 0, rfl, rfl, by omega, by omega, ?_⟩
      · skip
        first | (left; exact ⟨by omega, rfl, rfl⟩) | (right; exact ⟨by omega, rfl, rfl⟩)

set_option maxHeartbeats 4000000 in
set_option maxRecDepth 100000 in
theorem c_X7_countedN (zl : Launch) (D : va_G) (K : tyK) (h : Nat) (x : Nat → Nat) (an : Nat → Nat) (Ne : Bd) (xu : Nat → Nat) (U : Bd) (f : Nat → Option Nat) (rd : Int) (ho : Int) (cs : Int) (hz_rd : -2147483648 ≤ rd ∧ rd < 2147483648) (hz_ho : -2147483648 ≤ ho ∧ ho < 2147483648) (hz_cs : -2147483648 ≤ cs ∧ cs < 2147483648) (hne : 0 ≤ Ne.2 8 ∧ Ne.2 8 ≤ 16) (hrd : ¬ (0 ≤ rd ∧ rd < Ne.2 8)) : Mz zl yX7_counted cX7_counted 5 (some .boolean) 2 42 0 0 D K [.ref h, vZ rd, vZ ho, vZ cs] ((wSh h x) ++ (wNe K (x 1) an Ne) ++ (wTr K (x 3) (upf (upf (upf xu 0 (x 0)) 1 (x 1)) 2 (x 2)) U) ++ (wLA K (x 4) f)) (fun r_ w2_ gc gs => r_ = some (vZ 0) ∧ w2_ = ((wSh h x) ++ (wNe K (x 1) an Ne) ++ (wTr K (x 3) (upf (upf (upf xu 0 (x 0)) 1 (x 1)) 2 (x 2)) U) ++ (wLA K (x 4) f)) ∧ gc = 0 ∧ gs = 0) := by
  refine Mz.ofZ (by decide) rfl (Nat.le_of_ble_eq_true rfl) ?_
  intro zp ze zR zs zm zargs zbelow zmeth zc zA zQ ZC ZE hRf hRc hRs hRl
  refine z_aload_n ZC 0 dX7_counted_0 rfl rfl ?_
  refine z_iload_n ZC 1 dX7_counted_1 rfl rfl ?_
  refine z_callV ZC 1 (c_X7_logOfN zl D K h x an Ne f rd (by omega) (by omega) (hrd)) (gdV uM_X7_179 uI_X7_logOf uS_X7_logOf uN_X7 uC_X7_logOf) (by decide +kernel) rfl ⟨by omega, by omega⟩ ⟨by omega, by omega⟩ (Nat.le_of_ble_eq_true rfl) [0, 1, 2, 3, 4, 5, 6, 7, 8, 9, 18] rfl (by decide) rfl rfl rfl rfl dX7_counted_2 (fun r w2 gc_2 gs_2 hp => ?_)
  obtain ⟨rfl, rfl, rfl, rfl⟩ := hp
  refine z_ws (ws2 := [(h, .inr (7, [.ref (x 0), .ref (x 1), .ref (x 2), .ref (x 3), .ref (x 4), .ref (x 5)])), ((x 1), .inr (4, [.ref (an 0), .ref (an 1), .ref (an 2), .ref (an 3), .ref (an 4), .ref (an 5), .ref (an 6), .ref (an 7), vZ (Ne.2 8)])), ((an 0), .inl (K.1, 16, .inl (ar (Ne.1 0)))), ((an 1), .inl (K.1, 16, .inl (ar (Ne.1 1)))), ((an 2), .inl (K.1, 16, .inl (ar (Ne.1 2)))), ((an 3), .inl (K.1, 16, .inl (ar (Ne.1 3)))), ((an 4), .inl (K.1, 16, .inl (ar (Ne.1 4)))), ((an 5), .inl (K.1, 16, .inl (ar (Ne.1 5)))), ((an 6), .inl (K.1, 100, .inl (ar (Ne.1 6)))), ((an 7), .inl (K.1, 100, .inl (ar (Ne.1 7)))), ((x 3), .inr (6, [.ref (x 0), .ref (x 1), .ref (x 2), .ref (xu 3), .ref (xu 5), .ref (xu 6), .ref (xu 7), .ref (xu 8), .ref (xu 9), .ref (xu 10), .ref (xu 11), vZ (U.2 12), vZ (U.2 13), vZ (U.2 14), vZ (U.2 15)])), ((xu 5), .inl (K.1, 8, .inl (ar (U.1 5)))), ((xu 6), .inl (K.1, 8, .inl (ar (U.1 6)))), ((xu 7), .inl (K.1, 8, .inl (ar (U.1 7)))), ((xu 8), .inl (K.1, 10, .inl (ar (U.1 8)))), ((xu 9), .inl (K.1, 10, .inl (ar (U.1 9)))), ((xu 10), .inl (K.1, 10, .inl (ar (U.1 10)))), ((xu 11), .inl (K.1, 16, .inl (ar (U.1 11)))), ((x 4), .inl (K.2.2, 16, .inr (.inr (.inr (.inr f)))))]) rfl ?_
  refine z_st (st2 := [.null]) rfl ?_
  refine z_astoreN ZC dX7_counted_5 (by decide) ?_
  refine z_aloadN ZC dX7_counted_7 rfl ?_
  refine z_ifnullN ZC 31 dX7_counted_9 (by decide) ?_
  refine z_iconst ZC dX7_counted_31 ?_
  exact z_zret ZC ZE dX7_counted_32 (by omega) (by omega) (by omega) (Nat.le_of_ble_eq_true rfl) ⟨rfl, rfl, by omega, by omega⟩

set_option maxHeartbeats 4000000 in
set_option maxRecDepth 100000 in
theorem c_X7_came (zl : Launch) (D : va_G) (K : tyK) (h : Nat) (x : Nat → Nat) (an : Nat → Nat) (Ne : Bd) (xu : Nat → Nat) (U : Bd) (f : Nat → Option Nat) (hl : Nat) (al : Nat → Nat) (Lo : Bd) (rd : Int) (fr : Int) (tt : Int) (what : Int) (hz_rd : -2147483648 ≤ rd ∧ rd < 2147483648) (hz_fr : -2147483648 ≤ fr ∧ fr < 2147483648) (hz_tt : -2147483648 ≤ tt ∧ tt < 2147483648) (hz_what : -2147483648 ≤ what ∧ what < 2147483648) (hne : 0 ≤ Ne.2 8 ∧ Ne.2 8 ≤ 16) (hnw : 0 ≤ U.2 12 ∧ U.2 12 ≤ 200) (hrd : 0 ≤ rd ∧ rd < Ne.2 8) (hf : f rd.toNat = some hl) (hcn : ∀ j : Int, 0 ≤ j → j < 200 → -1 ≤ Lo.1 2 j ∧ Lo.1 2 j ≤ 5000) : Mz zl yX7_came cX7_came 6 (some .int) 2 42 0 0 D K [.ref h, vZ rd, vZ fr, vZ tt, vZ what] ((wSh h x) ++ (wNe K (x 1) an Ne) ++ (wTr K (x 3) (upf (upf (upf xu 0 (x 0)) 1 (x 1)) 2 (x 2)) U) ++ (wLA K (x 4) f) ++ (wLo K hl al Lo)) (fun r_ w2_ gc gs => ∃ (v : Int), r_ = some (vZ v) ∧ w2_ = ((wSh h x) ++ (wNe K (x 1) an Ne) ++ (wTr K (x 3) (upf (upf (upf xu 0 (x 0)) 1 (x 1)) 2 (x 2)) U) ++ (wLA K (x 4) f) ++ (wLo K hl al Lo)) ∧ gc = 0 ∧ gs = 0 ∧ ((((0 ≤ fr ∧ fr < U.2 12 ∧ fr < 200) ∧ (0 ≤ tt ∧ tt < U.2 12 ∧ tt < 200) ∧ fr ≤ tt) ∧ what = 0 ∧ v = smI (fun j => if Lo.1 2 j = -1 then 0 else Lo.1 2 j) fr (tt + 1 - fr).toNat) ∨ (((0 ≤ fr ∧ fr < U.2 12 ∧ fr < 200) ∧ (0 ≤ tt ∧ tt < U.2 12 ∧ tt < 200) ∧ fr ≤ tt) ∧ what = 1 ∧ v = smI (fun j => if Lo.1 2 j = -1 then Lo.1 1 j else Lo.1 2 j) fr (tt + 1 - fr).toNat) ∨ (¬ (((0 ≤ fr ∧ fr < U.2 12 ∧ fr < 200) ∧ (0 ≤ tt ∧ tt < U.2 12 ∧ tt < 200) ∧ fr ≤ tt) ∧ (what = 0 ∨ what = 1)) ∧ v = -1))) := by
  refine Mz.ofZ (by decide) rfl (Nat.le_of_ble_eq_true rfl) ?_
  intro zp ze zR zs zm zargs zbelow zmeth zc zA zQ ZC ZE hRf hRc hRs hRl
  refine z_aload_n ZC 0 dX7_came_0 rfl rfl ?_
  refine z_iload_n ZC 1 dX7_came_1 rfl rfl ?_
  refine z_callV ZC 1 (c_X7_logOf zl D K h x an Ne f rd hl (hne) (hrd) (hf)) (gdV uM_X7_179 uI_X7_logOf uS_X7_logOf uN_X7 uC_X7_logOf) (by decide +kernel) rfl ⟨by omega, by omega⟩ ⟨by omega, by omega⟩ (Nat.le_of_ble_eq_true rfl) [0, 1, 2, 3, 4, 5, 6, 7, 8, 9, 18] rfl (by decide) rfl rfl rfl rfl dX7_came_2 (fun r w2 gc_2 gs_2 hp => ?_)
  obtain ⟨rfl, rfl, rfl, rfl⟩ := hp
  refine z_ws (ws2 := [(h, .inr (7, [.ref (x 0), .ref (x 1), .ref (x 2), .ref (x 3), .ref (x 4), .ref (x 5)])), ((x 1), .inr (4, [.ref (an 0), .ref (an 1), .ref (an 2), .ref (an 3), .ref (an 4), .ref (an 5), .ref (an 6), .ref (an 7), vZ (Ne.2 8)])), ((an 0), .inl (K.1, 16, .inl (ar (Ne.1 0)))), ((an 1), .inl (K.1, 16, .inl (ar (Ne.1 1)))), ((an 2), .inl (K.1, 16, .inl (ar (Ne.1 2)))), ((an 3), .inl (K.1, 16, .inl (ar (Ne.1 3)))), ((an 4), .inl (K.1, 16, .inl (ar (Ne.1 4)))), ((an 5), .inl (K.1, 16, .inl (ar (Ne.1 5)))), ((an 6), .inl (K.1, 100, .inl (ar (Ne.1 6)))), ((an 7), .inl (K.1, 100, .inl (ar (Ne.1 7)))), ((x 3), .inr (6, [.ref (x 0), .ref (x 1), .ref (x 2), .ref (xu 3), .ref (xu 5), .ref (xu 6), .ref (xu 7), .ref (xu 8), .ref (xu 9), .ref (xu 10), .ref (xu 11), vZ (U.2 12), vZ (U.2 13), vZ (U.2 14), vZ (U.2 15)])), ((xu 5), .inl (K.1, 8, .inl (ar (U.1 5)))), ((xu 6), .inl (K.1, 8, .inl (ar (U.1 6)))), ((xu 7), .inl (K.1, 8, .inl (ar (U.1 7)))), ((xu 8), .inl (K.1, 10, .inl (ar (U.1 8)))), ((xu 9), .inl (K.1, 10, .inl (ar (U.1 9)))), ((xu 10), .inl (K.1, 10, .inl (ar (U.1 10)))), ((xu 11), .inl (K.1, 16, .inl (ar (U.1 11)))), ((x 4), .inl (K.2.2, 16, .inr (.inr (.inr (.inr f))))), (hl, .inr (3, [.ref (al 0), .ref (al 1), .ref (al 2)])), ((al 0), .inl (K.1, 200, .inl (ar (Lo.1 0)))), ((al 1), .inl (K.1, 200, .inl (ar (Lo.1 1)))), ((al 2), .inl (K.1, 200, .inl (ar (Lo.1 2))))]) rfl ?_
  refine z_st (st2 := [.ref hl]) rfl ?_
  refine z_astore ZC dX7_came_5 (by decide) ?_
  refine z_aload ZC dX7_came_7 rfl ?_
  refine z_ifnull ZC dX7_came_9 ?_
  refine z_aload_n ZC 0 dX7_came_12 rfl rfl ?_
  refine z_iload_n ZC 2 dX7_came_13 rfl rfl ?_
  refine z_callV ZC 1 (c_X7_isOver zl D K h x xu U fr (by omega) (by omega)) (gdV uM_X7_183 uI_X7_isOver uS_X7_isOver uN_X7 uC_X7_isOver) (by decide +kernel) rfl ⟨by omega, by omega⟩ ⟨by omega, by omega⟩ (Nat.le_of_ble_eq_true rfl) [0, 10, 11, 12, 13, 14, 15, 16, 17] rfl (by decide) rfl rfl rfl rfl dX7_came_14 (fun r w2 gc_14 gs_14 hp => ?_)
  obtain ⟨v_14, rfl, rfl, rfl, rfl, hb_14⟩ := hp
  refine z_ws (ws2 := [(h, .inr (7, [.ref (x 0), .ref (x 1), .ref (x 2), .ref (x 3), .ref (x 4), .ref (x 5)])), ((x 1), .inr (4, [.ref (an 0), .ref (an 1), .ref (an 2), .ref (an 3), .ref (an 4), .ref (an 5), .ref (an 6), .ref (an 7), vZ (Ne.2 8)])), ((an 0), .inl (K.1, 16, .inl (ar (Ne.1 0)))), ((an 1), .inl (K.1, 16, .inl (ar (Ne.1 1)))), ((an 2), .inl (K.1, 16, .inl (ar (Ne.1 2)))), ((an 3), .inl (K.1, 16, .inl (ar (Ne.1 3)))), ((an 4), .inl (K.1, 16, .inl (ar (Ne.1 4)))), ((an 5), .inl (K.1, 16, .inl (ar (Ne.1 5)))), ((an 6), .inl (K.1, 100, .inl (ar (Ne.1 6)))), ((an 7), .inl (K.1, 100, .inl (ar (Ne.1 7)))), ((x 3), .inr (6, [.ref (x 0), .ref (x 1), .ref (x 2), .ref (xu 3), .ref (xu 5), .ref (xu 6), .ref (xu 7), .ref (xu 8), .ref (xu 9), .ref (xu 10), .ref (xu 11), vZ (U.2 12), vZ (U.2 13), vZ (U.2 14), vZ (U.2 15)])), ((xu 5), .inl (K.1, 8, .inl (ar (U.1 5)))), ((xu 6), .inl (K.1, 8, .inl (ar (U.1 6)))), ((xu 7), .inl (K.1, 8, .inl (ar (U.1 7)))), ((xu 8), .inl (K.1, 10, .inl (ar (U.1 8)))), ((xu 9), .inl (K.1, 10, .inl (ar (U.1 9)))), ((xu 10), .inl (K.1, 10, .inl (ar (U.1 10)))), ((xu 11), .inl (K.1, 16, .inl (ar (U.1 11)))), ((x 4), .inl (K.2.2, 16, .inr (.inr (.inr (.inr f))))), (hl, .inr (3, [.ref (al 0), .ref (al 1), .ref (al 2)])), ((al 0), .inl (K.1, 200, .inl (ar (Lo.1 0)))), ((al 1), .inl (K.1, 200, .inl (ar (Lo.1 1)))), ((al 2), .inl (K.1, 200, .inl (ar (Lo.1 2))))]) rfl ?_
  refine z_st (st2 := [vZ v_14]) rfl ?_
  refine z_if_eq ZC 33 dX7_came_17 (by decide) (by omega) (fun c_17 => ?_) (fun c_17 => ?_)
  · skip
    refine z_iconst ZC dX7_came_33 ?_
    refine z_iret ZC ZE dX7_came_34 (by omega) (by omega) (Nat.le_of_ble_eq_true rfl) ⟨(-1), rfl, rfl, by omega, by omega, ?_⟩
    · skip
      exact Or.inr (Or.inr ⟨by omega, rfl⟩)
  · skip
    refine z_aload_n ZC 0 dX7_came_20 rfl rfl ?_
    refine z_iload_n ZC 3 dX7_came_21 rfl rfl ?_
    refine z_callV ZC 1 (c_X7_isOver zl D K h x xu U tt (by omega) (by omega)) (gdV uM_X7_183 uI_X7_isOver uS_X7_isOver uN_X7 uC_X7_isOver) (by decide +kernel) rfl ⟨by omega, by omega⟩ ⟨by omega, by omega⟩ (Nat.le_of_ble_eq_true rfl) [0, 10, 11, 12, 13, 14, 15, 16, 17] rfl (by decide) rfl rfl rfl rfl dX7_came_22 (fun r w2 gc_22 gs_22 hp => ?_)
    obtain ⟨v_22, rfl, rfl, rfl, rfl, hb_22⟩ := hp
    refine z_ws (ws2 := [(h, .inr (7, [.ref (x 0), .ref (x 1), .ref (x 2), .ref (x 3), .ref (x 4), .ref (x 5)])), ((x 1), .inr (4, [.ref (an 0), .ref (an 1), .ref (an 2), .ref (an 3), .ref (an 4), .ref (an 5), .ref (an 6), .ref (an 7), vZ (Ne.2 8)])), ((an 0), .inl (K.1, 16, .inl (ar (Ne.1 0)))), ((an 1), .inl (K.1, 16, .inl (ar (Ne.1 1)))), ((an 2), .inl (K.1, 16, .inl (ar (Ne.1 2)))), ((an 3), .inl (K.1, 16, .inl (ar (Ne.1 3)))), ((an 4), .inl (K.1, 16, .inl (ar (Ne.1 4)))), ((an 5), .inl (K.1, 16, .inl (ar (Ne.1 5)))), ((an 6), .inl (K.1, 100, .inl (ar (Ne.1 6)))), ((an 7), .inl (K.1, 100, .inl (ar (Ne.1 7)))), ((x 3), .inr (6, [.ref (x 0), .ref (x 1), .ref (x 2), .ref (xu 3), .ref (xu 5), .ref (xu 6), .ref (xu 7), .ref (xu 8), .ref (xu 9), .ref (xu 10), .ref (xu 11), vZ (U.2 12), vZ (U.2 13), vZ (U.2 14), vZ (U.2 15)])), ((xu 5), .inl (K.1, 8, .inl (ar (U.1 5)))), ((xu 6), .inl (K.1, 8, .inl (ar (U.1 6)))), ((xu 7), .inl (K.1, 8, .inl (ar (U.1 7)))), ((xu 8), .inl (K.1, 10, .inl (ar (U.1 8)))), ((xu 9), .inl (K.1, 10, .inl (ar (U.1 9)))), ((xu 10), .inl (K.1, 10, .inl (ar (U.1 10)))), ((xu 11), .inl (K.1, 16, .inl (ar (U.1 11)))), ((x 4), .inl (K.2.2, 16, .inr (.inr (.inr (.inr f))))), (hl, .inr (3, [.ref (al 0), .ref (al 1), .ref (al 2)])), ((al 0), .inl (K.1, 200, .inl (ar (Lo.1 0)))), ((al 1), .inl (K.1, 200, .inl (ar (Lo.1 1)))), ((al 2), .inl (K.1, 200, .inl (ar (Lo.1 2))))]) rfl ?_
    refine z_st (st2 := [vZ v_22]) rfl ?_
    refine z_if_eq ZC 33 dX7_came_25 (by decide) (by omega) (fun c_25 => ?_) (fun c_25 => ?_)
    · skip
      refine z_iconst ZC dX7_came_33 ?_
      refine z_iret ZC ZE dX7_came_34 (by omega) (by omega) (Nat.le_of_ble_eq_true rfl) ⟨(-1), rfl, rfl, by omega, by omega, ?_⟩
      · skip
        exact Or.inr (Or.inr ⟨by omega, rfl⟩)
    · skip
      refine z_iload_n ZC 2 dX7_came_28 rfl rfl ?_
      refine z_iload_n ZC 3 dX7_came_29 rfl rfl ?_
      refine z_icmp_le ZC 35 dX7_came_30 (by decide) (by omega) (by omega) (fun c_30 => ?_) (fun c_30 => ?_)
      · skip
        refine z_iload ZC dX7_came_35 rfl ?_
        rcases (show what = 0 ∨ what = 1 ∨ (what ≠ 0 ∧ what ≠ 1) by omega) with rfl | rfl | hsw_37
        · skip
          refine z_look ZC (off := 27) 64 dX7_came_37 (by omega) (by decide) (by decide) (by decide) ?_
          refine z_aload ZC dX7_came_64 rfl ?_
          refine z_iload_n ZC 2 dX7_came_66 rfl rfl ?_
          refine z_iload_n ZC 3 dX7_came_67 rfl rfl ?_
          refine z_callV ZC 2 (c_X3_atLeast zl D K hl al Lo fr tt (by omega) (hcn)) (gdV uM_X7_189 uI_X3_atLeast uS_X3_atLeast uN_X3 uC_X3_atLeast) (by decide +kernel) rfl ⟨by omega, by omega⟩ ⟨by omega, by omega⟩ (Nat.le_of_ble_eq_true rfl) [19, 20, 21, 22] rfl (by decide) rfl rfl rfl rfl dX7_came_68 (fun r w2 gc_68 gs_68 hp => ?_)
          obtain ⟨v_68, rfl, rfl, rfl, rfl, hv_68⟩ := hp
          refine z_ws (ws2 := [(h, .inr (7, [.ref (x 0), .ref (x 1), .ref (x 2), .ref (x 3), .ref (x 4), .ref (x 5)])), ((x 1), .inr (4, [.ref (an 0), .ref (an 1), .ref (an 2), .ref (an 3), .ref (an 4), .ref (an 5), .ref (an 6), .ref (an 7), vZ (Ne.2 8)])), ((an 0), .inl (K.1, 16, .inl (ar (Ne.1 0)))), ((an 1), .inl (K.1, 16, .inl (ar (Ne.1 1)))), ((an 2), .inl (K.1, 16, .inl (ar (Ne.1 2)))), ((an 3), .inl (K.1, 16, .inl (ar (Ne.1 3)))), ((an 4), .inl (K.1, 16, .inl (ar (Ne.1 4)))), ((an 5), .inl (K.1, 16, .inl (ar (Ne.1 5)))), ((an 6), .inl (K.1, 100, .inl (ar (Ne.1 6)))), ((an 7), .inl (K.1, 100, .inl (ar (Ne.1 7)))), ((x 3), .inr (6, [.ref (x 0), .ref (x 1), .ref (x 2), .ref (xu 3), .ref (xu 5), .ref (xu 6), .ref (xu 7), .ref (xu 8), .ref (xu 9), .ref (xu 10), .ref (xu 11), vZ (U.2 12), vZ (U.2 13), vZ (U.2 14), vZ (U.2 15)])), ((xu 5), .inl (K.1, 8, .inl (ar (U.1 5)))), ((xu 6), .inl (K.1, 8, .inl (ar (U.1 6)))), ((xu 7), .inl (K.1, 8, .inl (ar (U.1 7)))), ((xu 8), .inl (K.1, 10, .inl (ar (U.1 8)))), ((xu 9), .inl (K.1, 10, .inl (ar (U.1 9)))), ((xu 10), .inl (K.1, 10, .inl (ar (U.1 10)))), ((xu 11), .inl (K.1, 16, .inl (ar (U.1 11)))), ((x 4), .inl (K.2.2, 16, .inr (.inr (.inr (.inr f))))), (hl, .inr (3, [.ref (al 0), .ref (al 1), .ref (al 2)])), ((al 0), .inl (K.1, 200, .inl (ar (Lo.1 0)))), ((al 1), .inl (K.1, 200, .inl (ar (Lo.1 1)))), ((al 2), .inl (K.1, 200, .inl (ar (Lo.1 2))))]) rfl ?_
          refine z_st (st2 := [vZ v_68]) rfl ?_
          refine z_iret ZC ZE dX7_came_71 (by omega) (by omega) (Nat.le_of_ble_eq_true rfl) ⟨v_68, rfl, rfl, by omega, by omega, ?_⟩
          · skip
            exact Or.inl ⟨by omega, rfl, hv_68⟩
        · skip
          refine z_look ZC (off := 35) 72 dX7_came_37 (by omega) (by decide) (by decide) (by decide) ?_
          refine z_aload ZC dX7_came_72 rfl ?_
          refine z_iload_n ZC 2 dX7_came_74 rfl rfl ?_
          refine z_iload_n ZC 3 dX7_came_75 rfl rfl ?_
          refine z_callV ZC 2 (c_X3_atMost zl D K hl al Lo fr tt (by omega) (hcn)) (gdV uM_X7_192 uI_X3_atMost uS_X3_atMost uN_X3 uC_X3_atMost) (by decide +kernel) rfl ⟨by omega, by omega⟩ ⟨by omega, by omega⟩ (Nat.le_of_ble_eq_true rfl) [19, 20, 21, 22] rfl (by decide) rfl rfl rfl rfl dX7_came_76 (fun r w2 gc_76 gs_76 hp => ?_)
          obtain ⟨v_76, rfl, rfl, rfl, rfl, hv_76⟩ := hp
          refine z_ws (ws2 := [(h, .inr (7, [.ref (x 0), .ref (x 1), .ref (x 2), .ref (x 3), .ref (x 4), .ref (x 5)])), ((x 1), .inr (4, [.ref (an 0), .ref (an 1), .ref (an 2), .ref (an 3), .ref (an 4), .ref (an 5), .ref (an 6), .ref (an 7), vZ (Ne.2 8)])), ((an 0), .inl (K.1, 16, .inl (ar (Ne.1 0)))), ((an 1), .inl (K.1, 16, .inl (ar (Ne.1 1)))), ((an 2), .inl (K.1, 16, .inl (ar (Ne.1 2)))), ((an 3), .inl (K.1, 16, .inl (ar (Ne.1 3)))), ((an 4), .inl (K.1, 16, .inl (ar (Ne.1 4)))), ((an 5), .inl (K.1, 16, .inl (ar (Ne.1 5)))), ((an 6), .inl (K.1, 100, .inl (ar (Ne.1 6)))), ((an 7), .inl (K.1, 100, .inl (ar (Ne.1 7)))), ((x 3), .inr (6, [.ref (x 0), .ref (x 1), .ref (x 2), .ref (xu 3), .ref (xu 5), .ref (xu 6), .ref (xu 7), .ref (xu 8), .ref (xu 9), .ref (xu 10), .ref (xu 11), vZ (U.2 12), vZ (U.2 13), vZ (U.2 14), vZ (U.2 15)])), ((xu 5), .inl (K.1, 8, .inl (ar (U.1 5)))), ((xu 6), .inl (K.1, 8, .inl (ar (U.1 6)))), ((xu 7), .inl (K.1, 8, .inl (ar (U.1 7)))), ((xu 8), .inl (K.1, 10, .inl (ar (U.1 8)))), ((xu 9), .inl (K.1, 10, .inl (ar (U.1 9)))), ((xu 10), .inl (K.1, 10, .inl (ar (U.1 10)))), ((xu 11), .inl (K.1, 16, .inl (ar (U.1 11)))), ((x 4), .inl (K.2.2, 16, .inr (.inr (.inr (.inr f))))), (hl, .inr (3, [.ref (al 0), .ref (al 1), .ref (al 2)])), ((al 0), .inl (K.1, 200, .inl (ar (Lo.1 0)))), ((al 1), .inl (K.1, 200, .inl (ar (Lo.1 1)))), ((al 2), .inl (K.1, 200, .inl (ar (Lo.1 2))))]) rfl ?_
          refine z_st (st2 := [vZ v_76]) rfl ?_
          refine z_iret ZC ZE dX7_came_79 (by omega) (by omega) (Nat.le_of_ble_eq_true rfl) ⟨v_76, rfl, rfl, by omega, by omega, ?_⟩
          · skip
            exact Or.inr (Or.inl ⟨by omega, rfl, hv_76⟩)
        · skip
          refine z_look ZC (off := 43) 80 dX7_came_37 (by omega) (by decide) (by show Op.lookupswitch.offset [(0, 27), (1, 35)] 43 what = 43; rw [Op.lookupswitch.offset_cons, if_neg (by omega), Op.lookupswitch.offset_cons, if_neg (by omega)]; rfl) (by decide) ?_
          refine z_iconst ZC dX7_came_80 ?_
          refine z_iret ZC ZE dX7_came_81 (by omega) (by omega) (Nat.le_of_ble_eq_true rfl) ⟨(-1), rfl, rfl, by omega, by omega, ?_⟩
          · skip
            exact Or.inr (Or.inr ⟨by omega, rfl⟩)
      · skip
        refine z_iconst ZC dX7_came_33 ?_
        refine z_iret ZC ZE dX7_came_34 (by omega) (by omega) (Nat.le_of_ble_eq_true rfl) ⟨(-1), rfl, rfl, by omega, by omega, ?_⟩
        · skip
          exact Or.inr (Or.inr ⟨by omega, rfl⟩)

set_option maxHeartbeats 4000000 in
set_option maxRecDepth 100000 in
theorem c_X7_cameN (zl : Launch) (D : va_G) (K : tyK) (h : Nat) (x : Nat → Nat) (an : Nat → Nat) (Ne : Bd) (xu : Nat → Nat) (U : Bd) (f : Nat → Option Nat) (rd : Int) (fr : Int) (tt : Int) (what : Int) (hz_rd : -2147483648 ≤ rd ∧ rd < 2147483648) (hz_fr : -2147483648 ≤ fr ∧ fr < 2147483648) (hz_tt : -2147483648 ≤ tt ∧ tt < 2147483648) (hz_what : -2147483648 ≤ what ∧ what < 2147483648) (hne : 0 ≤ Ne.2 8 ∧ Ne.2 8 ≤ 16) (hrd : ¬ (0 ≤ rd ∧ rd < Ne.2 8)) : Mz zl yX7_came cX7_came 6 (some .int) 2 42 0 0 D K [.ref h, vZ rd, vZ fr, vZ tt, vZ what] ((wSh h x) ++ (wNe K (x 1) an Ne) ++ (wTr K (x 3) (upf (upf (upf xu 0 (x 0)) 1 (x 1)) 2 (x 2)) U) ++ (wLA K (x 4) f)) (fun r_ w2_ gc gs => r_ = some (vZ (-1)) ∧ w2_ = ((wSh h x) ++ (wNe K (x 1) an Ne) ++ (wTr K (x 3) (upf (upf (upf xu 0 (x 0)) 1 (x 1)) 2 (x 2)) U) ++ (wLA K (x 4) f)) ∧ gc = 0 ∧ gs = 0) := by
  refine Mz.ofZ (by decide) rfl (Nat.le_of_ble_eq_true rfl) ?_
  intro zp ze zR zs zm zargs zbelow zmeth zc zA zQ ZC ZE hRf hRc hRs hRl
  refine z_aload_n ZC 0 dX7_came_0 rfl rfl ?_
  refine z_iload_n ZC 1 dX7_came_1 rfl rfl ?_
  refine z_callV ZC 1 (c_X7_logOfN zl D K h x an Ne f rd (by omega) (by omega) (hrd)) (gdV uM_X7_179 uI_X7_logOf uS_X7_logOf uN_X7 uC_X7_logOf) (by decide +kernel) rfl ⟨by omega, by omega⟩ ⟨by omega, by omega⟩ (Nat.le_of_ble_eq_true rfl) [0, 1, 2, 3, 4, 5, 6, 7, 8, 9, 18] rfl (by decide) rfl rfl rfl rfl dX7_came_2 (fun r w2 gc_2 gs_2 hp => ?_)
  obtain ⟨rfl, rfl, rfl, rfl⟩ := hp
  refine z_ws (ws2 := [(h, .inr (7, [.ref (x 0), .ref (x 1), .ref (x 2), .ref (x 3), .ref (x 4), .ref (x 5)])), ((x 1), .inr (4, [.ref (an 0), .ref (an 1), .ref (an 2), .ref (an 3), .ref (an 4), .ref (an 5), .ref (an 6), .ref (an 7), vZ (Ne.2 8)])), ((an 0), .inl (K.1, 16, .inl (ar (Ne.1 0)))), ((an 1), .inl (K.1, 16, .inl (ar (Ne.1 1)))), ((an 2), .inl (K.1, 16, .inl (ar (Ne.1 2)))), ((an 3), .inl (K.1, 16, .inl (ar (Ne.1 3)))), ((an 4), .inl (K.1, 16, .inl (ar (Ne.1 4)))), ((an 5), .inl (K.1, 16, .inl (ar (Ne.1 5)))), ((an 6), .inl (K.1, 100, .inl (ar (Ne.1 6)))), ((an 7), .inl (K.1, 100, .inl (ar (Ne.1 7)))), ((x 3), .inr (6, [.ref (x 0), .ref (x 1), .ref (x 2), .ref (xu 3), .ref (xu 5), .ref (xu 6), .ref (xu 7), .ref (xu 8), .ref (xu 9), .ref (xu 10), .ref (xu 11), vZ (U.2 12), vZ (U.2 13), vZ (U.2 14), vZ (U.2 15)])), ((xu 5), .inl (K.1, 8, .inl (ar (U.1 5)))), ((xu 6), .inl (K.1, 8, .inl (ar (U.1 6)))), ((xu 7), .inl (K.1, 8, .inl (ar (U.1 7)))), ((xu 8), .inl (K.1, 10, .inl (ar (U.1 8)))), ((xu 9), .inl (K.1, 10, .inl (ar (U.1 9)))), ((xu 10), .inl (K.1, 10, .inl (ar (U.1 10)))), ((xu 11), .inl (K.1, 16, .inl (ar (U.1 11)))), ((x 4), .inl (K.2.2, 16, .inr (.inr (.inr (.inr f)))))]) rfl ?_
  refine z_st (st2 := [.null]) rfl ?_
  refine z_astoreN ZC dX7_came_5 (by decide) ?_
  refine z_aloadN ZC dX7_came_7 rfl ?_
  refine z_ifnullN ZC 33 dX7_came_9 (by decide) ?_
  refine z_iconst ZC dX7_came_33 ?_
  exact z_iret ZC ZE dX7_came_34 (by omega) (by omega) (Nat.le_of_ble_eq_true rfl) ⟨rfl, rfl, by omega, by omega⟩

set_option maxHeartbeats 4000000 in
set_option maxRecDepth 100000 in
theorem c_X7_out (zl : Launch) (D : va_G) (K : tyK) (h : Nat) (x : Nat → Nat) (an : Nat → Nat) (Ne : Bd) (xu : Nat → Nat) (U : Bd) (f : Nat → Option Nat) (hl : Nat) (al : Nat → Nat) (Lo : Bd) (rd : Int) (ho : Int) (hz_rd : -2147483648 ≤ rd ∧ rd < 2147483648) (hz_ho : -2147483648 ≤ ho ∧ ho < 2147483648) (hne : 0 ≤ Ne.2 8 ∧ Ne.2 8 ≤ 16) (hnw : 0 ≤ U.2 12 ∧ U.2 12 ≤ 200) (hrd : 0 ≤ rd ∧ rd < Ne.2 8) (hf : f rd.toNat = some hl) : Mz zl yX7_out cX7_out 4 (some .int) 2 42 0 0 D K [.ref h, vZ rd, vZ ho] ((wSh h x) ++ (wNe K (x 1) an Ne) ++ (wTr K (x 3) (upf (upf (upf xu 0 (x 0)) 1 (x 1)) 2 (x 2)) U) ++ (wLA K (x 4) f) ++ (wLo K hl al Lo)) (fun r_ w2_ gc gs => ∃ (v : Int), r_ = some (vZ v) ∧ w2_ = ((wSh h x) ++ (wNe K (x 1) an Ne) ++ (wTr K (x 3) (upf (upf (upf xu 0 (x 0)) 1 (x 1)) 2 (x 2)) U) ++ (wLA K (x 4) f) ++ (wLo K hl al Lo)) ∧ gc = 0 ∧ gs = 0 ∧ ((((0 ≤ ho ∧ ho < U.2 12 ∧ ho < 200)) ∧ v = Lo.1 0 ho ∧ True) ∨ (¬ ((0 ≤ ho ∧ ho < U.2 12 ∧ ho < 200)) ∧ v = -1 ∧ True))) := by
  refine Mz.ofZ (by decide) rfl (Nat.le_of_ble_eq_true rfl) ?_
  intro zp ze zR zs zm zargs zbelow zmeth zc zA zQ ZC ZE hRf hRc hRs hRl
  refine z_aload_n ZC 0 dX7_out_0 rfl rfl ?_
  refine z_iload_n ZC 1 dX7_out_1 rfl rfl ?_
  refine z_callV ZC 1 (c_X7_logOf zl D K h x an Ne f rd hl (hne) (hrd) (hf)) (gdV uM_X7_179 uI_X7_logOf uS_X7_logOf uN_X7 uC_X7_logOf) (by decide +kernel) rfl ⟨by omega, by omega⟩ ⟨by omega, by omega⟩ (Nat.le_of_ble_eq_true rfl) [0, 1, 2, 3, 4, 5, 6, 7, 8, 9, 18] rfl (by decide) rfl rfl rfl rfl dX7_out_2 (fun r w2 gc_2 gs_2 hp => ?_)
  obtain ⟨rfl, rfl, rfl, rfl⟩ := hp
  refine z_ws (ws2 := [(h, .inr (7, [.ref (x 0), .ref (x 1), .ref (x 2), .ref (x 3), .ref (x 4), .ref (x 5)])), ((x 1), .inr (4, [.ref (an 0), .ref (an 1), .ref (an 2), .ref (an 3), .ref (an 4), .ref (an 5), .ref (an 6), .ref (an 7), vZ (Ne.2 8)])), ((an 0), .inl (K.1, 16, .inl (ar (Ne.1 0)))), ((an 1), .inl (K.1, 16, .inl (ar (Ne.1 1)))), ((an 2), .inl (K.1, 16, .inl (ar (Ne.1 2)))), ((an 3), .inl (K.1, 16, .inl (ar (Ne.1 3)))), ((an 4), .inl (K.1, 16, .inl (ar (Ne.1 4)))), ((an 5), .inl (K.1, 16, .inl (ar (Ne.1 5)))), ((an 6), .inl (K.1, 100, .inl (ar (Ne.1 6)))), ((an 7), .inl (K.1, 100, .inl (ar (Ne.1 7)))), ((x 3), .inr (6, [.ref (x 0), .ref (x 1), .ref (x 2), .ref (xu 3), .ref (xu 5), .ref (xu 6), .ref (xu 7), .ref (xu 8), .ref (xu 9), .ref (xu 10), .ref (xu 11), vZ (U.2 12), vZ (U.2 13), vZ (U.2 14), vZ (U.2 15)])), ((xu 5), .inl (K.1, 8, .inl (ar (U.1 5)))), ((xu 6), .inl (K.1, 8, .inl (ar (U.1 6)))), ((xu 7), .inl (K.1, 8, .inl (ar (U.1 7)))), ((xu 8), .inl (K.1, 10, .inl (ar (U.1 8)))), ((xu 9), .inl (K.1, 10, .inl (ar (U.1 9)))), ((xu 10), .inl (K.1, 10, .inl (ar (U.1 10)))), ((xu 11), .inl (K.1, 16, .inl (ar (U.1 11)))), ((x 4), .inl (K.2.2, 16, .inr (.inr (.inr (.inr f))))), (hl, .inr (3, [.ref (al 0), .ref (al 1), .ref (al 2)])), ((al 0), .inl (K.1, 200, .inl (ar (Lo.1 0)))), ((al 1), .inl (K.1, 200, .inl (ar (Lo.1 1)))), ((al 2), .inl (K.1, 200, .inl (ar (Lo.1 2))))]) rfl ?_
  refine z_st (st2 := [.ref hl]) rfl ?_
  refine z_astore_n ZC 3 dX7_out_5 rfl (by decide) ?_
  refine z_aload_n ZC 3 dX7_out_6 rfl rfl ?_
  refine z_ifnull ZC dX7_out_7 ?_
  refine z_aload_n ZC 0 dX7_out_10 rfl rfl ?_
  refine z_iload_n ZC 2 dX7_out_11 rfl rfl ?_
  refine z_callV ZC 1 (c_X7_isOver zl D K h x xu U ho (by omega) (by omega)) (gdV uM_X7_183 uI_X7_isOver uS_X7_isOver uN_X7 uC_X7_isOver) (by decide +kernel) rfl ⟨by omega, by omega⟩ ⟨by omega, by omega⟩ (Nat.le_of_ble_eq_true rfl) [0, 10, 11, 12, 13, 14, 15, 16, 17] rfl (by decide) rfl rfl rfl rfl dX7_out_12 (fun r w2 gc_12 gs_12 hp => ?_)
  obtain ⟨v_12, rfl, rfl, rfl, rfl, hb_12⟩ := hp
  refine z_ws (ws2 := [(h, .inr (7, [.ref (x 0), .ref (x 1), .ref (x 2), .ref (x 3), .ref (x 4), .ref (x 5)])), ((x 1), .inr (4, [.ref (an 0), .ref (an 1), .ref (an 2), .ref (an 3), .ref (an 4), .ref (an 5), .ref (an 6), .ref (an 7), vZ (Ne.2 8)])), ((an 0), .inl (K.1, 16, .inl (ar (Ne.1 0)))), ((an 1), .inl (K.1, 16, .inl (ar (Ne.1 1)))), ((an 2), .inl (K.1, 16, .inl (ar (Ne.1 2)))), ((an 3), .inl (K.1, 16, .inl (ar (Ne.1 3)))), ((an 4), .inl (K.1, 16, .inl (ar (Ne.1 4)))), ((an 5), .inl (K.1, 16, .inl (ar (Ne.1 5)))), ((an 6), .inl (K.1, 100, .inl (ar (Ne.1 6)))), ((an 7), .inl (K.1, 100, .inl (ar (Ne.1 7)))), ((x 3), .inr (6, [.ref (x 0), .ref (x 1), .ref (x 2), .ref (xu 3), .ref (xu 5), .ref (xu 6), .ref (xu 7), .ref (xu 8), .ref (xu 9), .ref (xu 10), .ref (xu 11), vZ (U.2 12), vZ (U.2 13), vZ (U.2 14), vZ (U.2 15)])), ((xu 5), .inl (K.1, 8, .inl (ar (U.1 5)))), ((xu 6), .inl (K.1, 8, .inl (ar (U.1 6)))), ((xu 7), .inl (K.1, 8, .inl (ar (U.1 7)))), ((xu 8), .inl (K.1, 10, .inl (ar (U.1 8)))), ((xu 9), .inl (K.1, 10, .inl (ar (U.1 9)))), ((xu 10), .inl (K.1, 10, .inl (ar (U.1 10)))), ((xu 11), .inl (K.1, 16, .inl (ar (U.1 11)))), ((x 4), .inl (K.2.2, 16, .inr (.inr (.inr (.inr f))))), (hl, .inr (3, [.ref (al 0), .ref (al 1), .ref (al 2)])), ((al 0), .inl (K.1, 200, .inl (ar (Lo.1 0)))), ((al 1), .inl (K.1, 200, .inl (ar (Lo.1 1)))), ((al 2), .inl (K.1, 200, .inl (ar (Lo.1 2))))]) rfl ?_
  refine z_st (st2 := [vZ v_12]) rfl ?_
  refine z_if_eq ZC 27 dX7_out_15 (by decide) (by omega) (fun c_15 => ?_) (fun c_15 => ?_)
  · skip
    refine z_iconst ZC dX7_out_27 ?_
    refine z_iret ZC ZE dX7_out_28 (by omega) (by omega) (Nat.le_of_ble_eq_true rfl) ⟨(-1), rfl, rfl, by omega, by omega, ?_⟩
    · skip
      first | (left; exact ⟨by omega, rfl, trivial⟩) | (right; exact ⟨by omega, rfl, trivial⟩)
  · skip
    refine z_aload_n ZC 3 dX7_out_18 rfl rfl ?_
    refine z_get ZC inUX3 19 rfl rfl 0 (by decide) uF_X7_195 rfl dX7_out_19 ?_
    refine z_iload_n ZC 2 dX7_out_22 rfl rfl ?_
    refine z_iald ZC 20 rfl dX7_out_23 (by omega) ?_
    refine z_goto ZC 28 dX7_out_24 (by decide) ?_
    refine z_iret ZC ZE dX7_out_28 (by omega) (by omega) (Nat.le_of_ble_eq_true rfl) ⟨((Lo.1 0) ho), rfl, rfl, by omega, by omega, ?_⟩
    · skip
      first | (left; exact ⟨by omega, rfl, trivial⟩) | (right; exact ⟨by omega, rfl, trivial⟩)

set_option maxHeartbeats 4000000 in
set_option maxRecDepth 100000 in
theorem c_X7_outN (zl : Launch) (D : va_G) (K : tyK) (h : Nat) (x : Nat → Nat) (an : Nat → Nat) (Ne : Bd) (xu : Nat → Nat) (U : Bd) (f : Nat → Option Nat) (rd : Int) (ho : Int) (hz_rd : -2147483648 ≤ rd ∧ rd < 2147483648) (hz_ho : -2147483648 ≤ ho ∧ ho < 2147483648) (hne : 0 ≤ Ne.2 8 ∧ Ne.2 8 ≤ 16) (hrd : ¬ (0 ≤ rd ∧ rd < Ne.2 8)) : Mz zl yX7_out cX7_out 4 (some .int) 2 42 0 0 D K [.ref h, vZ rd, vZ ho] ((wSh h x) ++ (wNe K (x 1) an Ne) ++ (wTr K (x 3) (upf (upf (upf xu 0 (x 0)) 1 (x 1)) 2 (x 2)) U) ++ (wLA K (x 4) f)) (fun r_ w2_ gc gs => r_ = some (vZ (-1)) ∧ w2_ = ((wSh h x) ++ (wNe K (x 1) an Ne) ++ (wTr K (x 3) (upf (upf (upf xu 0 (x 0)) 1 (x 1)) 2 (x 2)) U) ++ (wLA K (x 4) f)) ∧ gc = 0 ∧ gs = 0) := by
  refine Mz.ofZ (by decide) rfl (Nat.le_of_ble_eq_true rfl) ?_
  intro zp ze zR zs zm zargs zbelow zmeth zc zA zQ ZC ZE hRf hRc hRs hRl
  refine z_aload_n ZC 0 dX7_out_0 rfl rfl ?_
  refine z_iload_n ZC 1 dX7_out_1 rfl rfl ?_
  refine z_callV ZC 1 (c_X7_logOfN zl D K h x an Ne f rd (by omega) (by omega) (hrd)) (gdV uM_X7_179 uI_X7_logOf uS_X7_logOf uN_X7 uC_X7_logOf) (by decide +kernel) rfl ⟨by omega, by omega⟩ ⟨by omega, by omega⟩ (Nat.le_of_ble_eq_true rfl) [0, 1, 2, 3, 4, 5, 6, 7, 8, 9, 18] rfl (by decide) rfl rfl rfl rfl dX7_out_2 (fun r w2 gc_2 gs_2 hp => ?_)
  obtain ⟨rfl, rfl, rfl, rfl⟩ := hp
  refine z_ws (ws2 := [(h, .inr (7, [.ref (x 0), .ref (x 1), .ref (x 2), .ref (x 3), .ref (x 4), .ref (x 5)])), ((x 1), .inr (4, [.ref (an 0), .ref (an 1), .ref (an 2), .ref (an 3), .ref (an 4), .ref (an 5), .ref (an 6), .ref (an 7), vZ (Ne.2 8)])), ((an 0), .inl (K.1, 16, .inl (ar (Ne.1 0)))), ((an 1), .inl (K.1, 16, .inl (ar (Ne.1 1)))), ((an 2), .inl (K.1, 16, .inl (ar (Ne.1 2)))), ((an 3), .inl (K.1, 16, .inl (ar (Ne.1 3)))), ((an 4), .inl (K.1, 16, .inl (ar (Ne.1 4)))), ((an 5), .inl (K.1, 16, .inl (ar (Ne.1 5)))), ((an 6), .inl (K.1, 100, .inl (ar (Ne.1 6)))), ((an 7), .inl (K.1, 100, .inl (ar (Ne.1 7)))), ((x 3), .inr (6, [.ref (x 0), .ref (x 1), .ref (x 2), .ref (xu 3), .ref (xu 5), .ref (xu 6), .ref (xu 7), .ref (xu 8), .ref (xu 9), .ref (xu 10), .ref (xu 11), vZ (U.2 12), vZ (U.2 13), vZ (U.2 14), vZ (U.2 15)])), ((xu 5), .inl (K.1, 8, .inl (ar (U.1 5)))), ((xu 6), .inl (K.1, 8, .inl (ar (U.1 6)))), ((xu 7), .inl (K.1, 8, .inl (ar (U.1 7)))), ((xu 8), .inl (K.1, 10, .inl (ar (U.1 8)))), ((xu 9), .inl (K.1, 10, .inl (ar (U.1 9)))), ((xu 10), .inl (K.1, 10, .inl (ar (U.1 10)))), ((xu 11), .inl (K.1, 16, .inl (ar (U.1 11)))), ((x 4), .inl (K.2.2, 16, .inr (.inr (.inr (.inr f)))))]) rfl ?_
  refine z_st (st2 := [.null]) rfl ?_
  refine z_astore_nN ZC 3 dX7_out_5 rfl (by decide) ?_
  refine z_aload_nN ZC 3 dX7_out_6 rfl rfl ?_
  refine z_ifnullN ZC 27 dX7_out_7 (by decide) ?_
  refine z_iconst ZC dX7_out_27 ?_
  exact z_iret ZC ZE dX7_out_28 (by omega) (by omega) (Nat.le_of_ble_eq_true rfl) ⟨rfl, rfl, by omega, by omega⟩

set_option maxHeartbeats 4000000 in
set_option maxRecDepth 100000 in
theorem c_X7_road (zl : Launch) (D : va_G) (K : tyK) (h : Nat) (x : Nat → Nat) (ato : Nat → Nat) (To : Bd) (an : Nat → Nat) (Ne : Bd) (xu : Nat → Nat) (U : Bd) (f : Nat → Option Nat) (xf : Nat → Nat) (F : Bd) (s1 : Int) (s2 : Int) (cs : Int) (ho : Int) (hz_s1 : -2147483648 ≤ s1 ∧ s1 < 2147483648) (hz_s2 : -2147483648 ≤ s2 ∧ s2 < 2147483648) (hz_cs : -2147483648 ≤ cs ∧ cs < 2147483648) (hz_ho : -2147483648 ≤ ho ∧ ho < 2147483648) (hto : 0 ≤ To.2 3 ∧ To.2 3 ≤ 10) (hne : 0 ≤ Ne.2 8 ∧ Ne.2 8 ≤ 16) (hnw : 0 ≤ U.2 12 ∧ U.2 12 ≤ 200) (hR : ∀ r : Int, 0 ≤ r → r < Ne.2 8 → (0 ≤ Ne.1 0 r ∧ Ne.1 0 r < 10) ∧ (0 ≤ Ne.1 1 r ∧ Ne.1 1 r < 10) ∧ (1 ≤ Ne.1 3 r ∧ Ne.1 3 r ≤ 9)) (hls : ∀ k : Int, 0 ≤ k → k < 100 → -1 ≤ Ne.1 6 k ∧ Ne.1 6 k ≤ 1000) (hok : U.2 12 = 0 ∧ Ne.2 8 < 16 ∧ ((0 ≤ s1 ∧ s1 < To.2 3) ∧ (0 ≤ s2 ∧ s2 < To.2 3) ∧ s1 ≠ s2) ∧ (1 ≤ cs ∧ cs ≤ 5000) ∧ (1 ≤ ho ∧ ho ≤ 9)) : Mz zl yX7_road cX7_road 6 (some .int) 3 74 4 603 D K [.ref h, vZ s1, vZ s2, vZ cs, vZ ho] ((wSh h x) ++ (wTo K (x 0) ato To) ++ (wNe K (x 1) an Ne) ++ (wTr K (x 3) (upf (upf (upf xu 0 (x 0)) 1 (x 1)) 2 (x 2)) U) ++ (wLA K (x 4) f) ++ (wFo K (x 5) (upf xf 0 (x 3)) F)) (fun r_ w2_ gc gs => ∃ (L2 : Int → Int), ∃ (W2 : Int → Int), ∃ (hq : Nat), ∃ (aq : Nat → Nat), ∃ (Lo : Bd), r_ = some (vZ (Ne.2 8)) ∧ w2_ = ((wSh h x) ++ (wTo K (x 0) ato To) ++ (wNe K (x 1) an ((upf (upf (upf (upf (upf (upf Ne.1 0 (upz (Ne.1 0) (Ne.2 8) s1)) 1 (upz (Ne.1 1) (Ne.2 8) s2)) 2 (upz (Ne.1 2) (Ne.2 8) cs)) 3 (upz (Ne.1 3) (Ne.2 8) ho)) 6 L2) 7 W2), (upf Ne.2 8 (Ne.2 8 + 1)))) ++ (wTr K (x 3) (upf (upf (upf xu 0 (x 0)) 1 (x 1)) 2 (x 2)) U) ++ (wLA K (x 4) (va_up f (Ne.2 8).toNat (some hq))) ++ (wFo K (x 5) (upf xf 0 (x 3)) (F.1, (upf (upf F.2 5 0) 8 0))) ++ (wLo K hq aq Lo)) ∧ gc = 4 ∧ gs = 603 ∧ (∀ i j : Int, 0 ≤ i → i < 10 → 0 ≤ j → j < 10 → L2 (i * 10 + j) = shv (Ne.1 6) s1 s2 ho i j) ∧ (∀ i j : Int, 0 ≤ i → i < 10 → 0 ≤ j → j < 10 → fwp (wayP (upz (Ne.1 0) (Ne.2 8) s1) (upz (Ne.1 1) (Ne.2 8) s2) (upz (Ne.1 3) (Ne.2 8) ho) L2 i j) (-1) (Ne.2 8 + 1) (Ne.1 7 (i * 10 + j)) (W2 (i * 10 + j))) ∧ ((∀ j, Lo.1 0 j = 0) ∧ (∀ j, Lo.1 1 j = 0) ∧ (∀ j, Lo.1 2 j = -1))) := by
  refine Mz.ofZ (by decide) rfl (Nat.le_of_ble_eq_true rfl) ?_
  intro zp ze zR zs zm zargs zbelow zmeth zc zA zQ ZC ZE hRf hRc hRs hRl
  refine z_aload_n ZC 0 dX7_road_0 rfl rfl ?_
  refine z_get ZC inUX7 0 rfl rfl 3 (by decide) uF_X7_35 rfl dX7_road_1 ?_
  refine z_get ZC inUX6 13 rfl rfl 11 (by decide) uF_X7_87 rfl dX7_road_4 ?_
  refine z_if_ne ZC 31 dX7_road_7 (by decide) (by omega) (fun c_7 => ?_) (fun c_7 => ?_)
  · skip
    omega
  · skip
    refine z_aload_n ZC 0 dX7_road_10 rfl rfl ?_
    refine z_get ZC inUX7 0 rfl rfl 1 (by decide) uF_X7_19 rfl dX7_road_11 ?_
    refine z_get ZC inUX4 4 rfl rfl 8 (by decide) uF_X7_90 rfl dX7_road_14 ?_
    refine z_bipush ZC dX7_road_17 (by decide) ?_
    refine z_icmp_ge ZC 31 dX7_road_19 (by decide) (by omega) (by omega) (fun c_19 => ?_) (fun c_19 => ?_)
    · skip
      omega
    · skip
      refine z_aload_n ZC 0 dX7_road_22 rfl rfl ?_
      refine z_iload_n ZC 1 dX7_road_23 rfl rfl ?_
      refine z_iload_n ZC 2 dX7_road_24 rfl rfl ?_
      refine z_callV ZC 2 (c_X7_areTwoTowns zl D K h x ato To s1 s2 (by omega) (by omega) (by omega)) (gdV uM_X7_91 uI_X7_areTwoTowns uS_X7_areTwoTowns uN_X7 uC_X7_areTwoTowns) (by decide +kernel) rfl ⟨by omega, by omega⟩ ⟨by omega, by omega⟩ (Nat.le_of_ble_eq_true rfl) [0, 1, 2, 3] rfl (by decide) rfl rfl rfl rfl dX7_road_25 (fun r w2 gc_25 gs_25 hp => ?_)
      obtain ⟨v_25, rfl, rfl, rfl, rfl, hb_25⟩ := hp
      refine z_ws (ws2 := [(h, .inr (7, [.ref (x 0), .ref (x 1), .ref (x 2), .ref (x 3), .ref (x 4), .ref (x 5)])), ((x 0), .inr (5, [.ref (ato 0), .ref (ato 1), vZ (To.2 2), vZ (To.2 3)])), ((ato 0), .inl (K.1, 10, .inl (ar (To.1 0)))), ((ato 1), .inl (K.1, 10, .inl (ar (To.1 1)))), ((x 1), .inr (4, [.ref (an 0), .ref (an 1), .ref (an 2), .ref (an 3), .ref (an 4), .ref (an 5), .ref (an 6), .ref (an 7), vZ (Ne.2 8)])), ((an 0), .inl (K.1, 16, .inl (ar (Ne.1 0)))), ((an 1), .inl (K.1, 16, .inl (ar (Ne.1 1)))), ((an 2), .inl (K.1, 16, .inl (ar (Ne.1 2)))), ((an 3), .inl (K.1, 16, .inl (ar (Ne.1 3)))), ((an 4), .inl (K.1, 16, .inl (ar (Ne.1 4)))), ((an 5), .inl (K.1, 16, .inl (ar (Ne.1 5)))), ((an 6), .inl (K.1, 100, .inl (ar (Ne.1 6)))), ((an 7), .inl (K.1, 100, .inl (ar (Ne.1 7)))), ((x 3), .inr (6, [.ref (x 0), .ref (x 1), .ref (x 2), .ref (xu 3), .ref (xu 5), .ref (xu 6), .ref (xu 7), .ref (xu 8), .ref (xu 9), .ref (xu 10), .ref (xu 11), vZ (U.2 12), vZ (U.2 13), vZ (U.2 14), vZ (U.2 15)])), ((xu 5), .inl (K.1, 8, .inl (ar (U.1 5)))), ((xu 6), .inl (K.1, 8, .inl (ar (U.1 6)))), ((xu 7), .inl (K.1, 8, .inl (ar (U.1 7)))), ((xu 8), .inl (K.1, 10, .inl (ar (U.1 8)))), ((xu 9), .inl (K.1, 10, .inl (ar (U.1 9)))), ((xu 10), .inl (K.1, 10, .inl (ar (U.1 10)))), ((xu 11), .inl (K.1, 16, .inl (ar (U.1 11)))), ((x 4), .inl (K.2.2, 16, .inr (.inr (.inr (.inr f))))), ((x 5), .inr (1, [.ref (x 3), .ref (xf 1), .ref (xf 2), .ref (xf 3), .ref (xf 4), vZ (F.2 5), vZ (F.2 6), vZ (F.2 7), vZ (F.2 8), vZ (F.2 9), vZ (F.2 10), vZ (F.2 11)])), ((xf 2), .inl (K.1, 10, .inl (ar (F.1 2)))), ((xf 3), .inl (K.1, 4, .inl (ar (F.1 3)))), ((xf 4), .inl (K.1, 4, .inl (ar (F.1 4))))]) rfl ?_
      refine z_st (st2 := [vZ v_25]) rfl ?_
      refine z_if_ne ZC 33 dX7_road_28 (by decide) (by omega) (fun c_28 => ?_) (fun c_28 => ?_)
      · skip
        refine z_iload_n ZC 3 dX7_road_33 rfl rfl ?_
        refine z_iconst ZC dX7_road_34 ?_
        refine z_sipush ZC dX7_road_35 (by decide) ?_
        refine z_callS ZC 3 (c_X7_within zl D K cs 1 5000 (by omega) (by omega) (by omega)) (gdS uM_X7_54 uZ_X7_within uN_X7 uC_X7_within) (by decide +kernel) rfl ⟨by omega, by omega⟩ ⟨by omega, by omega⟩ (Nat.le_of_ble_eq_true rfl) [] rfl (by decide) rfl dX7_road_38 (fun r w2 gc_38 gs_38 hp => ?_)
        obtain ⟨b_38, rfl, rfl, rfl, rfl, hb_38⟩ := hp
        refine z_st (st2 := [vZ b_38]) rfl ?_
        refine z_if_eq ZC 55 dX7_road_41 (by decide) (by omega) (fun c_41 => ?_) (fun c_41 => ?_)
        · skip
          omega
        · skip
          refine z_iload ZC dX7_road_44 rfl ?_
          refine z_iconst ZC dX7_road_46 ?_
          refine z_bipush ZC dX7_road_47 (by decide) ?_
          refine z_callS ZC 3 (c_X7_within zl D K ho 1 9 (by omega) (by omega) (by omega)) (gdS uM_X7_54 uZ_X7_within uN_X7 uC_X7_within) (by decide +kernel) rfl ⟨by omega, by omega⟩ ⟨by omega, by omega⟩ (Nat.le_of_ble_eq_true rfl) [] rfl (by decide) rfl dX7_road_49 (fun r w2 gc_49 gs_49 hp => ?_)
          obtain ⟨b_49, rfl, rfl, rfl, rfl, hb_49⟩ := hp
          refine z_st (st2 := [vZ b_49]) rfl ?_
          refine z_if_ne ZC 57 dX7_road_52 (by decide) (by omega) (fun c_52 => ?_) (fun c_52 => ?_)
          · skip
            refine z_aload_n ZC 0 dX7_road_57 rfl rfl ?_
            refine z_get ZC inUX7 0 rfl rfl 1 (by decide) uF_X7_19 rfl dX7_road_58 ?_
            refine z_iload_n ZC 1 dX7_road_61 rfl rfl ?_
            refine z_iload_n ZC 2 dX7_road_62 rfl rfl ?_
            refine z_iload_n ZC 3 dX7_road_63 rfl rfl ?_
            refine z_iload ZC dX7_road_64 rfl ?_
            refine z_callV ZC 4 (c_X4_add zl D K (x 1) an Ne s1 s2 cs ho (by omega) (hR) (hls) (by omega) (by omega) (by omega)) (gdV uM_X7_95 uI_X4_add uS_X4_add uN_X4 uC_X4_add) (by decide +kernel) rfl ⟨by omega, by omega⟩ ⟨by omega, by omega⟩ (Nat.le_of_ble_eq_true rfl) [4, 5, 6, 7, 8, 9, 10, 11, 12] rfl (by decide) rfl rfl rfl rfl dX7_road_66 (fun r w2 gc_66 gs_66 hp => ?_)
            obtain ⟨L2_66, W2_66, rfl, rfl, rfl, rfl, hL2_66, hW2_66⟩ := hp
            refine z_ws (ws2 := [(h, .inr (7, [.ref (x 0), .ref (x 1), .ref (x 2), .ref (x 3), .ref (x 4), .ref (x 5)])), ((x 0), .inr (5, [.ref (ato 0), .ref (ato 1), vZ (To.2 2), vZ (To.2 3)])), ((ato 0), .inl (K.1, 10, .inl (ar (To.1 0)))), ((ato 1), .inl (K.1, 10, .inl (ar (To.1 1)))), ((x 1), .inr (4, [.ref (an 0), .ref (an 1), .ref (an 2), .ref (an 3), .ref (an 4), .ref (an 5), .ref (an 6), .ref (an 7), vZ (Ne.2 8 + 1)])), ((an 0), .inl (K.1, 16, .inl (ar (upz (Ne.1 0) (Ne.2 8) s1)))), ((an 1), .inl (K.1, 16, .inl (ar (upz (Ne.1 1) (Ne.2 8) s2)))), ((an 2), .inl (K.1, 16, .inl (ar (upz (Ne.1 2) (Ne.2 8) cs)))), ((an 3), .inl (K.1, 16, .inl (ar (upz (Ne.1 3) (Ne.2 8) ho)))), ((an 4), .inl (K.1, 16, .inl (ar (Ne.1 4)))), ((an 5), .inl (K.1, 16, .inl (ar (Ne.1 5)))), ((an 6), .inl (K.1, 100, .inl (ar L2_66))), ((an 7), .inl (K.1, 100, .inl (ar W2_66))), ((x 3), .inr (6, [.ref (x 0), .ref (x 1), .ref (x 2), .ref (xu 3), .ref (xu 5), .ref (xu 6), .ref (xu 7), .ref (xu 8), .ref (xu 9), .ref (xu 10), .ref (xu 11), vZ (U.2 12), vZ (U.2 13), vZ (U.2 14), vZ (U.2 15)])), ((xu 5), .inl (K.1, 8, .inl (ar (U.1 5)))), ((xu 6), .inl (K.1, 8, .inl (ar (U.1 6)))), ((xu 7), .inl (K.1, 8, .inl (ar (U.1 7)))), ((xu 8), .inl (K.1, 10, .inl (ar (U.1 8)))), ((xu 9), .inl (K.1, 10, .inl (ar (U.1 9)))), ((xu 10), .inl (K.1, 10, .inl (ar (U.1 10)))), ((xu 11), .inl (K.1, 16, .inl (ar (U.1 11)))), ((x 4), .inl (K.2.2, 16, .inr (.inr (.inr (.inr f))))), ((x 5), .inr (1, [.ref (x 3), .ref (xf 1), .ref (xf 2), .ref (xf 3), .ref (xf 4), vZ (F.2 5), vZ (F.2 6), vZ (F.2 7), vZ (F.2 8), vZ (F.2 9), vZ (F.2 10), vZ (F.2 11)])), ((xf 2), .inl (K.1, 10, .inl (ar (F.1 2)))), ((xf 3), .inl (K.1, 4, .inl (ar (F.1 3)))), ((xf 4), .inl (K.1, 4, .inl (ar (F.1 4))))]) rfl ?_
            refine z_st (st2 := [vZ (Ne.2 8)]) rfl ?_
            refine z_istore ZC dX7_road_69 (by decide) ?_
            refine z_aload_n ZC 0 dX7_road_71 rfl rfl ?_
            refine z_get ZC inUX7 0 rfl rfl 4 (by decide) uF_X7_41 rfl dX7_road_72 ?_
            refine z_iload ZC dX7_road_75 rfl ?_
            refine z_new ZC (ci := 3) (fs := [.null, .null, .null]) inUX3 tyX3_ok uL_X7_39 uB_X3 uN_X3 rfl (new_fs_X3) (by omega) (by omega) dX7_road_77 (fun q77 => ?_)
            refine z_dup ZC dX7_road_80 rfl ?_
            refine z_callI ZC 0 (c_X3_init zl D K q77 ) uC_X3_init uN_X3 uM_X7_98 uI_X3_init rfl (by decide +kernel) rfl ⟨by omega, by omega⟩ ⟨by omega, by omega⟩ (Nat.le_of_ble_eq_true rfl) [26] rfl (by decide) rfl dX7_road_81 (fun r w2 gc_81 gs_81 hp => ?_)
            obtain ⟨a_81, S_81, rfl, rfl, rfl, rfl, h0_81, h1_81, h2_81⟩ := hp
            refine z_ws (ws2 := [(h, .inr (7, [.ref (x 0), .ref (x 1), .ref (x 2), .ref (x 3), .ref (x 4), .ref (x 5)])), ((x 0), .inr (5, [.ref (ato 0), .ref (ato 1), vZ (To.2 2), vZ (To.2 3)])), ((ato 0), .inl (K.1, 10, .inl (ar (To.1 0)))), ((ato 1), .inl (K.1, 10, .inl (ar (To.1 1)))), ((x 1), .inr (4, [.ref (an 0), .ref (an 1), .ref (an 2), .ref (an 3), .ref (an 4), .ref (an 5), .ref (an 6), .ref (an 7), vZ (Ne.2 8 + 1)])), ((an 0), .inl (K.1, 16, .inl (ar (upz (Ne.1 0) (Ne.2 8) s1)))), ((an 1), .inl (K.1, 16, .inl (ar (upz (Ne.1 1) (Ne.2 8) s2)))), ((an 2), .inl (K.1, 16, .inl (ar (upz (Ne.1 2) (Ne.2 8) cs)))), ((an 3), .inl (K.1, 16, .inl (ar (upz (Ne.1 3) (Ne.2 8) ho)))), ((an 4), .inl (K.1, 16, .inl (ar (Ne.1 4)))), ((an 5), .inl (K.1, 16, .inl (ar (Ne.1 5)))), ((an 6), .inl (K.1, 100, .inl (ar L2_66))), ((an 7), .inl (K.1, 100, .inl (ar W2_66))), ((x 3), .inr (6, [.ref (x 0), .ref (x 1), .ref (x 2), .ref (xu 3), .ref (xu 5), .ref (xu 6), .ref (xu 7), .ref (xu 8), .ref (xu 9), .ref (xu 10), .ref (xu 11), vZ (U.2 12), vZ (U.2 13), vZ (U.2 14), vZ (U.2 15)])), ((xu 5), .inl (K.1, 8, .inl (ar (U.1 5)))), ((xu 6), .inl (K.1, 8, .inl (ar (U.1 6)))), ((xu 7), .inl (K.1, 8, .inl (ar (U.1 7)))), ((xu 8), .inl (K.1, 10, .inl (ar (U.1 8)))), ((xu 9), .inl (K.1, 10, .inl (ar (U.1 9)))), ((xu 10), .inl (K.1, 10, .inl (ar (U.1 10)))), ((xu 11), .inl (K.1, 16, .inl (ar (U.1 11)))), ((x 4), .inl (K.2.2, 16, .inr (.inr (.inr (.inr f))))), ((x 5), .inr (1, [.ref (x 3), .ref (xf 1), .ref (xf 2), .ref (xf 3), .ref (xf 4), vZ (F.2 5), vZ (F.2 6), vZ (F.2 7), vZ (F.2 8), vZ (F.2 9), vZ (F.2 10), vZ (F.2 11)])), ((xf 2), .inl (K.1, 10, .inl (ar (F.1 2)))), ((xf 3), .inl (K.1, 4, .inl (ar (F.1 3)))), ((xf 4), .inl (K.1, 4, .inl (ar (F.1 4)))), (q77, .inr (3, [.ref (a_81 0), .ref (a_81 1), .ref (a_81 2)])), ((a_81 0), .inl (K.1, 200, .inl (ar (S_81.1 0)))), ((a_81 1), .inl (K.1, 200, .inl (ar (S_81.1 1)))), ((a_81 2), .inl (K.1, 200, .inl (ar (S_81.1 2))))]) rfl ?_
            refine z_st (st2 := [.ref q77, vZ (Ne.2 8), .ref (x 4)]) rfl ?_
            refine z_aast ZC 21 26 rfl rfl dX7_road_84 (by omega) ?_
            refine z_aload_n ZC 0 dX7_road_85 rfl rfl ?_
            refine z_get ZC inUX7 0 rfl rfl 5 (by decide) uF_X7_50 rfl dX7_road_86 ?_
            refine z_ws (ws2 := [(h, .inr (7, [.ref (x 0), .ref (x 1), .ref (x 2), .ref (x 3), .ref (x 4), .ref (x 5)])), ((x 0), .inr (5, [.ref (ato 0), .ref (ato 1), vZ (To.2 2), vZ (To.2 3)])), ((ato 0), .inl (K.1, 10, .inl (ar (To.1 0)))), ((ato 1), .inl (K.1, 10, .inl (ar (To.1 1)))), ((x 1), .inr (4, [.ref (an 0), .ref (an 1), .ref (an 2), .ref (an 3), .ref (an 4), .ref (an 5), .ref (an 6), .ref (an 7), vZ (Ne.2 8 + 1)])), ((an 0), .inl (K.1, 16, .inl (ar (upz (Ne.1 0) (Ne.2 8) s1)))), ((an 1), .inl (K.1, 16, .inl (ar (upz (Ne.1 1) (Ne.2 8) s2)))), ((an 2), .inl (K.1, 16, .inl (ar (upz (Ne.1 2) (Ne.2 8) cs)))), ((an 3), .inl (K.1, 16, .inl (ar (upz (Ne.1 3) (Ne.2 8) ho)))), ((an 4), .inl (K.1, 16, .inl (ar (Ne.1 4)))), ((an 5), .inl (K.1, 16, .inl (ar (Ne.1 5)))), ((an 6), .inl (K.1, 100, .inl (ar L2_66))), ((an 7), .inl (K.1, 100, .inl (ar W2_66))), ((x 3), .inr (6, [.ref (x 0), .ref (x 1), .ref (x 2), .ref (xu 3), .ref (xu 5), .ref (xu 6), .ref (xu 7), .ref (xu 8), .ref (xu 9), .ref (xu 10), .ref (xu 11), vZ (U.2 12), vZ (U.2 13), vZ (U.2 14), vZ (U.2 15)])), ((xu 5), .inl (K.1, 8, .inl (ar (U.1 5)))), ((xu 6), .inl (K.1, 8, .inl (ar (U.1 6)))), ((xu 7), .inl (K.1, 8, .inl (ar (U.1 7)))), ((xu 8), .inl (K.1, 10, .inl (ar (U.1 8)))), ((xu 9), .inl (K.1, 10, .inl (ar (U.1 9)))), ((xu 10), .inl (K.1, 10, .inl (ar (U.1 10)))), ((xu 11), .inl (K.1, 16, .inl (ar (U.1 11)))), ((x 4), .inl (K.2.2, 16, .inr (.inr (.inr (.inr (va_up f (Ne.2 8).toNat (some q77))))))), ((x 5), .inr (1, [.ref (x 3), .ref (xf 1), .ref (xf 2), .ref (xf 3), .ref (xf 4), vZ (F.2 5), vZ (F.2 6), vZ (F.2 7), vZ (F.2 8), vZ (F.2 9), vZ (F.2 10), vZ (F.2 11)])), ((xf 2), .inl (K.1, 10, .inl (ar (F.1 2)))), ((xf 3), .inl (K.1, 4, .inl (ar (F.1 3)))), ((xf 4), .inl (K.1, 4, .inl (ar (F.1 4)))), (q77, .inr (3, [.ref (a_81 0), .ref (a_81 1), .ref (a_81 2)])), ((a_81 0), .inl (K.1, 200, .inl (ar (S_81.1 0)))), ((a_81 1), .inl (K.1, 200, .inl (ar (S_81.1 1)))), ((a_81 2), .inl (K.1, 200, .inl (ar (S_81.1 2))))]) rfl ?_
            refine z_callV ZC 0 (c_X1_forget zl D K (x 5) (upf xf 0 (x 3)) F ) (gdV uM_X7_71 uI_X1_forget uS_X1_forget uN_X1 uC_X1_forget) (by decide +kernel) rfl ⟨by omega, by omega⟩ ⟨by omega, by omega⟩ (Nat.le_of_ble_eq_true rfl) [22, 23, 24, 25] rfl (by decide) rfl rfl rfl rfl dX7_road_89 (fun r w2 gc_89 gs_89 hp => ?_)
            obtain ⟨rfl, rfl, rfl, rfl⟩ := hp
            refine z_ws (ws2 := [(h, .inr (7, [.ref (x 0), .ref (x 1), .ref (x 2), .ref (x 3), .ref (x 4), .ref (x 5)])), ((x 0), .inr (5, [.ref (ato 0), .ref (ato 1), vZ (To.2 2), vZ (To.2 3)])), ((ato 0), .inl (K.1, 10, .inl (ar (To.1 0)))), ((ato 1), .inl (K.1, 10, .inl (ar (To.1 1)))), ((x 1), .inr (4, [.ref (an 0), .ref (an 1), .ref (an 2), .ref (an 3), .ref (an 4), .ref (an 5), .ref (an 6), .ref (an 7), vZ (Ne.2 8 + 1)])), ((an 0), .inl (K.1, 16, .inl (ar (upz (Ne.1 0) (Ne.2 8) s1)))), ((an 1), .inl (K.1, 16, .inl (ar (upz (Ne.1 1) (Ne.2 8) s2)))), ((an 2), .inl (K.1, 16, .inl (ar (upz (Ne.1 2) (Ne.2 8) cs)))), ((an 3), .inl (K.1, 16, .inl (ar (upz (Ne.1 3) (Ne.2 8) ho)))), ((an 4), .inl (K.1, 16, .inl (ar (Ne.1 4)))), ((an 5), .inl (K.1, 16, .inl (ar (Ne.1 5)))), ((an 6), .inl (K.1, 100, .inl (ar L2_66))), ((an 7), .inl (K.1, 100, .inl (ar W2_66))), ((x 3), .inr (6, [.ref (x 0), .ref (x 1), .ref (x 2), .ref (xu 3), .ref (xu 5), .ref (xu 6), .ref (xu 7), .ref (xu 8), .ref (xu 9), .ref (xu 10), .ref (xu 11), vZ (U.2 12), vZ (U.2 13), vZ (U.2 14), vZ (U.2 15)])), ((xu 5), .inl (K.1, 8, .inl (ar (U.1 5)))), ((xu 6), .inl (K.1, 8, .inl (ar (U.1 6)))), ((xu 7), .inl (K.1, 8, .inl (ar (U.1 7)))), ((xu 8), .inl (K.1, 10, .inl (ar (U.1 8)))), ((xu 9), .inl (K.1, 10, .inl (ar (U.1 9)))), ((xu 10), .inl (K.1, 10, .inl (ar (U.1 10)))), ((xu 11), .inl (K.1, 16, .inl (ar (U.1 11)))), ((x 4), .inl (K.2.2, 16, .inr (.inr (.inr (.inr (va_up f (Ne.2 8).toNat (some q77))))))), ((x 5), .inr (1, [.ref (x 3), .ref (xf 1), .ref (xf 2), .ref (xf 3), .ref (xf 4), vZ 0, vZ (F.2 6), vZ (F.2 7), vZ 0, vZ (F.2 9), vZ (F.2 10), vZ (F.2 11)])), ((xf 2), .inl (K.1, 10, .inl (ar (F.1 2)))), ((xf 3), .inl (K.1, 4, .inl (ar (F.1 3)))), ((xf 4), .inl (K.1, 4, .inl (ar (F.1 4)))), (q77, .inr (3, [.ref (a_81 0), .ref (a_81 1), .ref (a_81 2)])), ((a_81 0), .inl (K.1, 200, .inl (ar (S_81.1 0)))), ((a_81 1), .inl (K.1, 200, .inl (ar (S_81.1 1)))), ((a_81 2), .inl (K.1, 200, .inl (ar (S_81.1 2))))]) rfl ?_
            refine z_st (st2 := []) rfl ?_
            refine z_iload ZC dX7_road_92 rfl ?_
            refine z_iret ZC ZE dX7_road_94 (by omega) (by omega) (Nat.le_of_ble_eq_true rfl) ⟨L2_66, W2_66, q77, a_81, S_81, rfl, rfl, by omega, by omega, ?_, ?_, ?_⟩
            · skip
              exact hL2_66
            · skip
              exact hW2_66
            · skip
              exact ⟨h0_81, h1_81, h2_81⟩
          · skip
            omega
      · skip
        omega

set_option maxHeartbeats 4000000 in
set_option maxRecDepth 100000 in
theorem c_X7_roadN (zl : Launch) (D : va_G) (K : tyK) (h : Nat) (x : Nat → Nat) (ato : Nat → Nat) (To : Bd) (an : Nat → Nat) (Ne : Bd) (xu : Nat → Nat) (U : Bd) (f : Nat → Option Nat) (xf : Nat → Nat) (F : Bd) (s1 : Int) (s2 : Int) (cs : Int) (ho : Int) (hz_s1 : -2147483648 ≤ s1 ∧ s1 < 2147483648) (hz_s2 : -2147483648 ≤ s2 ∧ s2 < 2147483648) (hz_cs : -2147483648 ≤ cs ∧ cs < 2147483648) (hz_ho : -2147483648 ≤ ho ∧ ho < 2147483648) (hto : 0 ≤ To.2 3 ∧ To.2 3 ≤ 10) (hne : 0 ≤ Ne.2 8 ∧ Ne.2 8 ≤ 16) (hnw : 0 ≤ U.2 12 ∧ U.2 12 ≤ 200) (hok : ¬ (U.2 12 = 0 ∧ Ne.2 8 < 16 ∧ ((0 ≤ s1 ∧ s1 < To.2 3) ∧ (0 ≤ s2 ∧ s2 < To.2 3) ∧ s1 ≠ s2) ∧ (1 ≤ cs ∧ cs ≤ 5000) ∧ (1 ≤ ho ∧ ho ≤ 9))) : Mz zl yX7_road cX7_road 6 (some .int) 2 43 0 0 D K [.ref h, vZ s1, vZ s2, vZ cs, vZ ho] ((wSh h x) ++ (wTo K (x 0) ato To) ++ (wNe K (x 1) an Ne) ++ (wTr K (x 3) (upf (upf (upf xu 0 (x 0)) 1 (x 1)) 2 (x 2)) U) ++ (wLA K (x 4) f) ++ (wFo K (x 5) (upf xf 0 (x 3)) F)) (fun r_ w2_ gc gs => r_ = some (vZ (-1)) ∧ w2_ = ((wSh h x) ++ (wTo K (x 0) ato To) ++ (wNe K (x 1) an Ne) ++ (wTr K (x 3) (upf (upf (upf xu 0 (x 0)) 1 (x 1)) 2 (x 2)) U) ++ (wLA K (x 4) f) ++ (wFo K (x 5) (upf xf 0 (x 3)) F)) ∧ gc = 0 ∧ gs = 0) := by
  refine Mz.ofZ (by decide) rfl (Nat.le_of_ble_eq_true rfl) ?_
  intro zp ze zR zs zm zargs zbelow zmeth zc zA zQ ZC ZE hRf hRc hRs hRl
  refine z_aload_n ZC 0 dX7_road_0 rfl rfl ?_
  refine z_get ZC inUX7 0 rfl rfl 3 (by decide) uF_X7_35 rfl dX7_road_1 ?_
  refine z_get ZC inUX6 13 rfl rfl 11 (by decide) uF_X7_87 rfl dX7_road_4 ?_
  refine z_if_ne ZC 31 dX7_road_7 (by decide) (by omega) (fun c_7 => ?_) (fun c_7 => ?_)
  · skip
    refine z_iconst ZC dX7_road_31 ?_
    exact z_iret ZC ZE dX7_road_32 (by omega) (by omega) (Nat.le_of_ble_eq_true rfl) ⟨rfl, rfl, by omega, by omega⟩
  · skip
    refine z_aload_n ZC 0 dX7_road_10 rfl rfl ?_
    refine z_get ZC inUX7 0 rfl rfl 1 (by decide) uF_X7_19 rfl dX7_road_11 ?_
    refine z_get ZC inUX4 4 rfl rfl 8 (by decide) uF_X7_90 rfl dX7_road_14 ?_
    refine z_bipush ZC dX7_road_17 (by decide) ?_
    refine z_icmp_ge ZC 31 dX7_road_19 (by decide) (by omega) (by omega) (fun c_19 => ?_) (fun c_19 => ?_)
    · skip
      refine z_iconst ZC dX7_road_31 ?_
      exact z_iret ZC ZE dX7_road_32 (by omega) (by omega) (Nat.le_of_ble_eq_true rfl) ⟨rfl, rfl, by omega, by omega⟩
    · skip
      refine z_aload_n ZC 0 dX7_road_22 rfl rfl ?_
      refine z_iload_n ZC 1 dX7_road_23 rfl rfl ?_
      refine z_iload_n ZC 2 dX7_road_24 rfl rfl ?_
      refine z_callV ZC 2 (c_X7_areTwoTowns zl D K h x ato To s1 s2 (by omega) (by omega) (by omega)) (gdV uM_X7_91 uI_X7_areTwoTowns uS_X7_areTwoTowns uN_X7 uC_X7_areTwoTowns) (by decide +kernel) rfl ⟨by omega, by omega⟩ ⟨by omega, by omega⟩ (Nat.le_of_ble_eq_true rfl) [0, 1, 2, 3] rfl (by decide) rfl rfl rfl rfl dX7_road_25 (fun r w2 gc_25 gs_25 hp => ?_)
      obtain ⟨v_25, rfl, rfl, rfl, rfl, hb_25⟩ := hp
      refine z_ws (ws2 := [(h, .inr (7, [.ref (x 0), .ref (x 1), .ref (x 2), .ref (x 3), .ref (x 4), .ref (x 5)])), ((x 0), .inr (5, [.ref (ato 0), .ref (ato 1), vZ (To.2 2), vZ (To.2 3)])), ((ato 0), .inl (K.1, 10, .inl (ar (To.1 0)))), ((ato 1), .inl (K.1, 10, .inl (ar (To.1 1)))), ((x 1), .inr (4, [.ref (an 0), .ref (an 1), .ref (an 2), .ref (an 3), .ref (an 4), .ref (an 5), .ref (an 6), .ref (an 7), vZ (Ne.2 8)])), ((an 0), .inl (K.1, 16, .inl (ar (Ne.1 0)))), ((an 1), .inl (K.1, 16, .inl (ar (Ne.1 1)))), ((an 2), .inl (K.1, 16, .inl (ar (Ne.1 2)))), ((an 3), .inl (K.1, 16, .inl (ar (Ne.1 3)))), ((an 4), .inl (K.1, 16, .inl (ar (Ne.1 4)))), ((an 5), .inl (K.1, 16, .inl (ar (Ne.1 5)))), ((an 6), .inl (K.1, 100, .inl (ar (Ne.1 6)))), ((an 7), .inl (K.1, 100, .inl (ar (Ne.1 7)))), ((x 3), .inr (6, [.ref (x 0), .ref (x 1), .ref (x 2), .ref (xu 3), .ref (xu 5), .ref (xu 6), .ref (xu 7), .ref (xu 8), .ref (xu 9), .ref (xu 10), .ref (xu 11), vZ (U.2 12), vZ (U.2 13), vZ (U.2 14), vZ (U.2 15)])), ((xu 5), .inl (K.1, 8, .inl (ar (U.1 5)))), ((xu 6), .inl (K.1, 8, .inl (ar (U.1 6)))), ((xu 7), .inl (K.1, 8, .inl (ar (U.1 7)))), ((xu 8), .inl (K.1, 10, .inl (ar (U.1 8)))), ((xu 9), .inl (K.1, 10, .inl (ar (U.1 9)))), ((xu 10), .inl (K.1, 10, .inl (ar (U.1 10)))), ((xu 11), .inl (K.1, 16, .inl (ar (U.1 11)))), ((x 4), .inl (K.2.2, 16, .inr (.inr (.inr (.inr f))))), ((x 5), .inr (1, [.ref (x 3), .ref (xf 1), .ref (xf 2), .ref (xf 3), .ref (xf 4), vZ (F.2 5), vZ (F.2 6), vZ (F.2 7), vZ (F.2 8), vZ (F.2 9), vZ (F.2 10), vZ (F.2 11)])), ((xf 2), .inl (K.1, 10, .inl (ar (F.1 2)))), ((xf 3), .inl (K.1, 4, .inl (ar (F.1 3)))), ((xf 4), .inl (K.1, 4, .inl (ar (F.1 4))))]) rfl ?_
      refine z_st (st2 := [vZ v_25]) rfl ?_
      refine z_if_ne ZC 33 dX7_road_28 (by decide) (by omega) (fun c_28 => ?_) (fun c_28 => ?_)
      · skip
        refine z_iload_n ZC 3 dX7_road_33 rfl rfl ?_
        refine z_iconst ZC dX7_road_34 ?_
        refine z_sipush ZC dX7_road_35 (by decide) ?_
        refine z_callS ZC 3 (c_X7_within zl D K cs 1 5000 (by omega) (by omega) (by omega)) (gdS uM_X7_54 uZ_X7_within uN_X7 uC_X7_within) (by decide +kernel) rfl ⟨by omega, by omega⟩ ⟨by omega, by omega⟩ (Nat.le_of_ble_eq_true rfl) [] rfl (by decide) rfl dX7_road_38 (fun r w2 gc_38 gs_38 hp => ?_)
        obtain ⟨b_38, rfl, rfl, rfl, rfl, hb_38⟩ := hp
        refine z_st (st2 := [vZ b_38]) rfl ?_
        refine z_if_eq ZC 55 dX7_road_41 (by decide) (by omega) (fun c_41 => ?_) (fun c_41 => ?_)
        · skip
          refine z_iconst ZC dX7_road_55 ?_
          exact z_iret ZC ZE dX7_road_56 (by omega) (by omega) (Nat.le_of_ble_eq_true rfl) ⟨rfl, rfl, by omega, by omega⟩
        · skip
          refine z_iload ZC dX7_road_44 rfl ?_
          refine z_iconst ZC dX7_road_46 ?_
          refine z_bipush ZC dX7_road_47 (by decide) ?_
          refine z_callS ZC 3 (c_X7_within zl D K ho 1 9 (by omega) (by omega) (by omega)) (gdS uM_X7_54 uZ_X7_within uN_X7 uC_X7_within) (by decide +kernel) rfl ⟨by omega, by omega⟩ ⟨by omega, by omega⟩ (Nat.le_of_ble_eq_true rfl) [] rfl (by decide) rfl dX7_road_49 (fun r w2 gc_49 gs_49 hp => ?_)
          obtain ⟨b_49, rfl, rfl, rfl, rfl, hb_49⟩ := hp
          refine z_st (st2 := [vZ b_49]) rfl ?_
          refine z_if_ne ZC 57 dX7_road_52 (by decide) (by omega) (fun c_52 => ?_) (fun c_52 => ?_)
          · skip
            omega
          · skip
            refine z_iconst ZC dX7_road_55 ?_
            exact z_iret ZC ZE dX7_road_56 (by omega) (by omega) (Nat.le_of_ble_eq_true rfl) ⟨rfl, rfl, by omega, by omega⟩
      · skip
        refine z_iconst ZC dX7_road_31 ?_
        exact z_iret ZC ZE dX7_road_32 (by omega) (by omega) (Nat.le_of_ble_eq_true rfl) ⟨rfl, rfl, by omega, by omega⟩

