/-! ===== ShadowRoads: the small methods ===== -/
set_option maxHeartbeats 4000000 in
set_option maxRecDepth 100000 in
theorem c_X7_within (zl : Launch) (D : va_G) (K : tyK) (v : Int) (lo : Int) (hi : Int) (h1 : -2147483648 ≤ v ∧ v < 2147483648) (h2 : -2147483648 ≤ lo ∧ lo < 2147483648) (h3 : -2147483648 ≤ hi ∧ hi < 2147483648) : Mz zl yX7_within cX7_within 3 (some .boolean) 0 0 0 0 D K [vZ v, vZ lo, vZ hi] [] (fun r_ w2_ gc gs => ∃ (b : Int), r_ = some (vZ b) ∧ w2_ = ([] : va_W) ∧ gc = 0 ∧ gs = 0 ∧ ((b = 1 ∧ (lo ≤ v ∧ v ≤ hi)) ∨ (b = 0 ∧ ¬ (lo ≤ v ∧ v ≤ hi)))) := by
  refine Mz.ofZ (by decide) rfl (Nat.le_of_ble_eq_true rfl) ?_
  intro zp ze zR zs zm zargs zbelow zmeth zc zA zQ ZC ZE hRf hRc hRs hRl
  refine z_iload_n ZC 0 dX7_within_0 rfl rfl ?_
  refine z_iload_n ZC 1 dX7_within_1 rfl rfl ?_
  refine z_icmp_lt ZC 14 dX7_within_2 (by decide) (by omega) (by omega) (fun c_2 => ?_) (fun c_2 => ?_)
  · skip
    refine z_iconst ZC dX7_within_14 ?_
    refine z_zret ZC ZE dX7_within_15 (by omega) (by omega) (by omega) (Nat.le_of_ble_eq_true rfl) ⟨0, rfl, rfl, by omega, by omega, ?_⟩
    · skip
      omega
  · skip
    refine z_iload_n ZC 0 dX7_within_5 rfl rfl ?_
    refine z_iload_n ZC 2 dX7_within_6 rfl rfl ?_
    refine z_icmp_gt ZC 14 dX7_within_7 (by decide) (by omega) (by omega) (fun c_7 => ?_) (fun c_7 => ?_)
    · skip
      refine z_iconst ZC dX7_within_14 ?_
      refine z_zret ZC ZE dX7_within_15 (by omega) (by omega) (by omega) (Nat.le_of_ble_eq_true rfl) ⟨0, rfl, rfl, by omega, by omega, ?_⟩
      · skip
        omega
    · skip
      refine z_iconst ZC dX7_within_10 ?_
      refine z_goto ZC 15 dX7_within_11 (by decide) ?_
      refine z_zret ZC ZE dX7_within_15 (by omega) (by omega) (by omega) (Nat.le_of_ble_eq_true rfl) ⟨1, rfl, rfl, by omega, by omega, ?_⟩
      · skip
        omega

set_option maxHeartbeats 4000000 in
set_option maxRecDepth 100000 in
theorem c_X7_areTwoTowns (zl : Launch) (D : va_G) (K : tyK) (h : Nat) (x : Nat → Nat) (ato : Nat → Nat) (To : Bd) (s1 : Int) (s2 : Int) (hz_s1 : -2147483648 ≤ s1 ∧ s1 < 2147483648) (hz_s2 : -2147483648 ≤ s2 ∧ s2 < 2147483648) (hto : 0 ≤ To.2 3 ∧ To.2 3 ≤ 10) : Mz zl yX7_areTwoTowns cX7_areTwoTowns 3 (some .boolean) 1 21 0 0 D K [.ref h, vZ s1, vZ s2] ((wSh h x) ++ (wTo K (x 0) ato To)) (fun r_ w2_ gc gs => ∃ (v : Int), r_ = some (vZ v) ∧ w2_ = ((wSh h x) ++ (wTo K (x 0) ato To)) ∧ gc = 0 ∧ gs = 0 ∧ ((v = 1 ∧ ((0 ≤ s1 ∧ s1 < To.2 3) ∧ (0 ≤ s2 ∧ s2 < To.2 3) ∧ s1 ≠ s2)) ∨ (v = 0 ∧ ¬ ((0 ≤ s1 ∧ s1 < To.2 3) ∧ (0 ≤ s2 ∧ s2 < To.2 3) ∧ s1 ≠ s2)))) := by
  refine Mz.ofZ (by decide) rfl (Nat.le_of_ble_eq_true rfl) ?_
  intro zp ze zR zs zm zargs zbelow zmeth zc zA zQ ZC ZE hRf hRc hRs hRl
  refine z_aload_n ZC 0 dX7_areTwoTowns_0 rfl rfl ?_
  refine z_get ZC inUX7 0 rfl rfl 0 (by decide) uF_X7_12 rfl dX7_areTwoTowns_1 ?_
  refine z_iload_n ZC 1 dX7_areTwoTowns_4 rfl rfl ?_
  refine z_callV ZC 1 (c_X5_has zl D K (x 0) ato To s1 (by omega) (by omega)) (gdV uM_X7_77 uI_X5_has uS_X5_has uN_X5 uC_X5_has) (by decide +kernel) rfl ⟨by omega, by omega⟩ ⟨by omega, by omega⟩ (Nat.le_of_ble_eq_true rfl) [1, 2, 3] rfl (by decide) rfl rfl rfl rfl dX7_areTwoTowns_5 (fun r w2 gc_5 gs_5 hp => ?_)
  obtain ⟨b_5, rfl, rfl, rfl, rfl, hb_5⟩ := hp
  refine z_ws (ws2 := [(h, .inr (7, [.ref (x 0), .ref (x 1), .ref (x 2), .ref (x 3), .ref (x 4), .ref (x 5)])), ((x 0), .inr (5, [.ref (ato 0), .ref (ato 1), vZ (To.2 2), vZ (To.2 3)])), ((ato 0), .inl (K.1, 10, .inl (ar (To.1 0)))), ((ato 1), .inl (K.1, 10, .inl (ar (To.1 1))))]) rfl ?_
  refine z_st (st2 := [vZ b_5]) rfl ?_
  refine z_if_eq ZC 31 dX7_areTwoTowns_8 (by decide) (by omega) (fun c_8 => ?_) (fun c_8 => ?_)
  · skip
    refine z_iconst ZC dX7_areTwoTowns_31 ?_
    refine z_zret ZC ZE dX7_areTwoTowns_32 (by omega) (by omega) (by omega) (Nat.le_of_ble_eq_true rfl) ⟨0, rfl, rfl, by omega, by omega, ?_⟩
    · skip
      omega
  · skip
    refine z_aload_n ZC 0 dX7_areTwoTowns_11 rfl rfl ?_
    refine z_get ZC inUX7 0 rfl rfl 0 (by decide) uF_X7_12 rfl dX7_areTwoTowns_12 ?_
    refine z_iload_n ZC 2 dX7_areTwoTowns_15 rfl rfl ?_
    refine z_callV ZC 1 (c_X5_has zl D K (x 0) ato To s2 (by omega) (by omega)) (gdV uM_X7_77 uI_X5_has uS_X5_has uN_X5 uC_X5_has) (by decide +kernel) rfl ⟨by omega, by omega⟩ ⟨by omega, by omega⟩ (Nat.le_of_ble_eq_true rfl) [1, 2, 3] rfl (by decide) rfl rfl rfl rfl dX7_areTwoTowns_16 (fun r w2 gc_16 gs_16 hp => ?_)
    obtain ⟨b_16, rfl, rfl, rfl, rfl, hb_16⟩ := hp
    refine z_ws (ws2 := [(h, .inr (7, [.ref (x 0), .ref (x 1), .ref (x 2), .ref (x 3), .ref (x 4), .ref (x 5)])), ((x 0), .inr (5, [.ref (ato 0), .ref (ato 1), vZ (To.2 2), vZ (To.2 3)])), ((ato 0), .inl (K.1, 10, .inl (ar (To.1 0)))), ((ato 1), .inl (K.1, 10, .inl (ar (To.1 1))))]) rfl ?_
    refine z_st (st2 := [vZ b_16]) rfl ?_
    refine z_if_eq ZC 31 dX7_areTwoTowns_19 (by decide) (by omega) (fun c_19 => ?_) (fun c_19 => ?_)
    · skip
      refine z_iconst ZC dX7_areTwoTowns_31 ?_
      refine z_zret ZC ZE dX7_areTwoTowns_32 (by omega) (by omega) (by omega) (Nat.le_of_ble_eq_true rfl) ⟨0, rfl, rfl, by omega, by omega, ?_⟩
      · skip
        omega
    · skip
      refine z_iload_n ZC 1 dX7_areTwoTowns_22 rfl rfl ?_
      refine z_iload_n ZC 2 dX7_areTwoTowns_23 rfl rfl ?_
      refine z_icmp_eq ZC 31 dX7_areTwoTowns_24 (by decide) (by omega) (by omega) (fun c_24 => ?_) (fun c_24 => ?_)
      · skip
        refine z_iconst ZC dX7_areTwoTowns_31 ?_
        refine z_zret ZC ZE dX7_areTwoTowns_32 (by omega) (by omega) (by omega) (Nat.le_of_ble_eq_true rfl) ⟨0, rfl, rfl, by omega, by omega, ?_⟩
        · skip
          omega
      · skip
        refine z_iconst ZC dX7_areTwoTowns_27 ?_
        refine z_goto ZC 32 dX7_areTwoTowns_28 (by decide) ?_
        refine z_zret ZC ZE dX7_areTwoTowns_32 (by omega) (by omega) (by omega) (Nat.le_of_ble_eq_true rfl) ⟨1, rfl, rfl, by omega, by omega, ?_⟩
        · skip
          omega

set_option maxHeartbeats 4000000 in
set_option maxRecDepth 100000 in
theorem c_X7_isOver (zl : Launch) (D : va_G) (K : tyK) (h : Nat) (x : Nat → Nat) (xu : Nat → Nat) (U : Bd) (hour : Int) (hz_hour : -2147483648 ≤ hour ∧ hour < 2147483648) (hnw : 0 ≤ U.2 12 ∧ U.2 12 ≤ 200) : Mz zl yX7_isOver cX7_isOver 2 (some .boolean) 0 0 0 0 D K [.ref h, vZ hour] ((wSh h x) ++ (wTr K (x 3) (upf (upf (upf xu 0 (x 0)) 1 (x 1)) 2 (x 2)) U)) (fun r_ w2_ gc gs => ∃ (v : Int), r_ = some (vZ v) ∧ w2_ = ((wSh h x) ++ (wTr K (x 3) (upf (upf (upf xu 0 (x 0)) 1 (x 1)) 2 (x 2)) U)) ∧ gc = 0 ∧ gs = 0 ∧ ((v = 1 ∧ (0 ≤ hour ∧ hour < U.2 12 ∧ hour < 200)) ∨ (v = 0 ∧ ¬ (0 ≤ hour ∧ hour < U.2 12 ∧ hour < 200)))) := by
  refine Mz.ofZ (by decide) rfl (Nat.le_of_ble_eq_true rfl) ?_
  intro zp ze zR zs zm zargs zbelow zmeth zc zA zQ ZC ZE hRf hRc hRs hRl
  refine z_iload_n ZC 1 dX7_isOver_0 rfl rfl ?_
  refine z_if_lt ZC 26 dX7_isOver_1 (by decide) (by omega) (fun c_1 => ?_) (fun c_1 => ?_)
  · skip
    refine z_iconst ZC dX7_isOver_26 ?_
    refine z_zret ZC ZE dX7_isOver_27 (by omega) (by omega) (by omega) (Nat.le_of_ble_eq_true rfl) ⟨0, rfl, rfl, by omega, by omega, ?_⟩
    · skip
      omega
  · skip
    refine z_iload_n ZC 1 dX7_isOver_4 rfl rfl ?_
    refine z_aload_n ZC 0 dX7_isOver_5 rfl rfl ?_
    refine z_get ZC inUX7 0 rfl rfl 3 (by decide) uF_X7_35 rfl dX7_isOver_6 ?_
    refine z_get ZC inUX6 1 rfl rfl 11 (by decide) uF_X7_87 rfl dX7_isOver_9 ?_
    refine z_icmp_ge ZC 26 dX7_isOver_12 (by decide) (by omega) (by omega) (fun c_12 => ?_) (fun c_12 => ?_)
    · skip
      refine z_iconst ZC dX7_isOver_26 ?_
      refine z_zret ZC ZE dX7_isOver_27 (by omega) (by omega) (by omega) (Nat.le_of_ble_eq_true rfl) ⟨0, rfl, rfl, by omega, by omega, ?_⟩
      · skip
        omega
    · skip
      refine z_iload_n ZC 1 dX7_isOver_15 rfl rfl ?_
      refine z_sipush ZC dX7_isOver_16 (by decide) ?_
      refine z_icmp_ge ZC 26 dX7_isOver_19 (by decide) (by omega) (by omega) (fun c_19 => ?_) (fun c_19 => ?_)
      · skip
        refine z_iconst ZC dX7_isOver_26 ?_
        refine z_zret ZC ZE dX7_isOver_27 (by omega) (by omega) (by omega) (Nat.le_of_ble_eq_true rfl) ⟨0, rfl, rfl, by omega, by omega, ?_⟩
        · skip
          omega
      · skip
        refine z_iconst ZC dX7_isOver_22 ?_
        refine z_goto ZC 27 dX7_isOver_23 (by decide) ?_
        refine z_zret ZC ZE dX7_isOver_27 (by omega) (by omega) (by omega) (Nat.le_of_ble_eq_true rfl) ⟨1, rfl, rfl, by omega, by omega, ?_⟩
        · skip
          omega

set_option maxHeartbeats 4000000 in
set_option maxRecDepth 100000 in
theorem c_X7_logOf (zl : Launch) (D : va_G) (K : tyK) (h : Nat) (x : Nat → Nat) (an : Nat → Nat) (Ne : Bd) (f : Nat → Option Nat) (road : Int) (hl : Nat) (hne : 0 ≤ Ne.2 8 ∧ Ne.2 8 ≤ 16) (hr : 0 ≤ road ∧ road < Ne.2 8) (hf : f road.toNat = some hl) : Mz zl yX7_logOf cX7_logOf 2 (some (.object "ShadowRoads$Log")) 1 21 0 0 D K [.ref h, vZ road] ((wSh h x) ++ (wNe K (x 1) an Ne) ++ (wLA K (x 4) f)) (fun r_ w2_ gc gs => r_ = some (.ref hl) ∧ w2_ = ((wSh h x) ++ (wNe K (x 1) an Ne) ++ (wLA K (x 4) f)) ∧ gc = 0 ∧ gs = 0) := by
  refine Mz.ofZ (by decide) rfl (Nat.le_of_ble_eq_true rfl) ?_
  intro zp ze zR zs zm zargs zbelow zmeth zc zA zQ ZC ZE hRf hRc hRs hRl
  refine z_aload_n ZC 0 dX7_logOf_0 rfl rfl ?_
  refine z_get ZC inUX7 0 rfl rfl 1 (by decide) uF_X7_19 rfl dX7_logOf_1 ?_
  refine z_iload_n ZC 1 dX7_logOf_4 rfl rfl ?_
  refine z_callV ZC 1 (c_X4_has zl D K (x 1) an Ne road (by omega) (by omega)) (gdV uM_X7_129 uI_X4_has uS_X4_has uN_X4 uC_X4_has) (by decide +kernel) rfl ⟨by omega, by omega⟩ ⟨by omega, by omega⟩ (Nat.le_of_ble_eq_true rfl) [1, 2, 3, 4, 5, 6, 7, 8, 9] rfl (by decide) rfl rfl rfl rfl dX7_logOf_5 (fun r w2 gc_5 gs_5 hp => ?_)
  obtain ⟨b_5, rfl, rfl, rfl, rfl, hb_5⟩ := hp
  refine z_ws (ws2 := [(h, .inr (7, [.ref (x 0), .ref (x 1), .ref (x 2), .ref (x 3), .ref (x 4), .ref (x 5)])), ((x 1), .inr (4, [.ref (an 0), .ref (an 1), .ref (an 2), .ref (an 3), .ref (an 4), .ref (an 5), .ref (an 6), .ref (an 7), vZ (Ne.2 8)])), ((an 0), .inl (K.1, 16, .inl (ar (Ne.1 0)))), ((an 1), .inl (K.1, 16, .inl (ar (Ne.1 1)))), ((an 2), .inl (K.1, 16, .inl (ar (Ne.1 2)))), ((an 3), .inl (K.1, 16, .inl (ar (Ne.1 3)))), ((an 4), .inl (K.1, 16, .inl (ar (Ne.1 4)))), ((an 5), .inl (K.1, 16, .inl (ar (Ne.1 5)))), ((an 6), .inl (K.1, 100, .inl (ar (Ne.1 6)))), ((an 7), .inl (K.1, 100, .inl (ar (Ne.1 7)))), ((x 4), .inl (K.2.2, 16, .inr (.inr (.inr (.inr f)))))]) rfl ?_
  refine z_st (st2 := [vZ b_5]) rfl ?_
  refine z_if_eq ZC 20 dX7_logOf_8 (by decide) (by omega) (fun c_8 => ?_) (fun c_8 => ?_)
  · skip
    omega
  · skip
    refine z_aload_n ZC 0 dX7_logOf_11 rfl rfl ?_
    refine z_get ZC inUX7 0 rfl rfl 4 (by decide) uF_X7_41 rfl dX7_logOf_12 ?_
    refine z_iload_n ZC 1 dX7_logOf_15 rfl rfl ?_
    refine z_aald ZC (v := hl) 10 rfl dX7_logOf_16 (by omega) (hf) ?_
    refine z_goto ZC 21 dX7_logOf_17 (by decide) ?_
    exact z_aret ZC ZE (by first | exact Or.inl ⟨_, rfl⟩ | exact Or.inr ⟨_, rfl⟩) (by first | exact Or.inl rfl | exact Or.inr ⟨_, rfl⟩) dX7_logOf_21 (by omega) (by omega) (Nat.le_of_ble_eq_true rfl) ⟨rfl, rfl, by omega, by omega⟩

set_option maxHeartbeats 4000000 in
set_option maxRecDepth 100000 in
theorem c_X7_logOfN (zl : Launch) (D : va_G) (K : tyK) (h : Nat) (x : Nat → Nat) (an : Nat → Nat) (Ne : Bd) (f : Nat → Option Nat) (road : Int) (hne : 0 ≤ Ne.2 8 ∧ Ne.2 8 ≤ 16) (hz : -2147483648 ≤ road ∧ road < 2147483648) (hr : ¬ (0 ≤ road ∧ road < Ne.2 8)) : Mz zl yX7_logOf cX7_logOf 2 (some (.object "ShadowRoads$Log")) 1 21 0 0 D K [.ref h, vZ road] ((wSh h x) ++ (wNe K (x 1) an Ne) ++ (wLA K (x 4) f)) (fun r_ w2_ gc gs => r_ = some (.null) ∧ w2_ = ((wSh h x) ++ (wNe K (x 1) an Ne) ++ (wLA K (x 4) f)) ∧ gc = 0 ∧ gs = 0) := by
  refine Mz.ofZ (by decide) rfl (Nat.le_of_ble_eq_true rfl) ?_
  intro zp ze zR zs zm zargs zbelow zmeth zc zA zQ ZC ZE hRf hRc hRs hRl
  refine z_aload_n ZC 0 dX7_logOf_0 rfl rfl ?_
  refine z_get ZC inUX7 0 rfl rfl 1 (by decide) uF_X7_19 rfl dX7_logOf_1 ?_
  refine z_iload_n ZC 1 dX7_logOf_4 rfl rfl ?_
  refine z_callV ZC 1 (c_X4_has zl D K (x 1) an Ne road (by omega) (by omega)) (gdV uM_X7_129 uI_X4_has uS_X4_has uN_X4 uC_X4_has) (by decide +kernel) rfl ⟨by omega, by omega⟩ ⟨by omega, by omega⟩ (Nat.le_of_ble_eq_true rfl) [1, 2, 3, 4, 5, 6, 7, 8, 9] rfl (by decide) rfl rfl rfl rfl dX7_logOf_5 (fun r w2 gc_5 gs_5 hp => ?_)
  obtain ⟨b_5, rfl, rfl, rfl, rfl, hb_5⟩ := hp
  refine z_ws (ws2 := [(h, .inr (7, [.ref (x 0), .ref (x 1), .ref (x 2), .ref (x 3), .ref (x 4), .ref (x 5)])), ((x 1), .inr (4, [.ref (an 0), .ref (an 1), .ref (an 2), .ref (an 3), .ref (an 4), .ref (an 5), .ref (an 6), .ref (an 7), vZ (Ne.2 8)])), ((an 0), .inl (K.1, 16, .inl (ar (Ne.1 0)))), ((an 1), .inl (K.1, 16, .inl (ar (Ne.1 1)))), ((an 2), .inl (K.1, 16, .inl (ar (Ne.1 2)))), ((an 3), .inl (K.1, 16, .inl (ar (Ne.1 3)))), ((an 4), .inl (K.1, 16, .inl (ar (Ne.1 4)))), ((an 5), .inl (K.1, 16, .inl (ar (Ne.1 5)))), ((an 6), .inl (K.1, 100, .inl (ar (Ne.1 6)))), ((an 7), .inl (K.1, 100, .inl (ar (Ne.1 7)))), ((x 4), .inl (K.2.2, 16, .inr (.inr (.inr (.inr f)))))]) rfl ?_
  refine z_st (st2 := [vZ b_5]) rfl ?_
  refine z_if_eq ZC 20 dX7_logOf_8 (by decide) (by omega) (fun c_8 => ?_) (fun c_8 => ?_)
  · skip
    refine z_null ZC dX7_logOf_20 ?_
    exact z_aret ZC ZE (by first | exact Or.inl ⟨_, rfl⟩ | exact Or.inr ⟨_, rfl⟩) (by first | exact Or.inl rfl | exact Or.inr ⟨_, rfl⟩) dX7_logOf_21 (by omega) (by omega) (Nat.le_of_ble_eq_true rfl) ⟨rfl, rfl, by omega, by omega⟩
  · skip
    omega

set_option maxHeartbeats 4000000 in
set_option maxRecDepth 100000 in
theorem c_X7_town (zl : Launch) (D : va_G) (K : tyK) (h : Nat) (x : Nat → Nat) (ato : Nat → Nat) (To : Bd) (xu : Nat → Nat) (U : Bd) (xf : Nat → Nat) (F : Bd) (far : Int) (wat : Int) (hz_far : -2147483648 ≤ far ∧ far < 2147483648) (hz_wat : -2147483648 ≤ wat ∧ wat < 2147483648) (hto : 0 ≤ To.2 3 ∧ To.2 3 ≤ 10) : Mz zl yX7_town cX7_town 4 (some .int) 1 22 0 0 D K [.ref h, vZ far, vZ wat] ((wSh h x) ++ (wTo K (x 0) ato To) ++ (wTr K (x 3) (upf (upf (upf xu 0 (x 0)) 1 (x 1)) 2 (x 2)) U) ++ (wFo K (x 5) (upf xf 0 (x 3)) F)) (fun r_ w2_ gc gs => ∃ (To2 : Bd), ∃ (U2 : Bd), ∃ (F2 : Bd), ∃ (v : Int), r_ = some (vZ v) ∧ w2_ = ((wSh h x) ++ (wTo K (x 0) ato To2) ++ (wTr K (x 3) (upf (upf (upf xu 0 (x 0)) 1 (x 1)) 2 (x 2)) U2) ++ (wFo K (x 5) (upf xf 0 (x 3)) F2)) ∧ gc = 0 ∧ gs = 0 ∧ ((((0 ≤ far ∧ far ≤ 99) ∧ (0 ≤ wat ∧ wat ≤ 1000000) ∧ To.2 3 < 10) ∧ v = To.2 3 ∧ To2 = ((upf To.1 0 (upz (To.1 0) (To.2 3) far)), (upf To.2 3 (To.2 3 + 1))) ∧ U2 = ((upf U.1 9 (upz (U.1 9) (To.2 3) wat)), U.2) ∧ F2 = (F.1, (upf (upf F.2 5 0) 8 0))) ∨ (¬ ((0 ≤ far ∧ far ≤ 99) ∧ (0 ≤ wat ∧ wat ≤ 1000000) ∧ To.2 3 < 10) ∧ v = -1 ∧ To2 = To ∧ U2 = U ∧ F2 = F))) := by
  refine Mz.ofZ (by decide) rfl (Nat.le_of_ble_eq_true rfl) ?_
  intro zp ze zR zs zm zargs zbelow zmeth zc zA zQ ZC ZE hRf hRc hRs hRl
  refine z_iload_n ZC 1 dX7_town_0 rfl rfl ?_
  refine z_iconst ZC dX7_town_1 ?_
  refine z_bipush ZC dX7_town_2 (by decide) ?_
  refine z_callS ZC 3 (c_X7_within zl D K far 0 99 (by omega) (by omega) (by omega)) (gdS uM_X7_54 uZ_X7_within uN_X7 uC_X7_within) (by decide +kernel) rfl ⟨by omega, by omega⟩ ⟨by omega, by omega⟩ (Nat.le_of_ble_eq_true rfl) [] rfl (by decide) rfl dX7_town_4 (fun r w2 gc_4 gs_4 hp => ?_)
  obtain ⟨b_4, rfl, rfl, rfl, rfl, hb_4⟩ := hp
  refine z_st (st2 := [vZ b_4]) rfl ?_
  refine z_if_eq ZC 32 dX7_town_7 (by decide) (by omega) (fun c_7 => ?_) (fun c_7 => ?_)
  · skip
    refine z_iconst ZC dX7_town_32 ?_
    refine z_iret ZC ZE dX7_town_33 (by omega) (by omega) (Nat.le_of_ble_eq_true rfl) ⟨To, U, F, (-1), rfl, rfl, by omega, by omega, ?_⟩
    · skip
      first | (left; exact ⟨by omega, rfl, rfl, rfl, rfl⟩) | (right; exact ⟨by omega, rfl, rfl, rfl, rfl⟩)
  · skip
    refine z_iload_n ZC 2 dX7_town_10 rfl rfl ?_
    refine z_iconst ZC dX7_town_11 ?_
    refine z_ldc ZC (n := 1000000) dX7_town_12 uJ_X7_58 (by decide) ?_
    refine z_callS ZC 3 (c_X7_within zl D K wat 0 1000000 (by omega) (by omega) (by omega)) (gdS uM_X7_54 uZ_X7_within uN_X7 uC_X7_within) (by decide +kernel) rfl ⟨by omega, by omega⟩ ⟨by omega, by omega⟩ (Nat.le_of_ble_eq_true rfl) [] rfl (by decide) rfl dX7_town_14 (fun r w2 gc_14 gs_14 hp => ?_)
    obtain ⟨b_14, rfl, rfl, rfl, rfl, hb_14⟩ := hp
    refine z_st (st2 := [vZ b_14]) rfl ?_
    refine z_if_eq ZC 32 dX7_town_17 (by decide) (by omega) (fun c_17 => ?_) (fun c_17 => ?_)
    · skip
      refine z_iconst ZC dX7_town_32 ?_
      refine z_iret ZC ZE dX7_town_33 (by omega) (by omega) (Nat.le_of_ble_eq_true rfl) ⟨To, U, F, (-1), rfl, rfl, by omega, by omega, ?_⟩
      · skip
        first | (left; exact ⟨by omega, rfl, rfl, rfl, rfl⟩) | (right; exact ⟨by omega, rfl, rfl, rfl, rfl⟩)
    · skip
      refine z_aload_n ZC 0 dX7_town_20 rfl rfl ?_
      refine z_get ZC inUX7 0 rfl rfl 0 (by decide) uF_X7_12 rfl dX7_town_21 ?_
      refine z_get ZC inUX5 1 rfl rfl 3 (by decide) uF_X7_59 rfl dX7_town_24 ?_
      refine z_bipush ZC dX7_town_27 (by decide) ?_
      refine z_icmp_lt ZC 34 dX7_town_29 (by decide) (by omega) (by omega) (fun c_29 => ?_) (fun c_29 => ?_)
      · skip
        refine z_aload_n ZC 0 dX7_town_34 rfl rfl ?_
        refine z_get ZC inUX7 0 rfl rfl 0 (by decide) uF_X7_12 rfl dX7_town_35 ?_
        refine z_iload_n ZC 1 dX7_town_38 rfl rfl ?_
        refine z_callV ZC 1 (c_X5_add zl D K (x 0) ato To far (by omega)) (gdV uM_X7_63 uI_X5_add uS_X5_add uN_X5 uC_X5_add) (by decide +kernel) rfl ⟨by omega, by omega⟩ ⟨by omega, by omega⟩ (Nat.le_of_ble_eq_true rfl) [1, 2, 3] rfl (by decide) rfl rfl rfl rfl dX7_town_39 (fun r w2 gc_39 gs_39 hp => ?_)
        obtain ⟨rfl, rfl, rfl, rfl⟩ := hp
        refine z_ws (ws2 := [(h, .inr (7, [.ref (x 0), .ref (x 1), .ref (x 2), .ref (x 3), .ref (x 4), .ref (x 5)])), ((x 0), .inr (5, [.ref (ato 0), .ref (ato 1), vZ (To.2 2), vZ (To.2 3 + 1)])), ((ato 0), .inl (K.1, 10, .inl (ar (upz (To.1 0) (To.2 3) far)))), ((ato 1), .inl (K.1, 10, .inl (ar (To.1 1)))), ((x 3), .inr (6, [.ref (x 0), .ref (x 1), .ref (x 2), .ref (xu 3), .ref (xu 5), .ref (xu 6), .ref (xu 7), .ref (xu 8), .ref (xu 9), .ref (xu 10), .ref (xu 11), vZ (U.2 12), vZ (U.2 13), vZ (U.2 14), vZ (U.2 15)])), ((xu 5), .inl (K.1, 8, .inl (ar (U.1 5)))), ((xu 6), .inl (K.1, 8, .inl (ar (U.1 6)))), ((xu 7), .inl (K.1, 8, .inl (ar (U.1 7)))), ((xu 8), .inl (K.1, 10, .inl (ar (U.1 8)))), ((xu 9), .inl (K.1, 10, .inl (ar (U.1 9)))), ((xu 10), .inl (K.1, 10, .inl (ar (U.1 10)))), ((xu 11), .inl (K.1, 16, .inl (ar (U.1 11)))), ((x 5), .inr (1, [.ref (x 3), .ref (xf 1), .ref (xf 2), .ref (xf 3), .ref (xf 4), vZ (F.2 5), vZ (F.2 6), vZ (F.2 7), vZ (F.2 8), vZ (F.2 9), vZ (F.2 10), vZ (F.2 11)])), ((xf 2), .inl (K.1, 10, .inl (ar (F.1 2)))), ((xf 3), .inl (K.1, 4, .inl (ar (F.1 3)))), ((xf 4), .inl (K.1, 4, .inl (ar (F.1 4))))]) rfl ?_
        refine z_st (st2 := [vZ (To.2 3)]) rfl ?_
        refine z_istore_n ZC 3 dX7_town_42 rfl (by decide) ?_
        refine z_aload_n ZC 0 dX7_town_43 rfl rfl ?_
        refine z_get ZC inUX7 0 rfl rfl 3 (by decide) uF_X7_35 rfl dX7_town_44 ?_
        refine z_get ZC inUX6 4 rfl rfl 8 (by decide) uF_X7_67 rfl dX7_town_47 ?_
        refine z_iload_n ZC 3 dX7_town_50 rfl rfl ?_
        refine z_iload_n ZC 2 dX7_town_51 rfl rfl ?_
        refine z_iast ZC 9 rfl dX7_town_52 (by omega) ?_
        refine z_aload_n ZC 0 dX7_town_53 rfl rfl ?_
        refine z_get ZC inUX7 0 rfl rfl 5 (by decide) uF_X7_50 rfl dX7_town_54 ?_
        refine z_ws (ws2 := [(h, .inr (7, [.ref (x 0), .ref (x 1), .ref (x 2), .ref (x 3), .ref (x 4), .ref (x 5)])), ((x 0), .inr (5, [.ref (ato 0), .ref (ato 1), vZ (To.2 2), vZ (To.2 3 + 1)])), ((ato 0), .inl (K.1, 10, .inl (ar (upz (To.1 0) (To.2 3) far)))), ((ato 1), .inl (K.1, 10, .inl (ar (To.1 1)))), ((x 3), .inr (6, [.ref (x 0), .ref (x 1), .ref (x 2), .ref (xu 3), .ref (xu 5), .ref (xu 6), .ref (xu 7), .ref (xu 8), .ref (xu 9), .ref (xu 10), .ref (xu 11), vZ (U.2 12), vZ (U.2 13), vZ (U.2 14), vZ (U.2 15)])), ((xu 5), .inl (K.1, 8, .inl (ar (U.1 5)))), ((xu 6), .inl (K.1, 8, .inl (ar (U.1 6)))), ((xu 7), .inl (K.1, 8, .inl (ar (U.1 7)))), ((xu 8), .inl (K.1, 10, .inl (ar (U.1 8)))), ((xu 9), .inl (K.1, 10, .inl (ar (upz (U.1 9) (To.2 3) wat)))), ((xu 10), .inl (K.1, 10, .inl (ar (U.1 10)))), ((xu 11), .inl (K.1, 16, .inl (ar (U.1 11)))), ((x 5), .inr (1, [.ref (x 3), .ref (xf 1), .ref (xf 2), .ref (xf 3), .ref (xf 4), vZ (F.2 5), vZ (F.2 6), vZ (F.2 7), vZ (F.2 8), vZ (F.2 9), vZ (F.2 10), vZ (F.2 11)])), ((xf 2), .inl (K.1, 10, .inl (ar (F.1 2)))), ((xf 3), .inl (K.1, 4, .inl (ar (F.1 3)))), ((xf 4), .inl (K.1, 4, .inl (ar (F.1 4))))]) rfl ?_
        refine z_callV ZC 0 (c_X1_forget zl D K (x 5) (upf xf 0 (x 3)) F ) (gdV uM_X7_71 uI_X1_forget uS_X1_forget uN_X1 uC_X1_forget) (by decide +kernel) rfl ⟨by omega, by omega⟩ ⟨by omega, by omega⟩ (Nat.le_of_ble_eq_true rfl) [12, 13, 14, 15] rfl (by decide) rfl rfl rfl rfl dX7_town_57 (fun r w2 gc_57 gs_57 hp => ?_)
        obtain ⟨rfl, rfl, rfl, rfl⟩ := hp
        refine z_ws (ws2 := [(h, .inr (7, [.ref (x 0), .ref (x 1), .ref (x 2), .ref (x 3), .ref (x 4), .ref (x 5)])), ((x 0), .inr (5, [.ref (ato 0), .ref (ato 1), vZ (To.2 2), vZ (To.2 3 + 1)])), ((ato 0), .inl (K.1, 10, .inl (ar (upz (To.1 0) (To.2 3) far)))), ((ato 1), .inl (K.1, 10, .inl (ar (To.1 1)))), ((x 3), .inr (6, [.ref (x 0), .ref (x 1), .ref (x 2), .ref (xu 3), .ref (xu 5), .ref (xu 6), .ref (xu 7), .ref (xu 8), .ref (xu 9), .ref (xu 10), .ref (xu 11), vZ (U.2 12), vZ (U.2 13), vZ (U.2 14), vZ (U.2 15)])), ((xu 5), .inl (K.1, 8, .inl (ar (U.1 5)))), ((xu 6), .inl (K.1, 8, .inl (ar (U.1 6)))), ((xu 7), .inl (K.1, 8, .inl (ar (U.1 7)))), ((xu 8), .inl (K.1, 10, .inl (ar (U.1 8)))), ((xu 9), .inl (K.1, 10, .inl (ar (upz (U.1 9) (To.2 3) wat)))), ((xu 10), .inl (K.1, 10, .inl (ar (U.1 10)))), ((xu 11), .inl (K.1, 16, .inl (ar (U.1 11)))), ((x 5), .inr (1, [.ref (x 3), .ref (xf 1), .ref (xf 2), .ref (xf 3), .ref (xf 4), vZ 0, vZ (F.2 6), vZ (F.2 7), vZ 0, vZ (F.2 9), vZ (F.2 10), vZ (F.2 11)])), ((xf 2), .inl (K.1, 10, .inl (ar (F.1 2)))), ((xf 3), .inl (K.1, 4, .inl (ar (F.1 3)))), ((xf 4), .inl (K.1, 4, .inl (ar (F.1 4))))]) rfl ?_
        refine z_st (st2 := []) rfl ?_
        refine z_iload_n ZC 3 dX7_town_60 rfl rfl ?_
        refine z_iret ZC ZE dX7_town_61 (by omega) (by omega) (Nat.le_of_ble_eq_true rfl) ⟨((upf To.1 0 (upz (To.1 0) (To.2 3) far)), (upf To.2 3 (To.2 3 + 1))), ((upf U.1 9 (upz (U.1 9) (To.2 3) wat)), U.2), (F.1, (upf (upf F.2 5 0) 8 0)), (To.2 3), rfl, rfl, by omega, by omega, ?_⟩
        · skip
          first | (left; exact ⟨by omega, rfl, rfl, rfl, rfl⟩) | (right; exact ⟨by omega, rfl, rfl, rfl, rfl⟩)
      · skip
        refine z_iconst ZC dX7_town_32 ?_
        refine z_iret ZC ZE dX7_town_33 (by omega) (by omega) (Nat.le_of_ble_eq_true rfl) ⟨To, U, F, (-1), rfl, rfl, by omega, by omega, ?_⟩
        · skip
          first | (left; exact ⟨by omega, rfl, rfl, rfl, rfl⟩) | (right; exact ⟨by omega, rfl, rfl, rfl, rfl⟩)

set_option maxHeartbeats 4000000 in
set_option maxRecDepth 100000 in
theorem c_X7_path (zl : Launch) (D : va_G) (K : tyK) (h : Nat) (x : Nat → Nat) (ato : Nat → Nat) (To : Bd) (w : Int) (hz_w : -2147483648 ≤ w ∧ w < 2147483648) : Mz zl yX7_path cX7_path 2 (some .boolean) 1 22 0 0 D K [.ref h, vZ w] ((wSh h x) ++ (wTo K (x 0) ato To)) (fun r_ w2_ gc gs => ∃ (To2 : Bd), ∃ (v : Int), r_ = some (vZ v) ∧ w2_ = ((wSh h x) ++ (wTo K (x 0) ato To2)) ∧ gc = 0 ∧ gs = 0 ∧ (((1 ≤ w ∧ w ≤ 100) ∧ v = 1 ∧ To2 = (To.1, (upf To.2 2 w))) ∨ (¬ (1 ≤ w ∧ w ≤ 100) ∧ v = 0 ∧ To2 = To))) := by
  refine Mz.ofZ (by decide) rfl (Nat.le_of_ble_eq_true rfl) ?_
  intro zp ze zR zs zm zargs zbelow zmeth zc zA zQ ZC ZE hRf hRc hRs hRl
  refine z_iload_n ZC 1 dX7_path_0 rfl rfl ?_
  refine z_iconst ZC dX7_path_1 ?_
  refine z_bipush ZC dX7_path_2 (by decide) ?_
  refine z_callS ZC 3 (c_X7_within zl D K w 1 100 (by omega) (by omega) (by omega)) (gdS uM_X7_54 uZ_X7_within uN_X7 uC_X7_within) (by decide +kernel) rfl ⟨by omega, by omega⟩ ⟨by omega, by omega⟩ (Nat.le_of_ble_eq_true rfl) [] rfl (by decide) rfl dX7_path_4 (fun r w2 gc_4 gs_4 hp => ?_)
  obtain ⟨b_4, rfl, rfl, rfl, rfl, hb_4⟩ := hp
  refine z_st (st2 := [vZ b_4]) rfl ?_
  refine z_if_ne ZC 12 dX7_path_7 (by decide) (by omega) (fun c_7 => ?_) (fun c_7 => ?_)
  · skip
    refine z_aload_n ZC 0 dX7_path_12 rfl rfl ?_
    refine z_get ZC inUX7 0 rfl rfl 0 (by decide) uF_X7_12 rfl dX7_path_13 ?_
    refine z_iload_n ZC 1 dX7_path_16 rfl rfl ?_
    refine z_put ZC inUX5 tyX5_ok nmX5 1 rfl rfl 2 (by decide) uF_X7_74 rfl (rfl) (rfl) (Nat.le_of_ble_eq_true rfl) dX7_path_17 ?_
    refine z_iconst ZC dX7_path_20 ?_
    refine z_zret ZC ZE dX7_path_21 (by omega) (by omega) (by omega) (Nat.le_of_ble_eq_true rfl) ⟨(To.1, (upf To.2 2 w)), 1, rfl, rfl, by omega, by omega, ?_⟩
    · skip
      first | (left; exact ⟨by omega, rfl, rfl⟩) | (right; exact ⟨by omega, rfl, rfl⟩)
  · skip
    refine z_iconst ZC dX7_path_10 ?_
    refine z_zret ZC ZE dX7_path_11 (by omega) (by omega) (by omega) (Nat.le_of_ble_eq_true rfl) ⟨To, 0, rfl, rfl, by omega, by omega, ?_⟩
    · skip
      first | (left; exact ⟨by omega, rfl, rfl⟩) | (right; exact ⟨by omega, rfl, rfl⟩)

set_option maxHeartbeats 4000000 in
set_option maxRecDepth 100000 in
theorem c_X7_seconds (zl : Launch) (D : va_G) (K : tyK) (h : Nat) (x : Nat → Nat) (ato : Nat → Nat) (To : Bd) (t : Int) (hz_t : -2147483648 ≤ t ∧ t < 2147483648) (hto : 0 ≤ To.2 3 ∧ To.2 3 ≤ 10) (htw : (1 ≤ To.2 2 ∧ To.2 2 ≤ 100) ∧ ∀ t : Int, 0 ≤ t → t < To.2 3 → (0 ≤ To.1 0 t ∧ To.1 0 t ≤ 99) ∧ (0 ≤ To.1 1 t ∧ To.1 1 t ≤ 100)) : Mz zl yX7_seconds cX7_seconds 2 (some .int) 1 23 0 0 D K [.ref h, vZ t] ((wSh h x) ++ (wTo K (x 0) ato To)) (fun r_ w2_ gc gs => ∃ (v : Int), r_ = some (vZ v) ∧ w2_ = ((wSh h x) ++ (wTo K (x 0) ato To)) ∧ gc = 0 ∧ gs = 0 ∧ (((0 ≤ t ∧ t < To.2 3) ∧ v = drk (To.2 2) (To.1 0 t) ∧ True) ∨ (¬ (0 ≤ t ∧ t < To.2 3) ∧ v = -1 ∧ True))) := by
  refine Mz.ofZ (by decide) rfl (Nat.le_of_ble_eq_true rfl) ?_
  intro zp ze zR zs zm zargs zbelow zmeth zc zA zQ ZC ZE hRf hRc hRs hRl
  refine z_aload_n ZC 0 dX7_seconds_0 rfl rfl ?_
  refine z_get ZC inUX7 0 rfl rfl 0 (by decide) uF_X7_12 rfl dX7_seconds_1 ?_
  refine z_iload_n ZC 1 dX7_seconds_4 rfl rfl ?_
  refine z_callV ZC 1 (c_X5_has zl D K (x 0) ato To t (by omega) (by omega)) (gdV uM_X7_77 uI_X5_has uS_X5_has uN_X5 uC_X5_has) (by decide +kernel) rfl ⟨by omega, by omega⟩ ⟨by omega, by omega⟩ (Nat.le_of_ble_eq_true rfl) [1, 2, 3] rfl (by decide) rfl rfl rfl rfl dX7_seconds_5 (fun r w2 gc_5 gs_5 hp => ?_)
  obtain ⟨b_5, rfl, rfl, rfl, rfl, hb_5⟩ := hp
  refine z_ws (ws2 := [(h, .inr (7, [.ref (x 0), .ref (x 1), .ref (x 2), .ref (x 3), .ref (x 4), .ref (x 5)])), ((x 0), .inr (5, [.ref (ato 0), .ref (ato 1), vZ (To.2 2), vZ (To.2 3)])), ((ato 0), .inl (K.1, 10, .inl (ar (To.1 0)))), ((ato 1), .inl (K.1, 10, .inl (ar (To.1 1))))]) rfl ?_
  refine z_st (st2 := [vZ b_5]) rfl ?_
  refine z_if_eq ZC 22 dX7_seconds_8 (by decide) (by omega) (fun c_8 => ?_) (fun c_8 => ?_)
  · skip
    refine z_iconst ZC dX7_seconds_22 ?_
    refine z_iret ZC ZE dX7_seconds_23 (by omega) (by omega) (Nat.le_of_ble_eq_true rfl) ⟨(-1), rfl, rfl, by omega, by omega, ?_⟩
    · skip
      right; exact ⟨by omega, rfl, trivial⟩
  · skip
    refine z_aload_n ZC 0 dX7_seconds_11 rfl rfl ?_
    refine z_get ZC inUX7 0 rfl rfl 0 (by decide) uF_X7_12 rfl dX7_seconds_12 ?_
    refine z_iload_n ZC 1 dX7_seconds_15 rfl rfl ?_
    refine z_callV ZC 1 (c_X5_darkness zl D K (x 0) ato To t (by omega) (htw.1) ((htw.2 t (by omega) (by omega)).1)) (gdV uM_X7_81 uI_X5_darkness uS_X5_darkness uN_X5 uC_X5_darkness) (by decide +kernel) rfl ⟨by omega, by omega⟩ ⟨by omega, by omega⟩ (Nat.le_of_ble_eq_true rfl) [1, 2, 3] rfl (by decide) rfl rfl rfl rfl dX7_seconds_16 (fun r w2 gc_16 gs_16 hp => ?_)
    obtain ⟨d_16, rfl, rfl, rfl, rfl, hd_16⟩ := hp
    refine z_ws (ws2 := [(h, .inr (7, [.ref (x 0), .ref (x 1), .ref (x 2), .ref (x 3), .ref (x 4), .ref (x 5)])), ((x 0), .inr (5, [.ref (ato 0), .ref (ato 1), vZ (To.2 2), vZ (To.2 3)])), ((ato 0), .inl (K.1, 10, .inl (ar (To.1 0)))), ((ato 1), .inl (K.1, 10, .inl (ar (To.1 1))))]) rfl ?_
    refine z_st (st2 := [vZ d_16]) rfl ?_
    refine z_goto ZC 23 dX7_seconds_19 (by decide) ?_
    refine z_iret ZC ZE dX7_seconds_23 (by omega) (by omega) (Nat.le_of_ble_eq_true rfl) ⟨d_16, rfl, rfl, by omega, by omega, ?_⟩
    · skip
      left; exact ⟨by omega, hd_16, trivial⟩

set_option maxHeartbeats 4000000 in
set_option maxRecDepth 100000 in
theorem c_X7_clouds (zl : Launch) (D : va_G) (K : tyK) (h : Nat) (x : Nat → Nat) (ato : Nat → Nat) (To : Bd) (t : Int) (pa : Int) (hz_t : -2147483648 ≤ t ∧ t < 2147483648) (hz_pa : -2147483648 ≤ pa ∧ pa < 2147483648) (hto : 0 ≤ To.2 3 ∧ To.2 3 ≤ 10) : Mz zl yX7_clouds cX7_clouds 3 (some .boolean) 1 22 0 0 D K [.ref h, vZ t, vZ pa] ((wSh h x) ++ (wTo K (x 0) ato To)) (fun r_ w2_ gc gs => ∃ (To2 : Bd), ∃ (v : Int), r_ = some (vZ v) ∧ w2_ = ((wSh h x) ++ (wTo K (x 0) ato To2)) ∧ gc = 0 ∧ gs = 0 ∧ ((((0 ≤ t ∧ t < To.2 3) ∧ (0 ≤ pa ∧ pa ≤ 100)) ∧ v = 1 ∧ To2 = ((upf To.1 1 (upz (To.1 1) t pa)), To.2)) ∨ (¬ ((0 ≤ t ∧ t < To.2 3) ∧ (0 ≤ pa ∧ pa ≤ 100)) ∧ v = 0 ∧ To2 = To))) := by
  refine Mz.ofZ (by decide) rfl (Nat.le_of_ble_eq_true rfl) ?_
  intro zp ze zR zs zm zargs zbelow zmeth zc zA zQ ZC ZE hRf hRc hRs hRl
  refine z_aload_n ZC 0 dX7_clouds_0 rfl rfl ?_
  refine z_get ZC inUX7 0 rfl rfl 0 (by decide) uF_X7_12 rfl dX7_clouds_1 ?_
  refine z_iload_n ZC 1 dX7_clouds_4 rfl rfl ?_
  refine z_callV ZC 1 (c_X5_has zl D K (x 0) ato To t (by omega) (by omega)) (gdV uM_X7_77 uI_X5_has uS_X5_has uN_X5 uC_X5_has) (by decide +kernel) rfl ⟨by omega, by omega⟩ ⟨by omega, by omega⟩ (Nat.le_of_ble_eq_true rfl) [1, 2, 3] rfl (by decide) rfl rfl rfl rfl dX7_clouds_5 (fun r w2 gc_5 gs_5 hp => ?_)
  obtain ⟨b_5, rfl, rfl, rfl, rfl, hb_5⟩ := hp
  refine z_ws (ws2 := [(h, .inr (7, [.ref (x 0), .ref (x 1), .ref (x 2), .ref (x 3), .ref (x 4), .ref (x 5)])), ((x 0), .inr (5, [.ref (ato 0), .ref (ato 1), vZ (To.2 2), vZ (To.2 3)])), ((ato 0), .inl (K.1, 10, .inl (ar (To.1 0)))), ((ato 1), .inl (K.1, 10, .inl (ar (To.1 1))))]) rfl ?_
  refine z_st (st2 := [vZ b_5]) rfl ?_
  refine z_if_eq ZC 21 dX7_clouds_8 (by decide) (by omega) (fun c_8 => ?_) (fun c_8 => ?_)
  · skip
    refine z_iconst ZC dX7_clouds_21 ?_
    refine z_zret ZC ZE dX7_clouds_22 (by omega) (by omega) (by omega) (Nat.le_of_ble_eq_true rfl) ⟨To, 0, rfl, rfl, by omega, by omega, ?_⟩
    · skip
      first | (left; exact ⟨by omega, rfl, rfl⟩) | (right; exact ⟨by omega, rfl, rfl⟩)
  · skip
    refine z_iload_n ZC 2 dX7_clouds_11 rfl rfl ?_
    refine z_iconst ZC dX7_clouds_12 ?_
    refine z_bipush ZC dX7_clouds_13 (by decide) ?_
    refine z_callS ZC 3 (c_X7_within zl D K pa 0 100 (by omega) (by omega) (by omega)) (gdS uM_X7_54 uZ_X7_within uN_X7 uC_X7_within) (by decide +kernel) rfl ⟨by omega, by omega⟩ ⟨by omega, by omega⟩ (Nat.le_of_ble_eq_true rfl) [] rfl (by decide) rfl dX7_clouds_15 (fun r w2 gc_15 gs_15 hp => ?_)
    obtain ⟨b_15, rfl, rfl, rfl, rfl, hb_15⟩ := hp
    refine z_st (st2 := [vZ b_15]) rfl ?_
    refine z_if_ne ZC 23 dX7_clouds_18 (by decide) (by omega) (fun c_18 => ?_) (fun c_18 => ?_)
    · skip
      refine z_aload_n ZC 0 dX7_clouds_23 rfl rfl ?_
      refine z_get ZC inUX7 0 rfl rfl 0 (by decide) uF_X7_12 rfl dX7_clouds_24 ?_
      refine z_get ZC inUX5 1 rfl rfl 1 (by decide) uF_X7_84 rfl dX7_clouds_27 ?_
      refine z_iload_n ZC 1 dX7_clouds_30 rfl rfl ?_
      refine z_iload_n ZC 2 dX7_clouds_31 rfl rfl ?_
      refine z_iast ZC 3 rfl dX7_clouds_32 (by omega) ?_
      refine z_iconst ZC dX7_clouds_33 ?_
      refine z_zret ZC ZE dX7_clouds_34 (by omega) (by omega) (by omega) (Nat.le_of_ble_eq_true rfl) ⟨((upf To.1 1 (upz (To.1 1) t pa)), To.2), 1, rfl, rfl, by omega, by omega, ?_⟩
      · skip
        first | (left; exact ⟨by omega, rfl, rfl⟩) | (right; exact ⟨by omega, rfl, rfl⟩)
    · skip
      refine z_iconst ZC dX7_clouds_21 ?_
      refine z_zret ZC ZE dX7_clouds_22 (by omega) (by omega) (by omega) (Nat.le_of_ble_eq_true rfl) ⟨To, 0, rfl, rfl, by omega, by omega, ?_⟩
      · skip
        first | (left; exact ⟨by omega, rfl, rfl⟩) | (right; exact ⟨by omega, rfl, rfl⟩)

set_option maxHeartbeats 4000000 in
set_option maxRecDepth 100000 in
theorem c_X7_least (zl : Launch) (D : va_G) (K : tyK) (h : Nat) (x : Nat → Nat) (ato : Nat → Nat) (To : Bd) (an : Nat → Nat) (Ne : Bd) (s1 : Int) (s2 : Int) (hz_s1 : -2147483648 ≤ s1 ∧ s1 < 2147483648) (hz_s2 : -2147483648 ≤ s2 ∧ s2 < 2147483648) (hto : 0 ≤ To.2 3 ∧ To.2 3 ≤ 10) : Mz zl yX7_least cX7_least 3 (some .int) 1 22 0 0 D K [.ref h, vZ s1, vZ s2] ((wSh h x) ++ (wTo K (x 0) ato To) ++ (wNe K (x 1) an Ne)) (fun r_ w2_ gc gs => ∃ (v : Int), r_ = some (vZ v) ∧ w2_ = ((wSh h x) ++ (wTo K (x 0) ato To) ++ (wNe K (x 1) an Ne)) ∧ gc = 0 ∧ gs = 0 ∧ ((((0 ≤ s1 ∧ s1 < To.2 3) ∧ (0 ≤ s2 ∧ s2 < To.2 3)) ∧ v = Ne.1 6 (s1 * 10 + s2) ∧ True) ∨ (¬ ((0 ≤ s1 ∧ s1 < To.2 3) ∧ (0 ≤ s2 ∧ s2 < To.2 3)) ∧ v = -1 ∧ True))) := by
  refine Mz.ofZ (by decide) rfl (Nat.le_of_ble_eq_true rfl) ?_
  intro zp ze zR zs zm zargs zbelow zmeth zc zA zQ ZC ZE hRf hRc hRs hRl
  refine z_aload_n ZC 0 dX7_least_0 rfl rfl ?_
  refine z_get ZC inUX7 0 rfl rfl 0 (by decide) uF_X7_12 rfl dX7_least_1 ?_
  refine z_iload_n ZC 1 dX7_least_4 rfl rfl ?_
  refine z_callV ZC 1 (c_X5_has zl D K (x 0) ato To s1 (by omega) (by omega)) (gdV uM_X7_77 uI_X5_has uS_X5_has uN_X5 uC_X5_has) (by decide +kernel) rfl ⟨by omega, by omega⟩ ⟨by omega, by omega⟩ (Nat.le_of_ble_eq_true rfl) [1, 2, 3] rfl (by decide) rfl rfl rfl rfl dX7_least_5 (fun r w2 gc_5 gs_5 hp => ?_)
  obtain ⟨b_5, rfl, rfl, rfl, rfl, hb_5⟩ := hp
  refine z_ws (ws2 := [(h, .inr (7, [.ref (x 0), .ref (x 1), .ref (x 2), .ref (x 3), .ref (x 4), .ref (x 5)])), ((x 0), .inr (5, [.ref (ato 0), .ref (ato 1), vZ (To.2 2), vZ (To.2 3)])), ((ato 0), .inl (K.1, 10, .inl (ar (To.1 0)))), ((ato 1), .inl (K.1, 10, .inl (ar (To.1 1)))), ((x 1), .inr (4, [.ref (an 0), .ref (an 1), .ref (an 2), .ref (an 3), .ref (an 4), .ref (an 5), .ref (an 6), .ref (an 7), vZ (Ne.2 8)])), ((an 0), .inl (K.1, 16, .inl (ar (Ne.1 0)))), ((an 1), .inl (K.1, 16, .inl (ar (Ne.1 1)))), ((an 2), .inl (K.1, 16, .inl (ar (Ne.1 2)))), ((an 3), .inl (K.1, 16, .inl (ar (Ne.1 3)))), ((an 4), .inl (K.1, 16, .inl (ar (Ne.1 4)))), ((an 5), .inl (K.1, 16, .inl (ar (Ne.1 5)))), ((an 6), .inl (K.1, 100, .inl (ar (Ne.1 6)))), ((an 7), .inl (K.1, 100, .inl (ar (Ne.1 7))))]) rfl ?_
  refine z_st (st2 := [vZ b_5]) rfl ?_
  refine z_if_eq ZC 34 dX7_least_8 (by decide) (by omega) (fun c_8 => ?_) (fun c_8 => ?_)
  · skip
    refine z_iconst ZC dX7_least_34 ?_
    refine z_iret ZC ZE dX7_least_35 (by omega) (by omega) (Nat.le_of_ble_eq_true rfl) ⟨(-1), rfl, rfl, by omega, by omega, ?_⟩
    · skip
      first | (left; exact ⟨by omega, rfl, trivial⟩) | (right; exact ⟨by omega, rfl, trivial⟩)
  · skip
    refine z_aload_n ZC 0 dX7_least_11 rfl rfl ?_
    refine z_get ZC inUX7 0 rfl rfl 0 (by decide) uF_X7_12 rfl dX7_least_12 ?_
    refine z_iload_n ZC 2 dX7_least_15 rfl rfl ?_
    refine z_callV ZC 1 (c_X5_has zl D K (x 0) ato To s2 (by omega) (by omega)) (gdV uM_X7_77 uI_X5_has uS_X5_has uN_X5 uC_X5_has) (by decide +kernel) rfl ⟨by omega, by omega⟩ ⟨by omega, by omega⟩ (Nat.le_of_ble_eq_true rfl) [1, 2, 3] rfl (by decide) rfl rfl rfl rfl dX7_least_16 (fun r w2 gc_16 gs_16 hp => ?_)
    obtain ⟨b_16, rfl, rfl, rfl, rfl, hb_16⟩ := hp
    refine z_ws (ws2 := [(h, .inr (7, [.ref (x 0), .ref (x 1), .ref (x 2), .ref (x 3), .ref (x 4), .ref (x 5)])), ((x 0), .inr (5, [.ref (ato 0), .ref (ato 1), vZ (To.2 2), vZ (To.2 3)])), ((ato 0), .inl (K.1, 10, .inl (ar (To.1 0)))), ((ato 1), .inl (K.1, 10, .inl (ar (To.1 1)))), ((x 1), .inr (4, [.ref (an 0), .ref (an 1), .ref (an 2), .ref (an 3), .ref (an 4), .ref (an 5), .ref (an 6), .ref (an 7), vZ (Ne.2 8)])), ((an 0), .inl (K.1, 16, .inl (ar (Ne.1 0)))), ((an 1), .inl (K.1, 16, .inl (ar (Ne.1 1)))), ((an 2), .inl (K.1, 16, .inl (ar (Ne.1 2)))), ((an 3), .inl (K.1, 16, .inl (ar (Ne.1 3)))), ((an 4), .inl (K.1, 16, .inl (ar (Ne.1 4)))), ((an 5), .inl (K.1, 16, .inl (ar (Ne.1 5)))), ((an 6), .inl (K.1, 100, .inl (ar (Ne.1 6)))), ((an 7), .inl (K.1, 100, .inl (ar (Ne.1 7))))]) rfl ?_
    refine z_st (st2 := [vZ b_16]) rfl ?_
    refine z_if_eq ZC 34 dX7_least_19 (by decide) (by omega) (fun c_19 => ?_) (fun c_19 => ?_)
    · skip
      refine z_iconst ZC dX7_least_34 ?_
      refine z_iret ZC ZE dX7_least_35 (by omega) (by omega) (Nat.le_of_ble_eq_true rfl) ⟨(-1), rfl, rfl, by omega, by omega, ?_⟩
      · skip
        first | (left; exact ⟨by omega, rfl, trivial⟩) | (right; exact ⟨by omega, rfl, trivial⟩)
    · skip
      refine z_aload_n ZC 0 dX7_least_22 rfl rfl ?_
      refine z_get ZC inUX7 0 rfl rfl 1 (by decide) uF_X7_19 rfl dX7_least_23 ?_
      refine z_iload_n ZC 1 dX7_least_26 rfl rfl ?_
      refine z_iload_n ZC 2 dX7_least_27 rfl rfl ?_
      refine z_callV ZC 2 (c_X4_leastHours zl D K (x 1) an Ne s1 s2 (by omega) (by omega)) (gdV uM_X7_99 uI_X4_leastHours uS_X4_leastHours uN_X4 uC_X4_leastHours) (by decide +kernel) rfl ⟨by omega, by omega⟩ ⟨by omega, by omega⟩ (Nat.le_of_ble_eq_true rfl) [4, 5, 6, 7, 8, 9, 10, 11, 12] rfl (by decide) rfl rfl rfl rfl dX7_least_28 (fun r w2 gc_28 gs_28 hp => ?_)
      obtain ⟨rfl, rfl, rfl, rfl⟩ := hp
      refine z_ws (ws2 := [(h, .inr (7, [.ref (x 0), .ref (x 1), .ref (x 2), .ref (x 3), .ref (x 4), .ref (x 5)])), ((x 0), .inr (5, [.ref (ato 0), .ref (ato 1), vZ (To.2 2), vZ (To.2 3)])), ((ato 0), .inl (K.1, 10, .inl (ar (To.1 0)))), ((ato 1), .inl (K.1, 10, .inl (ar (To.1 1)))), ((x 1), .inr (4, [.ref (an 0), .ref (an 1), .ref (an 2), .ref (an 3), .ref (an 4), .ref (an 5), .ref (an 6), .ref (an 7), vZ (Ne.2 8)])), ((an 0), .inl (K.1, 16, .inl (ar (Ne.1 0)))), ((an 1), .inl (K.1, 16, .inl (ar (Ne.1 1)))), ((an 2), .inl (K.1, 16, .inl (ar (Ne.1 2)))), ((an 3), .inl (K.1, 16, .inl (ar (Ne.1 3)))), ((an 4), .inl (K.1, 16, .inl (ar (Ne.1 4)))), ((an 5), .inl (K.1, 16, .inl (ar (Ne.1 5)))), ((an 6), .inl (K.1, 100, .inl (ar (Ne.1 6)))), ((an 7), .inl (K.1, 100, .inl (ar (Ne.1 7))))]) rfl ?_
      refine z_st (st2 := [vZ (Ne.1 6 (s1 * 10 + s2))]) rfl ?_
      refine z_goto ZC 35 dX7_least_31 (by decide) ?_
      refine z_iret ZC ZE dX7_least_35 (by omega) (by omega) (Nat.le_of_ble_eq_true rfl) ⟨(Ne.1 6 (s1 * 10 + s2)), rfl, rfl, by omega, by omega, ?_⟩
      · skip
        first | (left; exact ⟨by omega, rfl, trivial⟩) | (right; exact ⟨by omega, rfl, trivial⟩)

set_option maxHeartbeats 4000000 in
set_option maxRecDepth 100000 in
theorem c_X7_crowd (zl : Launch) (D : va_G) (K : tyK) (h : Nat) (x : Nat → Nat) (ato : Nat → Nat) (To : Bd) (an : Nat → Nat) (Ne : Bd) (ac : Nat → Nat) (Cr : Bd) (xu : Nat → Nat) (U : Bd) (xf : Nat → Nat) (F : Bd) (s1 : Int) (cs : Int) (s2 : Int) (hz_s1 : -2147483648 ≤ s1 ∧ s1 < 2147483648) (hz_cs : -2147483648 ≤ cs ∧ cs < 2147483648) (hz_s2 : -2147483648 ≤ s2 ∧ s2 < 2147483648) (hto : 0 ≤ To.2 3 ∧ To.2 3 ≤ 10) (hcr : 0 ≤ Cr.2 3 ∧ Cr.2 3 ≤ 8) (hnw : 0 ≤ U.2 12 ∧ U.2 12 ≤ 200) (hls : ∀ k : Int, 0 ≤ k → k < 100 → -1 ≤ Ne.1 6 k ∧ Ne.1 6 k ≤ 1000) : Mz zl yX7_crowd cX7_crowd 5 (some .int) 2 43 0 0 D K [.ref h, vZ s1, vZ cs, vZ s2] ((wSh h x) ++ (wTo K (x 0) ato To) ++ (wNe K (x 1) an Ne) ++ (wCr K (x 2) ac Cr) ++ (wTr K (x 3) (upf (upf (upf xu 0 (x 0)) 1 (x 1)) 2 (x 2)) U) ++ (wFo K (x 5) (upf xf 0 (x 3)) F)) (fun r_ w2_ gc gs => ∃ (Cr2 : Bd), ∃ (U2 : Bd), ∃ (F2 : Bd), ∃ (v : Int), r_ = some (vZ v) ∧ w2_ = ((wSh h x) ++ (wTo K (x 0) ato To) ++ (wNe K (x 1) an Ne) ++ (wCr K (x 2) ac Cr2) ++ (wTr K (x 3) (upf (upf (upf xu 0 (x 0)) 1 (x 1)) 2 (x 2)) U2) ++ (wFo K (x 5) (upf xf 0 (x 3)) F2)) ∧ gc = 0 ∧ gs = 0 ∧ (((U.2 12 = 0 ∧ Cr.2 3 < 8 ∧ ((0 ≤ s1 ∧ s1 < To.2 3) ∧ (0 ≤ s2 ∧ s2 < To.2 3) ∧ s1 ≠ s2) ∧ (1 ≤ cs ∧ cs ≤ 20000) ∧ Ne.1 6 (s1 * 10 + s2) ≠ -1) ∧ v = Cr.2 3 ∧ Cr2 = ((upf (upf (upf Cr.1 0 (upz (Cr.1 0) (Cr.2 3) s1)) 1 (upz (Cr.1 1) (Cr.2 3) cs)) 2 (upz (Cr.1 2) (Cr.2 3) s2)), (upf (upf Cr.2 3 (Cr.2 3 + 1)) 4 (Cr.2 4 + cs))) ∧ U2 = ((upf U.1 8 (upz (U.1 8) s1 (U.1 8 s1 + cs))), U.2) ∧ F2 = (F.1, (upf (upf F.2 5 0) 8 0))) ∨ (¬ (U.2 12 = 0 ∧ Cr.2 3 < 8 ∧ ((0 ≤ s1 ∧ s1 < To.2 3) ∧ (0 ≤ s2 ∧ s2 < To.2 3) ∧ s1 ≠ s2) ∧ (1 ≤ cs ∧ cs ≤ 20000) ∧ Ne.1 6 (s1 * 10 + s2) ≠ -1) ∧ v = -1 ∧ Cr2 = Cr ∧ U2 = U ∧ F2 = F))) := by
  refine Mz.ofZ (by decide) rfl (Nat.le_of_ble_eq_true rfl) ?_
  intro zp ze zR zs zm zargs zbelow zmeth zc zA zQ ZC ZE hRf hRc hRs hRl
  refine z_aload_n ZC 0 dX7_crowd_0 rfl rfl ?_
  refine z_get ZC inUX7 0 rfl rfl 3 (by decide) uF_X7_35 rfl dX7_crowd_1 ?_
  refine z_get ZC inUX6 17 rfl rfl 11 (by decide) uF_X7_87 rfl dX7_crowd_4 ?_
  refine z_if_ne ZC 31 dX7_crowd_7 (by decide) (by omega) (fun c_7 => ?_) (fun c_7 => ?_)
  · skip
    refine z_iconst ZC dX7_crowd_31 ?_
    refine z_iret ZC ZE dX7_crowd_32 (by omega) (by omega) (Nat.le_of_ble_eq_true rfl) ⟨Cr, U, F, (-1), rfl, rfl, by omega, by omega, ?_⟩
    · skip
      first | (left; exact ⟨by omega, rfl, rfl, rfl, rfl⟩) | (right; exact ⟨by omega, rfl, rfl, rfl, rfl⟩)
  · skip
    refine z_aload_n ZC 0 dX7_crowd_10 rfl rfl ?_
    refine z_get ZC inUX7 0 rfl rfl 2 (by decide) uF_X7_26 rfl dX7_crowd_11 ?_
    refine z_get ZC inUX0 13 rfl rfl 3 (by decide) uF_X7_103 rfl dX7_crowd_14 ?_
    refine z_bipush ZC dX7_crowd_17 (by decide) ?_
    refine z_icmp_ge ZC 31 dX7_crowd_19 (by decide) (by omega) (by omega) (fun c_19 => ?_) (fun c_19 => ?_)
    · skip
      refine z_iconst ZC dX7_crowd_31 ?_
      refine z_iret ZC ZE dX7_crowd_32 (by omega) (by omega) (Nat.le_of_ble_eq_true rfl) ⟨Cr, U, F, (-1), rfl, rfl, by omega, by omega, ?_⟩
      · skip
        first | (left; exact ⟨by omega, rfl, rfl, rfl, rfl⟩) | (right; exact ⟨by omega, rfl, rfl, rfl, rfl⟩)
    · skip
      refine z_aload_n ZC 0 dX7_crowd_22 rfl rfl ?_
      refine z_iload_n ZC 1 dX7_crowd_23 rfl rfl ?_
      refine z_iload_n ZC 3 dX7_crowd_24 rfl rfl ?_
      refine z_callV ZC 2 (c_X7_areTwoTowns zl D K h x ato To s1 s2 (by omega) (by omega) (by omega)) (gdV uM_X7_91 uI_X7_areTwoTowns uS_X7_areTwoTowns uN_X7 uC_X7_areTwoTowns) (by decide +kernel) rfl ⟨by omega, by omega⟩ ⟨by omega, by omega⟩ (Nat.le_of_ble_eq_true rfl) [0, 1, 2, 3] rfl (by decide) rfl rfl rfl rfl dX7_crowd_25 (fun r w2 gc_25 gs_25 hp => ?_)
      obtain ⟨v_25, rfl, rfl, rfl, rfl, hb_25⟩ := hp
      refine z_ws (ws2 := [(h, .inr (7, [.ref (x 0), .ref (x 1), .ref (x 2), .ref (x 3), .ref (x 4), .ref (x 5)])), ((x 0), .inr (5, [.ref (ato 0), .ref (ato 1), vZ (To.2 2), vZ (To.2 3)])), ((ato 0), .inl (K.1, 10, .inl (ar (To.1 0)))), ((ato 1), .inl (K.1, 10, .inl (ar (To.1 1)))), ((x 1), .inr (4, [.ref (an 0), .ref (an 1), .ref (an 2), .ref (an 3), .ref (an 4), .ref (an 5), .ref (an 6), .ref (an 7), vZ (Ne.2 8)])), ((an 0), .inl (K.1, 16, .inl (ar (Ne.1 0)))), ((an 1), .inl (K.1, 16, .inl (ar (Ne.1 1)))), ((an 2), .inl (K.1, 16, .inl (ar (Ne.1 2)))), ((an 3), .inl (K.1, 16, .inl (ar (Ne.1 3)))), ((an 4), .inl (K.1, 16, .inl (ar (Ne.1 4)))), ((an 5), .inl (K.1, 16, .inl (ar (Ne.1 5)))), ((an 6), .inl (K.1, 100, .inl (ar (Ne.1 6)))), ((an 7), .inl (K.1, 100, .inl (ar (Ne.1 7)))), ((x 2), .inr (0, [.ref (ac 0), .ref (ac 1), .ref (ac 2), vZ (Cr.2 3), vZ (Cr.2 4)])), ((ac 0), .inl (K.1, 8, .inl (ar (Cr.1 0)))), ((ac 1), .inl (K.1, 8, .inl (ar (Cr.1 1)))), ((ac 2), .inl (K.1, 8, .inl (ar (Cr.1 2)))), ((x 3), .inr (6, [.ref (x 0), .ref (x 1), .ref (x 2), .ref (xu 3), .ref (xu 5), .ref (xu 6), .ref (xu 7), .ref (xu 8), .ref (xu 9), .ref (xu 10), .ref (xu 11), vZ (U.2 12), vZ (U.2 13), vZ (U.2 14), vZ (U.2 15)])), ((xu 5), .inl (K.1, 8, .inl (ar (U.1 5)))), ((xu 6), .inl (K.1, 8, .inl (ar (U.1 6)))), ((xu 7), .inl (K.1, 8, .inl (ar (U.1 7)))), ((xu 8), .inl (K.1, 10, .inl (ar (U.1 8)))), ((xu 9), .inl (K.1, 10, .inl (ar (U.1 9)))), ((xu 10), .inl (K.1, 10, .inl (ar (U.1 10)))), ((xu 11), .inl (K.1, 16, .inl (ar (U.1 11)))), ((x 5), .inr (1, [.ref (x 3), .ref (xf 1), .ref (xf 2), .ref (xf 3), .ref (xf 4), vZ (F.2 5), vZ (F.2 6), vZ (F.2 7), vZ (F.2 8), vZ (F.2 9), vZ (F.2 10), vZ (F.2 11)])), ((xf 2), .inl (K.1, 10, .inl (ar (F.1 2)))), ((xf 3), .inl (K.1, 4, .inl (ar (F.1 3)))), ((xf 4), .inl (K.1, 4, .inl (ar (F.1 4))))]) rfl ?_
      refine z_st (st2 := [vZ v_25]) rfl ?_
      refine z_if_ne ZC 33 dX7_crowd_28 (by decide) (by omega) (fun c_28 => ?_) (fun c_28 => ?_)
      · skip
        refine z_iload_n ZC 2 dX7_crowd_33 rfl rfl ?_
        refine z_iconst ZC dX7_crowd_34 ?_
        refine z_sipush ZC dX7_crowd_35 (by decide) ?_
        refine z_callS ZC 3 (c_X7_within zl D K cs 1 20000 (by omega) (by omega) (by omega)) (gdS uM_X7_54 uZ_X7_within uN_X7 uC_X7_within) (by decide +kernel) rfl ⟨by omega, by omega⟩ ⟨by omega, by omega⟩ (Nat.le_of_ble_eq_true rfl) [] rfl (by decide) rfl dX7_crowd_38 (fun r w2 gc_38 gs_38 hp => ?_)
        obtain ⟨b_38, rfl, rfl, rfl, rfl, hb_38⟩ := hp
        refine z_st (st2 := [vZ b_38]) rfl ?_
        refine z_if_eq ZC 57 dX7_crowd_41 (by decide) (by omega) (fun c_41 => ?_) (fun c_41 => ?_)
        · skip
          refine z_iconst ZC dX7_crowd_57 ?_
          refine z_iret ZC ZE dX7_crowd_58 (by omega) (by omega) (Nat.le_of_ble_eq_true rfl) ⟨Cr, U, F, (-1), rfl, rfl, by omega, by omega, ?_⟩
          · skip
            first | (left; exact ⟨by omega, rfl, rfl, rfl, rfl⟩) | (right; exact ⟨by omega, rfl, rfl, rfl, rfl⟩)
        · skip
          refine z_aload_n ZC 0 dX7_crowd_44 rfl rfl ?_
          refine z_get ZC inUX7 0 rfl rfl 1 (by decide) uF_X7_19 rfl dX7_crowd_45 ?_
          refine z_iload_n ZC 1 dX7_crowd_48 rfl rfl ?_
          refine z_iload_n ZC 3 dX7_crowd_49 rfl rfl ?_
          refine z_callV ZC 2 (c_X4_leastHours zl D K (x 1) an Ne s1 s2 (by omega) (by omega)) (gdV uM_X7_99 uI_X4_leastHours uS_X4_leastHours uN_X4 uC_X4_leastHours) (by decide +kernel) rfl ⟨by omega, by omega⟩ ⟨by omega, by omega⟩ (Nat.le_of_ble_eq_true rfl) [4, 5, 6, 7, 8, 9, 10, 11, 12] rfl (by decide) rfl rfl rfl rfl dX7_crowd_50 (fun r w2 gc_50 gs_50 hp => ?_)
          obtain ⟨rfl, rfl, rfl, rfl⟩ := hp
          refine z_ws (ws2 := [(h, .inr (7, [.ref (x 0), .ref (x 1), .ref (x 2), .ref (x 3), .ref (x 4), .ref (x 5)])), ((x 0), .inr (5, [.ref (ato 0), .ref (ato 1), vZ (To.2 2), vZ (To.2 3)])), ((ato 0), .inl (K.1, 10, .inl (ar (To.1 0)))), ((ato 1), .inl (K.1, 10, .inl (ar (To.1 1)))), ((x 1), .inr (4, [.ref (an 0), .ref (an 1), .ref (an 2), .ref (an 3), .ref (an 4), .ref (an 5), .ref (an 6), .ref (an 7), vZ (Ne.2 8)])), ((an 0), .inl (K.1, 16, .inl (ar (Ne.1 0)))), ((an 1), .inl (K.1, 16, .inl (ar (Ne.1 1)))), ((an 2), .inl (K.1, 16, .inl (ar (Ne.1 2)))), ((an 3), .inl (K.1, 16, .inl (ar (Ne.1 3)))), ((an 4), .inl (K.1, 16, .inl (ar (Ne.1 4)))), ((an 5), .inl (K.1, 16, .inl (ar (Ne.1 5)))), ((an 6), .inl (K.1, 100, .inl (ar (Ne.1 6)))), ((an 7), .inl (K.1, 100, .inl (ar (Ne.1 7)))), ((x 2), .inr (0, [.ref (ac 0), .ref (ac 1), .ref (ac 2), vZ (Cr.2 3), vZ (Cr.2 4)])), ((ac 0), .inl (K.1, 8, .inl (ar (Cr.1 0)))), ((ac 1), .inl (K.1, 8, .inl (ar (Cr.1 1)))), ((ac 2), .inl (K.1, 8, .inl (ar (Cr.1 2)))), ((x 3), .inr (6, [.ref (x 0), .ref (x 1), .ref (x 2), .ref (xu 3), .ref (xu 5), .ref (xu 6), .ref (xu 7), .ref (xu 8), .ref (xu 9), .ref (xu 10), .ref (xu 11), vZ (U.2 12), vZ (U.2 13), vZ (U.2 14), vZ (U.2 15)])), ((xu 5), .inl (K.1, 8, .inl (ar (U.1 5)))), ((xu 6), .inl (K.1, 8, .inl (ar (U.1 6)))), ((xu 7), .inl (K.1, 8, .inl (ar (U.1 7)))), ((xu 8), .inl (K.1, 10, .inl (ar (U.1 8)))), ((xu 9), .inl (K.1, 10, .inl (ar (U.1 9)))), ((xu 10), .inl (K.1, 10, .inl (ar (U.1 10)))), ((xu 11), .inl (K.1, 16, .inl (ar (U.1 11)))), ((x 5), .inr (1, [.ref (x 3), .ref (xf 1), .ref (xf 2), .ref (xf 3), .ref (xf 4), vZ (F.2 5), vZ (F.2 6), vZ (F.2 7), vZ (F.2 8), vZ (F.2 9), vZ (F.2 10), vZ (F.2 11)])), ((xf 2), .inl (K.1, 10, .inl (ar (F.1 2)))), ((xf 3), .inl (K.1, 4, .inl (ar (F.1 3)))), ((xf 4), .inl (K.1, 4, .inl (ar (F.1 4))))]) rfl ?_
          refine z_st (st2 := [vZ (Ne.1 6 (s1 * 10 + s2))]) rfl ?_
          have hl1 := hls (s1 * 10 + s2) (by omega) (by omega)
          refine z_iconst ZC dX7_crowd_53 ?_
          refine z_icmp_ne ZC 59 dX7_crowd_54 (by decide) (by omega) (by omega) (fun c_54 => ?_) (fun c_54 => ?_)
          · skip
            refine z_aload_n ZC 0 dX7_crowd_59 rfl rfl ?_
            refine z_get ZC inUX7 0 rfl rfl 2 (by decide) uF_X7_26 rfl dX7_crowd_60 ?_
            refine z_iload_n ZC 1 dX7_crowd_63 rfl rfl ?_
            refine z_iload_n ZC 2 dX7_crowd_64 rfl rfl ?_
            refine z_iload_n ZC 3 dX7_crowd_65 rfl rfl ?_
            refine z_callV ZC 3 (c_X0_add zl D K (x 2) ac Cr s1 cs s2 (by omega)) (gdV uM_X7_104 uI_X0_add uS_X0_add uN_X0 uC_X0_add) (by decide +kernel) rfl ⟨by omega, by omega⟩ ⟨by omega, by omega⟩ (Nat.le_of_ble_eq_true rfl) [13, 14, 15, 16] rfl (by decide) rfl rfl rfl rfl dX7_crowd_66 (fun r w2 gc_66 gs_66 hp => ?_)
            obtain ⟨rfl, rfl, rfl, rfl⟩ := hp
            refine z_ws (ws2 := [(h, .inr (7, [.ref (x 0), .ref (x 1), .ref (x 2), .ref (x 3), .ref (x 4), .ref (x 5)])), ((x 0), .inr (5, [.ref (ato 0), .ref (ato 1), vZ (To.2 2), vZ (To.2 3)])), ((ato 0), .inl (K.1, 10, .inl (ar (To.1 0)))), ((ato 1), .inl (K.1, 10, .inl (ar (To.1 1)))), ((x 1), .inr (4, [.ref (an 0), .ref (an 1), .ref (an 2), .ref (an 3), .ref (an 4), .ref (an 5), .ref (an 6), .ref (an 7), vZ (Ne.2 8)])), ((an 0), .inl (K.1, 16, .inl (ar (Ne.1 0)))), ((an 1), .inl (K.1, 16, .inl (ar (Ne.1 1)))), ((an 2), .inl (K.1, 16, .inl (ar (Ne.1 2)))), ((an 3), .inl (K.1, 16, .inl (ar (Ne.1 3)))), ((an 4), .inl (K.1, 16, .inl (ar (Ne.1 4)))), ((an 5), .inl (K.1, 16, .inl (ar (Ne.1 5)))), ((an 6), .inl (K.1, 100, .inl (ar (Ne.1 6)))), ((an 7), .inl (K.1, 100, .inl (ar (Ne.1 7)))), ((x 2), .inr (0, [.ref (ac 0), .ref (ac 1), .ref (ac 2), vZ (Cr.2 3 + 1), vZ (Cr.2 4 + cs)])), ((ac 0), .inl (K.1, 8, .inl (ar (upz (Cr.1 0) (Cr.2 3) s1)))), ((ac 1), .inl (K.1, 8, .inl (ar (upz (Cr.1 1) (Cr.2 3) cs)))), ((ac 2), .inl (K.1, 8, .inl (ar (upz (Cr.1 2) (Cr.2 3) s2)))), ((x 3), .inr (6, [.ref (x 0), .ref (x 1), .ref (x 2), .ref (xu 3), .ref (xu 5), .ref (xu 6), .ref (xu 7), .ref (xu 8), .ref (xu 9), .ref (xu 10), .ref (xu 11), vZ (U.2 12), vZ (U.2 13), vZ (U.2 14), vZ (U.2 15)])), ((xu 5), .inl (K.1, 8, .inl (ar (U.1 5)))), ((xu 6), .inl (K.1, 8, .inl (ar (U.1 6)))), ((xu 7), .inl (K.1, 8, .inl (ar (U.1 7)))), ((xu 8), .inl (K.1, 10, .inl (ar (U.1 8)))), ((xu 9), .inl (K.1, 10, .inl (ar (U.1 9)))), ((xu 10), .inl (K.1, 10, .inl (ar (U.1 10)))), ((xu 11), .inl (K.1, 16, .inl (ar (U.1 11)))), ((x 5), .inr (1, [.ref (x 3), .ref (xf 1), .ref (xf 2), .ref (xf 3), .ref (xf 4), vZ (F.2 5), vZ (F.2 6), vZ (F.2 7), vZ (F.2 8), vZ (F.2 9), vZ (F.2 10), vZ (F.2 11)])), ((xf 2), .inl (K.1, 10, .inl (ar (F.1 2)))), ((xf 3), .inl (K.1, 4, .inl (ar (F.1 3)))), ((xf 4), .inl (K.1, 4, .inl (ar (F.1 4))))]) rfl ?_
            refine z_st (st2 := [vZ (Cr.2 3)]) rfl ?_
            refine z_istore ZC dX7_crowd_69 (by decide) ?_
            refine z_aload_n ZC 0 dX7_crowd_71 rfl rfl ?_
            refine z_get ZC inUX7 0 rfl rfl 3 (by decide) uF_X7_35 rfl dX7_crowd_72 ?_
            refine z_get ZC inUX6 17 rfl rfl 7 (by decide) uF_X7_107 rfl dX7_crowd_75 ?_
            refine z_iload_n ZC 1 dX7_crowd_78 rfl rfl ?_
            refine z_dup2 ZC dX7_crowd_79 rfl rfl ?_
            refine z_iald ZC 21 rfl dX7_crowd_80 (by omega) ?_
            refine z_iload_n ZC 2 dX7_crowd_81 rfl rfl ?_
            refine z_iadd ZC dX7_crowd_82 ?_
            refine z_iast ZC 21 rfl dX7_crowd_83 (by omega) ?_
            refine z_aload_n ZC 0 dX7_crowd_84 rfl rfl ?_
            refine z_get ZC inUX7 0 rfl rfl 5 (by decide) uF_X7_50 rfl dX7_crowd_85 ?_
            refine z_ws (ws2 := [(h, .inr (7, [.ref (x 0), .ref (x 1), .ref (x 2), .ref (x 3), .ref (x 4), .ref (x 5)])), ((x 0), .inr (5, [.ref (ato 0), .ref (ato 1), vZ (To.2 2), vZ (To.2 3)])), ((ato 0), .inl (K.1, 10, .inl (ar (To.1 0)))), ((ato 1), .inl (K.1, 10, .inl (ar (To.1 1)))), ((x 1), .inr (4, [.ref (an 0), .ref (an 1), .ref (an 2), .ref (an 3), .ref (an 4), .ref (an 5), .ref (an 6), .ref (an 7), vZ (Ne.2 8)])), ((an 0), .inl (K.1, 16, .inl (ar (Ne.1 0)))), ((an 1), .inl (K.1, 16, .inl (ar (Ne.1 1)))), ((an 2), .inl (K.1, 16, .inl (ar (Ne.1 2)))), ((an 3), .inl (K.1, 16, .inl (ar (Ne.1 3)))), ((an 4), .inl (K.1, 16, .inl (ar (Ne.1 4)))), ((an 5), .inl (K.1, 16, .inl (ar (Ne.1 5)))), ((an 6), .inl (K.1, 100, .inl (ar (Ne.1 6)))), ((an 7), .inl (K.1, 100, .inl (ar (Ne.1 7)))), ((x 2), .inr (0, [.ref (ac 0), .ref (ac 1), .ref (ac 2), vZ (Cr.2 3 + 1), vZ (Cr.2 4 + cs)])), ((ac 0), .inl (K.1, 8, .inl (ar (upz (Cr.1 0) (Cr.2 3) s1)))), ((ac 1), .inl (K.1, 8, .inl (ar (upz (Cr.1 1) (Cr.2 3) cs)))), ((ac 2), .inl (K.1, 8, .inl (ar (upz (Cr.1 2) (Cr.2 3) s2)))), ((x 3), .inr (6, [.ref (x 0), .ref (x 1), .ref (x 2), .ref (xu 3), .ref (xu 5), .ref (xu 6), .ref (xu 7), .ref (xu 8), .ref (xu 9), .ref (xu 10), .ref (xu 11), vZ (U.2 12), vZ (U.2 13), vZ (U.2 14), vZ (U.2 15)])), ((xu 5), .inl (K.1, 8, .inl (ar (U.1 5)))), ((xu 6), .inl (K.1, 8, .inl (ar (U.1 6)))), ((xu 7), .inl (K.1, 8, .inl (ar (U.1 7)))), ((xu 8), .inl (K.1, 10, .inl (ar (upz (U.1 8) s1 (((U.1 8) s1) + cs))))), ((xu 9), .inl (K.1, 10, .inl (ar (U.1 9)))), ((xu 10), .inl (K.1, 10, .inl (ar (U.1 10)))), ((xu 11), .inl (K.1, 16, .inl (ar (U.1 11)))), ((x 5), .inr (1, [.ref (x 3), .ref (xf 1), .ref (xf 2), .ref (xf 3), .ref (xf 4), vZ (F.2 5), vZ (F.2 6), vZ (F.2 7), vZ (F.2 8), vZ (F.2 9), vZ (F.2 10), vZ (F.2 11)])), ((xf 2), .inl (K.1, 10, .inl (ar (F.1 2)))), ((xf 3), .inl (K.1, 4, .inl (ar (F.1 3)))), ((xf 4), .inl (K.1, 4, .inl (ar (F.1 4))))]) rfl ?_
            refine z_callV ZC 0 (c_X1_forget zl D K (x 5) (upf xf 0 (x 3)) F ) (gdV uM_X7_71 uI_X1_forget uS_X1_forget uN_X1 uC_X1_forget) (by decide +kernel) rfl ⟨by omega, by omega⟩ ⟨by omega, by omega⟩ (Nat.le_of_ble_eq_true rfl) [25, 26, 27, 28] rfl (by decide) rfl rfl rfl rfl dX7_crowd_88 (fun r w2 gc_88 gs_88 hp => ?_)
            obtain ⟨rfl, rfl, rfl, rfl⟩ := hp
            refine z_ws (ws2 := [(h, .inr (7, [.ref (x 0), .ref (x 1), .ref (x 2), .ref (x 3), .ref (x 4), .ref (x 5)])), ((x 0), .inr (5, [.ref (ato 0), .ref (ato 1), vZ (To.2 2), vZ (To.2 3)])), ((ato 0), .inl (K.1, 10, .inl (ar (To.1 0)))), ((ato 1), .inl (K.1, 10, .inl (ar (To.1 1)))), ((x 1), .inr (4, [.ref (an 0), .ref (an 1), .ref (an 2), .ref (an 3), .ref (an 4), .ref (an 5), .ref (an 6), .ref (an 7), vZ (Ne.2 8)])), ((an 0), .inl (K.1, 16, .inl (ar (Ne.1 0)))), ((an 1), .inl (K.1, 16, .inl (ar (Ne.1 1)))), ((an 2), .inl (K.1, 16, .inl (ar (Ne.1 2)))), ((an 3), .inl (K.1, 16, .inl (ar (Ne.1 3)))), ((an 4), .inl (K.1, 16, .inl (ar (Ne.1 4)))), ((an 5), .inl (K.1, 16, .inl (ar (Ne.1 5)))), ((an 6), .inl (K.1, 100, .inl (ar (Ne.1 6)))), ((an 7), .inl (K.1, 100, .inl (ar (Ne.1 7)))), ((x 2), .inr (0, [.ref (ac 0), .ref (ac 1), .ref (ac 2), vZ (Cr.2 3 + 1), vZ (Cr.2 4 + cs)])), ((ac 0), .inl (K.1, 8, .inl (ar (upz (Cr.1 0) (Cr.2 3) s1)))), ((ac 1), .inl (K.1, 8, .inl (ar (upz (Cr.1 1) (Cr.2 3) cs)))), ((ac 2), .inl (K.1, 8, .inl (ar (upz (Cr.1 2) (Cr.2 3) s2)))), ((x 3), .inr (6, [.ref (x 0), .ref (x 1), .ref (x 2), .ref (xu 3), .ref (xu 5), .ref (xu 6), .ref (xu 7), .ref (xu 8), .ref (xu 9), .ref (xu 10), .ref (xu 11), vZ (U.2 12), vZ (U.2 13), vZ (U.2 14), vZ (U.2 15)])), ((xu 5), .inl (K.1, 8, .inl (ar (U.1 5)))), ((xu 6), .inl (K.1, 8, .inl (ar (U.1 6)))), ((xu 7), .inl (K.1, 8, .inl (ar (U.1 7)))), ((xu 8), .inl (K.1, 10, .inl (ar (upz (U.1 8) s1 (((U.1 8) s1) + cs))))), ((xu 9), .inl (K.1, 10, .inl (ar (U.1 9)))), ((xu 10), .inl (K.1, 10, .inl (ar (U.1 10)))), ((xu 11), .inl (K.1, 16, .inl (ar (U.1 11)))), ((x 5), .inr (1, [.ref (x 3), .ref (xf 1), .ref (xf 2), .ref (xf 3), .ref (xf 4), vZ 0, vZ (F.2 6), vZ (F.2 7), vZ 0, vZ (F.2 9), vZ (F.2 10), vZ (F.2 11)])), ((xf 2), .inl (K.1, 10, .inl (ar (F.1 2)))), ((xf 3), .inl (K.1, 4, .inl (ar (F.1 3)))), ((xf 4), .inl (K.1, 4, .inl (ar (F.1 4))))]) rfl ?_
            refine z_st (st2 := []) rfl ?_
            refine z_iload ZC dX7_crowd_91 rfl ?_
            refine z_iret ZC ZE dX7_crowd_93 (by omega) (by omega) (Nat.le_of_ble_eq_true rfl) ⟨((upf (upf (upf Cr.1 0 (upz (Cr.1 0) (Cr.2 3) s1)) 1 (upz (Cr.1 1) (Cr.2 3) cs)) 2 (upz (Cr.1 2) (Cr.2 3) s2)), (upf (upf Cr.2 3 (Cr.2 3 + 1)) 4 (Cr.2 4 + cs))), ((upf U.1 8 (upz (U.1 8) s1 (((U.1 8) s1) + cs))), U.2), (F.1, (upf (upf F.2 5 0) 8 0)), (Cr.2 3), rfl, rfl, by omega, by omega, ?_⟩
            · skip
              first | (left; exact ⟨by omega, rfl, rfl, rfl, rfl⟩) | (right; exact ⟨by omega, rfl, rfl, rfl, rfl⟩)
          · skip
            refine z_iconst ZC dX7_crowd_57 ?_
            refine z_iret ZC ZE dX7_crowd_58 (by omega) (by omega) (Nat.le_of_ble_eq_true rfl) ⟨Cr, U, F, (-1), rfl, rfl, by omega, by omega, ?_⟩
            · skip
              first | (left; exact ⟨by omega, rfl, rfl, rfl, rfl⟩) | (right; exact ⟨by omega, rfl, rfl, rfl, rfl⟩)
      · skip
        refine z_iconst ZC dX7_crowd_31 ?_
        refine z_iret ZC ZE dX7_crowd_32 (by omega) (by omega) (Nat.le_of_ble_eq_true rfl) ⟨Cr, U, F, (-1), rfl, rfl, by omega, by omega, ?_⟩
        · skip
          first | (left; exact ⟨by omega, rfl, rfl, rfl, rfl⟩) | (right; exact ⟨by omega, rfl, rfl, rfl, rfl⟩)

set_option maxHeartbeats 4000000 in
set_option maxRecDepth 100000 in
theorem c_X7_hold (zl : Launch) (D : va_G) (K : tyK) (h : Nat) (x : Nat → Nat) (ac : Nat → Nat) (Cr : Bd) (xu : Nat → Nat) (U : Bd) (xf : Nat → Nat) (F : Bd) (cw : Int) (hr : Int) (hz_cw : -2147483648 ≤ cw ∧ cw < 2147483648) (hz_hr : -2147483648 ≤ hr ∧ hr < 2147483648) (hcr : 0 ≤ Cr.2 3 ∧ Cr.2 3 ≤ 8) (hnw : 0 ≤ U.2 12 ∧ U.2 12 ≤ 200) (hhr : ∀ c : Int, 0 ≤ c → c < Cr.2 3 → 0 ≤ U.1 5 c ∧ U.1 5 c ≤ 300) : Mz zl yX7_hold cX7_hold 3 (some .boolean) 1 22 0 0 D K [.ref h, vZ cw, vZ hr] ((wSh h x) ++ (wCr K (x 2) ac Cr) ++ (wTr K (x 3) (upf (upf (upf xu 0 (x 0)) 1 (x 1)) 2 (x 2)) U) ++ (wFo K (x 5) (upf xf 0 (x 3)) F)) (fun r_ w2_ gc gs => ∃ (U2 : Bd), ∃ (F2 : Bd), ∃ (v : Int), r_ = some (vZ v) ∧ w2_ = ((wSh h x) ++ (wCr K (x 2) ac Cr) ++ (wTr K (x 3) (upf (upf (upf xu 0 (x 0)) 1 (x 1)) 2 (x 2)) U2) ++ (wFo K (x 5) (upf xf 0 (x 3)) F2)) ∧ gc = 0 ∧ gs = 0 ∧ ((((0 ≤ cw ∧ cw < Cr.2 3) ∧ ¬ U.1 5 cw < U.2 12 ∧ (U.2 12 ≤ hr ∧ hr ≤ 199)) ∧ v = 1 ∧ U2 = ((upf U.1 5 (upz (U.1 5) cw hr)), U.2) ∧ F2 = (F.1, (upf (upf F.2 5 0) 8 0))) ∨ (¬ ((0 ≤ cw ∧ cw < Cr.2 3) ∧ ¬ U.1 5 cw < U.2 12 ∧ (U.2 12 ≤ hr ∧ hr ≤ 199)) ∧ v = 0 ∧ U2 = U ∧ F2 = F))) := by
  refine Mz.ofZ (by decide) rfl (Nat.le_of_ble_eq_true rfl) ?_
  intro zp ze zR zs zm zargs zbelow zmeth zc zA zQ ZC ZE hRf hRc hRs hRl
  refine z_aload_n ZC 0 dX7_hold_0 rfl rfl ?_
  refine z_get ZC inUX7 0 rfl rfl 2 (by decide) uF_X7_26 rfl dX7_hold_1 ?_
  refine z_iload_n ZC 1 dX7_hold_4 rfl rfl ?_
  refine z_callV ZC 1 (c_X0_has zl D K (x 2) ac Cr cw (by omega) (by omega)) (gdV uM_X7_122 uI_X0_has uS_X0_has uN_X0 uC_X0_has) (by decide +kernel) rfl ⟨by omega, by omega⟩ ⟨by omega, by omega⟩ (Nat.le_of_ble_eq_true rfl) [1, 2, 3, 4] rfl (by decide) rfl rfl rfl rfl dX7_hold_5 (fun r w2 gc_5 gs_5 hp => ?_)
  obtain ⟨b_5, rfl, rfl, rfl, rfl, hb_5⟩ := hp
  refine z_ws (ws2 := [(h, .inr (7, [.ref (x 0), .ref (x 1), .ref (x 2), .ref (x 3), .ref (x 4), .ref (x 5)])), ((x 2), .inr (0, [.ref (ac 0), .ref (ac 1), .ref (ac 2), vZ (Cr.2 3), vZ (Cr.2 4)])), ((ac 0), .inl (K.1, 8, .inl (ar (Cr.1 0)))), ((ac 1), .inl (K.1, 8, .inl (ar (Cr.1 1)))), ((ac 2), .inl (K.1, 8, .inl (ar (Cr.1 2)))), ((x 3), .inr (6, [.ref (x 0), .ref (x 1), .ref (x 2), .ref (xu 3), .ref (xu 5), .ref (xu 6), .ref (xu 7), .ref (xu 8), .ref (xu 9), .ref (xu 10), .ref (xu 11), vZ (U.2 12), vZ (U.2 13), vZ (U.2 14), vZ (U.2 15)])), ((xu 5), .inl (K.1, 8, .inl (ar (U.1 5)))), ((xu 6), .inl (K.1, 8, .inl (ar (U.1 6)))), ((xu 7), .inl (K.1, 8, .inl (ar (U.1 7)))), ((xu 8), .inl (K.1, 10, .inl (ar (U.1 8)))), ((xu 9), .inl (K.1, 10, .inl (ar (U.1 9)))), ((xu 10), .inl (K.1, 10, .inl (ar (U.1 10)))), ((xu 11), .inl (K.1, 16, .inl (ar (U.1 11)))), ((x 5), .inr (1, [.ref (x 3), .ref (xf 1), .ref (xf 2), .ref (xf 3), .ref (xf 4), vZ (F.2 5), vZ (F.2 6), vZ (F.2 7), vZ (F.2 8), vZ (F.2 9), vZ (F.2 10), vZ (F.2 11)])), ((xf 2), .inl (K.1, 10, .inl (ar (F.1 2)))), ((xf 3), .inl (K.1, 4, .inl (ar (F.1 3)))), ((xf 4), .inl (K.1, 4, .inl (ar (F.1 4))))]) rfl ?_
  refine z_st (st2 := [vZ b_5]) rfl ?_
  refine z_if_eq ZC 39 dX7_hold_8 (by decide) (by omega) (fun c_8 => ?_) (fun c_8 => ?_)
  · skip
    refine z_iconst ZC dX7_hold_39 ?_
    refine z_zret ZC ZE dX7_hold_40 (by omega) (by omega) (by omega) (Nat.le_of_ble_eq_true rfl) ⟨U, F, 0, rfl, rfl, by omega, by omega, ?_⟩
    · skip
      first | (left; exact ⟨by omega, rfl, rfl, rfl⟩) | (right; exact ⟨by omega, rfl, rfl, rfl⟩)
  · skip
    refine z_aload_n ZC 0 dX7_hold_11 rfl rfl ?_
    refine z_get ZC inUX7 0 rfl rfl 3 (by decide) uF_X7_35 rfl dX7_hold_12 ?_
    refine z_iload_n ZC 1 dX7_hold_15 rfl rfl ?_
    refine z_callV ZC 1 (c_X6_isLetGo zl D K (x 3) (upf (upf (upf xu 0 (x 0)) 1 (x 1)) 2 (x 2)) U cw (by omega) (by have := hhr cw (by omega) (by omega); omega) (by omega)) (gdV uM_X7_123 uI_X6_isLetGo uS_X6_isLetGo uN_X6 uC_X6_isLetGo) (by decide +kernel) rfl ⟨by omega, by omega⟩ ⟨by omega, by omega⟩ (Nat.le_of_ble_eq_true rfl) [5, 6, 7, 8, 9, 10, 11, 12] rfl (by decide) rfl rfl rfl rfl dX7_hold_16 (fun r w2 gc_16 gs_16 hp => ?_)
    obtain ⟨b_16, rfl, rfl, rfl, rfl, hb_16⟩ := hp
    refine z_ws (ws2 := [(h, .inr (7, [.ref (x 0), .ref (x 1), .ref (x 2), .ref (x 3), .ref (x 4), .ref (x 5)])), ((x 2), .inr (0, [.ref (ac 0), .ref (ac 1), .ref (ac 2), vZ (Cr.2 3), vZ (Cr.2 4)])), ((ac 0), .inl (K.1, 8, .inl (ar (Cr.1 0)))), ((ac 1), .inl (K.1, 8, .inl (ar (Cr.1 1)))), ((ac 2), .inl (K.1, 8, .inl (ar (Cr.1 2)))), ((x 3), .inr (6, [.ref (x 0), .ref (x 1), .ref (x 2), .ref (xu 3), .ref (xu 5), .ref (xu 6), .ref (xu 7), .ref (xu 8), .ref (xu 9), .ref (xu 10), .ref (xu 11), vZ (U.2 12), vZ (U.2 13), vZ (U.2 14), vZ (U.2 15)])), ((xu 5), .inl (K.1, 8, .inl (ar (U.1 5)))), ((xu 6), .inl (K.1, 8, .inl (ar (U.1 6)))), ((xu 7), .inl (K.1, 8, .inl (ar (U.1 7)))), ((xu 8), .inl (K.1, 10, .inl (ar (U.1 8)))), ((xu 9), .inl (K.1, 10, .inl (ar (U.1 9)))), ((xu 10), .inl (K.1, 10, .inl (ar (U.1 10)))), ((xu 11), .inl (K.1, 16, .inl (ar (U.1 11)))), ((x 5), .inr (1, [.ref (x 3), .ref (xf 1), .ref (xf 2), .ref (xf 3), .ref (xf 4), vZ (F.2 5), vZ (F.2 6), vZ (F.2 7), vZ (F.2 8), vZ (F.2 9), vZ (F.2 10), vZ (F.2 11)])), ((xf 2), .inl (K.1, 10, .inl (ar (F.1 2)))), ((xf 3), .inl (K.1, 4, .inl (ar (F.1 3)))), ((xf 4), .inl (K.1, 4, .inl (ar (F.1 4))))]) rfl ?_
    refine z_st (st2 := [vZ b_16]) rfl ?_
    refine z_if_ne ZC 39 dX7_hold_19 (by decide) (by omega) (fun c_19 => ?_) (fun c_19 => ?_)
    · skip
      refine z_iconst ZC dX7_hold_39 ?_
      refine z_zret ZC ZE dX7_hold_40 (by omega) (by omega) (by omega) (Nat.le_of_ble_eq_true rfl) ⟨U, F, 0, rfl, rfl, by omega, by omega, ?_⟩
      · skip
        first | (left; exact ⟨by omega, rfl, rfl, rfl⟩) | (right; exact ⟨by omega, rfl, rfl, rfl⟩)
    · skip
      refine z_iload_n ZC 2 dX7_hold_22 rfl rfl ?_
      refine z_aload_n ZC 0 dX7_hold_23 rfl rfl ?_
      refine z_get ZC inUX7 0 rfl rfl 3 (by decide) uF_X7_35 rfl dX7_hold_24 ?_
      refine z_get ZC inUX6 5 rfl rfl 11 (by decide) uF_X7_87 rfl dX7_hold_27 ?_
      refine z_sipush ZC dX7_hold_30 (by decide) ?_
      refine z_callS ZC 3 (c_X7_within zl D K hr (U.2 12) 199 (by omega) (by omega) (by omega)) (gdS uM_X7_54 uZ_X7_within uN_X7 uC_X7_within) (by decide +kernel) rfl ⟨by omega, by omega⟩ ⟨by omega, by omega⟩ (Nat.le_of_ble_eq_true rfl) [] rfl (by decide) rfl dX7_hold_33 (fun r w2 gc_33 gs_33 hp => ?_)
      obtain ⟨b_33, rfl, rfl, rfl, rfl, hb_33⟩ := hp
      refine z_st (st2 := [vZ b_33]) rfl ?_
      refine z_if_ne ZC 41 dX7_hold_36 (by decide) (by omega) (fun c_36 => ?_) (fun c_36 => ?_)
      · skip
        refine z_aload_n ZC 0 dX7_hold_41 rfl rfl ?_
        refine z_get ZC inUX7 0 rfl rfl 3 (by decide) uF_X7_35 rfl dX7_hold_42 ?_
        refine z_get ZC inUX6 5 rfl rfl 4 (by decide) uF_X7_126 rfl dX7_hold_45 ?_
        refine z_iload_n ZC 1 dX7_hold_48 rfl rfl ?_
        refine z_iload_n ZC 2 dX7_hold_49 rfl rfl ?_
        refine z_iast ZC 6 rfl dX7_hold_50 (by omega) ?_
        refine z_aload_n ZC 0 dX7_hold_51 rfl rfl ?_
        refine z_get ZC inUX7 0 rfl rfl 5 (by decide) uF_X7_50 rfl dX7_hold_52 ?_
        refine z_ws (ws2 := [(h, .inr (7, [.ref (x 0), .ref (x 1), .ref (x 2), .ref (x 3), .ref (x 4), .ref (x 5)])), ((x 2), .inr (0, [.ref (ac 0), .ref (ac 1), .ref (ac 2), vZ (Cr.2 3), vZ (Cr.2 4)])), ((ac 0), .inl (K.1, 8, .inl (ar (Cr.1 0)))), ((ac 1), .inl (K.1, 8, .inl (ar (Cr.1 1)))), ((ac 2), .inl (K.1, 8, .inl (ar (Cr.1 2)))), ((x 3), .inr (6, [.ref (x 0), .ref (x 1), .ref (x 2), .ref (xu 3), .ref (xu 5), .ref (xu 6), .ref (xu 7), .ref (xu 8), .ref (xu 9), .ref (xu 10), .ref (xu 11), vZ (U.2 12), vZ (U.2 13), vZ (U.2 14), vZ (U.2 15)])), ((xu 5), .inl (K.1, 8, .inl (ar (upz (U.1 5) cw hr)))), ((xu 6), .inl (K.1, 8, .inl (ar (U.1 6)))), ((xu 7), .inl (K.1, 8, .inl (ar (U.1 7)))), ((xu 8), .inl (K.1, 10, .inl (ar (U.1 8)))), ((xu 9), .inl (K.1, 10, .inl (ar (U.1 9)))), ((xu 10), .inl (K.1, 10, .inl (ar (U.1 10)))), ((xu 11), .inl (K.1, 16, .inl (ar (U.1 11)))), ((x 5), .inr (1, [.ref (x 3), .ref (xf 1), .ref (xf 2), .ref (xf 3), .ref (xf 4), vZ (F.2 5), vZ (F.2 6), vZ (F.2 7), vZ (F.2 8), vZ (F.2 9), vZ (F.2 10), vZ (F.2 11)])), ((xf 2), .inl (K.1, 10, .inl (ar (F.1 2)))), ((xf 3), .inl (K.1, 4, .inl (ar (F.1 3)))), ((xf 4), .inl (K.1, 4, .inl (ar (F.1 4))))]) rfl ?_
        refine z_callV ZC 0 (c_X1_forget zl D K (x 5) (upf xf 0 (x 3)) F ) (gdV uM_X7_71 uI_X1_forget uS_X1_forget uN_X1 uC_X1_forget) (by decide +kernel) rfl ⟨by omega, by omega⟩ ⟨by omega, by omega⟩ (Nat.le_of_ble_eq_true rfl) [13, 14, 15, 16] rfl (by decide) rfl rfl rfl rfl dX7_hold_55 (fun r w2 gc_55 gs_55 hp => ?_)
        obtain ⟨rfl, rfl, rfl, rfl⟩ := hp
        refine z_ws (ws2 := [(h, .inr (7, [.ref (x 0), .ref (x 1), .ref (x 2), .ref (x 3), .ref (x 4), .ref (x 5)])), ((x 2), .inr (0, [.ref (ac 0), .ref (ac 1), .ref (ac 2), vZ (Cr.2 3), vZ (Cr.2 4)])), ((ac 0), .inl (K.1, 8, .inl (ar (Cr.1 0)))), ((ac 1), .inl (K.1, 8, .inl (ar (Cr.1 1)))), ((ac 2), .inl (K.1, 8, .inl (ar (Cr.1 2)))), ((x 3), .inr (6, [.ref (x 0), .ref (x 1), .ref (x 2), .ref (xu 3), .ref (xu 5), .ref (xu 6), .ref (xu 7), .ref (xu 8), .ref (xu 9), .ref (xu 10), .ref (xu 11), vZ (U.2 12), vZ (U.2 13), vZ (U.2 14), vZ (U.2 15)])), ((xu 5), .inl (K.1, 8, .inl (ar (upz (U.1 5) cw hr)))), ((xu 6), .inl (K.1, 8, .inl (ar (U.1 6)))), ((xu 7), .inl (K.1, 8, .inl (ar (U.1 7)))), ((xu 8), .inl (K.1, 10, .inl (ar (U.1 8)))), ((xu 9), .inl (K.1, 10, .inl (ar (U.1 9)))), ((xu 10), .inl (K.1, 10, .inl (ar (U.1 10)))), ((xu 11), .inl (K.1, 16, .inl (ar (U.1 11)))), ((x 5), .inr (1, [.ref (x 3), .ref (xf 1), .ref (xf 2), .ref (xf 3), .ref (xf 4), vZ 0, vZ (F.2 6), vZ (F.2 7), vZ 0, vZ (F.2 9), vZ (F.2 10), vZ (F.2 11)])), ((xf 2), .inl (K.1, 10, .inl (ar (F.1 2)))), ((xf 3), .inl (K.1, 4, .inl (ar (F.1 3)))), ((xf 4), .inl (K.1, 4, .inl (ar (F.1 4))))]) rfl ?_
        refine z_st (st2 := []) rfl ?_
        refine z_iconst ZC dX7_hold_58 ?_
        refine z_zret ZC ZE dX7_hold_59 (by omega) (by omega) (by omega) (Nat.le_of_ble_eq_true rfl) ⟨((upf U.1 5 (upz (U.1 5) cw hr)), U.2), (F.1, (upf (upf F.2 5 0) 8 0)), 1, rfl, rfl, by omega, by omega, ?_⟩
        · skip
          first | (left; exact ⟨by omega, rfl, rfl, rfl⟩) | (right; exact ⟨by omega, rfl, rfl, rfl⟩)
      · skip
        refine z_iconst ZC dX7_hold_39 ?_
        refine z_zret ZC ZE dX7_hold_40 (by omega) (by omega) (by omega) (Nat.le_of_ble_eq_true rfl) ⟨U, F, 0, rfl, rfl, by omega, by omega, ?_⟩
        · skip
          first | (left; exact ⟨by omega, rfl, rfl, rfl⟩) | (right; exact ⟨by omega, rfl, rfl, rfl⟩)

set_option maxHeartbeats 4000000 in
set_option maxRecDepth 100000 in
theorem c_X7_shut (zl : Launch) (D : va_G) (K : tyK) (h : Nat) (x : Nat → Nat) (an : Nat → Nat) (Ne : Bd) (xu : Nat → Nat) (U : Bd) (xf : Nat → Nat) (F : Bd) (rd : Int) (fr : Int) (tt : Int) (hz_rd : -2147483648 ≤ rd ∧ rd < 2147483648) (hz_fr : -2147483648 ≤ fr ∧ fr < 2147483648) (hz_tt : -2147483648 ≤ tt ∧ tt < 2147483648) (hne : 0 ≤ Ne.2 8 ∧ Ne.2 8 ≤ 16) (hnw : 0 ≤ U.2 12 ∧ U.2 12 ≤ 200) : Mz zl yX7_shut cX7_shut 4 (some .boolean) 1 21 0 0 D K [.ref h, vZ rd, vZ fr, vZ tt] ((wSh h x) ++ (wNe K (x 1) an Ne) ++ (wTr K (x 3) (upf (upf (upf xu 0 (x 0)) 1 (x 1)) 2 (x 2)) U) ++ (wFo K (x 5) (upf xf 0 (x 3)) F)) (fun r_ w2_ gc gs => ∃ (Ne2 : Bd), ∃ (F2 : Bd), ∃ (v : Int), r_ = some (vZ v) ∧ w2_ = ((wSh h x) ++ (wNe K (x 1) an Ne2) ++ (wTr K (x 3) (upf (upf (upf xu 0 (x 0)) 1 (x 1)) 2 (x 2)) U) ++ (wFo K (x 5) (upf xf 0 (x 3)) F2)) ∧ gc = 0 ∧ gs = 0 ∧ ((((0 ≤ rd ∧ rd < Ne.2 8) ∧ U.2 12 ≤ fr ∧ fr < tt) ∧ v = 1 ∧ Ne2 = ((upf (upf Ne.1 4 (upz (Ne.1 4) rd fr)) 5 (upz (Ne.1 5) rd tt)), Ne.2) ∧ F2 = (F.1, (upf (upf F.2 5 0) 8 0))) ∨ (¬ ((0 ≤ rd ∧ rd < Ne.2 8) ∧ U.2 12 ≤ fr ∧ fr < tt) ∧ v = 0 ∧ Ne2 = Ne ∧ F2 = F))) := by
  refine Mz.ofZ (by decide) rfl (Nat.le_of_ble_eq_true rfl) ?_
  intro zp ze zR zs zm zargs zbelow zmeth zc zA zQ ZC ZE hRf hRc hRs hRl
  refine z_aload_n ZC 0 dX7_shut_0 rfl rfl ?_
  refine z_get ZC inUX7 0 rfl rfl 1 (by decide) uF_X7_19 rfl dX7_shut_1 ?_
  refine z_iload_n ZC 1 dX7_shut_4 rfl rfl ?_
  refine z_callV ZC 1 (c_X4_has zl D K (x 1) an Ne rd (by omega) (by omega)) (gdV uM_X7_129 uI_X4_has uS_X4_has uN_X4 uC_X4_has) (by decide +kernel) rfl ⟨by omega, by omega⟩ ⟨by omega, by omega⟩ (Nat.le_of_ble_eq_true rfl) [1, 2, 3, 4, 5, 6, 7, 8, 9] rfl (by decide) rfl rfl rfl rfl dX7_shut_5 (fun r w2 gc_5 gs_5 hp => ?_)
  obtain ⟨b_5, rfl, rfl, rfl, rfl, hb_5⟩ := hp
  refine z_ws (ws2 := [(h, .inr (7, [.ref (x 0), .ref (x 1), .ref (x 2), .ref (x 3), .ref (x 4), .ref (x 5)])), ((x 1), .inr (4, [.ref (an 0), .ref (an 1), .ref (an 2), .ref (an 3), .ref (an 4), .ref (an 5), .ref (an 6), .ref (an 7), vZ (Ne.2 8)])), ((an 0), .inl (K.1, 16, .inl (ar (Ne.1 0)))), ((an 1), .inl (K.1, 16, .inl (ar (Ne.1 1)))), ((an 2), .inl (K.1, 16, .inl (ar (Ne.1 2)))), ((an 3), .inl (K.1, 16, .inl (ar (Ne.1 3)))), ((an 4), .inl (K.1, 16, .inl (ar (Ne.1 4)))), ((an 5), .inl (K.1, 16, .inl (ar (Ne.1 5)))), ((an 6), .inl (K.1, 100, .inl (ar (Ne.1 6)))), ((an 7), .inl (K.1, 100, .inl (ar (Ne.1 7)))), ((x 3), .inr (6, [.ref (x 0), .ref (x 1), .ref (x 2), .ref (xu 3), .ref (xu 5), .ref (xu 6), .ref (xu 7), .ref (xu 8), .ref (xu 9), .ref (xu 10), .ref (xu 11), vZ (U.2 12), vZ (U.2 13), vZ (U.2 14), vZ (U.2 15)])), ((xu 5), .inl (K.1, 8, .inl (ar (U.1 5)))), ((xu 6), .inl (K.1, 8, .inl (ar (U.1 6)))), ((xu 7), .inl (K.1, 8, .inl (ar (U.1 7)))), ((xu 8), .inl (K.1, 10, .inl (ar (U.1 8)))), ((xu 9), .inl (K.1, 10, .inl (ar (U.1 9)))), ((xu 10), .inl (K.1, 10, .inl (ar (U.1 10)))), ((xu 11), .inl (K.1, 16, .inl (ar (U.1 11)))), ((x 5), .inr (1, [.ref (x 3), .ref (xf 1), .ref (xf 2), .ref (xf 3), .ref (xf 4), vZ (F.2 5), vZ (F.2 6), vZ (F.2 7), vZ (F.2 8), vZ (F.2 9), vZ (F.2 10), vZ (F.2 11)])), ((xf 2), .inl (K.1, 10, .inl (ar (F.1 2)))), ((xf 3), .inl (K.1, 4, .inl (ar (F.1 3)))), ((xf 4), .inl (K.1, 4, .inl (ar (F.1 4))))]) rfl ?_
  refine z_st (st2 := [vZ b_5]) rfl ?_
  refine z_if_eq ZC 27 dX7_shut_8 (by decide) (by omega) (fun c_8 => ?_) (fun c_8 => ?_)
  · skip
    refine z_iconst ZC dX7_shut_27 ?_
    refine z_zret ZC ZE dX7_shut_28 (by omega) (by omega) (by omega) (Nat.le_of_ble_eq_true rfl) ⟨Ne, F, 0, rfl, rfl, by omega, by omega, ?_⟩
    · skip
      first | (left; exact ⟨by omega, rfl, rfl, rfl⟩) | (right; exact ⟨by omega, rfl, rfl, rfl⟩)
  · skip
    refine z_iload_n ZC 2 dX7_shut_11 rfl rfl ?_
    refine z_aload_n ZC 0 dX7_shut_12 rfl rfl ?_
    refine z_get ZC inUX7 0 rfl rfl 3 (by decide) uF_X7_35 rfl dX7_shut_13 ?_
    refine z_get ZC inUX6 10 rfl rfl 11 (by decide) uF_X7_87 rfl dX7_shut_16 ?_
    refine z_icmp_lt ZC 27 dX7_shut_19 (by decide) (by omega) (by omega) (fun c_19 => ?_) (fun c_19 => ?_)
    · skip
      refine z_iconst ZC dX7_shut_27 ?_
      refine z_zret ZC ZE dX7_shut_28 (by omega) (by omega) (by omega) (Nat.le_of_ble_eq_true rfl) ⟨Ne, F, 0, rfl, rfl, by omega, by omega, ?_⟩
      · skip
        first | (left; exact ⟨by omega, rfl, rfl, rfl⟩) | (right; exact ⟨by omega, rfl, rfl, rfl⟩)
    · skip
      refine z_iload_n ZC 3 dX7_shut_22 rfl rfl ?_
      refine z_iload_n ZC 2 dX7_shut_23 rfl rfl ?_
      refine z_icmp_gt ZC 29 dX7_shut_24 (by decide) (by omega) (by omega) (fun c_24 => ?_) (fun c_24 => ?_)
      · skip
        refine z_aload_n ZC 0 dX7_shut_29 rfl rfl ?_
        refine z_get ZC inUX7 0 rfl rfl 1 (by decide) uF_X7_19 rfl dX7_shut_30 ?_
        refine z_get ZC inUX4 1 rfl rfl 4 (by decide) uF_X7_130 rfl dX7_shut_33 ?_
        refine z_iload_n ZC 1 dX7_shut_36 rfl rfl ?_
        refine z_iload_n ZC 2 dX7_shut_37 rfl rfl ?_
        refine z_iast ZC 6 rfl dX7_shut_38 (by omega) ?_
        refine z_aload_n ZC 0 dX7_shut_39 rfl rfl ?_
        refine z_get ZC inUX7 0 rfl rfl 1 (by decide) uF_X7_19 rfl dX7_shut_40 ?_
        refine z_get ZC inUX4 1 rfl rfl 5 (by decide) uF_X7_133 rfl dX7_shut_43 ?_
        refine z_iload_n ZC 1 dX7_shut_46 rfl rfl ?_
        refine z_iload_n ZC 3 dX7_shut_47 rfl rfl ?_
        refine z_iast ZC 7 rfl dX7_shut_48 (by omega) ?_
        refine z_aload_n ZC 0 dX7_shut_49 rfl rfl ?_
        refine z_get ZC inUX7 0 rfl rfl 5 (by decide) uF_X7_50 rfl dX7_shut_50 ?_
        refine z_ws (ws2 := [(h, .inr (7, [.ref (x 0), .ref (x 1), .ref (x 2), .ref (x 3), .ref (x 4), .ref (x 5)])), ((x 1), .inr (4, [.ref (an 0), .ref (an 1), .ref (an 2), .ref (an 3), .ref (an 4), .ref (an 5), .ref (an 6), .ref (an 7), vZ (Ne.2 8)])), ((an 0), .inl (K.1, 16, .inl (ar (Ne.1 0)))), ((an 1), .inl (K.1, 16, .inl (ar (Ne.1 1)))), ((an 2), .inl (K.1, 16, .inl (ar (Ne.1 2)))), ((an 3), .inl (K.1, 16, .inl (ar (Ne.1 3)))), ((an 4), .inl (K.1, 16, .inl (ar (upz (Ne.1 4) rd fr)))), ((an 5), .inl (K.1, 16, .inl (ar (upz (Ne.1 5) rd tt)))), ((an 6), .inl (K.1, 100, .inl (ar (Ne.1 6)))), ((an 7), .inl (K.1, 100, .inl (ar (Ne.1 7)))), ((x 3), .inr (6, [.ref (x 0), .ref (x 1), .ref (x 2), .ref (xu 3), .ref (xu 5), .ref (xu 6), .ref (xu 7), .ref (xu 8), .ref (xu 9), .ref (xu 10), .ref (xu 11), vZ (U.2 12), vZ (U.2 13), vZ (U.2 14), vZ (U.2 15)])), ((xu 5), .inl (K.1, 8, .inl (ar (U.1 5)))), ((xu 6), .inl (K.1, 8, .inl (ar (U.1 6)))), ((xu 7), .inl (K.1, 8, .inl (ar (U.1 7)))), ((xu 8), .inl (K.1, 10, .inl (ar (U.1 8)))), ((xu 9), .inl (K.1, 10, .inl (ar (U.1 9)))), ((xu 10), .inl (K.1, 10, .inl (ar (U.1 10)))), ((xu 11), .inl (K.1, 16, .inl (ar (U.1 11)))), ((x 5), .inr (1, [.ref (x 3), .ref (xf 1), .ref (xf 2), .ref (xf 3), .ref (xf 4), vZ (F.2 5), vZ (F.2 6), vZ (F.2 7), vZ (F.2 8), vZ (F.2 9), vZ (F.2 10), vZ (F.2 11)])), ((xf 2), .inl (K.1, 10, .inl (ar (F.1 2)))), ((xf 3), .inl (K.1, 4, .inl (ar (F.1 3)))), ((xf 4), .inl (K.1, 4, .inl (ar (F.1 4))))]) rfl ?_
        refine z_callV ZC 0 (c_X1_forget zl D K (x 5) (upf xf 0 (x 3)) F ) (gdV uM_X7_71 uI_X1_forget uS_X1_forget uN_X1 uC_X1_forget) (by decide +kernel) rfl ⟨by omega, by omega⟩ ⟨by omega, by omega⟩ (Nat.le_of_ble_eq_true rfl) [18, 19, 20, 21] rfl (by decide) rfl rfl rfl rfl dX7_shut_53 (fun r w2 gc_53 gs_53 hp => ?_)
        obtain ⟨rfl, rfl, rfl, rfl⟩ := hp
        refine z_ws (ws2 := [(h, .inr (7, [.ref (x 0), .ref (x 1), .ref (x 2), .ref (x 3), .ref (x 4), .ref (x 5)])), ((x 1), .inr (4, [.ref (an 0), .ref (an 1), .ref (an 2), .ref (an 3), .ref (an 4), .ref (an 5), .ref (an 6), .ref (an 7), vZ (Ne.2 8)])), ((an 0), .inl (K.1, 16, .inl (ar (Ne.1 0)))), ((an 1), .inl (K.1, 16, .inl (ar (Ne.1 1)))), ((an 2), .inl (K.1, 16, .inl (ar (Ne.1 2)))), ((an 3), .inl (K.1, 16, .inl (ar (Ne.1 3)))), ((an 4), .inl (K.1, 16, .inl (ar (upz (Ne.1 4) rd fr)))), ((an 5), .inl (K.1, 16, .inl (ar (upz (Ne.1 5) rd tt)))), ((an 6), .inl (K.1, 100, .inl (ar (Ne.1 6)))), ((an 7), .inl (K.1, 100, .inl (ar (Ne.1 7)))), ((x 3), .inr (6, [.ref (x 0), .ref (x 1), .ref (x 2), .ref (xu 3), .ref (xu 5), .ref (xu 6), .ref (xu 7), .ref (xu 8), .ref (xu 9), .ref (xu 10), .ref (xu 11), vZ (U.2 12), vZ (U.2 13), vZ (U.2 14), vZ (U.2 15)])), ((xu 5), .inl (K.1, 8, .inl (ar (U.1 5)))), ((xu 6), .inl (K.1, 8, .inl (ar (U.1 6)))), ((xu 7), .inl (K.1, 8, .inl (ar (U.1 7)))), ((xu 8), .inl (K.1, 10, .inl (ar (U.1 8)))), ((xu 9), .inl (K.1, 10, .inl (ar (U.1 9)))), ((xu 10), .inl (K.1, 10, .inl (ar (U.1 10)))), ((xu 11), .inl (K.1, 16, .inl (ar (U.1 11)))), ((x 5), .inr (1, [.ref (x 3), .ref (xf 1), .ref (xf 2), .ref (xf 3), .ref (xf 4), vZ 0, vZ (F.2 6), vZ (F.2 7), vZ 0, vZ (F.2 9), vZ (F.2 10), vZ (F.2 11)])), ((xf 2), .inl (K.1, 10, .inl (ar (F.1 2)))), ((xf 3), .inl (K.1, 4, .inl (ar (F.1 3)))), ((xf 4), .inl (K.1, 4, .inl (ar (F.1 4))))]) rfl ?_
        refine z_st (st2 := []) rfl ?_
        refine z_iconst ZC dX7_shut_56 ?_
        refine z_zret ZC ZE dX7_shut_57 (by omega) (by omega) (by omega) (Nat.le_of_ble_eq_true rfl) ⟨((upf (upf Ne.1 4 (upz (Ne.1 4) rd fr)) 5 (upz (Ne.1 5) rd tt)), Ne.2), (F.1, (upf (upf F.2 5 0) 8 0)), 1, rfl, rfl, by omega, by omega, ?_⟩
        · skip
          first | (left; exact ⟨by omega, rfl, rfl, rfl⟩) | (right; exact ⟨by omega, rfl, rfl, rfl⟩)
      · skip
        refine z_iconst ZC dX7_shut_27 ?_
        refine z_zret ZC ZE dX7_shut_28 (by omega) (by omega) (by omega) (Nat.le_of_ble_eq_true rfl) ⟨Ne, F, 0, rfl, rfl, by omega, by omega, ?_⟩
        · skip
          first | (left; exact ⟨by omega, rfl, rfl, rfl⟩) | (right; exact ⟨by omega, rfl, rfl, rfl⟩)

