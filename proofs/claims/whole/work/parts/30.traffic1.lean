/-! ===== Traffic: the small methods ===== -/
set_option maxHeartbeats 4000000 in
set_option maxRecDepth 100000 in
theorem c_X6_isLetGo (zl : Launch) (D : va_G) (K : tyK) (h : Nat) (a : Nat → Nat) (T : Bd) (c : Int) (hc : 0 ≤ c ∧ c < 8) (h1 : -2147483648 ≤ T.1 5 c ∧ T.1 5 c < 2147483648) (h2 : -2147483648 ≤ T.2 12 ∧ T.2 12 < 2147483648) : Mz zl yX6_isLetGo cX6_isLetGo 2 (some .boolean) 0 0 0 0 D K [.ref h, vZ c] (wTr K h a T) (fun r_ w2_ gc gs => ∃ (b : Int), r_ = some (vZ b) ∧ w2_ = (wTr K h a T) ∧ gc = 0 ∧ gs = 0 ∧ ((b = 1 ∧ (T.1 5 c < T.2 12)) ∨ (b = 0 ∧ ¬ (T.1 5 c < T.2 12)))) := by
  refine Mz.ofZ (by decide) rfl (Nat.le_of_ble_eq_true rfl) ?_
  intro zp ze zR zs zm zargs zbelow zmeth zc zA zQ ZC ZE hRf hRc hRs hRl
  refine z_aload_n ZC 0 dX6_isLetGo_0 rfl rfl ?_
  refine z_get ZC inUX6 0 rfl rfl 4 (by decide) uF_X6_18 rfl dX6_isLetGo_1 ?_
  refine z_iload_n ZC 1 dX6_isLetGo_4 rfl rfl ?_
  refine z_iald ZC 1 rfl dX6_isLetGo_5 (by omega) ?_
  refine z_aload_n ZC 0 dX6_isLetGo_6 rfl rfl ?_
  refine z_get ZC inUX6 0 rfl rfl 11 (by decide) uF_X6_56 rfl dX6_isLetGo_7 ?_
  refine z_icmp_ge ZC 17 dX6_isLetGo_10 (by decide) (by omega) (by omega) (fun c_10 => ?_) (fun c_10 => ?_)
  · skip
    refine z_iconst ZC dX6_isLetGo_17 ?_
    refine z_zret ZC ZE dX6_isLetGo_18 (by omega) (by omega) (by omega) (Nat.le_of_ble_eq_true rfl) ⟨0, rfl, rfl, by omega, by omega, ?_⟩
    · skip
      omega
  · skip
    refine z_iconst ZC dX6_isLetGo_13 ?_
    refine z_goto ZC 18 dX6_isLetGo_14 (by decide) ?_
    refine z_zret ZC ZE dX6_isLetGo_18 (by omega) (by omega) (by omega) (Nat.le_of_ble_eq_true rfl) ⟨1, rfl, rfl, by omega, by omega, ?_⟩
    · skip
      omega

set_option maxHeartbeats 4000000 in
set_option maxRecDepth 100000 in
theorem c_X6_areAllHome (zl : Launch) (D : va_G) (K : tyK) (h : Nat) (a : Nat → Nat) (T : Bd) (ac : Nat → Nat) (Cr : Bd) (h1 : -2147483648 ≤ T.2 13 ∧ T.2 13 < 2147483648) (h2 : -2147483648 ≤ Cr.2 4 ∧ Cr.2 4 < 2147483648) : Mz zl yX6_areAllHome cX6_areAllHome 1 (some .boolean) 0 0 0 0 D K [.ref h] ((wTr K h a T) ++ (wCr K (a 2) ac Cr)) (fun r_ w2_ gc gs => ∃ (b : Int), r_ = some (vZ b) ∧ w2_ = ((wTr K h a T) ++ (wCr K (a 2) ac Cr)) ∧ gc = 0 ∧ gs = 0 ∧ ((b = 1 ∧ (T.2 13 = Cr.2 4)) ∨ (b = 0 ∧ ¬ (T.2 13 = Cr.2 4)))) := by
  refine Mz.ofZ (by decide) rfl (Nat.le_of_ble_eq_true rfl) ?_
  intro zp ze zR zs zm zargs zbelow zmeth zc zA zQ ZC ZE hRf hRc hRs hRl
  refine z_aload_n ZC 0 dX6_areAllHome_0 rfl rfl ?_
  refine z_get ZC inUX6 0 rfl rfl 12 (by decide) uF_X6_59 rfl dX6_areAllHome_1 ?_
  refine z_aload_n ZC 0 dX6_areAllHome_4 rfl rfl ?_
  refine z_get ZC inUX6 0 rfl rfl 2 (by decide) uF_X6_52 rfl dX6_areAllHome_5 ?_
  refine z_get ZC inUX0 8 rfl rfl 4 (by decide) uF_X6_62 rfl dX6_areAllHome_8 ?_
  refine z_icmp_ne ZC 18 dX6_areAllHome_11 (by decide) (by omega) (by omega) (fun c_11 => ?_) (fun c_11 => ?_)
  · skip
    refine z_iconst ZC dX6_areAllHome_18 ?_
    refine z_zret ZC ZE dX6_areAllHome_19 (by omega) (by omega) (by omega) (Nat.le_of_ble_eq_true rfl) ⟨0, rfl, rfl, by omega, by omega, ?_⟩
    · skip
      omega
  · skip
    refine z_iconst ZC dX6_areAllHome_14 ?_
    refine z_goto ZC 19 dX6_areAllHome_15 (by decide) ?_
    refine z_zret ZC ZE dX6_areAllHome_19 (by omega) (by omega) (by omega) (Nat.le_of_ble_eq_true rfl) ⟨1, rfl, rfl, by omega, by omega, ?_⟩
    · skip
      omega

set_option maxHeartbeats 4000000 in
set_option maxRecDepth 100000 in
theorem c_X6_lastHourOf (zl : Launch) (D : va_G) (K : tyK) (h : Nat) (a : Nat → Nat) (T : Bd) (ac : Nat → Nat) (Cr : Bd) (c : Int) (hc : 0 ≤ c ∧ c < 8) (h1 : -2147483648 ≤ T.1 6 c ∧ T.1 6 c < 2147483648) (h2 : -2147483648 ≤ Cr.1 1 c ∧ Cr.1 1 c < 2147483648) : Mz zl yX6_lastHourOf cX6_lastHourOf 2 (some .int) 0 0 0 0 D K [.ref h, vZ c] ((wTr K h a T) ++ (wCr K (a 2) ac Cr)) (fun r_ w2_ gc gs => ∃ (v : Int), r_ = some (vZ v) ∧ w2_ = ((wTr K h a T) ++ (wCr K (a 2) ac Cr)) ∧ gc = 0 ∧ gs = 0 ∧ (v = if T.1 6 c = Cr.1 1 c then T.1 7 c else -1)) := by
  refine Mz.ofZ (by decide) rfl (Nat.le_of_ble_eq_true rfl) ?_
  intro zp ze zR zs zm zargs zbelow zmeth zc zA zQ ZC ZE hRf hRc hRs hRl
  refine z_aload_n ZC 0 dX6_lastHourOf_0 rfl rfl ?_
  refine z_get ZC inUX6 0 rfl rfl 5 (by decide) uF_X6_22 rfl dX6_lastHourOf_1 ?_
  refine z_iload_n ZC 1 dX6_lastHourOf_4 rfl rfl ?_
  refine z_iald ZC 2 rfl dX6_lastHourOf_5 (by omega) ?_
  refine z_aload_n ZC 0 dX6_lastHourOf_6 rfl rfl ?_
  refine z_get ZC inUX6 0 rfl rfl 2 (by decide) uF_X6_52 rfl dX6_lastHourOf_7 ?_
  refine z_get ZC inUX0 8 rfl rfl 1 (by decide) uF_X6_67 rfl dX6_lastHourOf_10 ?_
  refine z_iload_n ZC 1 dX6_lastHourOf_13 rfl rfl ?_
  refine z_iald ZC 10 rfl dX6_lastHourOf_14 (by omega) ?_
  refine z_icmp_ne ZC 27 dX6_lastHourOf_15 (by decide) (by omega) (by omega) (fun c_15 => ?_) (fun c_15 => ?_)
  · skip
    refine z_iconst ZC dX6_lastHourOf_27 ?_
    refine z_iret ZC ZE dX6_lastHourOf_28 (by omega) (by omega) (Nat.le_of_ble_eq_true rfl) ⟨(-1), rfl, rfl, by omega, by omega, ?_⟩
    · skip
      rw [if_neg c_15]
  · skip
    refine z_aload_n ZC 0 dX6_lastHourOf_18 rfl rfl ?_
    refine z_get ZC inUX6 0 rfl rfl 6 (by decide) uF_X6_25 rfl dX6_lastHourOf_19 ?_
    refine z_iload_n ZC 1 dX6_lastHourOf_22 rfl rfl ?_
    refine z_iald ZC 3 rfl dX6_lastHourOf_23 (by omega) ?_
    refine z_goto ZC 28 dX6_lastHourOf_24 (by decide) ?_
    refine z_iret ZC ZE dX6_lastHourOf_28 (by omega) (by omega) (Nat.le_of_ble_eq_true rfl) ⟨((T.1 7) c), rfl, rfl, by omega, by omega, ?_⟩
    · skip
      rw [if_pos c_15]

set_option maxHeartbeats 4000000 in
set_option maxRecDepth 100000 in
theorem c_X6_lastHourOfAll (zl : Launch) (D : va_G) (K : tyK) (h : Nat) (a : Nat → Nat) (T : Bd) (ac : Nat → Nat) (Cr : Bd) (h1 : -2147483648 ≤ T.2 13 ∧ T.2 13 < 2147483648) (h2 : -2147483648 ≤ Cr.2 4 ∧ Cr.2 4 < 2147483648) : Mz zl yX6_lastHourOfAll cX6_lastHourOfAll 1 (some .int) 1 20 0 0 D K [.ref h] ((wTr K h a T) ++ (wCr K (a 2) ac Cr)) (fun r_ w2_ gc gs => ∃ (v : Int), r_ = some (vZ v) ∧ w2_ = ((wTr K h a T) ++ (wCr K (a 2) ac Cr)) ∧ gc = 0 ∧ gs = 0 ∧ (v = if T.2 13 = Cr.2 4 then T.2 14 else -1)) := by
  refine Mz.ofZ (by decide) rfl (Nat.le_of_ble_eq_true rfl) ?_
  intro zp ze zR zs zm zargs zbelow zmeth zc zA zQ ZC ZE hRf hRc hRs hRl
  refine z_aload_n ZC 0 dX6_lastHourOfAll_0 rfl rfl ?_
  refine z_callV ZC 0 (c_X6_areAllHome zl D K h a T ac Cr (by omega) (by omega)) (gdV uM_X6_70 uI_X6_areAllHome uS_X6_areAllHome uN_X6 uC_X6_areAllHome) (by decide +kernel) rfl ⟨by omega, by omega⟩ ⟨by omega, by omega⟩ (Nat.le_of_ble_eq_true rfl) [0, 1, 2, 3, 4, 5, 6, 7, 8, 9, 10, 11] rfl (by decide) rfl rfl rfl rfl dX6_lastHourOfAll_1 (fun r w2 gc_1 gs_1 hp => ?_)
  obtain ⟨b_1, rfl, rfl, rfl, rfl, hb_1⟩ := hp
  refine z_ws (ws2 := [(h, .inr (6, [.ref (a 0), .ref (a 1), .ref (a 2), .ref (a 3), .ref (a 5), .ref (a 6), .ref (a 7), .ref (a 8), .ref (a 9), .ref (a 10), .ref (a 11), vZ (T.2 12), vZ (T.2 13), vZ (T.2 14), vZ (T.2 15)])), ((a 5), .inl (K.1, 8, .inl (ar (T.1 5)))), ((a 6), .inl (K.1, 8, .inl (ar (T.1 6)))), ((a 7), .inl (K.1, 8, .inl (ar (T.1 7)))), ((a 8), .inl (K.1, 10, .inl (ar (T.1 8)))), ((a 9), .inl (K.1, 10, .inl (ar (T.1 9)))), ((a 10), .inl (K.1, 10, .inl (ar (T.1 10)))), ((a 11), .inl (K.1, 16, .inl (ar (T.1 11)))), ((a 2), .inr (0, [.ref (ac 0), .ref (ac 1), .ref (ac 2), vZ (Cr.2 3), vZ (Cr.2 4)])), ((ac 0), .inl (K.1, 8, .inl (ar (Cr.1 0)))), ((ac 1), .inl (K.1, 8, .inl (ar (Cr.1 1)))), ((ac 2), .inl (K.1, 8, .inl (ar (Cr.1 2))))]) rfl ?_
  refine z_st (st2 := [vZ b_1]) rfl ?_
  refine z_if_eq ZC 14 dX6_lastHourOfAll_4 (by decide) (by omega) (fun c_4 => ?_) (fun c_4 => ?_)
  · skip
    refine z_iconst ZC dX6_lastHourOfAll_14 ?_
    refine z_iret ZC ZE dX6_lastHourOfAll_15 (by omega) (by omega) (Nat.le_of_ble_eq_true rfl) ⟨(-1), rfl, rfl, by omega, by omega, ?_⟩
    · skip
      rw [if_neg (by omega)]
  · skip
    refine z_aload_n ZC 0 dX6_lastHourOfAll_7 rfl rfl ?_
    refine z_get ZC inUX6 0 rfl rfl 13 (by decide) uF_X6_40 rfl dX6_lastHourOfAll_8 ?_
    refine z_goto ZC 15 dX6_lastHourOfAll_11 (by decide) ?_
    refine z_iret ZC ZE dX6_lastHourOfAll_15 (by omega) (by omega) (Nat.le_of_ble_eq_true rfl) ⟨(T.2 14), rfl, rfl, by omega, by omega, ?_⟩
    · skip
      rw [if_pos (by omega)]

set_option maxHeartbeats 4000000 in
set_option maxRecDepth 100000 in
theorem c_X6_queued (zl : Launch) (D : va_G) (K : tyK) (h : Nat) (a : Nat → Nat) (T : Bd) (aq : Nat → Nat) (Nq : Nat) (Sq : Bd) (r : Int) (hr : 0 ≤ r ∧ r < 16) : Mz zl yX6_queued cX6_queued 2 (some .int) 1 20 0 0 D K [.ref h, vZ r] ((wTr K h a T) ++ (wLn K (a 3) aq Nq Sq)) (fun r_ w2_ gc gs => r_ = some (vZ (Sq.1 2 r)) ∧ w2_ = ((wTr K h a T) ++ (wLn K (a 3) aq Nq Sq)) ∧ gc = 0 ∧ gs = 0) := by
  refine Mz.ofZ (by decide) rfl (Nat.le_of_ble_eq_true rfl) ?_
  intro zp ze zR zs zm zargs zbelow zmeth zc zA zQ ZC ZE hRf hRc hRs hRl
  refine z_aload_n ZC 0 dX6_queued_0 rfl rfl ?_
  refine z_get ZC inUX6 0 rfl rfl 3 (by decide) uF_X6_12 rfl dX6_queued_1 ?_
  refine z_get ZC inUX2 8 rfl rfl 2 (by decide) uF_X6_74 rfl dX6_queued_4 ?_
  refine z_iload_n ZC 1 dX6_queued_7 rfl rfl ?_
  refine z_callS ZC 1 (c_X2_queueOf zl D K r ) (gdS uM_X6_77 uZ_X2_queueOf uN_X2 uC_X2_queueOf) (by decide +kernel) rfl ⟨by omega, by omega⟩ ⟨by omega, by omega⟩ (Nat.le_of_ble_eq_true rfl) [] rfl (by decide) rfl dX6_queued_8 (fun r w2 gc_8 gs_8 hp => ?_)
  obtain ⟨rfl, rfl, rfl, rfl⟩ := hp
  refine z_st (st2 := [vZ r, .ref (aq 2)]) rfl ?_
  refine z_iald ZC 11 rfl dX6_queued_11 (by omega) ?_
  exact z_iret ZC ZE dX6_queued_12 (by omega) (by omega) (Nat.le_of_ble_eq_true rfl) ⟨rfl, rfl, by omega, by omega⟩

set_option maxHeartbeats 4000000 in
set_option maxRecDepth 100000 in
theorem c_X6_driving (zl : Launch) (D : va_G) (K : tyK) (h : Nat) (a : Nat → Nat) (T : Bd) (aq : Nat → Nat) (Nq : Nat) (Sq : Bd) (r : Int) (hr : 0 ≤ r ∧ r < 16) : Mz zl yX6_driving cX6_driving 2 (some .int) 1 20 0 0 D K [.ref h, vZ r] ((wTr K h a T) ++ (wLn K (a 3) aq Nq Sq)) (fun r_ w2_ gc gs => r_ = some (vZ (Sq.1 2 (16 + r))) ∧ w2_ = ((wTr K h a T) ++ (wLn K (a 3) aq Nq Sq)) ∧ gc = 0 ∧ gs = 0) := by
  refine Mz.ofZ (by decide) rfl (Nat.le_of_ble_eq_true rfl) ?_
  intro zp ze zR zs zm zargs zbelow zmeth zc zA zQ ZC ZE hRf hRc hRs hRl
  refine z_aload_n ZC 0 dX6_driving_0 rfl rfl ?_
  refine z_get ZC inUX6 0 rfl rfl 3 (by decide) uF_X6_12 rfl dX6_driving_1 ?_
  refine z_get ZC inUX2 8 rfl rfl 2 (by decide) uF_X6_74 rfl dX6_driving_4 ?_
  refine z_iload_n ZC 1 dX6_driving_7 rfl rfl ?_
  refine z_callS ZC 1 (c_X2_driveOf zl D K r ) (gdS uM_X6_81 uZ_X2_driveOf uN_X2 uC_X2_driveOf) (by decide +kernel) rfl ⟨by omega, by omega⟩ ⟨by omega, by omega⟩ (Nat.le_of_ble_eq_true rfl) [] rfl (by decide) rfl dX6_driving_8 (fun r w2 gc_8 gs_8 hp => ?_)
  obtain ⟨rfl, rfl, rfl, rfl⟩ := hp
  refine z_st (st2 := [vZ (16 + r), .ref (aq 2)]) rfl ?_
  refine z_iald ZC 11 rfl dX6_driving_11 (by omega) ?_
  exact z_iret ZC ZE dX6_driving_12 (by omega) (by omega) (Nat.le_of_ble_eq_true rfl) ⟨rfl, rfl, by omega, by omega⟩

set_option maxHeartbeats 4000000 in
set_option maxRecDepth 100000 in
theorem c_X6_allQueued (zl : Launch) (D : va_G) (K : tyK) (h : Nat) (a : Nat → Nat) (T : Bd) (aq : Nat → Nat) (Nq : Nat) (Sq : Bd) (an : Nat → Nat) (Ne : Bd) (hc : 0 ≤ Ne.2 8 ∧ Ne.2 8 ≤ 16) : Mz zl yX6_allQueued cX6_allQueued 3 (some .int) 2 41 0 0 D K [.ref h] ((wTr K h a T) ++ (wLn K (a 3) aq Nq Sq) ++ (wNe K (a 1) an Ne)) (fun r_ w2_ gc gs => ∃ (v : Int), r_ = some (vZ v) ∧ w2_ = ((wTr K h a T) ++ (wLn K (a 3) aq Nq Sq) ++ (wNe K (a 1) an Ne)) ∧ gc = 0 ∧ gs = 0 ∧ (v = smI (Sq.1 2) 0 (Ne.2 8 - 0).toNat)) := by
  refine Mz.ofZ (by decide) rfl (Nat.le_of_ble_eq_true rfl) ?_
  intro zp ze zR zs zm zargs zbelow zmeth zc zA zQ ZC ZE hRf hRc hRs hRl
  refine z_iconst ZC dX6_allQueued_0 ?_
  refine z_istore_n ZC 1 dX6_allQueued_1 rfl (by decide) ?_
  refine z_iconst ZC dX6_allQueued_2 ?_
  refine z_istore_n ZC 2 dX6_allQueued_3 rfl (by decide) ?_
  have lp_4 : ∀ (n_4 : Nat) (sm : Int) (r : Int), (0 ≤ r ∧ r ≤ Ne.2 8) → (sm = smI (Sq.1 2) 0 (r - 0).toNat) → ((Ne.2 8 - r).toNat) < n_4 → Zw zp zl ze zR zs zm zargs zbelow zmeth zc D zA 3 zQ 0 0 ([(h, .inr (6, [.ref (a 0), .ref (a 1), .ref (a 2), .ref (a 3), .ref (a 5), .ref (a 6), .ref (a 7), .ref (a 8), .ref (a 9), .ref (a 10), .ref (a 11), vZ (T.2 12), vZ (T.2 13), vZ (T.2 14), vZ (T.2 15)])), ((a 5), .inl (K.1, 8, .inl (ar (T.1 5)))), ((a 6), .inl (K.1, 8, .inl (ar (T.1 6)))), ((a 7), .inl (K.1, 8, .inl (ar (T.1 7)))), ((a 8), .inl (K.1, 10, .inl (ar (T.1 8)))), ((a 9), .inl (K.1, 10, .inl (ar (T.1 9)))), ((a 10), .inl (K.1, 10, .inl (ar (T.1 10)))), ((a 11), .inl (K.1, 16, .inl (ar (T.1 11)))), ((a 3), .inr (2, [.ref (aq 0), .ref (aq 1), .ref (aq 2), .ref (aq 3), .ref (aq 4), .ref (aq 5), .ref (aq 6), vZ (Sq.2 7), vZ (Sq.2 8)])), ((aq 0), .inl (K.1, 32, .inl (ar (Sq.1 0)))), ((aq 1), .inl (K.1, 32, .inl (ar (Sq.1 1)))), ((aq 2), .inl (K.1, 32, .inl (ar (Sq.1 2)))), ((aq 3), .inl (K.1, Nq, .inl (ar (Sq.1 3)))), ((aq 4), .inl (K.1, Nq, .inl (ar (Sq.1 4)))), ((aq 5), .inl (K.1, Nq, .inl (ar (Sq.1 5)))), ((aq 6), .inl (K.1, Nq, .inl (ar (Sq.1 6)))), ((a 1), .inr (4, [.ref (an 0), .ref (an 1), .ref (an 2), .ref (an 3), .ref (an 4), .ref (an 5), .ref (an 6), .ref (an 7), vZ (Ne.2 8)])), ((an 0), .inl (K.1, 16, .inl (ar (Ne.1 0)))), ((an 1), .inl (K.1, 16, .inl (ar (Ne.1 1)))), ((an 2), .inl (K.1, 16, .inl (ar (Ne.1 2)))), ((an 3), .inl (K.1, 16, .inl (ar (Ne.1 3)))), ((an 4), .inl (K.1, 16, .inl (ar (Ne.1 4)))), ((an 5), .inl (K.1, 16, .inl (ar (Ne.1 5)))), ((an 6), .inl (K.1, 100, .inl (ar (Ne.1 6)))), ((an 7), .inl (K.1, 100, .inl (ar (Ne.1 7))))]) 4 [(0, .ref h), (1, vZ sm), (2, vZ r)] [] := by
    intro n_4
    induction n_4 with
    | zero => intro sm r hr hs hm_4; exact absurd hm_4 (Nat.not_lt_zero _)
    | succ n_4 ih_4 =>
      intro sm r hr hs hm_4
      refine z_iload_n ZC 2 dX6_allQueued_4 rfl rfl ?_
      refine z_aload_n ZC 0 dX6_allQueued_5 rfl rfl ?_
      refine z_get ZC inUX6 0 rfl rfl 1 (by decide) uF_X6_48 rfl dX6_allQueued_6 ?_
      refine z_get ZC inUX4 16 rfl rfl 8 (by decide) uF_X6_84 rfl dX6_allQueued_9 ?_
      refine z_icmp_ge ZC 29 dX6_allQueued_12 (by decide) (by omega) (by omega) (fun c_12 => ?_) (fun c_12 => ?_)
      · skip
        refine z_iload_n ZC 1 dX6_allQueued_29 rfl rfl ?_
        refine z_iret ZC ZE dX6_allQueued_30 (by omega) (by omega) (Nat.le_of_ble_eq_true rfl) ⟨sm, rfl, rfl, by omega, by omega, ?_⟩
        · skip
          rw [hs, show r = Ne.2 8 by omega]
      · skip
        refine z_iload_n ZC 1 dX6_allQueued_15 rfl rfl ?_
        refine z_aload_n ZC 0 dX6_allQueued_16 rfl rfl ?_
        refine z_iload_n ZC 2 dX6_allQueued_17 rfl rfl ?_
        refine z_callV ZC 1 (c_X6_queued zl D K h a T aq Nq Sq r (by omega)) (gdV uM_X6_89 uI_X6_queued uS_X6_queued uN_X6 uC_X6_queued) (by decide +kernel) rfl ⟨by omega, by omega⟩ ⟨by omega, by omega⟩ (Nat.le_of_ble_eq_true rfl) [0, 1, 2, 3, 4, 5, 6, 7, 8, 9, 10, 11, 12, 13, 14, 15] rfl (by decide) rfl rfl rfl rfl dX6_allQueued_18 (fun r w2 gc_18 gs_18 hp => ?_)
        obtain ⟨rfl, rfl, rfl, rfl⟩ := hp
        refine z_ws (ws2 := [(h, .inr (6, [.ref (a 0), .ref (a 1), .ref (a 2), .ref (a 3), .ref (a 5), .ref (a 6), .ref (a 7), .ref (a 8), .ref (a 9), .ref (a 10), .ref (a 11), vZ (T.2 12), vZ (T.2 13), vZ (T.2 14), vZ (T.2 15)])), ((a 5), .inl (K.1, 8, .inl (ar (T.1 5)))), ((a 6), .inl (K.1, 8, .inl (ar (T.1 6)))), ((a 7), .inl (K.1, 8, .inl (ar (T.1 7)))), ((a 8), .inl (K.1, 10, .inl (ar (T.1 8)))), ((a 9), .inl (K.1, 10, .inl (ar (T.1 9)))), ((a 10), .inl (K.1, 10, .inl (ar (T.1 10)))), ((a 11), .inl (K.1, 16, .inl (ar (T.1 11)))), ((a 3), .inr (2, [.ref (aq 0), .ref (aq 1), .ref (aq 2), .ref (aq 3), .ref (aq 4), .ref (aq 5), .ref (aq 6), vZ (Sq.2 7), vZ (Sq.2 8)])), ((aq 0), .inl (K.1, 32, .inl (ar (Sq.1 0)))), ((aq 1), .inl (K.1, 32, .inl (ar (Sq.1 1)))), ((aq 2), .inl (K.1, 32, .inl (ar (Sq.1 2)))), ((aq 3), .inl (K.1, Nq, .inl (ar (Sq.1 3)))), ((aq 4), .inl (K.1, Nq, .inl (ar (Sq.1 4)))), ((aq 5), .inl (K.1, Nq, .inl (ar (Sq.1 5)))), ((aq 6), .inl (K.1, Nq, .inl (ar (Sq.1 6)))), ((a 1), .inr (4, [.ref (an 0), .ref (an 1), .ref (an 2), .ref (an 3), .ref (an 4), .ref (an 5), .ref (an 6), .ref (an 7), vZ (Ne.2 8)])), ((an 0), .inl (K.1, 16, .inl (ar (Ne.1 0)))), ((an 1), .inl (K.1, 16, .inl (ar (Ne.1 1)))), ((an 2), .inl (K.1, 16, .inl (ar (Ne.1 2)))), ((an 3), .inl (K.1, 16, .inl (ar (Ne.1 3)))), ((an 4), .inl (K.1, 16, .inl (ar (Ne.1 4)))), ((an 5), .inl (K.1, 16, .inl (ar (Ne.1 5)))), ((an 6), .inl (K.1, 100, .inl (ar (Ne.1 6)))), ((an 7), .inl (K.1, 100, .inl (ar (Ne.1 7))))]) rfl ?_
        refine z_st (st2 := [vZ (Sq.1 2 r), vZ sm]) rfl ?_
        refine z_iadd ZC dX6_allQueued_21 ?_
        refine z_istore_n ZC 1 dX6_allQueued_22 rfl (by decide) ?_
        refine z_iinc ZC dX6_allQueued_23 rfl (by decide) ?_
        refine z_goto ZC 4 dX6_allQueued_26 (by decide) ?_
        refine z_ws (ws2 := [(h, .inr (6, [.ref (a 0), .ref (a 1), .ref (a 2), .ref (a 3), .ref (a 5), .ref (a 6), .ref (a 7), .ref (a 8), .ref (a 9), .ref (a 10), .ref (a 11), vZ (T.2 12), vZ (T.2 13), vZ (T.2 14), vZ (T.2 15)])), ((a 5), .inl (K.1, 8, .inl (ar (T.1 5)))), ((a 6), .inl (K.1, 8, .inl (ar (T.1 6)))), ((a 7), .inl (K.1, 8, .inl (ar (T.1 7)))), ((a 8), .inl (K.1, 10, .inl (ar (T.1 8)))), ((a 9), .inl (K.1, 10, .inl (ar (T.1 9)))), ((a 10), .inl (K.1, 10, .inl (ar (T.1 10)))), ((a 11), .inl (K.1, 16, .inl (ar (T.1 11)))), ((a 3), .inr (2, [.ref (aq 0), .ref (aq 1), .ref (aq 2), .ref (aq 3), .ref (aq 4), .ref (aq 5), .ref (aq 6), vZ (Sq.2 7), vZ (Sq.2 8)])), ((aq 0), .inl (K.1, 32, .inl (ar (Sq.1 0)))), ((aq 1), .inl (K.1, 32, .inl (ar (Sq.1 1)))), ((aq 2), .inl (K.1, 32, .inl (ar (Sq.1 2)))), ((aq 3), .inl (K.1, Nq, .inl (ar (Sq.1 3)))), ((aq 4), .inl (K.1, Nq, .inl (ar (Sq.1 4)))), ((aq 5), .inl (K.1, Nq, .inl (ar (Sq.1 5)))), ((aq 6), .inl (K.1, Nq, .inl (ar (Sq.1 6)))), ((a 1), .inr (4, [.ref (an 0), .ref (an 1), .ref (an 2), .ref (an 3), .ref (an 4), .ref (an 5), .ref (an 6), .ref (an 7), vZ (Ne.2 8)])), ((an 0), .inl (K.1, 16, .inl (ar (Ne.1 0)))), ((an 1), .inl (K.1, 16, .inl (ar (Ne.1 1)))), ((an 2), .inl (K.1, 16, .inl (ar (Ne.1 2)))), ((an 3), .inl (K.1, 16, .inl (ar (Ne.1 3)))), ((an 4), .inl (K.1, 16, .inl (ar (Ne.1 4)))), ((an 5), .inl (K.1, 16, .inl (ar (Ne.1 5)))), ((an 6), .inl (K.1, 100, .inl (ar (Ne.1 6)))), ((an 7), .inl (K.1, 100, .inl (ar (Ne.1 7))))]) rfl (z_lv (lv2 := [(0, .ref h), (1, vZ (sm + (Sq.1 2 r))), (2, vZ (r + 1))]) ⟨rfl, rfl, rfl, trivial⟩ ?_)
        refine ih_4 (sm + (Sq.1 2 r)) (r + 1) ?_ ?_ (by omega)
        · skip
          omega
        · skip
          rw [smI_next hr.1, hs]
  refine z_ws (ws2 := [(h, .inr (6, [.ref (a 0), .ref (a 1), .ref (a 2), .ref (a 3), .ref (a 5), .ref (a 6), .ref (a 7), .ref (a 8), .ref (a 9), .ref (a 10), .ref (a 11), vZ (T.2 12), vZ (T.2 13), vZ (T.2 14), vZ (T.2 15)])), ((a 5), .inl (K.1, 8, .inl (ar (T.1 5)))), ((a 6), .inl (K.1, 8, .inl (ar (T.1 6)))), ((a 7), .inl (K.1, 8, .inl (ar (T.1 7)))), ((a 8), .inl (K.1, 10, .inl (ar (T.1 8)))), ((a 9), .inl (K.1, 10, .inl (ar (T.1 9)))), ((a 10), .inl (K.1, 10, .inl (ar (T.1 10)))), ((a 11), .inl (K.1, 16, .inl (ar (T.1 11)))), ((a 3), .inr (2, [.ref (aq 0), .ref (aq 1), .ref (aq 2), .ref (aq 3), .ref (aq 4), .ref (aq 5), .ref (aq 6), vZ (Sq.2 7), vZ (Sq.2 8)])), ((aq 0), .inl (K.1, 32, .inl (ar (Sq.1 0)))), ((aq 1), .inl (K.1, 32, .inl (ar (Sq.1 1)))), ((aq 2), .inl (K.1, 32, .inl (ar (Sq.1 2)))), ((aq 3), .inl (K.1, Nq, .inl (ar (Sq.1 3)))), ((aq 4), .inl (K.1, Nq, .inl (ar (Sq.1 4)))), ((aq 5), .inl (K.1, Nq, .inl (ar (Sq.1 5)))), ((aq 6), .inl (K.1, Nq, .inl (ar (Sq.1 6)))), ((a 1), .inr (4, [.ref (an 0), .ref (an 1), .ref (an 2), .ref (an 3), .ref (an 4), .ref (an 5), .ref (an 6), .ref (an 7), vZ (Ne.2 8)])), ((an 0), .inl (K.1, 16, .inl (ar (Ne.1 0)))), ((an 1), .inl (K.1, 16, .inl (ar (Ne.1 1)))), ((an 2), .inl (K.1, 16, .inl (ar (Ne.1 2)))), ((an 3), .inl (K.1, 16, .inl (ar (Ne.1 3)))), ((an 4), .inl (K.1, 16, .inl (ar (Ne.1 4)))), ((an 5), .inl (K.1, 16, .inl (ar (Ne.1 5)))), ((an 6), .inl (K.1, 100, .inl (ar (Ne.1 6)))), ((an 7), .inl (K.1, 100, .inl (ar (Ne.1 7))))]) rfl (z_lv (lv2 := [(0, .ref h), (1, vZ 0), (2, vZ 0)]) ⟨rfl, rfl, rfl, trivial⟩ ?_)
  refine lp_4 _ 0 0 ?_ ?_ (Nat.lt_succ_self _)
  · skip
    omega
  · skip
    rfl

set_option maxHeartbeats 4000000 in
set_option maxRecDepth 100000 in
theorem c_X6_drinkAnHour (zl : Launch) (D : va_G) (K : tyK) (h : Nat) (a : Nat → Nat) (T : Bd) (ato : Nat → Nat) (To : Bd) (hc : 0 ≤ To.2 3 ∧ To.2 3 ≤ 10) (ht : ∀ t : Int, 0 ≤ t → t < 10 → (0 ≤ T.1 8 t ∧ T.1 8 t ≤ 1000000) ∧ (0 ≤ T.1 9 t ∧ T.1 9 t ≤ 1000000)) : Mz zl yX6_drinkAnHour cX6_drinkAnHour 3 (none) 1 21 0 0 D K [.ref h] ((wTr K h a T) ++ (wTo K (a 0) ato To)) (fun r_ w2_ gc gs => ∃ (Wt : Int → Int), ∃ (Lk : Int → Int), r_ = none ∧ w2_ = ((wTr K h a ((upf (upf T.1 9 Wt) 10 Lk), T.2)) ++ (wTo K (a 0) ato To)) ∧ gc = 0 ∧ gs = 0 ∧ (∀ t : Int, (0 ≤ t ∧ t < To.2 3 → Wt t = T.1 9 t - min (T.1 8 t) (T.1 9 t) ∧ Lk t = T.1 10 t + (T.1 8 t - min (T.1 8 t) (T.1 9 t))) ∧ (¬ (0 ≤ t ∧ t < To.2 3) → Wt t = T.1 9 t ∧ Lk t = T.1 10 t))) := by
  refine Mz.ofZ (by decide) rfl (Nat.le_of_ble_eq_true rfl) ?_
  intro zp ze zR zs zm zargs zbelow zmeth zc zA zQ ZC ZE hRf hRc hRs hRl
  refine z_iconst ZC dX6_drinkAnHour_0 ?_
  refine z_istore_n ZC 1 dX6_drinkAnHour_1 rfl (by decide) ?_
  have lp_2 : ∀ (n_2 : Nat) (k : Int) (Wt : Int → Int) (Lk : Int → Int), (0 ≤ k ∧ k ≤ To.2 3) → (∀ t : Int, (0 ≤ t ∧ t < k → Wt t = T.1 9 t - min (T.1 8 t) (T.1 9 t) ∧ Lk t = T.1 10 t + (T.1 8 t - min (T.1 8 t) (T.1 9 t))) ∧ (¬ (0 ≤ t ∧ t < k) → Wt t = T.1 9 t ∧ Lk t = T.1 10 t)) → ((To.2 3 - k).toNat) < n_2 → Zw zp zl ze zR zs zm zargs zbelow zmeth zc D zA 3 zQ 0 0 ([(h, .inr (6, [.ref (a 0), .ref (a 1), .ref (a 2), .ref (a 3), .ref (a 5), .ref (a 6), .ref (a 7), .ref (a 8), .ref (a 9), .ref (a 10), .ref (a 11), vZ (T.2 12), vZ (T.2 13), vZ (T.2 14), vZ (T.2 15)])), ((a 5), .inl (K.1, 8, .inl (ar (T.1 5)))), ((a 6), .inl (K.1, 8, .inl (ar (T.1 6)))), ((a 7), .inl (K.1, 8, .inl (ar (T.1 7)))), ((a 8), .inl (K.1, 10, .inl (ar (T.1 8)))), ((a 9), .inl (K.1, 10, .inl (ar Wt))), ((a 10), .inl (K.1, 10, .inl (ar Lk))), ((a 11), .inl (K.1, 16, .inl (ar (T.1 11)))), ((a 0), .inr (5, [.ref (ato 0), .ref (ato 1), vZ (To.2 2), vZ (To.2 3)])), ((ato 0), .inl (K.1, 10, .inl (ar (To.1 0)))), ((ato 1), .inl (K.1, 10, .inl (ar (To.1 1))))]) 2 [(0, .ref h), (1, vZ k)] [] := by
    intro n_2
    induction n_2 with
    | zero => intro k Wt Lk hk hw hm_2; exact absurd hm_2 (Nat.not_lt_zero _)
    | succ n_2 ih_2 =>
      intro k Wt Lk hk hw hm_2
      refine z_iload_n ZC 1 dX6_drinkAnHour_2 rfl rfl ?_
      refine z_aload_n ZC 0 dX6_drinkAnHour_3 rfl rfl ?_
      refine z_get ZC inUX6 0 rfl rfl 0 (by decide) uF_X6_44 rfl dX6_drinkAnHour_4 ?_
      refine z_get ZC inUX5 8 rfl rfl 3 (by decide) uF_X6_104 rfl dX6_drinkAnHour_7 ?_
      refine z_icmp_ge ZC 62 dX6_drinkAnHour_10 (by decide) (by omega) (by omega) (fun c_10 => ?_) (fun c_10 => ?_)
      · skip
        refine z_vret ZC ZE dX6_drinkAnHour_62 (by omega) (by omega) (Nat.le_of_ble_eq_true rfl) ⟨Wt, Lk, rfl, rfl, by omega, by omega, ?_⟩
        · skip
          rw [show To.2 3 = k by omega]
          exact hw
      · skip
        obtain ⟨ht1, ht2⟩ := ht k (by omega) (by omega)
        have ew := ((hw k).2 (by omega)).1
        have el := ((hw k).2 (by omega)).2
        refine z_aload_n ZC 0 dX6_drinkAnHour_13 rfl rfl ?_
        refine z_get ZC inUX6 0 rfl rfl 7 (by decide) uF_X6_28 rfl dX6_drinkAnHour_14 ?_
        refine z_iload_n ZC 1 dX6_drinkAnHour_17 rfl rfl ?_
        refine z_iald ZC 4 rfl dX6_drinkAnHour_18 (by omega) ?_
        refine z_aload_n ZC 0 dX6_drinkAnHour_19 rfl rfl ?_
        refine z_get ZC inUX6 0 rfl rfl 8 (by decide) uF_X6_31 rfl dX6_drinkAnHour_20 ?_
        refine z_iload_n ZC 1 dX6_drinkAnHour_23 rfl rfl ?_
        refine z_iald ZC 5 rfl dX6_drinkAnHour_24 (by omega) ?_
        refine z_min ZC uM_X6_107 uZ_J9_min_7cf53 uN_J9 uC_J9_min_7cf53 dX6_drinkAnHour_25 (by omega) (by simp only [List.map_nil, List.map_cons, List.sum_nil, List.sum_cons, Value.category]; omega) (by omega) (by omega) (by omega) (by rw [ew]; omega) ?_
        refine z_nm (fun z ez => ?_)
        refine z_istore_n ZC 2 dX6_drinkAnHour_28 rfl (by decide) ?_
        refine z_aload_n ZC 0 dX6_drinkAnHour_29 rfl rfl ?_
        refine z_get ZC inUX6 0 rfl rfl 8 (by decide) uF_X6_31 rfl dX6_drinkAnHour_30 ?_
        refine z_iload_n ZC 1 dX6_drinkAnHour_33 rfl rfl ?_
        refine z_dup2 ZC dX6_drinkAnHour_34 rfl rfl ?_
        refine z_iald ZC 5 rfl dX6_drinkAnHour_35 (by omega) ?_
        refine z_iload_n ZC 2 dX6_drinkAnHour_36 rfl rfl ?_
        refine z_isub ZC dX6_drinkAnHour_37 ?_
        refine z_iast ZC 5 rfl dX6_drinkAnHour_38 (by omega) ?_
        refine z_aload_n ZC 0 dX6_drinkAnHour_39 rfl rfl ?_
        refine z_get ZC inUX6 0 rfl rfl 9 (by decide) uF_X6_34 rfl dX6_drinkAnHour_40 ?_
        refine z_iload_n ZC 1 dX6_drinkAnHour_43 rfl rfl ?_
        refine z_dup2 ZC dX6_drinkAnHour_44 rfl rfl ?_
        refine z_iald ZC 6 rfl dX6_drinkAnHour_45 (by omega) ?_
        refine z_aload_n ZC 0 dX6_drinkAnHour_46 rfl rfl ?_
        refine z_get ZC inUX6 0 rfl rfl 7 (by decide) uF_X6_28 rfl dX6_drinkAnHour_47 ?_
        refine z_iload_n ZC 1 dX6_drinkAnHour_50 rfl rfl ?_
        refine z_iald ZC 4 rfl dX6_drinkAnHour_51 (by omega) ?_
        refine z_iload_n ZC 2 dX6_drinkAnHour_52 rfl rfl ?_
        refine z_isub ZC dX6_drinkAnHour_53 ?_
        refine z_iadd ZC dX6_drinkAnHour_54 ?_
        refine z_iast ZC 6 rfl dX6_drinkAnHour_55 (by omega) ?_
        refine z_iinc ZC dX6_drinkAnHour_56 rfl (by decide) ?_
        refine z_goto ZC 2 dX6_drinkAnHour_59 (by decide) ?_
        refine z_ws (ws2 := [(h, .inr (6, [.ref (a 0), .ref (a 1), .ref (a 2), .ref (a 3), .ref (a 5), .ref (a 6), .ref (a 7), .ref (a 8), .ref (a 9), .ref (a 10), .ref (a 11), vZ (T.2 12), vZ (T.2 13), vZ (T.2 14), vZ (T.2 15)])), ((a 5), .inl (K.1, 8, .inl (ar (T.1 5)))), ((a 6), .inl (K.1, 8, .inl (ar (T.1 6)))), ((a 7), .inl (K.1, 8, .inl (ar (T.1 7)))), ((a 8), .inl (K.1, 10, .inl (ar (T.1 8)))), ((a 9), .inl (K.1, 10, .inl (ar (upz Wt k ((Wt k) - z))))), ((a 10), .inl (K.1, 10, .inl (ar (upz Lk k ((Lk k) + (((T.1 8) k) - z)))))), ((a 11), .inl (K.1, 16, .inl (ar (T.1 11)))), ((a 0), .inr (5, [.ref (ato 0), .ref (ato 1), vZ (To.2 2), vZ (To.2 3)])), ((ato 0), .inl (K.1, 10, .inl (ar (To.1 0)))), ((ato 1), .inl (K.1, 10, .inl (ar (To.1 1))))]) rfl (z_lv (lv2 := [(0, .ref h), (1, vZ (k + 1))]) ⟨rfl, rfl, trivial⟩ ?_)
        refine ih_2 (k + 1) (upz Wt k ((Wt k) - z)) (upz Lk k ((Lk k) + (((T.1 8) k) - z))) ?_ ?_ (by omega)
        · skip
          omega
        · skip
          intro t
          have q := hw t
          unfold upz
          by_cases z : t = k
          · rw [if_pos z, if_pos z]
            subst z
            refine ⟨fun _ => ⟨by rw [ez, ew], by rw [ez, el, ew]⟩, fun z2 => by omega⟩
          · rw [if_neg z, if_neg z]
            exact ⟨fun z2 => q.1 (by omega), fun z2 => q.2 (by omega)⟩
  refine z_ws (ws2 := [(h, .inr (6, [.ref (a 0), .ref (a 1), .ref (a 2), .ref (a 3), .ref (a 5), .ref (a 6), .ref (a 7), .ref (a 8), .ref (a 9), .ref (a 10), .ref (a 11), vZ (T.2 12), vZ (T.2 13), vZ (T.2 14), vZ (T.2 15)])), ((a 5), .inl (K.1, 8, .inl (ar (T.1 5)))), ((a 6), .inl (K.1, 8, .inl (ar (T.1 6)))), ((a 7), .inl (K.1, 8, .inl (ar (T.1 7)))), ((a 8), .inl (K.1, 10, .inl (ar (T.1 8)))), ((a 9), .inl (K.1, 10, .inl (ar (T.1 9)))), ((a 10), .inl (K.1, 10, .inl (ar (T.1 10)))), ((a 11), .inl (K.1, 16, .inl (ar (T.1 11)))), ((a 0), .inr (5, [.ref (ato 0), .ref (ato 1), vZ (To.2 2), vZ (To.2 3)])), ((ato 0), .inl (K.1, 10, .inl (ar (To.1 0)))), ((ato 1), .inl (K.1, 10, .inl (ar (To.1 1))))]) rfl (z_lv (lv2 := [(0, .ref h), (1, vZ 0)]) ⟨rfl, rfl, trivial⟩ ?_)
  refine lp_2 _ 0 (T.1 9) (T.1 10) ?_ ?_ (Nat.lt_succ_self _)
  · skip
    omega
  · skip
    intro t
    exact ⟨fun q => by omega, fun _ => ⟨rfl, rfl⟩⟩

set_option maxHeartbeats 4000000 in
set_option maxRecDepth 100000 in
theorem c_X6_queueUp (zl : Launch) (D : va_G) (K : tyK) (h : Nat) (a : Nat → Nat) (T : Bd) (aq : Nat → Nat) (Nq : Nat) (Sq : Bd) (an : Nat → Nat) (Ne : Bd) (ac : Nat → Nat) (Cr : Bd) (B : Nat) (C : Int → List Pt3) (town : Int) (who : Int) (many : Int) (ht : 0 ≤ town ∧ town < 10) (hw : 0 ≤ who ∧ who < 8) (hh : 0 ≤ Cr.1 2 who ∧ Cr.1 2 who < 10) (hO : LnO Nq B Sq C []) (hB : lns C 32 + 1 ≤ B ∧ lns C 32 + 1 ≤ Nq ∧ B ≤ 4096) (hm : 1 ≤ many) (hv : ∀ jj : Int, 0 ≤ jj → jj < 16 → ∀ q ∈ C jj, (-1 ≤ q.1 ∧ q.1 ≤ 10000) ∧ (-1 ≤ q.2.2 ∧ q.2.2 ≤ 10000)) (hy : 0 ≤ (Ne.1 7 (town * 10 + Cr.1 2 who)) ∧ (Ne.1 7 (town * 10 + Cr.1 2 who)) < 16) : Mz zl yX6_queueUp cX6_queueUp 5 (none) 2 47 0 0 D K [.ref h, vZ town, vZ who, vZ many] ((wTr K h a T) ++ (wLn K (a 3) aq Nq Sq) ++ (wNe K (a 1) an Ne) ++ (wCr K (a 2) ac Cr)) (fun r_ w2_ gc gs => ∃ (Sq2 : Bd), r_ = none ∧ w2_ = ((wTr K h a T) ++ (wLn K (a 3) aq Nq Sq2) ++ (wNe K (a 1) an Ne) ++ (wCr K (a 2) ac Cr)) ∧ gc = 0 ∧ gs = 0 ∧ (LnO Nq B Sq2 (upL C (Ne.1 7 (town * 10 + Cr.1 2 who)) (ap3 (C (Ne.1 7 (town * 10 + Cr.1 2 who))) who many 0)) [])) := by
  refine Mz.ofZ (by decide) rfl (Nat.le_of_ble_eq_true rfl) ?_
  intro zp ze zR zs zm zargs zbelow zmeth zc zA zQ ZC ZE hRf hRc hRs hRl
  refine z_aload_n ZC 0 dX6_queueUp_0 rfl rfl ?_
  refine z_get ZC inUX6 0 rfl rfl 1 (by decide) uF_X6_48 rfl dX6_queueUp_1 ?_
  refine z_iload_n ZC 1 dX6_queueUp_4 rfl rfl ?_
  refine z_aload_n ZC 0 dX6_queueUp_5 rfl rfl ?_
  refine z_get ZC inUX6 0 rfl rfl 2 (by decide) uF_X6_52 rfl dX6_queueUp_6 ?_
  refine z_get ZC inUX0 25 rfl rfl 2 (by decide) uF_X6_143 rfl dX6_queueUp_9 ?_
  refine z_iload_n ZC 2 dX6_queueUp_12 rfl rfl ?_
  refine z_iald ZC 28 rfl dX6_queueUp_13 (by omega) ?_
  refine z_callV ZC 2 (c_X4_nextRoad zl D K (a 1) an Ne town ((Cr.1 2) who) (by omega) (by omega)) (gdV uM_X6_153 uI_X4_nextRoad uS_X4_nextRoad uN_X4 uC_X4_nextRoad) (by decide +kernel) rfl ⟨by omega, by omega⟩ ⟨by omega, by omega⟩ (Nat.le_of_ble_eq_true rfl) [16, 17, 18, 19, 20, 21, 22, 23, 24] rfl (by decide) rfl rfl rfl rfl dX6_queueUp_14 (fun r w2 gc_14 gs_14 hp => ?_)
  obtain ⟨rfl, rfl, rfl, rfl⟩ := hp
  refine z_ws (ws2 := [(h, .inr (6, [.ref (a 0), .ref (a 1), .ref (a 2), .ref (a 3), .ref (a 5), .ref (a 6), .ref (a 7), .ref (a 8), .ref (a 9), .ref (a 10), .ref (a 11), vZ (T.2 12), vZ (T.2 13), vZ (T.2 14), vZ (T.2 15)])), ((a 5), .inl (K.1, 8, .inl (ar (T.1 5)))), ((a 6), .inl (K.1, 8, .inl (ar (T.1 6)))), ((a 7), .inl (K.1, 8, .inl (ar (T.1 7)))), ((a 8), .inl (K.1, 10, .inl (ar (T.1 8)))), ((a 9), .inl (K.1, 10, .inl (ar (T.1 9)))), ((a 10), .inl (K.1, 10, .inl (ar (T.1 10)))), ((a 11), .inl (K.1, 16, .inl (ar (T.1 11)))), ((a 3), .inr (2, [.ref (aq 0), .ref (aq 1), .ref (aq 2), .ref (aq 3), .ref (aq 4), .ref (aq 5), .ref (aq 6), vZ (Sq.2 7), vZ (Sq.2 8)])), ((aq 0), .inl (K.1, 32, .inl (ar (Sq.1 0)))), ((aq 1), .inl (K.1, 32, .inl (ar (Sq.1 1)))), ((aq 2), .inl (K.1, 32, .inl (ar (Sq.1 2)))), ((aq 3), .inl (K.1, Nq, .inl (ar (Sq.1 3)))), ((aq 4), .inl (K.1, Nq, .inl (ar (Sq.1 4)))), ((aq 5), .inl (K.1, Nq, .inl (ar (Sq.1 5)))), ((aq 6), .inl (K.1, Nq, .inl (ar (Sq.1 6)))), ((a 1), .inr (4, [.ref (an 0), .ref (an 1), .ref (an 2), .ref (an 3), .ref (an 4), .ref (an 5), .ref (an 6), .ref (an 7), vZ (Ne.2 8)])), ((an 0), .inl (K.1, 16, .inl (ar (Ne.1 0)))), ((an 1), .inl (K.1, 16, .inl (ar (Ne.1 1)))), ((an 2), .inl (K.1, 16, .inl (ar (Ne.1 2)))), ((an 3), .inl (K.1, 16, .inl (ar (Ne.1 3)))), ((an 4), .inl (K.1, 16, .inl (ar (Ne.1 4)))), ((an 5), .inl (K.1, 16, .inl (ar (Ne.1 5)))), ((an 6), .inl (K.1, 100, .inl (ar (Ne.1 6)))), ((an 7), .inl (K.1, 100, .inl (ar (Ne.1 7)))), ((a 2), .inr (0, [.ref (ac 0), .ref (ac 1), .ref (ac 2), vZ (Cr.2 3), vZ (Cr.2 4)])), ((ac 0), .inl (K.1, 8, .inl (ar (Cr.1 0)))), ((ac 1), .inl (K.1, 8, .inl (ar (Cr.1 1)))), ((ac 2), .inl (K.1, 8, .inl (ar (Cr.1 2))))]) rfl ?_
  refine z_st (st2 := [vZ (Ne.1 7 (town * 10 + ((Cr.1 2) who)))]) rfl ?_
  refine z_istore ZC dX6_queueUp_17 (by decide) ?_
  refine z_iload ZC dX6_queueUp_19 rfl ?_
  refine z_iconst ZC dX6_queueUp_21 ?_
  refine z_icmp_eq ZC 40 dX6_queueUp_22 (by decide) (by omega) (by omega) (fun c_22 => ?_) (fun c_22 => ?_)
  · skip
    omega
  · skip
    refine z_aload_n ZC 0 dX6_queueUp_25 rfl rfl ?_
    refine z_get ZC inUX6 0 rfl rfl 3 (by decide) uF_X6_12 rfl dX6_queueUp_26 ?_
    refine z_iload ZC dX6_queueUp_29 rfl ?_
    refine z_callS ZC 1 (c_X2_queueOf zl D K (Ne.1 7 (town * 10 + ((Cr.1 2) who))) ) (gdS uM_X6_77 uZ_X2_queueOf uN_X2 uC_X2_queueOf) (by decide +kernel) rfl ⟨by omega, by omega⟩ ⟨by omega, by omega⟩ (Nat.le_of_ble_eq_true rfl) [] rfl (by decide) rfl dX6_queueUp_31 (fun r w2 gc_31 gs_31 hp => ?_)
    obtain ⟨rfl, rfl, rfl, rfl⟩ := hp
    refine z_st (st2 := [vZ (Ne.1 7 (town * 10 + ((Cr.1 2) who))), .ref (a 3)]) rfl ?_
    refine z_iload_n ZC 2 dX6_queueUp_34 rfl rfl ?_
    refine z_iload_n ZC 3 dX6_queueUp_35 rfl rfl ?_
    refine z_iconst ZC dX6_queueUp_36 ?_
    refine z_callV ZC 4 (c_X2_append zl D K (a 3) aq Nq Sq B C (Ne.1 7 (town * 10 + ((Cr.1 2) who))) who many 0 (hO) (by omega) (hB) (by omega) (by omega) (by omega) (hv _ hy.1 hy.2)) (gdV uM_X6_156 uI_X2_append uS_X2_append uN_X2 uC_X2_append) (by decide +kernel) rfl ⟨by omega, by omega⟩ ⟨by omega, by omega⟩ (Nat.le_of_ble_eq_true rfl) [8, 9, 10, 11, 12, 13, 14, 15] rfl (by decide) rfl rfl rfl rfl dX6_queueUp_37 (fun r w2 gc_37 gs_37 hp => ?_)
    obtain ⟨S2_37, rfl, rfl, rfl, rfl, hO2_37⟩ := hp
    refine z_ws (ws2 := [(h, .inr (6, [.ref (a 0), .ref (a 1), .ref (a 2), .ref (a 3), .ref (a 5), .ref (a 6), .ref (a 7), .ref (a 8), .ref (a 9), .ref (a 10), .ref (a 11), vZ (T.2 12), vZ (T.2 13), vZ (T.2 14), vZ (T.2 15)])), ((a 5), .inl (K.1, 8, .inl (ar (T.1 5)))), ((a 6), .inl (K.1, 8, .inl (ar (T.1 6)))), ((a 7), .inl (K.1, 8, .inl (ar (T.1 7)))), ((a 8), .inl (K.1, 10, .inl (ar (T.1 8)))), ((a 9), .inl (K.1, 10, .inl (ar (T.1 9)))), ((a 10), .inl (K.1, 10, .inl (ar (T.1 10)))), ((a 11), .inl (K.1, 16, .inl (ar (T.1 11)))), ((a 3), .inr (2, [.ref (aq 0), .ref (aq 1), .ref (aq 2), .ref (aq 3), .ref (aq 4), .ref (aq 5), .ref (aq 6), vZ (S2_37.2 7), vZ (S2_37.2 8)])), ((aq 0), .inl (K.1, 32, .inl (ar (S2_37.1 0)))), ((aq 1), .inl (K.1, 32, .inl (ar (S2_37.1 1)))), ((aq 2), .inl (K.1, 32, .inl (ar (S2_37.1 2)))), ((aq 3), .inl (K.1, Nq, .inl (ar (S2_37.1 3)))), ((aq 4), .inl (K.1, Nq, .inl (ar (S2_37.1 4)))), ((aq 5), .inl (K.1, Nq, .inl (ar (S2_37.1 5)))), ((aq 6), .inl (K.1, Nq, .inl (ar (S2_37.1 6)))), ((a 1), .inr (4, [.ref (an 0), .ref (an 1), .ref (an 2), .ref (an 3), .ref (an 4), .ref (an 5), .ref (an 6), .ref (an 7), vZ (Ne.2 8)])), ((an 0), .inl (K.1, 16, .inl (ar (Ne.1 0)))), ((an 1), .inl (K.1, 16, .inl (ar (Ne.1 1)))), ((an 2), .inl (K.1, 16, .inl (ar (Ne.1 2)))), ((an 3), .inl (K.1, 16, .inl (ar (Ne.1 3)))), ((an 4), .inl (K.1, 16, .inl (ar (Ne.1 4)))), ((an 5), .inl (K.1, 16, .inl (ar (Ne.1 5)))), ((an 6), .inl (K.1, 100, .inl (ar (Ne.1 6)))), ((an 7), .inl (K.1, 100, .inl (ar (Ne.1 7)))), ((a 2), .inr (0, [.ref (ac 0), .ref (ac 1), .ref (ac 2), vZ (Cr.2 3), vZ (Cr.2 4)])), ((ac 0), .inl (K.1, 8, .inl (ar (Cr.1 0)))), ((ac 1), .inl (K.1, 8, .inl (ar (Cr.1 1)))), ((ac 2), .inl (K.1, 8, .inl (ar (Cr.1 2))))]) rfl ?_
    refine z_st (st2 := []) rfl ?_
    refine z_vret ZC ZE dX6_queueUp_40 (by omega) (by omega) (Nat.le_of_ble_eq_true rfl) ⟨S2_37, rfl, rfl, by omega, by omega, ?_⟩
    · skip
      exact hO2_37

set_option maxHeartbeats 4000000 in
set_option maxRecDepth 100000 in
theorem c_X6_comeHome (zl : Launch) (D : va_G) (K : tyK) (h : Nat) (a : Nat → Nat) (T : Bd) (who : Int) (many : Int) (hw : 0 ≤ who ∧ who < 8) : Mz zl yX6_comeHome cX6_comeHome 3 (none) 0 0 0 0 D K [.ref h, vZ who, vZ many] (wTr K h a T) (fun r_ w2_ gc gs => r_ = none ∧ w2_ = (wTr K h a ((upf (upf T.1 6 (upz (T.1 6) who (T.1 6 who + many))) 7 (upz (T.1 7) who (T.2 12))), (upf (upf T.2 13 (T.2 13 + many)) 14 (T.2 12)))) ∧ gc = 0 ∧ gs = 0) := by
  refine Mz.ofZ (by decide) rfl (Nat.le_of_ble_eq_true rfl) ?_
  intro zp ze zR zs zm zargs zbelow zmeth zc zA zQ ZC ZE hRf hRc hRs hRl
  refine z_aload_n ZC 0 dX6_comeHome_0 rfl rfl ?_
  refine z_get ZC inUX6 0 rfl rfl 5 (by decide) uF_X6_22 rfl dX6_comeHome_1 ?_
  refine z_iload_n ZC 1 dX6_comeHome_4 rfl rfl ?_
  refine z_dup2 ZC dX6_comeHome_5 rfl rfl ?_
  refine z_iald ZC 2 rfl dX6_comeHome_6 (by omega) ?_
  refine z_iload_n ZC 2 dX6_comeHome_7 rfl rfl ?_
  refine z_iadd ZC dX6_comeHome_8 ?_
  refine z_iast ZC 2 rfl dX6_comeHome_9 (by omega) ?_
  refine z_aload_n ZC 0 dX6_comeHome_10 rfl rfl ?_
  refine z_get ZC inUX6 0 rfl rfl 6 (by decide) uF_X6_25 rfl dX6_comeHome_11 ?_
  refine z_iload_n ZC 1 dX6_comeHome_14 rfl rfl ?_
  refine z_aload_n ZC 0 dX6_comeHome_15 rfl rfl ?_
  refine z_get ZC inUX6 0 rfl rfl 11 (by decide) uF_X6_56 rfl dX6_comeHome_16 ?_
  refine z_iast ZC 3 rfl dX6_comeHome_19 (by omega) ?_
  refine z_aload_n ZC 0 dX6_comeHome_20 rfl rfl ?_
  refine z_dup ZC dX6_comeHome_21 rfl ?_
  refine z_get ZC inUX6 0 rfl rfl 12 (by decide) uF_X6_59 rfl dX6_comeHome_22 ?_
  refine z_iload_n ZC 2 dX6_comeHome_25 rfl rfl ?_
  refine z_iadd ZC dX6_comeHome_26 ?_
  refine z_put ZC inUX6 tyX6_ok nmX6 0 rfl rfl 12 (by decide) uF_X6_59 rfl (rfl) (rfl) (Nat.le_of_ble_eq_true rfl) dX6_comeHome_27 ?_
  refine z_ws (ws2 := [(h, .inr (6, [.ref (a 0), .ref (a 1), .ref (a 2), .ref (a 3), .ref (a 5), .ref (a 6), .ref (a 7), .ref (a 8), .ref (a 9), .ref (a 10), .ref (a 11), vZ (T.2 12), vZ ((T.2 13) + many), vZ (T.2 14), vZ (T.2 15)])), ((a 5), .inl (K.1, 8, .inl (ar (T.1 5)))), ((a 6), .inl (K.1, 8, .inl (ar (upz (T.1 6) who (((T.1 6) who) + many))))), ((a 7), .inl (K.1, 8, .inl (ar (upz (T.1 7) who (T.2 12))))), ((a 8), .inl (K.1, 10, .inl (ar (T.1 8)))), ((a 9), .inl (K.1, 10, .inl (ar (T.1 9)))), ((a 10), .inl (K.1, 10, .inl (ar (T.1 10)))), ((a 11), .inl (K.1, 16, .inl (ar (T.1 11))))]) rfl ?_
  refine z_aload_n ZC 0 dX6_comeHome_30 rfl rfl ?_
  refine z_aload_n ZC 0 dX6_comeHome_31 rfl rfl ?_
  refine z_get ZC inUX6 0 rfl rfl 11 (by decide) uF_X6_56 rfl dX6_comeHome_32 ?_
  refine z_put ZC inUX6 tyX6_ok nmX6 0 rfl rfl 13 (by decide) uF_X6_40 rfl (rfl) (rfl) (Nat.le_of_ble_eq_true rfl) dX6_comeHome_35 ?_
  exact z_vret ZC ZE dX6_comeHome_38 (by omega) (by omega) (Nat.le_of_ble_eq_true rfl) ⟨rfl, rfl, by omega, by omega⟩

