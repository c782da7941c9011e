/-! ===== Towns, Crowds: the small methods ===== -/
set_option maxHeartbeats 4000000 in
set_option maxRecDepth 100000 in
theorem c_X5_has (zl : Launch) (D : va_G) (K : tyK) (h : Nat) (a : Nat → Nat) (T : Bd) (town : Int) (hc : 0 ≤ T.2 3 ∧ T.2 3 ≤ 10) (hr : -2147483648 ≤ town ∧ town < 2147483648) : Mz zl yX5_has cX5_has 2 (some .boolean) 0 0 0 0 D K [.ref h, vZ town] (wTo K h a T) (fun r_ w2_ gc gs => ∃ (b : Int), r_ = some (vZ b) ∧ w2_ = (wTo K h a T) ∧ gc = 0 ∧ gs = 0 ∧ ((b = 1 ∧ (0 ≤ town ∧ town < T.2 3)) ∨ (b = 0 ∧ ¬ (0 ≤ town ∧ town < T.2 3)))) := by
  refine Mz.ofZ (by decide) rfl (Nat.le_of_ble_eq_true rfl) ?_
  intro zp ze zR zs zm zargs zbelow zmeth zc zA zQ ZC ZE hRf hRc hRs hRl
  refine z_iload_n ZC 1 dX5_has_0 rfl rfl ?_
  refine z_if_lt ZC 16 dX5_has_1 (by decide) (by omega) (fun c_1 => ?_) (fun c_1 => ?_)
  · skip
    refine z_iconst ZC dX5_has_16 ?_
    refine z_zret ZC ZE dX5_has_17 (by omega) (by omega) (by omega) (Nat.le_of_ble_eq_true rfl) ⟨0, rfl, rfl, by omega, by omega, ?_⟩
    · skip
      omega
  · skip
    refine z_iload_n ZC 1 dX5_has_4 rfl rfl ?_
    refine z_aload_n ZC 0 dX5_has_5 rfl rfl ?_
    refine z_get ZC inUX5 0 rfl rfl 3 (by decide) uF_X5_22 rfl dX5_has_6 ?_
    refine z_icmp_ge ZC 16 dX5_has_9 (by decide) (by omega) (by omega) (fun c_9 => ?_) (fun c_9 => ?_)
    · skip
      refine z_iconst ZC dX5_has_16 ?_
      refine z_zret ZC ZE dX5_has_17 (by omega) (by omega) (by omega) (Nat.le_of_ble_eq_true rfl) ⟨0, rfl, rfl, by omega, by omega, ?_⟩
      · skip
        omega
    · skip
      refine z_iconst ZC dX5_has_12 ?_
      refine z_goto ZC 17 dX5_has_13 (by decide) ?_
      refine z_zret ZC ZE dX5_has_17 (by omega) (by omega) (by omega) (Nat.le_of_ble_eq_true rfl) ⟨1, rfl, rfl, by omega, by omega, ?_⟩
      · skip
        omega

set_option maxHeartbeats 4000000 in
set_option maxRecDepth 100000 in
theorem c_X0_has (zl : Launch) (D : va_G) (K : tyK) (h : Nat) (a : Nat → Nat) (Cr : Bd) (crowd : Int) (hc : 0 ≤ Cr.2 3 ∧ Cr.2 3 ≤ 8) (hr : -2147483648 ≤ crowd ∧ crowd < 2147483648) : Mz zl yX0_has cX0_has 2 (some .boolean) 0 0 0 0 D K [.ref h, vZ crowd] (wCr K h a Cr) (fun r_ w2_ gc gs => ∃ (b : Int), r_ = some (vZ b) ∧ w2_ = (wCr K h a Cr) ∧ gc = 0 ∧ gs = 0 ∧ ((b = 1 ∧ (0 ≤ crowd ∧ crowd < Cr.2 3)) ∨ (b = 0 ∧ ¬ (0 ≤ crowd ∧ crowd < Cr.2 3)))) := by
  refine Mz.ofZ (by decide) rfl (Nat.le_of_ble_eq_true rfl) ?_
  intro zp ze zR zs zm zargs zbelow zmeth zc zA zQ ZC ZE hRf hRc hRs hRl
  refine z_iload_n ZC 1 dX0_has_0 rfl rfl ?_
  refine z_if_lt ZC 16 dX0_has_1 (by decide) (by omega) (fun c_1 => ?_) (fun c_1 => ?_)
  · skip
    refine z_iconst ZC dX0_has_16 ?_
    refine z_zret ZC ZE dX0_has_17 (by omega) (by omega) (by omega) (Nat.le_of_ble_eq_true rfl) ⟨0, rfl, rfl, by omega, by omega, ?_⟩
    · skip
      omega
  · skip
    refine z_iload_n ZC 1 dX0_has_4 rfl rfl ?_
    refine z_aload_n ZC 0 dX0_has_5 rfl rfl ?_
    refine z_get ZC inUX0 0 rfl rfl 3 (by decide) uF_X0_21 rfl dX0_has_6 ?_
    refine z_icmp_ge ZC 16 dX0_has_9 (by decide) (by omega) (by omega) (fun c_9 => ?_) (fun c_9 => ?_)
    · skip
      refine z_iconst ZC dX0_has_16 ?_
      refine z_zret ZC ZE dX0_has_17 (by omega) (by omega) (by omega) (Nat.le_of_ble_eq_true rfl) ⟨0, rfl, rfl, by omega, by omega, ?_⟩
      · skip
        omega
    · skip
      refine z_iconst ZC dX0_has_12 ?_
      refine z_goto ZC 17 dX0_has_13 (by decide) ?_
      refine z_zret ZC ZE dX0_has_17 (by omega) (by omega) (by omega) (Nat.le_of_ble_eq_true rfl) ⟨1, rfl, rfl, by omega, by omega, ?_⟩
      · skip
        omega

set_option maxHeartbeats 4000000 in
set_option maxRecDepth 100000 in
theorem c_X4_has (zl : Launch) (D : va_G) (K : tyK) (h : Nat) (a : Nat → Nat) (Ne : Bd) (road : Int) (hc : 0 ≤ Ne.2 8 ∧ Ne.2 8 ≤ 16) (hr : -2147483648 ≤ road ∧ road < 2147483648) : Mz zl yX4_has cX4_has 2 (some .boolean) 0 0 0 0 D K [.ref h, vZ road] (wNe K h a Ne) (fun r_ w2_ gc gs => ∃ (b : Int), r_ = some (vZ b) ∧ w2_ = (wNe K h a Ne) ∧ gc = 0 ∧ gs = 0 ∧ ((b = 1 ∧ (0 ≤ road ∧ road < Ne.2 8)) ∨ (b = 0 ∧ ¬ (0 ≤ road ∧ road < Ne.2 8)))) := by
  refine Mz.ofZ (by decide) rfl (Nat.le_of_ble_eq_true rfl) ?_
  intro zp ze zR zs zm zargs zbelow zmeth zc zA zQ ZC ZE hRf hRc hRs hRl
  refine z_iload_n ZC 1 dX4_has_0 rfl rfl ?_
  refine z_if_lt ZC 16 dX4_has_1 (by decide) (by omega) (fun c_1 => ?_) (fun c_1 => ?_)
  · skip
    refine z_iconst ZC dX4_has_16 ?_
    refine z_zret ZC ZE dX4_has_17 (by omega) (by omega) (by omega) (Nat.le_of_ble_eq_true rfl) ⟨0, rfl, rfl, by omega, by omega, ?_⟩
    · skip
      omega
  · skip
    refine z_iload_n ZC 1 dX4_has_4 rfl rfl ?_
    refine z_aload_n ZC 0 dX4_has_5 rfl rfl ?_
    refine z_get ZC inUX4 0 rfl rfl 8 (by decide) uF_X4_42 rfl dX4_has_6 ?_
    refine z_icmp_ge ZC 16 dX4_has_9 (by decide) (by omega) (by omega) (fun c_9 => ?_) (fun c_9 => ?_)
    · skip
      refine z_iconst ZC dX4_has_16 ?_
      refine z_zret ZC ZE dX4_has_17 (by omega) (by omega) (by omega) (Nat.le_of_ble_eq_true rfl) ⟨0, rfl, rfl, by omega, by omega, ?_⟩
      · skip
        omega
    · skip
      refine z_iconst ZC dX4_has_12 ?_
      refine z_goto ZC 17 dX4_has_13 (by decide) ?_
      refine z_zret ZC ZE dX4_has_17 (by omega) (by omega) (by omega) (Nat.le_of_ble_eq_true rfl) ⟨1, rfl, rfl, by omega, by omega, ?_⟩
      · skip
        omega

set_option maxHeartbeats 4000000 in
set_option maxRecDepth 100000 in
theorem c_X5_add (zl : Launch) (D : va_G) (K : tyK) (h : Nat) (a : Nat → Nat) (T : Bd) (far : Int) (hc : 0 ≤ T.2 3 ∧ T.2 3 < 10) : Mz zl yX5_add cX5_add 2 (some .int) 0 0 0 0 D K [.ref h, vZ far] (wTo K h a T) (fun r_ w2_ gc gs => r_ = some (vZ (T.2 3)) ∧ w2_ = (wTo K h a ((upf T.1 0 (upz (T.1 0) (T.2 3) far)), (upf T.2 3 (T.2 3 + 1)))) ∧ gc = 0 ∧ gs = 0) := by
  refine Mz.ofZ (by decide) rfl (Nat.le_of_ble_eq_true rfl) ?_
  intro zp ze zR zs zm zargs zbelow zmeth zc zA zQ ZC ZE hRf hRc hRs hRl
  refine z_aload_n ZC 0 dX5_add_0 rfl rfl ?_
  refine z_get ZC inUX5 0 rfl rfl 0 (by decide) uF_X5_9 rfl dX5_add_1 ?_
  refine z_aload_n ZC 0 dX5_add_4 rfl rfl ?_
  refine z_get ZC inUX5 0 rfl rfl 3 (by decide) uF_X5_22 rfl dX5_add_5 ?_
  refine z_iload_n ZC 1 dX5_add_8 rfl rfl ?_
  refine z_iast ZC 1 rfl dX5_add_9 (by omega) ?_
  refine z_aload_n ZC 0 dX5_add_10 rfl rfl ?_
  refine z_dup ZC dX5_add_11 rfl ?_
  refine z_get ZC inUX5 0 rfl rfl 3 (by decide) uF_X5_22 rfl dX5_add_12 ?_
  refine z_dup_x1 ZC dX5_add_15 rfl rfl ?_
  refine z_iconst ZC dX5_add_16 ?_
  refine z_iadd ZC dX5_add_17 ?_
  refine z_put ZC inUX5 tyX5_ok nmX5 0 rfl rfl 3 (by decide) uF_X5_22 rfl (rfl) (rfl) (Nat.le_of_ble_eq_true rfl) dX5_add_18 ?_
  exact z_iret ZC ZE dX5_add_21 (by omega) (by omega) (Nat.le_of_ble_eq_true rfl) ⟨rfl, rfl, by omega, by omega⟩

set_option maxHeartbeats 4000000 in
set_option maxRecDepth 100000 in
theorem c_X0_add (zl : Launch) (D : va_G) (K : tyK) (h : Nat) (a : Nat → Nat) (Cr : Bd) (wh : Int) (many : Int) (whi : Int) (hc : 0 ≤ Cr.2 3 ∧ Cr.2 3 < 8) : Mz zl yX0_add cX0_add 4 (some .int) 0 0 0 0 D K [.ref h, vZ wh, vZ many, vZ whi] (wCr K h a Cr) (fun r_ w2_ gc gs => r_ = some (vZ (Cr.2 3)) ∧ w2_ = (wCr K h a ((upf (upf (upf Cr.1 0 (upz (Cr.1 0) (Cr.2 3) wh)) 1 (upz (Cr.1 1) (Cr.2 3) many)) 2 (upz (Cr.1 2) (Cr.2 3) whi)), (upf (upf Cr.2 3 (Cr.2 3 + 1)) 4 (Cr.2 4 + many)))) ∧ gc = 0 ∧ gs = 0) := by
  refine Mz.ofZ (by decide) rfl (Nat.le_of_ble_eq_true rfl) ?_
  intro zp ze zR zs zm zargs zbelow zmeth zc zA zQ ZC ZE hRf hRc hRs hRl
  refine z_aload_n ZC 0 dX0_add_0 rfl rfl ?_
  refine z_get ZC inUX0 0 rfl rfl 0 (by decide) uF_X0_9 rfl dX0_add_1 ?_
  refine z_aload_n ZC 0 dX0_add_4 rfl rfl ?_
  refine z_get ZC inUX0 0 rfl rfl 3 (by decide) uF_X0_21 rfl dX0_add_5 ?_
  refine z_iload_n ZC 1 dX0_add_8 rfl rfl ?_
  refine z_iast ZC 1 rfl dX0_add_9 (by omega) ?_
  refine z_aload_n ZC 0 dX0_add_10 rfl rfl ?_
  refine z_get ZC inUX0 0 rfl rfl 1 (by decide) uF_X0_15 rfl dX0_add_11 ?_
  refine z_aload_n ZC 0 dX0_add_14 rfl rfl ?_
  refine z_get ZC inUX0 0 rfl rfl 3 (by decide) uF_X0_21 rfl dX0_add_15 ?_
  refine z_iload_n ZC 2 dX0_add_18 rfl rfl ?_
  refine z_iast ZC 2 rfl dX0_add_19 (by omega) ?_
  refine z_aload_n ZC 0 dX0_add_20 rfl rfl ?_
  refine z_get ZC inUX0 0 rfl rfl 2 (by decide) uF_X0_18 rfl dX0_add_21 ?_
  refine z_aload_n ZC 0 dX0_add_24 rfl rfl ?_
  refine z_get ZC inUX0 0 rfl rfl 3 (by decide) uF_X0_21 rfl dX0_add_25 ?_
  refine z_iload_n ZC 3 dX0_add_28 rfl rfl ?_
  refine z_iast ZC 3 rfl dX0_add_29 (by omega) ?_
  refine z_ws (ws2 := [(h, .inr (0, [.ref (a 0), .ref (a 1), .ref (a 2), vZ (Cr.2 3), vZ (Cr.2 4)])), ((a 0), .inl (K.1, 8, .inl (ar (upz (Cr.1 0) (Cr.2 3) wh)))), ((a 1), .inl (K.1, 8, .inl (ar (upz (Cr.1 1) (Cr.2 3) many)))), ((a 2), .inl (K.1, 8, .inl (ar (upz (Cr.1 2) (Cr.2 3) whi))))]) rfl ?_
  refine z_aload_n ZC 0 dX0_add_30 rfl rfl ?_
  refine z_dup ZC dX0_add_31 rfl ?_
  refine z_get ZC inUX0 0 rfl rfl 4 (by decide) uF_X0_25 rfl dX0_add_32 ?_
  refine z_iload_n ZC 2 dX0_add_35 rfl rfl ?_
  refine z_iadd ZC dX0_add_36 ?_
  refine z_put ZC inUX0 tyX0_ok nmX0 0 rfl rfl 4 (by decide) uF_X0_25 rfl (rfl) (rfl) (Nat.le_of_ble_eq_true rfl) dX0_add_37 ?_
  refine z_aload_n ZC 0 dX0_add_40 rfl rfl ?_
  refine z_dup ZC dX0_add_41 rfl ?_
  refine z_get ZC inUX0 0 rfl rfl 3 (by decide) uF_X0_21 rfl dX0_add_42 ?_
  refine z_dup_x1 ZC dX0_add_45 rfl rfl ?_
  refine z_iconst ZC dX0_add_46 ?_
  refine z_iadd ZC dX0_add_47 ?_
  refine z_put ZC inUX0 tyX0_ok nmX0 0 rfl rfl 3 (by decide) uF_X0_21 rfl (rfl) (rfl) (Nat.le_of_ble_eq_true rfl) dX0_add_48 ?_
  exact z_iret ZC ZE dX0_add_51 (by omega) (by omega) (Nat.le_of_ble_eq_true rfl) ⟨rfl, rfl, by omega, by omega⟩

set_option maxHeartbeats 4000000 in
set_option maxRecDepth 100000 in
theorem c_X4_leastHours (zl : Launch) (D : va_G) (K : tyK) (h : Nat) (a : Nat → Nat) (Ne : Bd) (i : Int) (j : Int) (hi : 0 ≤ i ∧ i < 10) (hj : 0 ≤ j ∧ j < 10) : Mz zl yX4_leastHours cX4_leastHours 3 (some .int) 0 0 0 0 D K [.ref h, vZ i, vZ j] (wNe K h a Ne) (fun r_ w2_ gc gs => r_ = some (vZ (Ne.1 6 (i * 10 + j))) ∧ w2_ = (wNe K h a Ne) ∧ gc = 0 ∧ gs = 0) := by
  refine Mz.ofZ (by decide) rfl (Nat.le_of_ble_eq_true rfl) ?_
  intro zp ze zR zs zm zargs zbelow zmeth zc zA zQ ZC ZE hRf hRc hRs hRl
  refine z_aload_n ZC 0 dX4_leastHours_0 rfl rfl ?_
  refine z_get ZC inUX4 0 rfl rfl 6 (by decide) uF_X4_30 rfl dX4_leastHours_1 ?_
  refine z_iload_n ZC 1 dX4_leastHours_4 rfl rfl ?_
  refine z_bipush ZC dX4_leastHours_5 (by decide) ?_
  refine z_imul ZC dX4_leastHours_7 ?_
  refine z_iload_n ZC 2 dX4_leastHours_8 rfl rfl ?_
  refine z_iadd ZC dX4_leastHours_9 ?_
  refine z_iald ZC 7 rfl dX4_leastHours_10 (by omega) ?_
  exact z_iret ZC ZE dX4_leastHours_11 (by omega) (by omega) (Nat.le_of_ble_eq_true rfl) ⟨rfl, rfl, by omega, by omega⟩

set_option maxHeartbeats 4000000 in
set_option maxRecDepth 100000 in
theorem c_X4_nextRoad (zl : Launch) (D : va_G) (K : tyK) (h : Nat) (a : Nat → Nat) (Ne : Bd) (i : Int) (j : Int) (hi : 0 ≤ i ∧ i < 10) (hj : 0 ≤ j ∧ j < 10) : Mz zl yX4_nextRoad cX4_nextRoad 3 (some .int) 0 0 0 0 D K [.ref h, vZ i, vZ j] (wNe K h a Ne) (fun r_ w2_ gc gs => r_ = some (vZ (Ne.1 7 (i * 10 + j))) ∧ w2_ = (wNe K h a Ne) ∧ gc = 0 ∧ gs = 0) := by
  refine Mz.ofZ (by decide) rfl (Nat.le_of_ble_eq_true rfl) ?_
  intro zp ze zR zs zm zargs zbelow zmeth zc zA zQ ZC ZE hRf hRc hRs hRl
  refine z_aload_n ZC 0 dX4_nextRoad_0 rfl rfl ?_
  refine z_get ZC inUX4 0 rfl rfl 7 (by decide) uF_X4_33 rfl dX4_nextRoad_1 ?_
  refine z_iload_n ZC 1 dX4_nextRoad_4 rfl rfl ?_
  refine z_bipush ZC dX4_nextRoad_5 (by decide) ?_
  refine z_imul ZC dX4_nextRoad_7 ?_
  refine z_iload_n ZC 2 dX4_nextRoad_8 rfl rfl ?_
  refine z_iadd ZC dX4_nextRoad_9 ?_
  refine z_iald ZC 8 rfl dX4_nextRoad_10 (by omega) ?_
  exact z_iret ZC ZE dX4_nextRoad_11 (by omega) (by omega) (Nat.le_of_ble_eq_true rfl) ⟨rfl, rfl, by omega, by omega⟩

