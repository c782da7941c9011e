/-! ===== constructors: Towns, Crowds, Net, Log ===== -/
set_option maxHeartbeats 4000000 in
set_option maxRecDepth 100000 in
theorem c_X5_init (zl : Launch) (D : va_G) (K : tyK) (h : Nat)  : Mz zl yX5_init cX5_init 1 (none) 1 20 2 20 D K [.ref h] [(h, .inr (5, [.null, .null, vZ 0, vZ 0]))] (fun r_ w2_ gc gs => ∃ (a : Nat → Nat), ∃ (S : Bd), r_ = none ∧ w2_ = (wTo K h a S) ∧ gc = 2 ∧ gs = 20 ∧ (S.2 2 = 50) ∧ (S.2 3 = 0) ∧ (∀ j, S.1 1 j = 0)) := by
  refine Mz.ofZ (by decide) rfl (Nat.le_of_ble_eq_true rfl) ?_
  intro zp ze zR zs zm zargs zbelow zmeth zc zA zQ ZC ZE hRf hRc hRs hRl
  refine z_aload_n ZC 0 dX5_init_0 rfl rfl ?_
  refine z_objInit ZC uM_X5_3 uI_java_lang_Object__init_ uC_java_lang_Object__init_ dX5_init_1 (by omega) (by simp only [List.map_nil, List.map_cons, List.sum_nil, List.sum_cons, Value.category]; omega) ?_
  refine z_aload_n ZC 0 dX5_init_4 rfl rfl ?_
  refine z_bipush ZC dX5_init_5 (by decide) ?_
  refine z_newa ZC (n := 10) uA_int dX5_init_7 (by rfl) (by omega) (by omega) (by omega) (fun q7 => ?_)
  refine z_putF ZC ZE.2.2.2.2 inUX5 tyX5_ok nmX5 0 rfl rfl 0 (by decide) uF_X5_9 rfl rfl (rfl) (rfl) (Nat.le_of_ble_eq_true rfl) dX5_init_9 ?_
  refine z_aload_n ZC 0 dX5_init_12 rfl rfl ?_
  refine z_bipush ZC dX5_init_13 (by decide) ?_
  refine z_newa ZC (n := 10) uA_int dX5_init_15 (by rfl) (by omega) (by omega) (by omega) (fun q15 => ?_)
  refine z_putF ZC ZE.2.2.2.2 inUX5 tyX5_ok nmX5 0 rfl rfl 1 (by decide) uF_X5_15 rfl rfl (rfl) (rfl) (Nat.le_of_ble_eq_true rfl) dX5_init_17 ?_
  refine z_aload_n ZC 0 dX5_init_20 rfl rfl ?_
  refine z_bipush ZC dX5_init_21 (by decide) ?_
  refine z_put ZC inUX5 tyX5_ok nmX5 0 rfl rfl 2 (by decide) uF_X5_18 rfl (rfl) (rfl) (Nat.le_of_ble_eq_true rfl) dX5_init_23 ?_
  refine z_ws (ws2 := [(h, .inr (5, [.ref q7, .ref q15, vZ 50, vZ 0])), (q7, .inl (K.1, 10, .inl (ar (fun _ => 0)))), (q15, .inl (K.1, 10, .inl (ar (fun _ => 0))))]) rfl ?_
  refine z_vret ZC ZE dX5_init_26 (by omega) (by omega) (Nat.le_of_ble_eq_true rfl) ⟨(upf (upf (fun _ => 0) 0 q7) 1 q15), ((upf (upf (fun _ _ => 0) 0 (fun _ => 0)) 1 (fun _ => 0)), (upf (upf (fun _ => 0) 2 50) 3 0)), rfl, rfl, by omega, by omega, ?_, ?_, ?_⟩
  · skip
    rfl
  · skip
    rfl
  · skip
    exact fun _ => rfl

set_option maxHeartbeats 4000000 in
set_option maxRecDepth 100000 in
theorem c_X0_init (zl : Launch) (D : va_G) (K : tyK) (h : Nat)  : Mz zl yX0_init cX0_init 1 (none) 1 20 3 24 D K [.ref h] [(h, .inr (0, [.null, .null, .null, vZ 0, vZ 0]))] (fun r_ w2_ gc gs => ∃ (a : Nat → Nat), ∃ (S : Bd), r_ = none ∧ w2_ = (wCr K h a S) ∧ gc = 3 ∧ gs = 24 ∧ (S.2 3 = 0) ∧ (S.2 4 = 0)) := by
  refine Mz.ofZ (by decide) rfl (Nat.le_of_ble_eq_true rfl) ?_
  intro zp ze zR zs zm zargs zbelow zmeth zc zA zQ ZC ZE hRf hRc hRs hRl
  refine z_aload_n ZC 0 dX0_init_0 rfl rfl ?_
  refine z_objInit ZC uM_X0_3 uI_java_lang_Object__init_ uC_java_lang_Object__init_ dX0_init_1 (by omega) (by simp only [List.map_nil, List.map_cons, List.sum_nil, List.sum_cons, Value.category]; omega) ?_
  refine z_aload_n ZC 0 dX0_init_4 rfl rfl ?_
  refine z_bipush ZC dX0_init_5 (by decide) ?_
  refine z_newa ZC (n := 8) uA_int dX0_init_7 (by rfl) (by omega) (by omega) (by omega) (fun q7 => ?_)
  refine z_putF ZC ZE.2.2.2.2 inUX0 tyX0_ok nmX0 0 rfl rfl 0 (by decide) uF_X0_9 rfl rfl (rfl) (rfl) (Nat.le_of_ble_eq_true rfl) dX0_init_9 ?_
  refine z_aload_n ZC 0 dX0_init_12 rfl rfl ?_
  refine z_bipush ZC dX0_init_13 (by decide) ?_
  refine z_newa ZC (n := 8) uA_int dX0_init_15 (by rfl) (by omega) (by omega) (by omega) (fun q15 => ?_)
  refine z_putF ZC ZE.2.2.2.2 inUX0 tyX0_ok nmX0 0 rfl rfl 1 (by decide) uF_X0_15 rfl rfl (rfl) (rfl) (Nat.le_of_ble_eq_true rfl) dX0_init_17 ?_
  refine z_aload_n ZC 0 dX0_init_20 rfl rfl ?_
  refine z_bipush ZC dX0_init_21 (by decide) ?_
  refine z_newa ZC (n := 8) uA_int dX0_init_23 (by rfl) (by omega) (by omega) (by omega) (fun q23 => ?_)
  refine z_putF ZC ZE.2.2.2.2 inUX0 tyX0_ok nmX0 0 rfl rfl 2 (by decide) uF_X0_18 rfl rfl (rfl) (rfl) (Nat.le_of_ble_eq_true rfl) dX0_init_25 ?_
  refine z_ws (ws2 := [(h, .inr (0, [.ref q7, .ref q15, .ref q23, vZ 0, vZ 0])), (q7, .inl (K.1, 8, .inl (ar (fun _ => 0)))), (q15, .inl (K.1, 8, .inl (ar (fun _ => 0)))), (q23, .inl (K.1, 8, .inl (ar (fun _ => 0))))]) rfl ?_
  refine z_vret ZC ZE dX0_init_28 (by omega) (by omega) (Nat.le_of_ble_eq_true rfl) ⟨(upf (upf (upf (fun _ => 0) 0 q7) 1 q15) 2 q23), ((upf (upf (upf (fun _ _ => 0) 0 (fun _ => 0)) 1 (fun _ => 0)) 2 (fun _ => 0)), (upf (upf (fun _ => 0) 3 0) 4 0)), rfl, rfl, by omega, by omega, ?_, ?_⟩
  · skip
    rfl
  · skip
    rfl

set_option maxHeartbeats 4000000 in
set_option maxRecDepth 100000 in
theorem c_X3_init (zl : Launch) (D : va_G) (K : tyK) (h : Nat)  : Mz zl yX3_init cX3_init 1 (none) 1 23 3 600 D K [.ref h] [(h, .inr (3, [.null, .null, .null]))] (fun r_ w2_ gc gs => ∃ (a : Nat → Nat), ∃ (S : Bd), r_ = none ∧ w2_ = (wLo K h a S) ∧ gc = 3 ∧ gs = 600 ∧ (∀ j, S.1 0 j = 0) ∧ (∀ j, S.1 1 j = 0) ∧ (∀ j, S.1 2 j = -1)) := by
  refine Mz.ofZ (by decide) rfl (Nat.le_of_ble_eq_true rfl) ?_
  intro zp ze zR zs zm zargs zbelow zmeth zc zA zQ ZC ZE hRf hRc hRs hRl
  refine z_aload_n ZC 0 dX3_init_0 rfl rfl ?_
  refine z_objInit ZC uM_X3_3 uI_java_lang_Object__init_ uC_java_lang_Object__init_ dX3_init_1 (by omega) (by simp only [List.map_nil, List.map_cons, List.sum_nil, List.sum_cons, Value.category]; omega) ?_
  refine z_aload_n ZC 0 dX3_init_4 rfl rfl ?_
  refine z_sipush ZC dX3_init_5 (by decide) ?_
  refine z_newa ZC (n := 200) uA_int dX3_init_8 (by rfl) (by omega) (by omega) (by omega) (fun q8 => ?_)
  refine z_putF ZC ZE.2.2.2.2 inUX3 tyX3_ok nmX3 0 rfl rfl 0 (by decide) uF_X3_9 rfl rfl (rfl) (rfl) (Nat.le_of_ble_eq_true rfl) dX3_init_10 ?_
  refine z_aload_n ZC 0 dX3_init_13 rfl rfl ?_
  refine z_sipush ZC dX3_init_14 (by decide) ?_
  refine z_newa ZC (n := 200) uA_int dX3_init_17 (by rfl) (by omega) (by omega) (by omega) (fun q17 => ?_)
  refine z_putF ZC ZE.2.2.2.2 inUX3 tyX3_ok nmX3 0 rfl rfl 1 (by decide) uF_X3_15 rfl rfl (rfl) (rfl) (Nat.le_of_ble_eq_true rfl) dX3_init_19 ?_
  refine z_aload_n ZC 0 dX3_init_22 rfl rfl ?_
  refine z_sipush ZC dX3_init_23 (by decide) ?_
  refine z_newa ZC (n := 200) uA_int dX3_init_26 (by rfl) (by omega) (by omega) (by omega) (fun q26 => ?_)
  refine z_putF ZC ZE.2.2.2.2 inUX3 tyX3_ok nmX3 0 rfl rfl 2 (by decide) uF_X3_18 rfl rfl (rfl) (rfl) (Nat.le_of_ble_eq_true rfl) dX3_init_28 ?_
  refine z_ws (ws2 := [(h, .inr (3, [.ref q8, .ref q17, .ref q26])), (q8, .inl (K.1, 200, .inl (ar (fun _ => 0)))), (q17, .inl (K.1, 200, .inl (ar (fun _ => 0)))), (q26, .inl (K.1, 200, .inl (ar (fun _ => 0))))]) rfl ?_
  refine z_aload_n ZC 0 dX3_init_31 rfl rfl ?_
  refine z_get ZC inUX3 0 rfl rfl 2 (by decide) uF_X3_18 rfl dX3_init_32 ?_
  refine z_iconst ZC dX3_init_35 ?_
  refine z_callS ZC 2 (c_J7_fill_53178 zl D K q26 200 (fun _ => 0) (-1) (by omega)) (gdS uM_X3_21 uZ_J7_fill_53178 uN_J7 uC_J7_fill_53178) (by decide +kernel) rfl ⟨by omega, by omega⟩ ⟨by omega, by omega⟩ (Nat.le_of_ble_eq_true rfl) [3] rfl (by decide) rfl dX3_init_36 (fun r w2 gc_36 gs_36 hp => ?_)
  obtain ⟨rfl, rfl, rfl, rfl⟩ := hp
  refine z_ws (ws2 := [(h, .inr (3, [.ref q8, .ref q17, .ref q26])), (q8, .inl (K.1, 200, .inl (ar (fun _ => 0)))), (q17, .inl (K.1, 200, .inl (ar (fun _ => 0)))), (q26, .inl (K.1, 200, .inl (ar (fun _ => (-1)))))]) rfl ?_
  refine z_st (st2 := []) rfl ?_
  refine z_vret ZC ZE dX3_init_39 (by omega) (by omega) (Nat.le_of_ble_eq_true rfl) ⟨(upf (upf (upf (fun _ => 0) 0 q8) 1 q17) 2 q26), ((upf (upf (upf (fun _ _ => 0) 0 (fun _ => 0)) 1 (fun _ => 0)) 2 (fun _ => (-1))), (fun _ => 0)), rfl, rfl, by omega, by omega, ?_, ?_, ?_⟩
  · skip
    exact fun _ => rfl
  · skip
    exact fun _ => rfl
  · skip
    exact fun _ => rfl

set_option maxHeartbeats 4000000 in
set_option maxRecDepth 100000 in
theorem c_X4_init (zl : Launch) (D : va_G) (K : tyK) (h : Nat)  : Mz zl yX4_init cX4_init 2 (none) 1 23 8 296 D K [.ref h] [(h, .inr (4, [.null, .null, .null, .null, .null, .null, .null, .null, vZ 0]))] (fun r_ w2_ gc gs => ∃ (a : Nat → Nat), ∃ (S : Bd), r_ = none ∧ w2_ = (wNe K h a S) ∧ gc = 8 ∧ gs = 296 ∧ (S.2 8 = 0) ∧ (∀ j, S.1 4 j = 0) ∧ (∀ j, S.1 5 j = 0) ∧ (∀ j, S.1 7 j = -1) ∧ (∀ i j : Int, 0 ≤ i → i < 10 → 0 ≤ j → j < 10 → S.1 6 (i * 10 + j) = if i = j then 0 else -1)) := by
  refine Mz.ofZ (by decide) rfl (Nat.le_of_ble_eq_true rfl) ?_
  intro zp ze zR zs zm zargs zbelow zmeth zc zA zQ ZC ZE hRf hRc hRs hRl
  refine z_aload_n ZC 0 dX4_init_0 rfl rfl ?_
  refine z_objInit ZC uM_X4_3 uI_java_lang_Object__init_ uC_java_lang_Object__init_ dX4_init_1 (by omega) (by simp only [List.map_nil, List.map_cons, List.sum_nil, List.sum_cons, Value.category]; omega) ?_
  refine z_aload_n ZC 0 dX4_init_4 rfl rfl ?_
  refine z_bipush ZC dX4_init_5 (by decide) ?_
  refine z_newa ZC (n := 16) uA_int dX4_init_7 (by rfl) (by omega) (by omega) (by omega) (fun q7 => ?_)
  refine z_putF ZC ZE.2.2.2.2 inUX4 tyX4_ok nmX4 0 rfl rfl 0 (by decide) uF_X4_9 rfl rfl (rfl) (rfl) (Nat.le_of_ble_eq_true rfl) dX4_init_9 ?_
  refine z_aload_n ZC 0 dX4_init_12 rfl rfl ?_
  refine z_bipush ZC dX4_init_13 (by decide) ?_
  refine z_newa ZC (n := 16) uA_int dX4_init_15 (by rfl) (by omega) (by omega) (by omega) (fun q15 => ?_)
  refine z_putF ZC ZE.2.2.2.2 inUX4 tyX4_ok nmX4 0 rfl rfl 1 (by decide) uF_X4_15 rfl rfl (rfl) (rfl) (Nat.le_of_ble_eq_true rfl) dX4_init_17 ?_
  refine z_aload_n ZC 0 dX4_init_20 rfl rfl ?_
  refine z_bipush ZC dX4_init_21 (by decide) ?_
  refine z_newa ZC (n := 16) uA_int dX4_init_23 (by rfl) (by omega) (by omega) (by omega) (fun q23 => ?_)
  refine z_putF ZC ZE.2.2.2.2 inUX4 tyX4_ok nmX4 0 rfl rfl 2 (by decide) uF_X4_18 rfl rfl (rfl) (rfl) (Nat.le_of_ble_eq_true rfl) dX4_init_25 ?_
  refine z_ws (ws2 := [(h, .inr (4, [.ref q7, .ref q15, .ref q23, .null, .null, .null, .null, .null, vZ 0])), (q7, .inl (K.1, 16, .inl (ar (fun _ => 0)))), (q15, .inl (K.1, 16, .inl (ar (fun _ => 0)))), (q23, .inl (K.1, 16, .inl (ar (fun _ => 0))))]) rfl ?_
  refine z_aload_n ZC 0 dX4_init_28 rfl rfl ?_
  refine z_bipush ZC dX4_init_29 (by decide) ?_
  refine z_newa ZC (n := 16) uA_int dX4_init_31 (by rfl) (by omega) (by omega) (by omega) (fun q31 => ?_)
  refine z_putF ZC ZE.2.2.2.2 inUX4 tyX4_ok nmX4 0 rfl rfl 3 (by decide) uF_X4_21 rfl rfl (rfl) (rfl) (Nat.le_of_ble_eq_true rfl) dX4_init_33 ?_
  refine z_aload_n ZC 0 dX4_init_36 rfl rfl ?_
  refine z_bipush ZC dX4_init_37 (by decide) ?_
  refine z_newa ZC (n := 16) uA_int dX4_init_39 (by rfl) (by omega) (by omega) (by omega) (fun q39 => ?_)
  refine z_putF ZC ZE.2.2.2.2 inUX4 tyX4_ok nmX4 0 rfl rfl 4 (by decide) uF_X4_24 rfl rfl (rfl) (rfl) (Nat.le_of_ble_eq_true rfl) dX4_init_41 ?_
  refine z_aload_n ZC 0 dX4_init_44 rfl rfl ?_
  refine z_bipush ZC dX4_init_45 (by decide) ?_
  refine z_newa ZC (n := 16) uA_int dX4_init_47 (by rfl) (by omega) (by omega) (by omega) (fun q47 => ?_)
  refine z_putF ZC ZE.2.2.2.2 inUX4 tyX4_ok nmX4 0 rfl rfl 5 (by decide) uF_X4_27 rfl rfl (rfl) (rfl) (Nat.le_of_ble_eq_true rfl) dX4_init_49 ?_
  refine z_ws (ws2 := [(h, .inr (4, [.ref q7, .ref q15, .ref q23, .ref q31, .ref q39, .ref q47, .null, .null, vZ 0])), (q7, .inl (K.1, 16, .inl (ar (fun _ => 0)))), (q15, .inl (K.1, 16, .inl (ar (fun _ => 0)))), (q23, .inl (K.1, 16, .inl (ar (fun _ => 0)))), (q31, .inl (K.1, 16, .inl (ar (fun _ => 0)))), (q39, .inl (K.1, 16, .inl (ar (fun _ => 0)))), (q47, .inl (K.1, 16, .inl (ar (fun _ => 0))))]) rfl ?_
  refine z_aload_n ZC 0 dX4_init_52 rfl rfl ?_
  refine z_bipush ZC dX4_init_53 (by decide) ?_
  refine z_newa ZC (n := 100) uA_int dX4_init_55 (by rfl) (by omega) (by omega) (by omega) (fun q55 => ?_)
  refine z_putF ZC ZE.2.2.2.2 inUX4 tyX4_ok nmX4 0 rfl rfl 6 (by decide) uF_X4_30 rfl rfl (rfl) (rfl) (Nat.le_of_ble_eq_true rfl) dX4_init_57 ?_
  refine z_aload_n ZC 0 dX4_init_60 rfl rfl ?_
  refine z_bipush ZC dX4_init_61 (by decide) ?_
  refine z_newa ZC (n := 100) uA_int dX4_init_63 (by rfl) (by omega) (by omega) (by omega) (fun q63 => ?_)
  refine z_putF ZC ZE.2.2.2.2 inUX4 tyX4_ok nmX4 0 rfl rfl 7 (by decide) uF_X4_33 rfl rfl (rfl) (rfl) (Nat.le_of_ble_eq_true rfl) dX4_init_65 ?_
  refine z_aload_n ZC 0 dX4_init_68 rfl rfl ?_
  refine z_get ZC inUX4 0 rfl rfl 7 (by decide) uF_X4_33 rfl dX4_init_69 ?_
  refine z_iconst ZC dX4_init_72 ?_
  refine z_ws (ws2 := [(h, .inr (4, [.ref q7, .ref q15, .ref q23, .ref q31, .ref q39, .ref q47, .ref q55, .ref q63, vZ 0])), (q7, .inl (K.1, 16, .inl (ar (fun _ => 0)))), (q15, .inl (K.1, 16, .inl (ar (fun _ => 0)))), (q23, .inl (K.1, 16, .inl (ar (fun _ => 0)))), (q31, .inl (K.1, 16, .inl (ar (fun _ => 0)))), (q39, .inl (K.1, 16, .inl (ar (fun _ => 0)))), (q47, .inl (K.1, 16, .inl (ar (fun _ => 0)))), (q55, .inl (K.1, 100, .inl (ar (fun _ => 0)))), (q63, .inl (K.1, 100, .inl (ar (fun _ => 0))))]) rfl ?_
  refine z_callS ZC 2 (c_J7_fill_53178 zl D K q63 100 (fun _ => 0) (-1) (by omega)) (gdS uM_X4_36 uZ_J7_fill_53178 uN_J7 uC_J7_fill_53178) (by decide +kernel) rfl ⟨by omega, by omega⟩ ⟨by omega, by omega⟩ (Nat.le_of_ble_eq_true rfl) [8] rfl (by decide) rfl dX4_init_73 (fun r w2 gc_73 gs_73 hp => ?_)
  obtain ⟨rfl, rfl, rfl, rfl⟩ := hp
  refine z_ws (ws2 := [(h, .inr (4, [.ref q7, .ref q15, .ref q23, .ref q31, .ref q39, .ref q47, .ref q55, .ref q63, vZ 0])), (q7, .inl (K.1, 16, .inl (ar (fun _ => 0)))), (q15, .inl (K.1, 16, .inl (ar (fun _ => 0)))), (q23, .inl (K.1, 16, .inl (ar (fun _ => 0)))), (q31, .inl (K.1, 16, .inl (ar (fun _ => 0)))), (q39, .inl (K.1, 16, .inl (ar (fun _ => 0)))), (q47, .inl (K.1, 16, .inl (ar (fun _ => 0)))), (q55, .inl (K.1, 100, .inl (ar (fun _ => 0)))), (q63, .inl (K.1, 100, .inl (ar (fun _ => (-1)))))]) rfl ?_
  refine z_st (st2 := []) rfl ?_
  refine z_aload_n ZC 0 dX4_init_76 rfl rfl ?_
  refine z_get ZC inUX4 0 rfl rfl 6 (by decide) uF_X4_30 rfl dX4_init_77 ?_
  refine z_iconst ZC dX4_init_80 ?_
  refine z_callS ZC 2 (c_J7_fill_53178 zl D K q55 100 (fun _ => 0) (-1) (by omega)) (gdS uM_X4_36 uZ_J7_fill_53178 uN_J7 uC_J7_fill_53178) (by decide +kernel) rfl ⟨by omega, by omega⟩ ⟨by omega, by omega⟩ (Nat.le_of_ble_eq_true rfl) [7] rfl (by decide) rfl dX4_init_81 (fun r w2 gc_81 gs_81 hp => ?_)
  obtain ⟨rfl, rfl, rfl, rfl⟩ := hp
  refine z_ws (ws2 := [(h, .inr (4, [.ref q7, .ref q15, .ref q23, .ref q31, .ref q39, .ref q47, .ref q55, .ref q63, vZ 0])), (q7, .inl (K.1, 16, .inl (ar (fun _ => 0)))), (q15, .inl (K.1, 16, .inl (ar (fun _ => 0)))), (q23, .inl (K.1, 16, .inl (ar (fun _ => 0)))), (q31, .inl (K.1, 16, .inl (ar (fun _ => 0)))), (q39, .inl (K.1, 16, .inl (ar (fun _ => 0)))), (q47, .inl (K.1, 16, .inl (ar (fun _ => 0)))), (q55, .inl (K.1, 100, .inl (ar (fun _ => (-1))))), (q63, .inl (K.1, 100, .inl (ar (fun _ => (-1)))))]) rfl ?_
  refine z_st (st2 := []) rfl ?_
  refine z_iconst ZC dX4_init_84 ?_
  refine z_istore_n ZC 1 dX4_init_85 rfl (by decide) ?_
  have lp_86 : ∀ (n_86 : Nat) (t : Int) (M : Int → Int), (0 ≤ t ∧ t ≤ 10) → (∀ i j : Int, 0 ≤ i → i < 10 → 0 ≤ j → j < 10 → M (i * 10 + j) = if i = j ∧ i < t then 0 else -1) → ((10 - t).toNat) < n_86 → Zw zp zl ze zR zs zm zargs zbelow zmeth zc D zA 2 zQ (0 + 1 + 1 + 1 + 1 + 1 + 1 + 1 + 1 + 0 + 0) (0 + 16 + 16 + 16 + 16 + 16 + 16 + 100 + 100 + 0 + 0) ([(h, .inr (4, [.ref q7, .ref q15, .ref q23, .ref q31, .ref q39, .ref q47, .ref q55, .ref q63, vZ 0])), (q7, .inl (K.1, 16, .inl (ar (fun _ => 0)))), (q15, .inl (K.1, 16, .inl (ar (fun _ => 0)))), (q23, .inl (K.1, 16, .inl (ar (fun _ => 0)))), (q31, .inl (K.1, 16, .inl (ar (fun _ => 0)))), (q39, .inl (K.1, 16, .inl (ar (fun _ => 0)))), (q47, .inl (K.1, 16, .inl (ar (fun _ => 0)))), (q55, .inl (K.1, 100, .inl (ar M))), (q63, .inl (K.1, 100, .inl (ar (fun _ => (-1)))))]) 86 [(0, .ref h), (1, vZ t)] [] := by
    intro n_86
    induction n_86 with
    | zero => intro t M ht hM hm_86; exact absurd hm_86 (Nat.not_lt_zero _)
    | succ n_86 ih_86 =>
      intro t M ht hM hm_86
      refine z_iload_n ZC 1 dX4_init_86 rfl rfl ?_
      refine z_bipush ZC dX4_init_87 (by decide) ?_
      refine z_icmp_ge ZC 110 dX4_init_89 (by decide) (by omega) (by omega) (fun c_89 => ?_) (fun c_89 => ?_)
      · skip
        refine z_vret ZC ZE dX4_init_110 (by omega) (by omega) (Nat.le_of_ble_eq_true rfl) ⟨(upf (upf (upf (upf (upf (upf (upf (upf (fun _ => 0) 0 q7) 1 q15) 2 q23) 3 q31) 4 q39) 5 q47) 6 q55) 7 q63), ((upf (upf (upf (upf (upf (upf (upf (upf (fun _ _ => 0) 0 (fun _ => 0)) 1 (fun _ => 0)) 2 (fun _ => 0)) 3 (fun _ => 0)) 4 (fun _ => 0)) 5 (fun _ => 0)) 6 M) 7 (fun _ => (-1))), (upf (fun _ => 0) 8 0)), rfl, rfl, by omega, by omega, ?_, ?_, ?_, ?_, ?_⟩
        · skip
          rfl
        · skip
          exact fun _ => rfl
        · skip
          exact fun _ => rfl
        · skip
          exact fun _ => rfl
        · skip
          intro i j h1 h2 h3 h4
          show M (i * 10 + j) = _
          rw [hM i j h1 h2 h3 h4]
          by_cases z : i = j
          · rw [if_pos (by omega), if_pos z]
          · rw [if_neg (by omega), if_neg z]
      · skip
        refine z_aload_n ZC 0 dX4_init_92 rfl rfl ?_
        refine z_get ZC inUX4 0 rfl rfl 6 (by decide) uF_X4_30 rfl dX4_init_93 ?_
        refine z_iload_n ZC 1 dX4_init_96 rfl rfl ?_
        refine z_bipush ZC dX4_init_97 (by decide) ?_
        refine z_imul ZC dX4_init_99 ?_
        refine z_iload_n ZC 1 dX4_init_100 rfl rfl ?_
        refine z_iadd ZC dX4_init_101 ?_
        refine z_iconst ZC dX4_init_102 ?_
        refine z_iast ZC 7 rfl dX4_init_103 (ix10 ⟨ht.1, c_89⟩ ⟨ht.1, c_89⟩) ?_
        refine z_iinc ZC dX4_init_104 rfl (by decide) ?_
        refine z_goto ZC 86 dX4_init_107 (by decide) ?_
        refine z_ws (ws2 := [(h, .inr (4, [.ref q7, .ref q15, .ref q23, .ref q31, .ref q39, .ref q47, .ref q55, .ref q63, vZ 0])), (q7, .inl (K.1, 16, .inl (ar (fun _ => 0)))), (q15, .inl (K.1, 16, .inl (ar (fun _ => 0)))), (q23, .inl (K.1, 16, .inl (ar (fun _ => 0)))), (q31, .inl (K.1, 16, .inl (ar (fun _ => 0)))), (q39, .inl (K.1, 16, .inl (ar (fun _ => 0)))), (q47, .inl (K.1, 16, .inl (ar (fun _ => 0)))), (q55, .inl (K.1, 100, .inl (ar (upz M ((t * 10) + t) 0)))), (q63, .inl (K.1, 100, .inl (ar (fun _ => (-1)))))]) rfl (z_lv (lv2 := [(0, .ref h), (1, vZ (t + 1))]) ⟨rfl, rfl, trivial⟩ ?_)
        refine ih_86 (t + 1) (upz M ((t * 10) + t) 0) ?_ ?_ (by omega)
        · skip
          omega
        · skip
          intro i j h1 h2 h3 h4
          have q := hM i j h1 h2 h3 h4
          have ex := ix10e ⟨h1, h2⟩ ⟨h3, h4⟩ ⟨ht.1, c_89⟩ ⟨ht.1, c_89⟩
          unfold upz
          by_cases z : i = t ∧ j = t
          · rw [if_pos (ex.mpr z), if_pos (by omega)]
          · rw [if_neg (fun q2 => z (ex.mp q2)), q]
            by_cases z2 : i = j ∧ i < t
            · rw [if_pos z2, if_pos (by omega)]
            · rw [if_neg z2, if_neg (by omega)]
  refine z_ws (ws2 := [(h, .inr (4, [.ref q7, .ref q15, .ref q23, .ref q31, .ref q39, .ref q47, .ref q55, .ref q63, vZ 0])), (q7, .inl (K.1, 16, .inl (ar (fun _ => 0)))), (q15, .inl (K.1, 16, .inl (ar (fun _ => 0)))), (q23, .inl (K.1, 16, .inl (ar (fun _ => 0)))), (q31, .inl (K.1, 16, .inl (ar (fun _ => 0)))), (q39, .inl (K.1, 16, .inl (ar (fun _ => 0)))), (q47, .inl (K.1, 16, .inl (ar (fun _ => 0)))), (q55, .inl (K.1, 100, .inl (ar (fun _ => (-1))))), (q63, .inl (K.1, 100, .inl (ar (fun _ => (-1)))))]) rfl (z_lv (lv2 := [(0, .ref h), (1, vZ 0)]) ⟨rfl, rfl, trivial⟩ ?_)
  refine lp_86 _ 0 (fun _ => (-1)) ?_ ?_ (Nat.lt_succ_self _)
  · skip
    omega
  · skip
    intro i j h1 h2 h3 h4
    rw [if_neg (by omega)]

