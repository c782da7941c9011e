/-! ===== the reference: its constructor ===== -/
abbrev B0 : Bd := ((fun _ _ => 0), (fun _ => 0))
set_option maxHeartbeats 4000000 in
set_option maxRecDepth 100000 in
theorem c_X8_init (zl : Launch) (D : va_G) (K : tyK) (h : Nat)  : Mz zl yX8_init cX8_init 2 (none) 1 24 31 37285 D K [.ref h] [(h, .inr (8, [vZ 0, .null, .null, vZ 0, vZ 0, .null, .null, .null, .null, .null, .null, .null, vZ 0, .null, .null, .null, .null, .null, .null, .null, vZ 0, vZ 0, .null, .null, .null, .null, .null, .null, .null, .null, .null, .null, .null, .null, vZ 0, .null, vZ 0, vZ 0, vZ 0, .null, .null, vZ 0, vZ 0, vZ 0]))] (fun r_ w2_ gc gs => ∃ (a : Nat → Nat), ∃ (M : Bd), r_ = none ∧ w2_ = (wMo K h a M) ∧ gc = 31 ∧ gs = 37285 ∧ (M.2 0 = 0 ∧ M.2 3 = 50 ∧ M.2 4 = 0 ∧ M.2 12 = 0 ∧ M.2 20 = 0 ∧ M.2 21 = 0 ∧ M.2 34 = 0) ∧ ((∀ j, M.1 2 j = 0) ∧ (∀ j, M.1 9 j = 0) ∧ (∀ j, M.1 10 j = 0) ∧ (∀ j, M.1 16 j = 0) ∧ (∀ j, M.1 19 j = 0) ∧ (∀ j, M.1 28 j = 0) ∧ (∀ j, M.1 29 j = 0) ∧ (∀ j, M.1 31 j = 0) ∧ (∀ j, M.1 32 j = 0) ∧ (∀ j, M.1 33 j = 0)) ∧ (∀ j : Int, 0 ≤ j → j < 32 → M.1 26 j = -1) ∧ (∀ j : Int, 0 ≤ j → j < 3200 → M.1 17 j = -1) ∧ (SPm (M.1 5) (M.1 6) (M.1 8) 0 (M.1 11))) := by
  refine Mz.ofZ (by decide) rfl (Nat.le_of_ble_eq_true rfl) ?_
  intro zp ze zR zs zm zargs zbelow zmeth zc zA zQ ZC ZE hRf hRc hRs hRl
  refine z_aload_n ZC 0 dX8_init_0 rfl rfl ?_
  refine z_objInit ZC uM_X8_1 uI_java_lang_Object__init_ uC_java_lang_Object__init_ dX8_init_1 (by omega) (by simp only [List.map_nil, List.map_cons, List.sum_nil, List.sum_cons, Value.category]; omega) ?_
  refine z_aload_n ZC 0 dX8_init_4 rfl rfl ?_
  refine z_bipush ZC dX8_init_5 (by decide) ?_
  refine z_newa ZC (n := 10) uA_int dX8_init_7 (by rfl) (by omega) (by omega) (by omega) (fun q7 => ?_)
  refine z_putF ZC ZE.2.2.2.2 inUX8 tyX8_ok nmX8 0 rfl rfl 1 (by decide) uF_X8_9 rfl rfl (rfl) (rfl) (Nat.le_of_ble_eq_true rfl) dX8_init_9 ?_
  refine z_aload_n ZC 0 dX8_init_12 rfl rfl ?_
  refine z_bipush ZC dX8_init_13 (by decide) ?_
  refine z_newa ZC (n := 10) uA_int dX8_init_15 (by rfl) (by omega) (by omega) (by omega) (fun q15 => ?_)
  refine z_putF ZC ZE.2.2.2.2 inUX8 tyX8_ok nmX8 0 rfl rfl 2 (by decide) uF_X8_13 rfl rfl (rfl) (rfl) (Nat.le_of_ble_eq_true rfl) dX8_init_17 ?_
  refine z_aload_n ZC 0 dX8_init_20 rfl rfl ?_
  refine z_bipush ZC dX8_init_21 (by decide) ?_
  refine z_put ZC inUX8 tyX8_ok nmX8 0 rfl rfl 3 (by decide) uF_X8_16 rfl (rfl) (rfl) (Nat.le_of_ble_eq_true rfl) dX8_init_23 ?_
  refine z_ws (ws2 := [(h, .inr (8, [vZ 0, .ref q7, .ref q15, vZ 50, vZ 0, .null, .null, .null, .null, .null, .null, .null, vZ 0, .null, .null, .null, .null, .null, .null, .null, vZ 0, vZ 0, .null, .null, .null, .null, .null, .null, .null, .null, .null, .null, .null, .null, vZ 0, .null, vZ 0, vZ 0, vZ 0, .null, .null, vZ 0, vZ 0, vZ 0])), (q7, .inl (K.1, 10, .inl (ar (fun _ => 0)))), (q15, .inl (K.1, 10, .inl (ar (fun _ => 0))))]) rfl ?_
  refine z_aload_n ZC 0 dX8_init_26 rfl rfl ?_
  refine z_bipush ZC dX8_init_27 (by decide) ?_
  refine z_newa ZC (n := 16) uA_int dX8_init_29 (by rfl) (by omega) (by omega) (by omega) (fun q29 => ?_)
  refine z_putF ZC ZE.2.2.2.2 inUX8 tyX8_ok nmX8 0 rfl rfl 5 (by decide) uF_X8_20 rfl rfl (rfl) (rfl) (Nat.le_of_ble_eq_true rfl) dX8_init_31 ?_
  refine z_aload_n ZC 0 dX8_init_34 rfl rfl ?_
  refine z_bipush ZC dX8_init_35 (by decide) ?_
  refine z_newa ZC (n := 16) uA_int dX8_init_37 (by rfl) (by omega) (by omega) (by omega) (fun q37 => ?_)
  refine z_putF ZC ZE.2.2.2.2 inUX8 tyX8_ok nmX8 0 rfl rfl 6 (by decide) uF_X8_23 rfl rfl (rfl) (rfl) (Nat.le_of_ble_eq_true rfl) dX8_init_39 ?_
  refine z_aload_n ZC 0 dX8_init_42 rfl rfl ?_
  refine z_bipush ZC dX8_init_43 (by decide) ?_
  refine z_newa ZC (n := 16) uA_int dX8_init_45 (by rfl) (by omega) (by omega) (by omega) (fun q45 => ?_)
  refine z_putF ZC ZE.2.2.2.2 inUX8 tyX8_ok nmX8 0 rfl rfl 7 (by decide) uF_X8_26 rfl rfl (rfl) (rfl) (Nat.le_of_ble_eq_true rfl) dX8_init_47 ?_
  refine z_ws (ws2 := [(h, .inr (8, [vZ 0, .ref q7, .ref q15, vZ 50, vZ 0, .ref q29, .ref q37, .ref q45, .null, .null, .null, .null, vZ 0, .null, .null, .null, .null, .null, .null, .null, vZ 0, vZ 0, .null, .null, .null, .null, .null, .null, .null, .null, .null, .null, .null, .null, vZ 0, .null, vZ 0, vZ 0, vZ 0, .null, .null, vZ 0, vZ 0, vZ 0])), (q7, .inl (K.1, 10, .inl (ar (fun _ => 0)))), (q15, .inl (K.1, 10, .inl (ar (fun _ => 0)))), (q29, .inl (K.1, 16, .inl (ar (fun _ => 0)))), (q37, .inl (K.1, 16, .inl (ar (fun _ => 0)))), (q45, .inl (K.1, 16, .inl (ar (fun _ => 0))))]) rfl ?_
  refine z_aload_n ZC 0 dX8_init_50 rfl rfl ?_
  refine z_bipush ZC dX8_init_51 (by decide) ?_
  refine z_newa ZC (n := 16) uA_int dX8_init_53 (by rfl) (by omega) (by omega) (by omega) (fun q53 => ?_)
  refine z_putF ZC ZE.2.2.2.2 inUX8 tyX8_ok nmX8 0 rfl rfl 8 (by decide) uF_X8_29 rfl rfl (rfl) (rfl) (Nat.le_of_ble_eq_true rfl) dX8_init_55 ?_
  refine z_aload_n ZC 0 dX8_init_58 rfl rfl ?_
  refine z_bipush ZC dX8_init_59 (by decide) ?_
  refine z_newa ZC (n := 16) uA_int dX8_init_61 (by rfl) (by omega) (by omega) (by omega) (fun q61 => ?_)
  refine z_putF ZC ZE.2.2.2.2 inUX8 tyX8_ok nmX8 0 rfl rfl 9 (by decide) uF_X8_32 rfl rfl (rfl) (rfl) (Nat.le_of_ble_eq_true rfl) dX8_init_63 ?_
  refine z_aload_n ZC 0 dX8_init_66 rfl rfl ?_
  refine z_bipush ZC dX8_init_67 (by decide) ?_
  refine z_newa ZC (n := 16) uA_int dX8_init_69 (by rfl) (by omega) (by omega) (by omega) (fun q69 => ?_)
  refine z_putF ZC ZE.2.2.2.2 inUX8 tyX8_ok nmX8 0 rfl rfl 10 (by decide) uF_X8_35 rfl rfl (rfl) (rfl) (Nat.le_of_ble_eq_true rfl) dX8_init_71 ?_
  refine z_ws (ws2 := [(h, .inr (8, [vZ 0, .ref q7, .ref q15, vZ 50, vZ 0, .ref q29, .ref q37, .ref q45, .ref q53, .ref q61, .ref q69, .null, vZ 0, .null, .null, .null, .null, .null, .null, .null, vZ 0, vZ 0, .null, .null, .null, .null, .null, .null, .null, .null, .null, .null, .null, .null, vZ 0, .null, vZ 0, vZ 0, vZ 0, .null, .null, vZ 0, vZ 0, vZ 0])), (q7, .inl (K.1, 10, .inl (ar (fun _ => 0)))), (q15, .inl (K.1, 10, .inl (ar (fun _ => 0)))), (q29, .inl (K.1, 16, .inl (ar (fun _ => 0)))), (q37, .inl (K.1, 16, .inl (ar (fun _ => 0)))), (q45, .inl (K.1, 16, .inl (ar (fun _ => 0)))), (q53, .inl (K.1, 16, .inl (ar (fun _ => 0)))), (q61, .inl (K.1, 16, .inl (ar (fun _ => 0)))), (q69, .inl (K.1, 16, .inl (ar (fun _ => 0))))]) rfl ?_
  refine z_aload_n ZC 0 dX8_init_74 rfl rfl ?_
  refine z_bipush ZC dX8_init_75 (by decide) ?_
  refine z_newa ZC (n := 100) uA_int dX8_init_77 (by rfl) (by omega) (by omega) (by omega) (fun q77 => ?_)
  refine z_putF ZC ZE.2.2.2.2 inUX8 tyX8_ok nmX8 0 rfl rfl 11 (by decide) uF_X8_38 rfl rfl (rfl) (rfl) (Nat.le_of_ble_eq_true rfl) dX8_init_79 ?_
  refine z_aload_n ZC 0 dX8_init_82 rfl rfl ?_
  refine z_bipush ZC dX8_init_83 (by decide) ?_
  refine z_newa ZC (n := 8) uA_int dX8_init_85 (by rfl) (by omega) (by omega) (by omega) (fun q85 => ?_)
  refine z_putF ZC ZE.2.2.2.2 inUX8 tyX8_ok nmX8 0 rfl rfl 13 (by decide) uF_X8_41 rfl rfl (rfl) (rfl) (Nat.le_of_ble_eq_true rfl) dX8_init_87 ?_
  refine z_aload_n ZC 0 dX8_init_90 rfl rfl ?_
  refine z_bipush ZC dX8_init_91 (by decide) ?_
  refine z_newa ZC (n := 8) uA_int dX8_init_93 (by rfl) (by omega) (by omega) (by omega) (fun q93 => ?_)
  refine z_putF ZC ZE.2.2.2.2 inUX8 tyX8_ok nmX8 0 rfl rfl 14 (by decide) uF_X8_44 rfl rfl (rfl) (rfl) (Nat.le_of_ble_eq_true rfl) dX8_init_95 ?_
  refine z_ws (ws2 := [(h, .inr (8, [vZ 0, .ref q7, .ref q15, vZ 50, vZ 0, .ref q29, .ref q37, .ref q45, .ref q53, .ref q61, .ref q69, .ref q77, vZ 0, .ref q85, .ref q93, .null, .null, .null, .null, .null, vZ 0, vZ 0, .null, .null, .null, .null, .null, .null, .null, .null, .null, .null, .null, .null, vZ 0, .null, vZ 0, vZ 0, vZ 0, .null, .null, vZ 0, vZ 0, vZ 0])), (q7, .inl (K.1, 10, .inl (ar (fun _ => 0)))), (q15, .inl (K.1, 10, .inl (ar (fun _ => 0)))), (q29, .inl (K.1, 16, .inl (ar (fun _ => 0)))), (q37, .inl (K.1, 16, .inl (ar (fun _ => 0)))), (q45, .inl (K.1, 16, .inl (ar (fun _ => 0)))), (q53, .inl (K.1, 16, .inl (ar (fun _ => 0)))), (q61, .inl (K.1, 16, .inl (ar (fun _ => 0)))), (q69, .inl (K.1, 16, .inl (ar (fun _ => 0)))), (q77, .inl (K.1, 100, .inl (ar (fun _ => 0)))), (q85, .inl (K.1, 8, .inl (ar (fun _ => 0)))), (q93, .inl (K.1, 8, .inl (ar (fun _ => 0))))]) rfl ?_
  refine z_aload_n ZC 0 dX8_init_98 rfl rfl ?_
  refine z_bipush ZC dX8_init_99 (by decide) ?_
  refine z_newa ZC (n := 8) uA_int dX8_init_101 (by rfl) (by omega) (by omega) (by omega) (fun q101 => ?_)
  refine z_putF ZC ZE.2.2.2.2 inUX8 tyX8_ok nmX8 0 rfl rfl 15 (by decide) uF_X8_47 rfl rfl (rfl) (rfl) (Nat.le_of_ble_eq_true rfl) dX8_init_103 ?_
  refine z_aload_n ZC 0 dX8_init_106 rfl rfl ?_
  refine z_bipush ZC dX8_init_107 (by decide) ?_
  refine z_newa ZC (n := 8) uA_int dX8_init_109 (by rfl) (by omega) (by omega) (by omega) (fun q109 => ?_)
  refine z_putF ZC ZE.2.2.2.2 inUX8 tyX8_ok nmX8 0 rfl rfl 16 (by decide) uF_X8_50 rfl rfl (rfl) (rfl) (Nat.le_of_ble_eq_true rfl) dX8_init_111 ?_
  refine z_aload_n ZC 0 dX8_init_114 rfl rfl ?_
  refine z_sipush ZC dX8_init_115 (by decide) ?_
  refine z_newa ZC (n := 3200) uA_int dX8_init_118 (by rfl) (by omega) (by omega) (by omega) (fun q118 => ?_)
  refine z_putF ZC ZE.2.2.2.2 inUX8 tyX8_ok nmX8 0 rfl rfl 17 (by decide) uF_X8_53 rfl rfl (rfl) (rfl) (Nat.le_of_ble_eq_true rfl) dX8_init_120 ?_
  refine z_ws (ws2 := [(h, .inr (8, [vZ 0, .ref q7, .ref q15, vZ 50, vZ 0, .ref q29, .ref q37, .ref q45, .ref q53, .ref q61, .ref q69, .ref q77, vZ 0, .ref q85, .ref q93, .ref q101, .ref q109, .ref q118, .null, .null, vZ 0, vZ 0, .null, .null, .null, .null, .null, .null, .null, .null, .null, .null, .null, .null, vZ 0, .null, vZ 0, vZ 0, vZ 0, .null, .null, vZ 0, vZ 0, vZ 0])), (q7, .inl (K.1, 10, .inl (ar (fun _ => 0)))), (q15, .inl (K.1, 10, .inl (ar (fun _ => 0)))), (q29, .inl (K.1, 16, .inl (ar (fun _ => 0)))), (q37, .inl (K.1, 16, .inl (ar (fun _ => 0)))), (q45, .inl (K.1, 16, .inl (ar (fun _ => 0)))), (q53, .inl (K.1, 16, .inl (ar (fun _ => 0)))), (q61, .inl (K.1, 16, .inl (ar (fun _ => 0)))), (q69, .inl (K.1, 16, .inl (ar (fun _ => 0)))), (q77, .inl (K.1, 100, .inl (ar (fun _ => 0)))), (q85, .inl (K.1, 8, .inl (ar (fun _ => 0)))), (q93, .inl (K.1, 8, .inl (ar (fun _ => 0)))), (q101, .inl (K.1, 8, .inl (ar (fun _ => 0)))), (q109, .inl (K.1, 8, .inl (ar (fun _ => 0)))), (q118, .inl (K.1, 3200, .inl (ar (fun _ => 0))))]) rfl ?_
  refine z_aload_n ZC 0 dX8_init_123 rfl rfl ?_
  refine z_sipush ZC dX8_init_124 (by decide) ?_
  refine z_newa ZC (n := 3200) uA_int dX8_init_127 (by rfl) (by omega) (by omega) (by omega) (fun q127 => ?_)
  refine z_putF ZC ZE.2.2.2.2 inUX8 tyX8_ok nmX8 0 rfl rfl 18 (by decide) uF_X8_56 rfl rfl (rfl) (rfl) (Nat.le_of_ble_eq_true rfl) dX8_init_129 ?_
  refine z_aload_n ZC 0 dX8_init_132 rfl rfl ?_
  refine z_sipush ZC dX8_init_133 (by decide) ?_
  refine z_newz ZC (n := 3200) uA_boolean dX8_init_136 (by rfl) (by omega) (by omega) (by omega) (fun q136 => ?_)
  refine z_putF ZC ZE.2.2.2.2 inUX8 tyX8_ok nmX8 0 rfl rfl 19 (by decide) uF_X8_59 rfl rfl (rfl) (rfl) (Nat.le_of_ble_eq_true rfl) dX8_init_138 ?_
  refine z_aload_n ZC 0 dX8_init_141 rfl rfl ?_
  refine z_sipush ZC dX8_init_142 (by decide) ?_
  refine z_newa ZC (n := 3400) uA_int dX8_init_145 (by rfl) (by omega) (by omega) (by omega) (fun q145 => ?_)
  refine z_putF ZC ZE.2.2.2.2 inUX8 tyX8_ok nmX8 0 rfl rfl 22 (by decide) uF_X8_63 rfl rfl (rfl) (rfl) (Nat.le_of_ble_eq_true rfl) dX8_init_147 ?_
  refine z_ws (ws2 := [(h, .inr (8, [vZ 0, .ref q7, .ref q15, vZ 50, vZ 0, .ref q29, .ref q37, .ref q45, .ref q53, .ref q61, .ref q69, .ref q77, vZ 0, .ref q85, .ref q93, .ref q101, .ref q109, .ref q118, .ref q127, .ref q136, vZ 0, vZ 0, .ref q145, .null, .null, .null, .null, .null, .null, .null, .null, .null, .null, .null, vZ 0, .null, vZ 0, vZ 0, vZ 0, .null, .null, vZ 0, vZ 0, vZ 0])), (q7, .inl (K.1, 10, .inl (ar (fun _ => 0)))), (q15, .inl (K.1, 10, .inl (ar (fun _ => 0)))), (q29, .inl (K.1, 16, .inl (ar (fun _ => 0)))), (q37, .inl (K.1, 16, .inl (ar (fun _ => 0)))), (q45, .inl (K.1, 16, .inl (ar (fun _ => 0)))), (q53, .inl (K.1, 16, .inl (ar (fun _ => 0)))), (q61, .inl (K.1, 16, .inl (ar (fun _ => 0)))), (q69, .inl (K.1, 16, .inl (ar (fun _ => 0)))), (q77, .inl (K.1, 100, .inl (ar (fun _ => 0)))), (q85, .inl (K.1, 8, .inl (ar (fun _ => 0)))), (q93, .inl (K.1, 8, .inl (ar (fun _ => 0)))), (q101, .inl (K.1, 8, .inl (ar (fun _ => 0)))), (q109, .inl (K.1, 8, .inl (ar (fun _ => 0)))), (q118, .inl (K.1, 3200, .inl (ar (fun _ => 0)))), (q127, .inl (K.1, 3200, .inl (ar (fun _ => 0)))), (q136, .inl (K.2.1, 3200, .inl (ar (fun _ => 0)))), (q145, .inl (K.1, 3400, .inl (ar (fun _ => 0))))]) rfl ?_
  refine z_aload_n ZC 0 dX8_init_150 rfl rfl ?_
  refine z_sipush ZC dX8_init_151 (by decide) ?_
  refine z_newa ZC (n := 3400) uA_int dX8_init_154 (by rfl) (by omega) (by omega) (by omega) (fun q154 => ?_)
  refine z_putF ZC ZE.2.2.2.2 inUX8 tyX8_ok nmX8 0 rfl rfl 23 (by decide) uF_X8_66 rfl rfl (rfl) (rfl) (Nat.le_of_ble_eq_true rfl) dX8_init_156 ?_
  refine z_aload_n ZC 0 dX8_init_159 rfl rfl ?_
  refine z_sipush ZC dX8_init_160 (by decide) ?_
  refine z_newa ZC (n := 3400) uA_int dX8_init_163 (by rfl) (by omega) (by omega) (by omega) (fun q163 => ?_)
  refine z_putF ZC ZE.2.2.2.2 inUX8 tyX8_ok nmX8 0 rfl rfl 24 (by decide) uF_X8_69 rfl rfl (rfl) (rfl) (Nat.le_of_ble_eq_true rfl) dX8_init_165 ?_
  refine z_aload_n ZC 0 dX8_init_168 rfl rfl ?_
  refine z_sipush ZC dX8_init_169 (by decide) ?_
  refine z_newa ZC (n := 3400) uA_int dX8_init_172 (by rfl) (by omega) (by omega) (by omega) (fun q172 => ?_)
  refine z_putF ZC ZE.2.2.2.2 inUX8 tyX8_ok nmX8 0 rfl rfl 25 (by decide) uF_X8_72 rfl rfl (rfl) (rfl) (Nat.le_of_ble_eq_true rfl) dX8_init_174 ?_
  refine z_ws (ws2 := [(h, .inr (8, [vZ 0, .ref q7, .ref q15, vZ 50, vZ 0, .ref q29, .ref q37, .ref q45, .ref q53, .ref q61, .ref q69, .ref q77, vZ 0, .ref q85, .ref q93, .ref q101, .ref q109, .ref q118, .ref q127, .ref q136, vZ 0, vZ 0, .ref q145, .ref q154, .ref q163, .ref q172, .null, .null, .null, .null, .null, .null, .null, .null, vZ 0, .null, vZ 0, vZ 0, vZ 0, .null, .null, vZ 0, vZ 0, vZ 0])), (q7, .inl (K.1, 10, .inl (ar (fun _ => 0)))), (q15, .inl (K.1, 10, .inl (ar (fun _ => 0)))), (q29, .inl (K.1, 16, .inl (ar (fun _ => 0)))), (q37, .inl (K.1, 16, .inl (ar (fun _ => 0)))), (q45, .inl (K.1, 16, .inl (ar (fun _ => 0)))), (q53, .inl (K.1, 16, .inl (ar (fun _ => 0)))), (q61, .inl (K.1, 16, .inl (ar (fun _ => 0)))), (q69, .inl (K.1, 16, .inl (ar (fun _ => 0)))), (q77, .inl (K.1, 100, .inl (ar (fun _ => 0)))), (q85, .inl (K.1, 8, .inl (ar (fun _ => 0)))), (q93, .inl (K.1, 8, .inl (ar (fun _ => 0)))), (q101, .inl (K.1, 8, .inl (ar (fun _ => 0)))), (q109, .inl (K.1, 8, .inl (ar (fun _ => 0)))), (q118, .inl (K.1, 3200, .inl (ar (fun _ => 0)))), (q127, .inl (K.1, 3200, .inl (ar (fun _ => 0)))), (q136, .inl (K.2.1, 3200, .inl (ar (fun _ => 0)))), (q145, .inl (K.1, 3400, .inl (ar (fun _ => 0)))), (q154, .inl (K.1, 3400, .inl (ar (fun _ => 0)))), (q163, .inl (K.1, 3400, .inl (ar (fun _ => 0)))), (q172, .inl (K.1, 3400, .inl (ar (fun _ => 0))))]) rfl ?_
  refine z_aload_n ZC 0 dX8_init_177 rfl rfl ?_
  refine z_bipush ZC dX8_init_178 (by decide) ?_
  refine z_newa ZC (n := 32) uA_int dX8_init_180 (by rfl) (by omega) (by omega) (by omega) (fun q180 => ?_)
  refine z_putF ZC ZE.2.2.2.2 inUX8 tyX8_ok nmX8 0 rfl rfl 26 (by decide) uF_X8_75 rfl rfl (rfl) (rfl) (Nat.le_of_ble_eq_true rfl) dX8_init_182 ?_
  refine z_aload_n ZC 0 dX8_init_185 rfl rfl ?_
  refine z_bipush ZC dX8_init_186 (by decide) ?_
  refine z_newa ZC (n := 32) uA_int dX8_init_188 (by rfl) (by omega) (by omega) (by omega) (fun q188 => ?_)
  refine z_putF ZC ZE.2.2.2.2 inUX8 tyX8_ok nmX8 0 rfl rfl 27 (by decide) uF_X8_78 rfl rfl (rfl) (rfl) (Nat.le_of_ble_eq_true rfl) dX8_init_190 ?_
  refine z_aload_n ZC 0 dX8_init_193 rfl rfl ?_
  refine z_bipush ZC dX8_init_194 (by decide) ?_
  refine z_newz ZC (n := 8) uA_boolean dX8_init_196 (by rfl) (by omega) (by omega) (by omega) (fun q196 => ?_)
  refine z_putF ZC ZE.2.2.2.2 inUX8 tyX8_ok nmX8 0 rfl rfl 28 (by decide) uF_X8_81 rfl rfl (rfl) (rfl) (Nat.le_of_ble_eq_true rfl) dX8_init_198 ?_
  refine z_ws (ws2 := [(h, .inr (8, [vZ 0, .ref q7, .ref q15, vZ 50, vZ 0, .ref q29, .ref q37, .ref q45, .ref q53, .ref q61, .ref q69, .ref q77, vZ 0, .ref q85, .ref q93, .ref q101, .ref q109, .ref q118, .ref q127, .ref q136, vZ 0, vZ 0, .ref q145, .ref q154, .ref q163, .ref q172, .ref q180, .ref q188, .ref q196, .null, .null, .null, .null, .null, vZ 0, .null, vZ 0, vZ 0, vZ 0, .null, .null, vZ 0, vZ 0, vZ 0])), (q7, .inl (K.1, 10, .inl (ar (fun _ => 0)))), (q15, .inl (K.1, 10, .inl (ar (fun _ => 0)))), (q29, .inl (K.1, 16, .inl (ar (fun _ => 0)))), (q37, .inl (K.1, 16, .inl (ar (fun _ => 0)))), (q45, .inl (K.1, 16, .inl (ar (fun _ => 0)))), (q53, .inl (K.1, 16, .inl (ar (fun _ => 0)))), (q61, .inl (K.1, 16, .inl (ar (fun _ => 0)))), (q69, .inl (K.1, 16, .inl (ar (fun _ => 0)))), (q77, .inl (K.1, 100, .inl (ar (fun _ => 0)))), (q85, .inl (K.1, 8, .inl (ar (fun _ => 0)))), (q93, .inl (K.1, 8, .inl (ar (fun _ => 0)))), (q101, .inl (K.1, 8, .inl (ar (fun _ => 0)))), (q109, .inl (K.1, 8, .inl (ar (fun _ => 0)))), (q118, .inl (K.1, 3200, .inl (ar (fun _ => 0)))), (q127, .inl (K.1, 3200, .inl (ar (fun _ => 0)))), (q136, .inl (K.2.1, 3200, .inl (ar (fun _ => 0)))), (q145, .inl (K.1, 3400, .inl (ar (fun _ => 0)))), (q154, .inl (K.1, 3400, .inl (ar (fun _ => 0)))), (q163, .inl (K.1, 3400, .inl (ar (fun _ => 0)))), (q172, .inl (K.1, 3400, .inl (ar (fun _ => 0)))), (q180, .inl (K.1, 32, .inl (ar (fun _ => 0)))), (q188, .inl (K.1, 32, .inl (ar (fun _ => 0)))), (q196, .inl (K.2.1, 8, .inl (ar (fun _ => 0))))]) rfl ?_
  refine z_aload_n ZC 0 dX8_init_201 rfl rfl ?_
  refine z_bipush ZC dX8_init_202 (by decide) ?_
  refine z_newa ZC (n := 8) uA_int dX8_init_204 (by rfl) (by omega) (by omega) (by omega) (fun q204 => ?_)
  refine z_putF ZC ZE.2.2.2.2 inUX8 tyX8_ok nmX8 0 rfl rfl 29 (by decide) uF_X8_84 rfl rfl (rfl) (rfl) (Nat.le_of_ble_eq_true rfl) dX8_init_206 ?_
  refine z_aload_n ZC 0 dX8_init_209 rfl rfl ?_
  refine z_bipush ZC dX8_init_210 (by decide) ?_
  refine z_newa ZC (n := 8) uA_int dX8_init_212 (by rfl) (by omega) (by omega) (by omega) (fun q212 => ?_)
  refine z_putF ZC ZE.2.2.2.2 inUX8 tyX8_ok nmX8 0 rfl rfl 30 (by decide) uF_X8_87 rfl rfl (rfl) (rfl) (Nat.le_of_ble_eq_true rfl) dX8_init_214 ?_
  refine z_aload_n ZC 0 dX8_init_217 rfl rfl ?_
  refine z_bipush ZC dX8_init_218 (by decide) ?_
  refine z_newa ZC (n := 10) uA_int dX8_init_220 (by rfl) (by omega) (by omega) (by omega) (fun q220 => ?_)
  refine z_putF ZC ZE.2.2.2.2 inUX8 tyX8_ok nmX8 0 rfl rfl 31 (by decide) uF_X8_90 rfl rfl (rfl) (rfl) (Nat.le_of_ble_eq_true rfl) dX8_init_222 ?_
  refine z_ws (ws2 := [(h, .inr (8, [vZ 0, .ref q7, .ref q15, vZ 50, vZ 0, .ref q29, .ref q37, .ref q45, .ref q53, .ref q61, .ref q69, .ref q77, vZ 0, .ref q85, .ref q93, .ref q101, .ref q109, .ref q118, .ref q127, .ref q136, vZ 0, vZ 0, .ref q145, .ref q154, .ref q163, .ref q172, .ref q180, .ref q188, .ref q196, .ref q204, .ref q212, .ref q220, .null, .null, vZ 0, .null, vZ 0, vZ 0, vZ 0, .null, .null, vZ 0, vZ 0, vZ 0])), (q7, .inl (K.1, 10, .inl (ar (fun _ => 0)))), (q15, .inl (K.1, 10, .inl (ar (fun _ => 0)))), (q29, .inl (K.1, 16, .inl (ar (fun _ => 0)))), (q37, .inl (K.1, 16, .inl (ar (fun _ => 0)))), (q45, .inl (K.1, 16, .inl (ar (fun _ => 0)))), (q53, .inl (K.1, 16, .inl (ar (fun _ => 0)))), (q61, .inl (K.1, 16, .inl (ar (fun _ => 0)))), (q69, .inl (K.1, 16, .inl (ar (fun _ => 0)))), (q77, .inl (K.1, 100, .inl (ar (fun _ => 0)))), (q85, .inl (K.1, 8, .inl (ar (fun _ => 0)))), (q93, .inl (K.1, 8, .inl (ar (fun _ => 0)))), (q101, .inl (K.1, 8, .inl (ar (fun _ => 0)))), (q109, .inl (K.1, 8, .inl (ar (fun _ => 0)))), (q118, .inl (K.1, 3200, .inl (ar (fun _ => 0)))), (q127, .inl (K.1, 3200, .inl (ar (fun _ => 0)))), (q136, .inl (K.2.1, 3200, .inl (ar (fun _ => 0)))), (q145, .inl (K.1, 3400, .inl (ar (fun _ => 0)))), (q154, .inl (K.1, 3400, .inl (ar (fun _ => 0)))), (q163, .inl (K.1, 3400, .inl (ar (fun _ => 0)))), (q172, .inl (K.1, 3400, .inl (ar (fun _ => 0)))), (q180, .inl (K.1, 32, .inl (ar (fun _ => 0)))), (q188, .inl (K.1, 32, .inl (ar (fun _ => 0)))), (q196, .inl (K.2.1, 8, .inl (ar (fun _ => 0)))), (q204, .inl (K.1, 8, .inl (ar (fun _ => 0)))), (q212, .inl (K.1, 8, .inl (ar (fun _ => 0)))), (q220, .inl (K.1, 10, .inl (ar (fun _ => 0))))]) rfl ?_
  refine z_aload_n ZC 0 dX8_init_225 rfl rfl ?_
  refine z_bipush ZC dX8_init_226 (by decide) ?_
  refine z_newa ZC (n := 10) uA_int dX8_init_228 (by rfl) (by omega) (by omega) (by omega) (fun q228 => ?_)
  refine z_putF ZC ZE.2.2.2.2 inUX8 tyX8_ok nmX8 0 rfl rfl 32 (by decide) uF_X8_93 rfl rfl (rfl) (rfl) (Nat.le_of_ble_eq_true rfl) dX8_init_230 ?_
  refine z_aload_n ZC 0 dX8_init_233 rfl rfl ?_
  refine z_bipush ZC dX8_init_234 (by decide) ?_
  refine z_newa ZC (n := 10) uA_int dX8_init_236 (by rfl) (by omega) (by omega) (by omega) (fun q236 => ?_)
  refine z_putF ZC ZE.2.2.2.2 inUX8 tyX8_ok nmX8 0 rfl rfl 33 (by decide) uF_X8_96 rfl rfl (rfl) (rfl) (Nat.le_of_ble_eq_true rfl) dX8_init_238 ?_
  refine z_aload_n ZC 0 dX8_init_241 rfl rfl ?_
  refine z_sipush ZC dX8_init_242 (by decide) ?_
  refine z_newa ZC (n := 13711) uA_int dX8_init_245 (by rfl) (by omega) (by omega) (by omega) (fun q245 => ?_)
  refine z_putF ZC ZE.2.2.2.2 inUX8 tyX8_ok nmX8 0 rfl rfl 35 (by decide) uF_X8_99 rfl rfl (rfl) (rfl) (Nat.le_of_ble_eq_true rfl) dX8_init_247 ?_
  refine z_ws (ws2 := [(h, .inr (8, [vZ 0, .ref q7, .ref q15, vZ 50, vZ 0, .ref q29, .ref q37, .ref q45, .ref q53, .ref q61, .ref q69, .ref q77, vZ 0, .ref q85, .ref q93, .ref q101, .ref q109, .ref q118, .ref q127, .ref q136, vZ 0, vZ 0, .ref q145, .ref q154, .ref q163, .ref q172, .ref q180, .ref q188, .ref q196, .ref q204, .ref q212, .ref q220, .ref q228, .ref q236, vZ 0, .ref q245, vZ 0, vZ 0, vZ 0, .null, .null, vZ 0, vZ 0, vZ 0])), (q7, .inl (K.1, 10, .inl (ar (fun _ => 0)))), (q15, .inl (K.1, 10, .inl (ar (fun _ => 0)))), (q29, .inl (K.1, 16, .inl (ar (fun _ => 0)))), (q37, .inl (K.1, 16, .inl (ar (fun _ => 0)))), (q45, .inl (K.1, 16, .inl (ar (fun _ => 0)))), (q53, .inl (K.1, 16, .inl (ar (fun _ => 0)))), (q61, .inl (K.1, 16, .inl (ar (fun _ => 0)))), (q69, .inl (K.1, 16, .inl (ar (fun _ => 0)))), (q77, .inl (K.1, 100, .inl (ar (fun _ => 0)))), (q85, .inl (K.1, 8, .inl (ar (fun _ => 0)))), (q93, .inl (K.1, 8, .inl (ar (fun _ => 0)))), (q101, .inl (K.1, 8, .inl (ar (fun _ => 0)))), (q109, .inl (K.1, 8, .inl (ar (fun _ => 0)))), (q118, .inl (K.1, 3200, .inl (ar (fun _ => 0)))), (q127, .inl (K.1, 3200, .inl (ar (fun _ => 0)))), (q136, .inl (K.2.1, 3200, .inl (ar (fun _ => 0)))), (q145, .inl (K.1, 3400, .inl (ar (fun _ => 0)))), (q154, .inl (K.1, 3400, .inl (ar (fun _ => 0)))), (q163, .inl (K.1, 3400, .inl (ar (fun _ => 0)))), (q172, .inl (K.1, 3400, .inl (ar (fun _ => 0)))), (q180, .inl (K.1, 32, .inl (ar (fun _ => 0)))), (q188, .inl (K.1, 32, .inl (ar (fun _ => 0)))), (q196, .inl (K.2.1, 8, .inl (ar (fun _ => 0)))), (q204, .inl (K.1, 8, .inl (ar (fun _ => 0)))), (q212, .inl (K.1, 8, .inl (ar (fun _ => 0)))), (q220, .inl (K.1, 10, .inl (ar (fun _ => 0)))), (q228, .inl (K.1, 10, .inl (ar (fun _ => 0)))), (q236, .inl (K.1, 10, .inl (ar (fun _ => 0)))), (q245, .inl (K.1, 13711, .inl (ar (fun _ => 0))))]) rfl ?_
  refine z_aload_n ZC 0 dX8_init_250 rfl rfl ?_
  refine z_iconst ZC dX8_init_251 ?_
  refine z_newa ZC (n := 4) uA_int dX8_init_252 (by rfl) (by omega) (by omega) (by omega) (fun q252 => ?_)
  refine z_putF ZC ZE.2.2.2.2 inUX8 tyX8_ok nmX8 0 rfl rfl 39 (by decide) uF_X8_102 rfl rfl (rfl) (rfl) (Nat.le_of_ble_eq_true rfl) dX8_init_254 ?_
  refine z_aload_n ZC 0 dX8_init_257 rfl rfl ?_
  refine z_iconst ZC dX8_init_258 ?_
  refine z_newa ZC (n := 4) uA_int dX8_init_259 (by rfl) (by omega) (by omega) (by omega) (fun q259 => ?_)
  refine z_putF ZC ZE.2.2.2.2 inUX8 tyX8_ok nmX8 0 rfl rfl 40 (by decide) uF_X8_105 rfl rfl (rfl) (rfl) (Nat.le_of_ble_eq_true rfl) dX8_init_261 ?_
  refine z_iconst ZC dX8_init_264 ?_
  refine z_istore_n ZC 1 dX8_init_265 rfl (by decide) ?_
  have lp_266 : ∀ (n_266 : Nat) (k : Int) (he : Int → Int) (ta : Int → Int), (0 ≤ k ∧ k ≤ 32) → (∀ j : Int, 0 ≤ j → j < k → he j = -1) → ((32 - k).toNat) < n_266 → Zw zp zl ze zR zs zm zargs zbelow zmeth zc D zA 2 zQ (0 + 1 + 1 + 1 + 1 + 1 + 1 + 1 + 1 + 1 + 1 + 1 + 1 + 1 + 1 + 1 + 1 + 1 + 1 + 1 + 1 + 1 + 1 + 1 + 1 + 1 + 1 + 1 + 1 + 1 + 1 + 1) (0 + 10 + 10 + 16 + 16 + 16 + 16 + 16 + 16 + 100 + 8 + 8 + 8 + 8 + 3200 + 3200 + 3200 + 3400 + 3400 + 3400 + 3400 + 32 + 32 + 8 + 8 + 8 + 10 + 10 + 10 + 13711 + 4 + 4) ([(h, .inr (8, [vZ 0, .ref q7, .ref q15, vZ 50, vZ 0, .ref q29, .ref q37, .ref q45, .ref q53, .ref q61, .ref q69, .ref q77, vZ 0, .ref q85, .ref q93, .ref q101, .ref q109, .ref q118, .ref q127, .ref q136, vZ 0, vZ 0, .ref q145, .ref q154, .ref q163, .ref q172, .ref q180, .ref q188, .ref q196, .ref q204, .ref q212, .ref q220, .ref q228, .ref q236, vZ 0, .ref q245, vZ 0, vZ 0, vZ 0, .ref q252, .ref q259, vZ 0, vZ 0, vZ 0])), (q7, .inl (K.1, 10, .inl (ar (fun _ => 0)))), (q15, .inl (K.1, 10, .inl (ar (fun _ => 0)))), (q29, .inl (K.1, 16, .inl (ar (fun _ => 0)))), (q37, .inl (K.1, 16, .inl (ar (fun _ => 0)))), (q45, .inl (K.1, 16, .inl (ar (fun _ => 0)))), (q53, .inl (K.1, 16, .inl (ar (fun _ => 0)))), (q61, .inl (K.1, 16, .inl (ar (fun _ => 0)))), (q69, .inl (K.1, 16, .inl (ar (fun _ => 0)))), (q77, .inl (K.1, 100, .inl (ar (fun _ => 0)))), (q85, .inl (K.1, 8, .inl (ar (fun _ => 0)))), (q93, .inl (K.1, 8, .inl (ar (fun _ => 0)))), (q101, .inl (K.1, 8, .inl (ar (fun _ => 0)))), (q109, .inl (K.1, 8, .inl (ar (fun _ => 0)))), (q118, .inl (K.1, 3200, .inl (ar (fun _ => 0)))), (q127, .inl (K.1, 3200, .inl (ar (fun _ => 0)))), (q136, .inl (K.2.1, 3200, .inl (ar (fun _ => 0)))), (q145, .inl (K.1, 3400, .inl (ar (fun _ => 0)))), (q154, .inl (K.1, 3400, .inl (ar (fun _ => 0)))), (q163, .inl (K.1, 3400, .inl (ar (fun _ => 0)))), (q172, .inl (K.1, 3400, .inl (ar (fun _ => 0)))), (q180, .inl (K.1, 32, .inl (ar he))), (q188, .inl (K.1, 32, .inl (ar ta))), (q196, .inl (K.2.1, 8, .inl (ar (fun _ => 0)))), (q204, .inl (K.1, 8, .inl (ar (fun _ => 0)))), (q212, .inl (K.1, 8, .inl (ar (fun _ => 0)))), (q220, .inl (K.1, 10, .inl (ar (fun _ => 0)))), (q228, .inl (K.1, 10, .inl (ar (fun _ => 0)))), (q236, .inl (K.1, 10, .inl (ar (fun _ => 0)))), (q245, .inl (K.1, 13711, .inl (ar (fun _ => 0)))), (q252, .inl (K.1, 4, .inl (ar (fun _ => 0)))), (q259, .inl (K.1, 4, .inl (ar (fun _ => 0))))]) 266 [(0, .ref h), (1, vZ k)] [] := by
    intro n_266
    induction n_266 with
    | zero => intro k he ta hk hh hm_266; exact absurd hm_266 (Nat.not_lt_zero _)
    | succ n_266 ih_266 =>
      intro k he ta hk hh hm_266
      refine z_iload_n ZC 1 dX8_init_266 rfl rfl ?_
      refine z_bipush ZC dX8_init_267 (by decide) ?_
      refine z_icmp_ge ZC 292 dX8_init_269 (by decide) (by omega) (by omega) (fun c_269 => ?_) (fun c_269 => ?_)
      · skip
        refine z_iconst ZC dX8_init_292 ?_
        refine z_istore_n ZC 1 dX8_init_293 rfl (by decide) ?_
        have lp_294 : ∀ (n_294 : Nat) (k : Int) (ct : Int → Int), (0 ≤ k ∧ k ≤ 3200) → (∀ j : Int, 0 ≤ j → j < k → ct j = -1) → ((3200 - k).toNat) < n_294 → Zw zp zl ze zR zs zm zargs zbelow zmeth zc D zA 2 zQ (0 + 1 + 1 + 1 + 1 + 1 + 1 + 1 + 1 + 1 + 1 + 1 + 1 + 1 + 1 + 1 + 1 + 1 + 1 + 1 + 1 + 1 + 1 + 1 + 1 + 1 + 1 + 1 + 1 + 1 + 1 + 1) (0 + 10 + 10 + 16 + 16 + 16 + 16 + 16 + 16 + 100 + 8 + 8 + 8 + 8 + 3200 + 3200 + 3200 + 3400 + 3400 + 3400 + 3400 + 32 + 32 + 8 + 8 + 8 + 10 + 10 + 10 + 13711 + 4 + 4) ([(h, .inr (8, [vZ 0, .ref q7, .ref q15, vZ 50, vZ 0, .ref q29, .ref q37, .ref q45, .ref q53, .ref q61, .ref q69, .ref q77, vZ 0, .ref q85, .ref q93, .ref q101, .ref q109, .ref q118, .ref q127, .ref q136, vZ 0, vZ 0, .ref q145, .ref q154, .ref q163, .ref q172, .ref q180, .ref q188, .ref q196, .ref q204, .ref q212, .ref q220, .ref q228, .ref q236, vZ 0, .ref q245, vZ 0, vZ 0, vZ 0, .ref q252, .ref q259, vZ 0, vZ 0, vZ 0])), (q7, .inl (K.1, 10, .inl (ar (fun _ => 0)))), (q15, .inl (K.1, 10, .inl (ar (fun _ => 0)))), (q29, .inl (K.1, 16, .inl (ar (fun _ => 0)))), (q37, .inl (K.1, 16, .inl (ar (fun _ => 0)))), (q45, .inl (K.1, 16, .inl (ar (fun _ => 0)))), (q53, .inl (K.1, 16, .inl (ar (fun _ => 0)))), (q61, .inl (K.1, 16, .inl (ar (fun _ => 0)))), (q69, .inl (K.1, 16, .inl (ar (fun _ => 0)))), (q77, .inl (K.1, 100, .inl (ar (fun _ => 0)))), (q85, .inl (K.1, 8, .inl (ar (fun _ => 0)))), (q93, .inl (K.1, 8, .inl (ar (fun _ => 0)))), (q101, .inl (K.1, 8, .inl (ar (fun _ => 0)))), (q109, .inl (K.1, 8, .inl (ar (fun _ => 0)))), (q118, .inl (K.1, 3200, .inl (ar ct))), (q127, .inl (K.1, 3200, .inl (ar (fun _ => 0)))), (q136, .inl (K.2.1, 3200, .inl (ar (fun _ => 0)))), (q145, .inl (K.1, 3400, .inl (ar (fun _ => 0)))), (q154, .inl (K.1, 3400, .inl (ar (fun _ => 0)))), (q163, .inl (K.1, 3400, .inl (ar (fun _ => 0)))), (q172, .inl (K.1, 3400, .inl (ar (fun _ => 0)))), (q180, .inl (K.1, 32, .inl (ar he))), (q188, .inl (K.1, 32, .inl (ar ta))), (q196, .inl (K.2.1, 8, .inl (ar (fun _ => 0)))), (q204, .inl (K.1, 8, .inl (ar (fun _ => 0)))), (q212, .inl (K.1, 8, .inl (ar (fun _ => 0)))), (q220, .inl (K.1, 10, .inl (ar (fun _ => 0)))), (q228, .inl (K.1, 10, .inl (ar (fun _ => 0)))), (q236, .inl (K.1, 10, .inl (ar (fun _ => 0)))), (q245, .inl (K.1, 13711, .inl (ar (fun _ => 0)))), (q252, .inl (K.1, 4, .inl (ar (fun _ => 0)))), (q259, .inl (K.1, 4, .inl (ar (fun _ => 0))))]) 294 [(0, .ref h), (1, vZ k)] [] := by
          intro n_294
          induction n_294 with
          | zero => intro k ct hk2 hc hm_294; exact absurd hm_294 (Nat.not_lt_zero _)
          | succ n_294 ih_294 =>
            intro k ct hk2 hc hm_294
            refine z_iload_n ZC 1 dX8_init_294 rfl rfl ?_
            refine z_sipush ZC dX8_init_295 (by decide) ?_
            refine z_icmp_ge ZC 314 dX8_init_298 (by decide) (by omega) (by omega) (fun c_298 => ?_) (fun c_298 => ?_)
            · skip
              refine z_aload_n ZC 0 dX8_init_314 rfl rfl ?_
              have hy_hr8_315_0 : 0 ≤ (0 : Int) ∧ (0 : Int) ≤ 16 := ⟨show (0 : Int) ≤ 0 by omega, show (0 : Int) ≤ 16 by omega⟩
              have hy_hrv_315_0 : RV ((fun _ => 0)) ((fun _ => 0)) ((fun _ => 0)) ((0 : Int)) := fun r r1 r2 => by have : r < 0 := r2; omega
              refine z_callV ZC 0 (c_X8_reckons zl D K h (upf (upf (upf (upf (upf (upf (upf (upf (upf (upf (upf (upf (upf (upf (upf (upf (upf (upf (upf (upf (upf (upf (upf (upf (upf (upf (upf (upf (upf (upf (upf (fun _ => 0 : Nat → Nat) 1 q7) 2 q15) 5 q29) 6 q37) 7 q45) 8 q53) 9 q61) 10 q69) 11 q77) 13 q85) 14 q93) 15 q101) 16 q109) 17 q118) 18 q127) 19 q136) 22 q145) 23 q154) 24 q163) 25 q172) 26 q180) 27 q188) 28 q196) 29 q204) 30 q212) 31 q220) 32 q228) 33 q236) 35 q245) 39 q252) 40 q259) ((upf (upf (upf (upf (upf (upf (upf (upf (upf (upf (upf (upf (upf (upf (upf (upf (upf (upf (upf (upf (upf (upf (upf (upf (upf (upf (upf (upf (upf (upf (upf B0.1 1 (fun _ => 0)) 2 (fun _ => 0)) 5 (fun _ => 0)) 6 (fun _ => 0)) 7 (fun _ => 0)) 8 (fun _ => 0)) 9 (fun _ => 0)) 10 (fun _ => 0)) 11 (fun _ => 0)) 13 (fun _ => 0)) 14 (fun _ => 0)) 15 (fun _ => 0)) 16 (fun _ => 0)) 17 ct) 18 (fun _ => 0)) 19 (fun _ => 0)) 22 (fun _ => 0)) 23 (fun _ => 0)) 24 (fun _ => 0)) 25 (fun _ => 0)) 26 he) 27 ta) 28 (fun _ => 0)) 29 (fun _ => 0)) 30 (fun _ => 0)) 31 (fun _ => 0)) 32 (fun _ => 0)) 33 (fun _ => 0)) 35 (fun _ => 0)) 39 (fun _ => 0)) 40 (fun _ => 0)), (upf (upf (upf (upf (upf (upf (upf (upf (upf (upf (upf (upf (upf B0.2 0 (0 : Int)) 3 (50 : Int)) 4 (0 : Int)) 12 (0 : Int)) 20 (0 : Int)) 21 (0 : Int)) 34 (0 : Int)) 36 (0 : Int)) 37 (0 : Int)) 38 (0 : Int)) 41 (0 : Int)) 42 (0 : Int)) 43 (0 : Int))) (hy_hr8_315_0) (hy_hrv_315_0)) (gdV uM_X8_108 uI_X8_reckons uS_X8_reckons uN_X8 uC_X8_reckons) (by decide +kernel) rfl ⟨by omega, by omega⟩ ⟨by omega, by omega⟩ (Nat.le_of_ble_eq_true rfl) [0, 1, 2, 3, 4, 5, 6, 7, 8, 9, 10, 11, 12, 13, 14, 15, 16, 17, 18, 19, 20, 21, 22, 23, 24, 25, 26, 27, 28, 29, 30, 31] rfl (by decide) rfl rfl rfl rfl dX8_init_315 (fun r w2 gc_315 gs_315 hp => ?_)
              obtain ⟨L2_315, rfl, rfl, rfl, rfl, hsp_315⟩ := hp
              have hsp_315 : SPm ((fun _ => 0)) ((fun _ => 0)) ((fun _ => 0)) ((0 : Int)) L2_315 := hsp_315
              refine z_ws (ws2 := [(h, .inr (8, [vZ (0 : Int), .ref q7, .ref q15, vZ (50 : Int), vZ (0 : Int), .ref q29, .ref q37, .ref q45, .ref q53, .ref q61, .ref q69, .ref q77, vZ (0 : Int), .ref q85, .ref q93, .ref q101, .ref q109, .ref q118, .ref q127, .ref q136, vZ (0 : Int), vZ (0 : Int), .ref q145, .ref q154, .ref q163, .ref q172, .ref q180, .ref q188, .ref q196, .ref q204, .ref q212, .ref q220, .ref q228, .ref q236, vZ (0 : Int), .ref q245, vZ (0 : Int), vZ (0 : Int), vZ (0 : Int), .ref q252, .ref q259, vZ (0 : Int), vZ (0 : Int), vZ (0 : Int)])), (q7, .inl (K.1, 10, .inl (ar (fun _ => 0)))), (q15, .inl (K.1, 10, .inl (ar (fun _ => 0)))), (q29, .inl (K.1, 16, .inl (ar (fun _ => 0)))), (q37, .inl (K.1, 16, .inl (ar (fun _ => 0)))), (q45, .inl (K.1, 16, .inl (ar (fun _ => 0)))), (q53, .inl (K.1, 16, .inl (ar (fun _ => 0)))), (q61, .inl (K.1, 16, .inl (ar (fun _ => 0)))), (q69, .inl (K.1, 16, .inl (ar (fun _ => 0)))), (q77, .inl (K.1, 100, .inl (ar L2_315))), (q85, .inl (K.1, 8, .inl (ar (fun _ => 0)))), (q93, .inl (K.1, 8, .inl (ar (fun _ => 0)))), (q101, .inl (K.1, 8, .inl (ar (fun _ => 0)))), (q109, .inl (K.1, 8, .inl (ar (fun _ => 0)))), (q118, .inl (K.1, 3200, .inl (ar ct))), (q127, .inl (K.1, 3200, .inl (ar (fun _ => 0)))), (q136, .inl (K.2.1, 3200, .inl (ar (fun _ => 0)))), (q145, .inl (K.1, 3400, .inl (ar (fun _ => 0)))), (q154, .inl (K.1, 3400, .inl (ar (fun _ => 0)))), (q163, .inl (K.1, 3400, .inl (ar (fun _ => 0)))), (q172, .inl (K.1, 3400, .inl (ar (fun _ => 0)))), (q180, .inl (K.1, 32, .inl (ar he))), (q188, .inl (K.1, 32, .inl (ar ta))), (q196, .inl (K.2.1, 8, .inl (ar (fun _ => 0)))), (q204, .inl (K.1, 8, .inl (ar (fun _ => 0)))), (q212, .inl (K.1, 8, .inl (ar (fun _ => 0)))), (q220, .inl (K.1, 10, .inl (ar (fun _ => 0)))), (q228, .inl (K.1, 10, .inl (ar (fun _ => 0)))), (q236, .inl (K.1, 10, .inl (ar (fun _ => 0)))), (q245, .inl (K.1, 13711, .inl (ar (fun _ => 0)))), (q252, .inl (K.1, 4, .inl (ar (fun _ => 0)))), (q259, .inl (K.1, 4, .inl (ar (fun _ => 0))))]) rfl ?_
              refine z_st (st2 := []) rfl ?_
              refine z_vret ZC ZE dX8_init_318 (by omega) (by omega) (Nat.le_of_ble_eq_true rfl) ⟨(upf (upf (upf (upf (upf (upf (upf (upf (upf (upf (upf (upf (upf (upf (upf (upf (upf (upf (upf (upf (upf (upf (upf (upf (upf (upf (upf (upf (upf (upf (upf (fun _ => 0) 1 q7) 2 q15) 5 q29) 6 q37) 7 q45) 8 q53) 9 q61) 10 q69) 11 q77) 13 q85) 14 q93) 15 q101) 16 q109) 17 q118) 18 q127) 19 q136) 22 q145) 23 q154) 24 q163) 25 q172) 26 q180) 27 q188) 28 q196) 29 q204) 30 q212) 31 q220) 32 q228) 33 q236) 35 q245) 39 q252) 40 q259), ((upf (upf (upf (upf (upf (upf (upf (upf (upf (upf (upf (upf (upf (upf (upf (upf (upf (upf (upf (upf (upf (upf (upf (upf (upf (upf (upf (upf (upf (upf (upf (fun _ _ => 0) 1 (fun _ => 0)) 2 (fun _ => 0)) 5 (fun _ => 0)) 6 (fun _ => 0)) 7 (fun _ => 0)) 8 (fun _ => 0)) 9 (fun _ => 0)) 10 (fun _ => 0)) 11 L2_315) 13 (fun _ => 0)) 14 (fun _ => 0)) 15 (fun _ => 0)) 16 (fun _ => 0)) 17 ct) 18 (fun _ => 0)) 19 (fun _ => 0)) 22 (fun _ => 0)) 23 (fun _ => 0)) 24 (fun _ => 0)) 25 (fun _ => 0)) 26 he) 27 ta) 28 (fun _ => 0)) 29 (fun _ => 0)) 30 (fun _ => 0)) 31 (fun _ => 0)) 32 (fun _ => 0)) 33 (fun _ => 0)) 35 (fun _ => 0)) 39 (fun _ => 0)) 40 (fun _ => 0)), (upf (upf (upf (upf (upf (upf (upf (upf (upf (upf (upf (upf (upf (fun _ => 0) 0 (0 : Int)) 3 (50 : Int)) 4 (0 : Int)) 12 (0 : Int)) 20 (0 : Int)) 21 (0 : Int)) 34 (0 : Int)) 36 (0 : Int)) 37 (0 : Int)) 38 (0 : Int)) 41 (0 : Int)) 42 (0 : Int)) 43 (0 : Int))), rfl, rfl, by omega, by omega, ?_, ?_, ?_, ?_, ?_⟩
              · skip
                exact ⟨rfl, rfl, rfl, rfl, rfl, rfl, rfl⟩
              · skip
                exact ⟨fun _ => rfl, fun _ => rfl, fun _ => rfl, fun _ => rfl, fun _ => rfl, fun _ => rfl, fun _ => rfl, fun _ => rfl, fun _ => rfl, fun _ => rfl⟩
              · skip
                intro j a b
                exact hh j a (by omega)
              · skip
                intro j a b
                exact hc j a (by omega)
              · skip
                exact hsp_315
            · skip
              refine z_aload_n ZC 0 dX8_init_301 rfl rfl ?_
              refine z_get ZC inUX8 0 rfl rfl 17 (by decide) uF_X8_53 rfl dX8_init_302 ?_
              refine z_iload_n ZC 1 dX8_init_305 rfl rfl ?_
              refine z_iconst ZC dX8_init_306 ?_
              refine z_iast ZC 14 rfl dX8_init_307 (by omega) ?_
              refine z_iinc ZC dX8_init_308 rfl (by decide) ?_
              refine z_goto ZC 294 dX8_init_311 (by decide) ?_
              refine z_ws (ws2 := [(h, .inr (8, [vZ 0, .ref q7, .ref q15, vZ 50, vZ 0, .ref q29, .ref q37, .ref q45, .ref q53, .ref q61, .ref q69, .ref q77, vZ 0, .ref q85, .ref q93, .ref q101, .ref q109, .ref q118, .ref q127, .ref q136, vZ 0, vZ 0, .ref q145, .ref q154, .ref q163, .ref q172, .ref q180, .ref q188, .ref q196, .ref q204, .ref q212, .ref q220, .ref q228, .ref q236, vZ 0, .ref q245, vZ 0, vZ 0, vZ 0, .ref q252, .ref q259, vZ 0, vZ 0, vZ 0])), (q7, .inl (K.1, 10, .inl (ar (fun _ => 0)))), (q15, .inl (K.1, 10, .inl (ar (fun _ => 0)))), (q29, .inl (K.1, 16, .inl (ar (fun _ => 0)))), (q37, .inl (K.1, 16, .inl (ar (fun _ => 0)))), (q45, .inl (K.1, 16, .inl (ar (fun _ => 0)))), (q53, .inl (K.1, 16, .inl (ar (fun _ => 0)))), (q61, .inl (K.1, 16, .inl (ar (fun _ => 0)))), (q69, .inl (K.1, 16, .inl (ar (fun _ => 0)))), (q77, .inl (K.1, 100, .inl (ar (fun _ => 0)))), (q85, .inl (K.1, 8, .inl (ar (fun _ => 0)))), (q93, .inl (K.1, 8, .inl (ar (fun _ => 0)))), (q101, .inl (K.1, 8, .inl (ar (fun _ => 0)))), (q109, .inl (K.1, 8, .inl (ar (fun _ => 0)))), (q118, .inl (K.1, 3200, .inl (ar (upz ct k (-1))))), (q127, .inl (K.1, 3200, .inl (ar (fun _ => 0)))), (q136, .inl (K.2.1, 3200, .inl (ar (fun _ => 0)))), (q145, .inl (K.1, 3400, .inl (ar (fun _ => 0)))), (q154, .inl (K.1, 3400, .inl (ar (fun _ => 0)))), (q163, .inl (K.1, 3400, .inl (ar (fun _ => 0)))), (q172, .inl (K.1, 3400, .inl (ar (fun _ => 0)))), (q180, .inl (K.1, 32, .inl (ar he))), (q188, .inl (K.1, 32, .inl (ar ta))), (q196, .inl (K.2.1, 8, .inl (ar (fun _ => 0)))), (q204, .inl (K.1, 8, .inl (ar (fun _ => 0)))), (q212, .inl (K.1, 8, .inl (ar (fun _ => 0)))), (q220, .inl (K.1, 10, .inl (ar (fun _ => 0)))), (q228, .inl (K.1, 10, .inl (ar (fun _ => 0)))), (q236, .inl (K.1, 10, .inl (ar (fun _ => 0)))), (q245, .inl (K.1, 13711, .inl (ar (fun _ => 0)))), (q252, .inl (K.1, 4, .inl (ar (fun _ => 0)))), (q259, .inl (K.1, 4, .inl (ar (fun _ => 0))))]) rfl (z_lv (lv2 := [(0, .ref h), (1, vZ (k + 1))]) ⟨rfl, rfl, trivial⟩ ?_)
              refine ih_294 (k + 1) (upz ct k (-1)) ?_ ?_ (by omega)
              · skip
                omega
              · skip
                intro j a b
                unfold upz
                split
                · rfl
                · exact hc j a (by omega)
        refine z_ws (ws2 := [(h, .inr (8, [vZ 0, .ref q7, .ref q15, vZ 50, vZ 0, .ref q29, .ref q37, .ref q45, .ref q53, .ref q61, .ref q69, .ref q77, vZ 0, .ref q85, .ref q93, .ref q101, .ref q109, .ref q118, .ref q127, .ref q136, vZ 0, vZ 0, .ref q145, .ref q154, .ref q163, .ref q172, .ref q180, .ref q188, .ref q196, .ref q204, .ref q212, .ref q220, .ref q228, .ref q236, vZ 0, .ref q245, vZ 0, vZ 0, vZ 0, .ref q252, .ref q259, vZ 0, vZ 0, vZ 0])), (q7, .inl (K.1, 10, .inl (ar (fun _ => 0)))), (q15, .inl (K.1, 10, .inl (ar (fun _ => 0)))), (q29, .inl (K.1, 16, .inl (ar (fun _ => 0)))), (q37, .inl (K.1, 16, .inl (ar (fun _ => 0)))), (q45, .inl (K.1, 16, .inl (ar (fun _ => 0)))), (q53, .inl (K.1, 16, .inl (ar (fun _ => 0)))), (q61, .inl (K.1, 16, .inl (ar (fun _ => 0)))), (q69, .inl (K.1, 16, .inl (ar (fun _ => 0)))), (q77, .inl (K.1, 100, .inl (ar (fun _ => 0)))), (q85, .inl (K.1, 8, .inl (ar (fun _ => 0)))), (q93, .inl (K.1, 8, .inl (ar (fun _ => 0)))), (q101, .inl (K.1, 8, .inl (ar (fun _ => 0)))), (q109, .inl (K.1, 8, .inl (ar (fun _ => 0)))), (q118, .inl (K.1, 3200, .inl (ar (fun _ => 0)))), (q127, .inl (K.1, 3200, .inl (ar (fun _ => 0)))), (q136, .inl (K.2.1, 3200, .inl (ar (fun _ => 0)))), (q145, .inl (K.1, 3400, .inl (ar (fun _ => 0)))), (q154, .inl (K.1, 3400, .inl (ar (fun _ => 0)))), (q163, .inl (K.1, 3400, .inl (ar (fun _ => 0)))), (q172, .inl (K.1, 3400, .inl (ar (fun _ => 0)))), (q180, .inl (K.1, 32, .inl (ar he))), (q188, .inl (K.1, 32, .inl (ar ta))), (q196, .inl (K.2.1, 8, .inl (ar (fun _ => 0)))), (q204, .inl (K.1, 8, .inl (ar (fun _ => 0)))), (q212, .inl (K.1, 8, .inl (ar (fun _ => 0)))), (q220, .inl (K.1, 10, .inl (ar (fun _ => 0)))), (q228, .inl (K.1, 10, .inl (ar (fun _ => 0)))), (q236, .inl (K.1, 10, .inl (ar (fun _ => 0)))), (q245, .inl (K.1, 13711, .inl (ar (fun _ => 0)))), (q252, .inl (K.1, 4, .inl (ar (fun _ => 0)))), (q259, .inl (K.1, 4, .inl (ar (fun _ => 0))))]) rfl (z_lv (lv2 := [(0, .ref h), (1, vZ 0)]) ⟨rfl, rfl, trivial⟩ ?_)
        refine lp_294 _ 0 (fun _ => 0) ?_ ?_ (Nat.lt_succ_self _)
        · skip
          omega
        · skip
          intro j a b; omega
      · skip
        refine z_aload_n ZC 0 dX8_init_272 rfl rfl ?_
        refine z_get ZC inUX8 0 rfl rfl 26 (by decide) uF_X8_75 rfl dX8_init_273 ?_
        refine z_iload_n ZC 1 dX8_init_276 rfl rfl ?_
        refine z_iconst ZC dX8_init_277 ?_
        refine z_iast ZC 21 rfl dX8_init_278 (by omega) ?_
        refine z_aload_n ZC 0 dX8_init_279 rfl rfl ?_
        refine z_get ZC inUX8 0 rfl rfl 27 (by decide) uF_X8_78 rfl dX8_init_280 ?_
        refine z_iload_n ZC 1 dX8_init_283 rfl rfl ?_
        refine z_iconst ZC dX8_init_284 ?_
        refine z_iast ZC 22 rfl dX8_init_285 (by omega) ?_
        refine z_iinc ZC dX8_init_286 rfl (by decide) ?_
        refine z_goto ZC 266 dX8_init_289 (by decide) ?_
        refine z_ws (ws2 := [(h, .inr (8, [vZ 0, .ref q7, .ref q15, vZ 50, vZ 0, .ref q29, .ref q37, .ref q45, .ref q53, .ref q61, .ref q69, .ref q77, vZ 0, .ref q85, .ref q93, .ref q101, .ref q109, .ref q118, .ref q127, .ref q136, vZ 0, vZ 0, .ref q145, .ref q154, .ref q163, .ref q172, .ref q180, .ref q188, .ref q196, .ref q204, .ref q212, .ref q220, .ref q228, .ref q236, vZ 0, .ref q245, vZ 0, vZ 0, vZ 0, .ref q252, .ref q259, vZ 0, vZ 0, vZ 0])), (q7, .inl (K.1, 10, .inl (ar (fun _ => 0)))), (q15, .inl (K.1, 10, .inl (ar (fun _ => 0)))), (q29, .inl (K.1, 16, .inl (ar (fun _ => 0)))), (q37, .inl (K.1, 16, .inl (ar (fun _ => 0)))), (q45, .inl (K.1, 16, .inl (ar (fun _ => 0)))), (q53, .inl (K.1, 16, .inl (ar (fun _ => 0)))), (q61, .inl (K.1, 16, .inl (ar (fun _ => 0)))), (q69, .inl (K.1, 16, .inl (ar (fun _ => 0)))), (q77, .inl (K.1, 100, .inl (ar (fun _ => 0)))), (q85, .inl (K.1, 8, .inl (ar (fun _ => 0)))), (q93, .inl (K.1, 8, .inl (ar (fun _ => 0)))), (q101, .inl (K.1, 8, .inl (ar (fun _ => 0)))), (q109, .inl (K.1, 8, .inl (ar (fun _ => 0)))), (q118, .inl (K.1, 3200, .inl (ar (fun _ => 0)))), (q127, .inl (K.1, 3200, .inl (ar (fun _ => 0)))), (q136, .inl (K.2.1, 3200, .inl (ar (fun _ => 0)))), (q145, .inl (K.1, 3400, .inl (ar (fun _ => 0)))), (q154, .inl (K.1, 3400, .inl (ar (fun _ => 0)))), (q163, .inl (K.1, 3400, .inl (ar (fun _ => 0)))), (q172, .inl (K.1, 3400, .inl (ar (fun _ => 0)))), (q180, .inl (K.1, 32, .inl (ar (upz he k (-1))))), (q188, .inl (K.1, 32, .inl (ar (upz ta k (-1))))), (q196, .inl (K.2.1, 8, .inl (ar (fun _ => 0)))), (q204, .inl (K.1, 8, .inl (ar (fun _ => 0)))), (q212, .inl (K.1, 8, .inl (ar (fun _ => 0)))), (q220, .inl (K.1, 10, .inl (ar (fun _ => 0)))), (q228, .inl (K.1, 10, .inl (ar (fun _ => 0)))), (q236, .inl (K.1, 10, .inl (ar (fun _ => 0)))), (q245, .inl (K.1, 13711, .inl (ar (fun _ => 0)))), (q252, .inl (K.1, 4, .inl (ar (fun _ => 0)))), (q259, .inl (K.1, 4, .inl (ar (fun _ => 0))))]) rfl (z_lv (lv2 := [(0, .ref h), (1, vZ (k + 1))]) ⟨rfl, rfl, trivial⟩ ?_)
        refine ih_266 (k + 1) (upz he k (-1)) (upz ta k (-1)) ?_ ?_ (by omega)
        · skip
          omega
        · skip
          intro j a b
          unfold upz
          split
          · rfl
          · exact hh j a (by omega)
  refine z_ws (ws2 := [(h, .inr (8, [vZ 0, .ref q7, .ref q15, vZ 50, vZ 0, .ref q29, .ref q37, .ref q45, .ref q53, .ref q61, .ref q69, .ref q77, vZ 0, .ref q85, .ref q93, .ref q101, .ref q109, .ref q118, .ref q127, .ref q136, vZ 0, vZ 0, .ref q145, .ref q154, .ref q163, .ref q172, .ref q180, .ref q188, .ref q196, .ref q204, .ref q212, .ref q220, .ref q228, .ref q236, vZ 0, .ref q245, vZ 0, vZ 0, vZ 0, .ref q252, .ref q259, vZ 0, vZ 0, vZ 0])), (q7, .inl (K.1, 10, .inl (ar (fun _ => 0)))), (q15, .inl (K.1, 10, .inl (ar (fun _ => 0)))), (q29, .inl (K.1, 16, .inl (ar (fun _ => 0)))), (q37, .inl (K.1, 16, .inl (ar (fun _ => 0)))), (q45, .inl (K.1, 16, .inl (ar (fun _ => 0)))), (q53, .inl (K.1, 16, .inl (ar (fun _ => 0)))), (q61, .inl (K.1, 16, .inl (ar (fun _ => 0)))), (q69, .inl (K.1, 16, .inl (ar (fun _ => 0)))), (q77, .inl (K.1, 100, .inl (ar (fun _ => 0)))), (q85, .inl (K.1, 8, .inl (ar (fun _ => 0)))), (q93, .inl (K.1, 8, .inl (ar (fun _ => 0)))), (q101, .inl (K.1, 8, .inl (ar (fun _ => 0)))), (q109, .inl (K.1, 8, .inl (ar (fun _ => 0)))), (q118, .inl (K.1, 3200, .inl (ar (fun _ => 0)))), (q127, .inl (K.1, 3200, .inl (ar (fun _ => 0)))), (q136, .inl (K.2.1, 3200, .inl (ar (fun _ => 0)))), (q145, .inl (K.1, 3400, .inl (ar (fun _ => 0)))), (q154, .inl (K.1, 3400, .inl (ar (fun _ => 0)))), (q163, .inl (K.1, 3400, .inl (ar (fun _ => 0)))), (q172, .inl (K.1, 3400, .inl (ar (fun _ => 0)))), (q180, .inl (K.1, 32, .inl (ar (fun _ => 0)))), (q188, .inl (K.1, 32, .inl (ar (fun _ => 0)))), (q196, .inl (K.2.1, 8, .inl (ar (fun _ => 0)))), (q204, .inl (K.1, 8, .inl (ar (fun _ => 0)))), (q212, .inl (K.1, 8, .inl (ar (fun _ => 0)))), (q220, .inl (K.1, 10, .inl (ar (fun _ => 0)))), (q228, .inl (K.1, 10, .inl (ar (fun _ => 0)))), (q236, .inl (K.1, 10, .inl (ar (fun _ => 0)))), (q245, .inl (K.1, 13711, .inl (ar (fun _ => 0)))), (q252, .inl (K.1, 4, .inl (ar (fun _ => 0)))), (q259, .inl (K.1, 4, .inl (ar (fun _ => 0))))]) rfl (z_lv (lv2 := [(0, .ref h), (1, vZ 0)]) ⟨rfl, rfl, trivial⟩ ?_)
  refine lp_266 _ 0 (fun _ => 0) (fun _ => 0) ?_ ?_ (Nat.lt_succ_self _)
  · skip
    omega
  · skip
    intro j a b; omega

