/-! ===== Traffic: copyFrom, constructor ===== -/
set_option maxHeartbeats 4000000 in
set_option maxRecDepth 100000 in
theorem c_X6_copyFrom (zl : Launch) (D : va_G) (K : tyK) (h : Nat) (a : Nat → Nat) (T : Bd) (aq : Nat → Nat) (Nq : Nat) (Sq : Bd) (ho : Nat) (ao : Nat → Nat) (O : Bd) (aqo : Nat → Nat) (Nqo : Nat) (Sqo : Bd) (B : Nat) (Cq : Int → List Pt3) (hN : pw Nq) (hOq : LnO Nqo B Sqo Cq []) : Mz zl yX6_copyFrom cX6_copyFrom 2 (none) 4 90 4 16384 D K [.ref h, .ref ho] ((wTr K h a T) ++ (wLn K (a 3) aq Nq Sq) ++ (wTr K ho ao O) ++ (wLn K (ao 3) aqo Nqo Sqo)) (fun r_ w2_ gc gs => ∃ (aq2 : Nat → Nat), ∃ (Nq2 : Nat), ∃ (Sq2 : Bd), r_ = none ∧ w2_ = ((wTr K h a ((upf (upf (upf (upf (upf (upf T.1 5 (O.1 5)) 6 (O.1 6)) 7 (O.1 7)) 8 (O.1 8)) 9 (O.1 9)) 10 (O.1 10)), (upf (upf (upf (upf T.2 12 (O.2 12)) 13 (O.2 13)) 14 (O.2 14)) 15 (O.2 15)))) ++ (wLn K (a 3) aq2 Nq2 Sq2) ++ (wTr K ho ao O) ++ (wLn K (ao 3) aqo Nqo Sqo)) ∧ (LnO Nq2 B Sq2 Cq []) ∧ (pw Nq2 ∧ Nq ≤ Nq2) ∧ (Nq + gc ≤ Nq2) ∧ (8 * Nq + gs ≤ 8 * Nq2) ∧ (gc ≤ 4 ∧ gs ≤ 16384)) := by
  refine Mz.ofZ (by decide) rfl (Nat.le_of_ble_eq_true rfl) ?_
  intro zp ze zR zs zm zargs zbelow zmeth zc zA zQ ZC ZE hRf hRc hRs hRl
  refine z_aload_n ZC 0 dX6_copyFrom_0 rfl rfl ?_
  refine z_get ZC inUX6 0 rfl rfl 3 (by decide) uF_X6_12 rfl dX6_copyFrom_1 ?_
  refine z_aload_n ZC 1 dX6_copyFrom_4 rfl rfl ?_
  refine z_get ZC inUX6 16 rfl rfl 3 (by decide) uF_X6_12 rfl dX6_copyFrom_5 ?_
  refine z_callV ZC 1 (c_X2_copyFrom zl D K (a 3) aq Nq Sq (ao 3) aqo Nqo Sqo B Cq (hN) (hOq)) (gdV uM_X6_113 uI_X2_copyFrom uS_X2_copyFrom uN_X2 uC_X2_copyFrom) (by decide +kernel) rfl ⟨by omega, by omega⟩ ⟨by omega, by omega⟩ (Nat.le_of_ble_eq_true rfl) [8, 9, 10, 11, 12, 13, 14, 15, 24, 25, 26, 27, 28, 29, 30, 31] rfl (by decide) rfl rfl rfl rfl dX6_copyFrom_8 (fun r w2 gc_8 gs_8 hp => ?_)
  obtain ⟨a3_8, N3_8, S3_8, rfl, rfl, hO3_8, hN3_8, hgc_8, hgs_8, hg4_8⟩ := hp
  refine z_ws (ws2 := [(h, .inr (6, [.ref (a 0), .ref (a 1), .ref (a 2), .ref (a 3), .ref (a 5), .ref (a 6), .ref (a 7), .ref (a 8), .ref (a 9), .ref (a 10), .ref (a 11), vZ (T.2 12), vZ (T.2 13), vZ (T.2 14), vZ (T.2 15)])), ((a 5), .inl (K.1, 8, .inl (ar (T.1 5)))), ((a 6), .inl (K.1, 8, .inl (ar (T.1 6)))), ((a 7), .inl (K.1, 8, .inl (ar (T.1 7)))), ((a 8), .inl (K.1, 10, .inl (ar (T.1 8)))), ((a 9), .inl (K.1, 10, .inl (ar (T.1 9)))), ((a 10), .inl (K.1, 10, .inl (ar (T.1 10)))), ((a 11), .inl (K.1, 16, .inl (ar (T.1 11)))), ((a 3), .inr (2, [.ref (a3_8 0), .ref (a3_8 1), .ref (a3_8 2), .ref (a3_8 3), .ref (a3_8 4), .ref (a3_8 5), .ref (a3_8 6), vZ (S3_8.2 7), vZ (S3_8.2 8)])), ((a3_8 0), .inl (K.1, 32, .inl (ar (S3_8.1 0)))), ((a3_8 1), .inl (K.1, 32, .inl (ar (S3_8.1 1)))), ((a3_8 2), .inl (K.1, 32, .inl (ar (S3_8.1 2)))), ((a3_8 3), .inl (K.1, N3_8, .inl (ar (S3_8.1 3)))), ((a3_8 4), .inl (K.1, N3_8, .inl (ar (S3_8.1 4)))), ((a3_8 5), .inl (K.1, N3_8, .inl (ar (S3_8.1 5)))), ((a3_8 6), .inl (K.1, N3_8, .inl (ar (S3_8.1 6)))), (ho, .inr (6, [.ref (ao 0), .ref (ao 1), .ref (ao 2), .ref (ao 3), .ref (ao 5), .ref (ao 6), .ref (ao 7), .ref (ao 8), .ref (ao 9), .ref (ao 10), .ref (ao 11), vZ (O.2 12), vZ (O.2 13), vZ (O.2 14), vZ (O.2 15)])), ((ao 5), .inl (K.1, 8, .inl (ar (O.1 5)))), ((ao 6), .inl (K.1, 8, .inl (ar (O.1 6)))), ((ao 7), .inl (K.1, 8, .inl (ar (O.1 7)))), ((ao 8), .inl (K.1, 10, .inl (ar (O.1 8)))), ((ao 9), .inl (K.1, 10, .inl (ar (O.1 9)))), ((ao 10), .inl (K.1, 10, .inl (ar (O.1 10)))), ((ao 11), .inl (K.1, 16, .inl (ar (O.1 11)))), ((ao 3), .inr (2, [.ref (aqo 0), .ref (aqo 1), .ref (aqo 2), .ref (aqo 3), .ref (aqo 4), .ref (aqo 5), .ref (aqo 6), vZ (Sqo.2 7), vZ (Sqo.2 8)])), ((aqo 0), .inl (K.1, 32, .inl (ar (Sqo.1 0)))), ((aqo 1), .inl (K.1, 32, .inl (ar (Sqo.1 1)))), ((aqo 2), .inl (K.1, 32, .inl (ar (Sqo.1 2)))), ((aqo 3), .inl (K.1, Nqo, .inl (ar (Sqo.1 3)))), ((aqo 4), .inl (K.1, Nqo, .inl (ar (Sqo.1 4)))), ((aqo 5), .inl (K.1, Nqo, .inl (ar (Sqo.1 5)))), ((aqo 6), .inl (K.1, Nqo, .inl (ar (Sqo.1 6))))]) rfl ?_
  refine z_st (st2 := []) rfl ?_
  refine z_aload_n ZC 1 dX6_copyFrom_11 rfl rfl ?_
  refine z_get ZC inUX6 16 rfl rfl 4 (by decide) uF_X6_18 rfl dX6_copyFrom_12 ?_
  refine z_iconst ZC dX6_copyFrom_15 ?_
  refine z_aload_n ZC 0 dX6_copyFrom_16 rfl rfl ?_
  refine z_get ZC inUX6 0 rfl rfl 4 (by decide) uF_X6_18 rfl dX6_copyFrom_17 ?_
  refine z_iconst ZC dX6_copyFrom_20 ?_
  refine z_bipush ZC dX6_copyFrom_21 (by decide) ?_
  refine z_copy ZC uM_X6_117 uV_java_lang_System_arraycopy uZ_java_lang_System_arraycopy uN_J10 17 1 rfl rfl (by omega) (by omega) (by simp only [List.map_nil, List.map_cons, List.sum_nil, List.sum_cons, Value.category]; show _ + (5 + 2 + 11) ≤ _; omega) dX6_copyFrom_23 ?_
  refine z_aload_n ZC 1 dX6_copyFrom_26 rfl rfl ?_
  refine z_get ZC inUX6 16 rfl rfl 5 (by decide) uF_X6_22 rfl dX6_copyFrom_27 ?_
  refine z_iconst ZC dX6_copyFrom_30 ?_
  refine z_aload_n ZC 0 dX6_copyFrom_31 rfl rfl ?_
  refine z_get ZC inUX6 0 rfl rfl 5 (by decide) uF_X6_22 rfl dX6_copyFrom_32 ?_
  refine z_iconst ZC dX6_copyFrom_35 ?_
  refine z_bipush ZC dX6_copyFrom_36 (by decide) ?_
  refine z_copy ZC uM_X6_117 uV_java_lang_System_arraycopy uZ_java_lang_System_arraycopy uN_J10 18 2 rfl rfl (by omega) (by omega) (by simp only [List.map_nil, List.map_cons, List.sum_nil, List.sum_cons, Value.category]; show _ + (5 + 2 + 11) ≤ _; omega) dX6_copyFrom_38 ?_
  refine z_aload_n ZC 1 dX6_copyFrom_41 rfl rfl ?_
  refine z_get ZC inUX6 16 rfl rfl 6 (by decide) uF_X6_25 rfl dX6_copyFrom_42 ?_
  refine z_iconst ZC dX6_copyFrom_45 ?_
  refine z_aload_n ZC 0 dX6_copyFrom_46 rfl rfl ?_
  refine z_get ZC inUX6 0 rfl rfl 6 (by decide) uF_X6_25 rfl dX6_copyFrom_47 ?_
  refine z_iconst ZC dX6_copyFrom_50 ?_
  refine z_bipush ZC dX6_copyFrom_51 (by decide) ?_
  refine z_copy ZC uM_X6_117 uV_java_lang_System_arraycopy uZ_java_lang_System_arraycopy uN_J10 19 3 rfl rfl (by omega) (by omega) (by simp only [List.map_nil, List.map_cons, List.sum_nil, List.sum_cons, Value.category]; show _ + (5 + 2 + 11) ≤ _; omega) dX6_copyFrom_53 ?_
  refine z_aload_n ZC 1 dX6_copyFrom_56 rfl rfl ?_
  refine z_get ZC inUX6 16 rfl rfl 7 (by decide) uF_X6_28 rfl dX6_copyFrom_57 ?_
  refine z_iconst ZC dX6_copyFrom_60 ?_
  refine z_aload_n ZC 0 dX6_copyFrom_61 rfl rfl ?_
  refine z_get ZC inUX6 0 rfl rfl 7 (by decide) uF_X6_28 rfl dX6_copyFrom_62 ?_
  refine z_iconst ZC dX6_copyFrom_65 ?_
  refine z_bipush ZC dX6_copyFrom_66 (by decide) ?_
  refine z_copy ZC uM_X6_117 uV_java_lang_System_arraycopy uZ_java_lang_System_arraycopy uN_J10 20 4 rfl rfl (by omega) (by omega) (by simp only [List.map_nil, List.map_cons, List.sum_nil, List.sum_cons, Value.category]; show _ + (5 + 2 + 11) ≤ _; omega) dX6_copyFrom_68 ?_
  refine z_aload_n ZC 1 dX6_copyFrom_71 rfl rfl ?_
  refine z_get ZC inUX6 16 rfl rfl 8 (by decide) uF_X6_31 rfl dX6_copyFrom_72 ?_
  refine z_iconst ZC dX6_copyFrom_75 ?_
  refine z_aload_n ZC 0 dX6_copyFrom_76 rfl rfl ?_
  refine z_get ZC inUX6 0 rfl rfl 8 (by decide) uF_X6_31 rfl dX6_copyFrom_77 ?_
  refine z_iconst ZC dX6_copyFrom_80 ?_
  refine z_bipush ZC dX6_copyFrom_81 (by decide) ?_
  refine z_copy ZC uM_X6_117 uV_java_lang_System_arraycopy uZ_java_lang_System_arraycopy uN_J10 21 5 rfl rfl (by omega) (by omega) (by simp only [List.map_nil, List.map_cons, List.sum_nil, List.sum_cons, Value.category]; show _ + (5 + 2 + 11) ≤ _; omega) dX6_copyFrom_83 ?_
  refine z_aload_n ZC 1 dX6_copyFrom_86 rfl rfl ?_
  refine z_get ZC inUX6 16 rfl rfl 9 (by decide) uF_X6_34 rfl dX6_copyFrom_87 ?_
  refine z_iconst ZC dX6_copyFrom_90 ?_
  refine z_aload_n ZC 0 dX6_copyFrom_91 rfl rfl ?_
  refine z_get ZC inUX6 0 rfl rfl 9 (by decide) uF_X6_34 rfl dX6_copyFrom_92 ?_
  refine z_iconst ZC dX6_copyFrom_95 ?_
  refine z_bipush ZC dX6_copyFrom_96 (by decide) ?_
  refine z_copy ZC uM_X6_117 uV_java_lang_System_arraycopy uZ_java_lang_System_arraycopy uN_J10 22 6 rfl rfl (by omega) (by omega) (by simp only [List.map_nil, List.map_cons, List.sum_nil, List.sum_cons, Value.category]; show _ + (5 + 2 + 11) ≤ _; omega) dX6_copyFrom_98 ?_
  refine z_aload_n ZC 0 dX6_copyFrom_101 rfl rfl ?_
  refine z_aload_n ZC 1 dX6_copyFrom_102 rfl rfl ?_
  refine z_get ZC inUX6 16 rfl rfl 11 (by decide) uF_X6_56 rfl dX6_copyFrom_103 ?_
  refine z_put ZC inUX6 tyX6_ok nmX6 0 rfl rfl 11 (by decide) uF_X6_56 rfl (rfl) (rfl) (Nat.le_of_ble_eq_true rfl) dX6_copyFrom_106 ?_
  refine z_aload_n ZC 0 dX6_copyFrom_109 rfl rfl ?_
  refine z_aload_n ZC 1 dX6_copyFrom_110 rfl rfl ?_
  refine z_get ZC inUX6 16 rfl rfl 12 (by decide) uF_X6_59 rfl dX6_copyFrom_111 ?_
  refine z_put ZC inUX6 tyX6_ok nmX6 0 rfl rfl 12 (by decide) uF_X6_59 rfl (rfl) (rfl) (Nat.le_of_ble_eq_true rfl) dX6_copyFrom_114 ?_
  refine z_aload_n ZC 0 dX6_copyFrom_117 rfl rfl ?_
  refine z_aload_n ZC 1 dX6_copyFrom_118 rfl rfl ?_
  refine z_get ZC inUX6 16 rfl rfl 13 (by decide) uF_X6_40 rfl dX6_copyFrom_119 ?_
  refine z_put ZC inUX6 tyX6_ok nmX6 0 rfl rfl 13 (by decide) uF_X6_40 rfl (rfl) (rfl) (Nat.le_of_ble_eq_true rfl) dX6_copyFrom_122 ?_
  refine z_ws (ws2 := [(h, .inr (6, [.ref (a 0), .ref (a 1), .ref (a 2), .ref (a 3), .ref (a 5), .ref (a 6), .ref (a 7), .ref (a 8), .ref (a 9), .ref (a 10), .ref (a 11), vZ (O.2 12), vZ (O.2 13), vZ (O.2 14), vZ (T.2 15)])), ((a 5), .inl (K.1, 8, .inl (ar (cpz (O.1 5) (T.1 5) 8)))), ((a 6), .inl (K.1, 8, .inl (ar (cpz (O.1 6) (T.1 6) 8)))), ((a 7), .inl (K.1, 8, .inl (ar (cpz (O.1 7) (T.1 7) 8)))), ((a 8), .inl (K.1, 10, .inl (ar (cpz (O.1 8) (T.1 8) 10)))), ((a 9), .inl (K.1, 10, .inl (ar (cpz (O.1 9) (T.1 9) 10)))), ((a 10), .inl (K.1, 10, .inl (ar (cpz (O.1 10) (T.1 10) 10)))), ((a 11), .inl (K.1, 16, .inl (ar (T.1 11)))), ((a 3), .inr (2, [.ref (a3_8 0), .ref (a3_8 1), .ref (a3_8 2), .ref (a3_8 3), .ref (a3_8 4), .ref (a3_8 5), .ref (a3_8 6), vZ (S3_8.2 7), vZ (S3_8.2 8)])), ((a3_8 0), .inl (K.1, 32, .inl (ar (S3_8.1 0)))), ((a3_8 1), .inl (K.1, 32, .inl (ar (S3_8.1 1)))), ((a3_8 2), .inl (K.1, 32, .inl (ar (S3_8.1 2)))), ((a3_8 3), .inl (K.1, N3_8, .inl (ar (S3_8.1 3)))), ((a3_8 4), .inl (K.1, N3_8, .inl (ar (S3_8.1 4)))), ((a3_8 5), .inl (K.1, N3_8, .inl (ar (S3_8.1 5)))), ((a3_8 6), .inl (K.1, N3_8, .inl (ar (S3_8.1 6)))), (ho, .inr (6, [.ref (ao 0), .ref (ao 1), .ref (ao 2), .ref (ao 3), .ref (ao 5), .ref (ao 6), .ref (ao 7), .ref (ao 8), .ref (ao 9), .ref (ao 10), .ref (ao 11), vZ (O.2 12), vZ (O.2 13), vZ (O.2 14), vZ (O.2 15)])), ((ao 5), .inl (K.1, 8, .inl (ar (O.1 5)))), ((ao 6), .inl (K.1, 8, .inl (ar (O.1 6)))), ((ao 7), .inl (K.1, 8, .inl (ar (O.1 7)))), ((ao 8), .inl (K.1, 10, .inl (ar (O.1 8)))), ((ao 9), .inl (K.1, 10, .inl (ar (O.1 9)))), ((ao 10), .inl (K.1, 10, .inl (ar (O.1 10)))), ((ao 11), .inl (K.1, 16, .inl (ar (O.1 11)))), ((ao 3), .inr (2, [.ref (aqo 0), .ref (aqo 1), .ref (aqo 2), .ref (aqo 3), .ref (aqo 4), .ref (aqo 5), .ref (aqo 6), vZ (Sqo.2 7), vZ (Sqo.2 8)])), ((aqo 0), .inl (K.1, 32, .inl (ar (Sqo.1 0)))), ((aqo 1), .inl (K.1, 32, .inl (ar (Sqo.1 1)))), ((aqo 2), .inl (K.1, 32, .inl (ar (Sqo.1 2)))), ((aqo 3), .inl (K.1, Nqo, .inl (ar (Sqo.1 3)))), ((aqo 4), .inl (K.1, Nqo, .inl (ar (Sqo.1 4)))), ((aqo 5), .inl (K.1, Nqo, .inl (ar (Sqo.1 5)))), ((aqo 6), .inl (K.1, Nqo, .inl (ar (Sqo.1 6))))]) rfl ?_
  refine z_aload_n ZC 0 dX6_copyFrom_125 rfl rfl ?_
  refine z_aload_n ZC 1 dX6_copyFrom_126 rfl rfl ?_
  refine z_get ZC inUX6 16 rfl rfl 14 (by decide) uF_X6_123 rfl dX6_copyFrom_127 ?_
  refine z_put ZC inUX6 tyX6_ok nmX6 0 rfl rfl 14 (by decide) uF_X6_123 rfl (rfl) (rfl) (Nat.le_of_ble_eq_true rfl) dX6_copyFrom_130 ?_
  refine z_rep (g2 := O.1 5) 1 rfl (fun j h1 h2 => if_pos (by omega)) ?_
  refine z_rep (g2 := O.1 6) 2 rfl (fun j h1 h2 => if_pos (by omega)) ?_
  refine z_rep (g2 := O.1 7) 3 rfl (fun j h1 h2 => if_pos (by omega)) ?_
  refine z_ws (ws2 := [(h, .inr (6, [.ref (a 0), .ref (a 1), .ref (a 2), .ref (a 3), .ref (a 5), .ref (a 6), .ref (a 7), .ref (a 8), .ref (a 9), .ref (a 10), .ref (a 11), vZ (O.2 12), vZ (O.2 13), vZ (O.2 14), vZ (O.2 15)])), ((a 5), .inl (K.1, 8, .inl (ar (O.1 5)))), ((a 6), .inl (K.1, 8, .inl (ar (O.1 6)))), ((a 7), .inl (K.1, 8, .inl (ar (O.1 7)))), ((a 8), .inl (K.1, 10, .inl (ar (cpz (O.1 8) (T.1 8) 10)))), ((a 9), .inl (K.1, 10, .inl (ar (cpz (O.1 9) (T.1 9) 10)))), ((a 10), .inl (K.1, 10, .inl (ar (cpz (O.1 10) (T.1 10) 10)))), ((a 11), .inl (K.1, 16, .inl (ar (T.1 11)))), ((a 3), .inr (2, [.ref (a3_8 0), .ref (a3_8 1), .ref (a3_8 2), .ref (a3_8 3), .ref (a3_8 4), .ref (a3_8 5), .ref (a3_8 6), vZ (S3_8.2 7), vZ (S3_8.2 8)])), ((a3_8 0), .inl (K.1, 32, .inl (ar (S3_8.1 0)))), ((a3_8 1), .inl (K.1, 32, .inl (ar (S3_8.1 1)))), ((a3_8 2), .inl (K.1, 32, .inl (ar (S3_8.1 2)))), ((a3_8 3), .inl (K.1, N3_8, .inl (ar (S3_8.1 3)))), ((a3_8 4), .inl (K.1, N3_8, .inl (ar (S3_8.1 4)))), ((a3_8 5), .inl (K.1, N3_8, .inl (ar (S3_8.1 5)))), ((a3_8 6), .inl (K.1, N3_8, .inl (ar (S3_8.1 6)))), (ho, .inr (6, [.ref (ao 0), .ref (ao 1), .ref (ao 2), .ref (ao 3), .ref (ao 5), .ref (ao 6), .ref (ao 7), .ref (ao 8), .ref (ao 9), .ref (ao 10), .ref (ao 11), vZ (O.2 12), vZ (O.2 13), vZ (O.2 14), vZ (O.2 15)])), ((ao 5), .inl (K.1, 8, .inl (ar (O.1 5)))), ((ao 6), .inl (K.1, 8, .inl (ar (O.1 6)))), ((ao 7), .inl (K.1, 8, .inl (ar (O.1 7)))), ((ao 8), .inl (K.1, 10, .inl (ar (O.1 8)))), ((ao 9), .inl (K.1, 10, .inl (ar (O.1 9)))), ((ao 10), .inl (K.1, 10, .inl (ar (O.1 10)))), ((ao 11), .inl (K.1, 16, .inl (ar (O.1 11)))), ((ao 3), .inr (2, [.ref (aqo 0), .ref (aqo 1), .ref (aqo 2), .ref (aqo 3), .ref (aqo 4), .ref (aqo 5), .ref (aqo 6), vZ (Sqo.2 7), vZ (Sqo.2 8)])), ((aqo 0), .inl (K.1, 32, .inl (ar (Sqo.1 0)))), ((aqo 1), .inl (K.1, 32, .inl (ar (Sqo.1 1)))), ((aqo 2), .inl (K.1, 32, .inl (ar (Sqo.1 2)))), ((aqo 3), .inl (K.1, Nqo, .inl (ar (Sqo.1 3)))), ((aqo 4), .inl (K.1, Nqo, .inl (ar (Sqo.1 4)))), ((aqo 5), .inl (K.1, Nqo, .inl (ar (Sqo.1 5)))), ((aqo 6), .inl (K.1, Nqo, .inl (ar (Sqo.1 6))))]) rfl ?_
  refine z_rep (g2 := O.1 8) 4 rfl (fun j h1 h2 => if_pos (by omega)) ?_
  refine z_rep (g2 := O.1 9) 5 rfl (fun j h1 h2 => if_pos (by omega)) ?_
  refine z_rep (g2 := O.1 10) 6 rfl (fun j h1 h2 => if_pos (by omega)) ?_
  refine z_ws (ws2 := [(h, .inr (6, [.ref (a 0), .ref (a 1), .ref (a 2), .ref (a 3), .ref (a 5), .ref (a 6), .ref (a 7), .ref (a 8), .ref (a 9), .ref (a 10), .ref (a 11), vZ (O.2 12), vZ (O.2 13), vZ (O.2 14), vZ (O.2 15)])), ((a 5), .inl (K.1, 8, .inl (ar (O.1 5)))), ((a 6), .inl (K.1, 8, .inl (ar (O.1 6)))), ((a 7), .inl (K.1, 8, .inl (ar (O.1 7)))), ((a 8), .inl (K.1, 10, .inl (ar (O.1 8)))), ((a 9), .inl (K.1, 10, .inl (ar (O.1 9)))), ((a 10), .inl (K.1, 10, .inl (ar (O.1 10)))), ((a 11), .inl (K.1, 16, .inl (ar (T.1 11)))), ((a 3), .inr (2, [.ref (a3_8 0), .ref (a3_8 1), .ref (a3_8 2), .ref (a3_8 3), .ref (a3_8 4), .ref (a3_8 5), .ref (a3_8 6), vZ (S3_8.2 7), vZ (S3_8.2 8)])), ((a3_8 0), .inl (K.1, 32, .inl (ar (S3_8.1 0)))), ((a3_8 1), .inl (K.1, 32, .inl (ar (S3_8.1 1)))), ((a3_8 2), .inl (K.1, 32, .inl (ar (S3_8.1 2)))), ((a3_8 3), .inl (K.1, N3_8, .inl (ar (S3_8.1 3)))), ((a3_8 4), .inl (K.1, N3_8, .inl (ar (S3_8.1 4)))), ((a3_8 5), .inl (K.1, N3_8, .inl (ar (S3_8.1 5)))), ((a3_8 6), .inl (K.1, N3_8, .inl (ar (S3_8.1 6)))), (ho, .inr (6, [.ref (ao 0), .ref (ao 1), .ref (ao 2), .ref (ao 3), .ref (ao 5), .ref (ao 6), .ref (ao 7), .ref (ao 8), .ref (ao 9), .ref (ao 10), .ref (ao 11), vZ (O.2 12), vZ (O.2 13), vZ (O.2 14), vZ (O.2 15)])), ((ao 5), .inl (K.1, 8, .inl (ar (O.1 5)))), ((ao 6), .inl (K.1, 8, .inl (ar (O.1 6)))), ((ao 7), .inl (K.1, 8, .inl (ar (O.1 7)))), ((ao 8), .inl (K.1, 10, .inl (ar (O.1 8)))), ((ao 9), .inl (K.1, 10, .inl (ar (O.1 9)))), ((ao 10), .inl (K.1, 10, .inl (ar (O.1 10)))), ((ao 11), .inl (K.1, 16, .inl (ar (O.1 11)))), ((ao 3), .inr (2, [.ref (aqo 0), .ref (aqo 1), .ref (aqo 2), .ref (aqo 3), .ref (aqo 4), .ref (aqo 5), .ref (aqo 6), vZ (Sqo.2 7), vZ (Sqo.2 8)])), ((aqo 0), .inl (K.1, 32, .inl (ar (Sqo.1 0)))), ((aqo 1), .inl (K.1, 32, .inl (ar (Sqo.1 1)))), ((aqo 2), .inl (K.1, 32, .inl (ar (Sqo.1 2)))), ((aqo 3), .inl (K.1, Nqo, .inl (ar (Sqo.1 3)))), ((aqo 4), .inl (K.1, Nqo, .inl (ar (Sqo.1 4)))), ((aqo 5), .inl (K.1, Nqo, .inl (ar (Sqo.1 5)))), ((aqo 6), .inl (K.1, Nqo, .inl (ar (Sqo.1 6))))]) rfl ?_
  refine z_vret ZC ZE dX6_copyFrom_133 (by omega) (by omega) (Nat.le_of_ble_eq_true rfl) ⟨a3_8, N3_8, S3_8, rfl, rfl, ?_, ?_, ?_, ?_, ?_⟩
  · skip
    exact hO3_8
  · skip
    exact hN3_8
  · skip
    omega
  · skip
    omega
  · skip
    omega

set_option maxHeartbeats 4000000 in
set_option maxRecDepth 100000 in
theorem c_X6_init (zl : Launch) (D : va_G) (K : tyK) (h : Nat) (ht : Nat) (hn : Nat) (hc : Nat) (B : Nat)  : Mz zl yX6_init cX6_init 4 (none) 2 43 15 303 D K [.ref h, .ref ht, .ref hn, .ref hc] [(h, .inr (6, [.null, .null, .null, .null, .null, .null, .null, .null, .null, .null, .null, vZ 0, vZ 0, vZ 0, vZ 0]))] (fun r_ w2_ gc gs => ∃ (a : Nat → Nat), ∃ (T : Bd), ∃ (aq : Nat → Nat), ∃ (Sq : Bd), r_ = none ∧ w2_ = ((wTr K h a T) ++ (wLn K (a 3) aq 32 Sq)) ∧ gc = 15 ∧ gs = 303 ∧ (a 0 = ht ∧ a 1 = hn ∧ a 2 = hc) ∧ (∀ k j, T.1 k j = 0) ∧ (T.2 12 = 0 ∧ T.2 13 = 0 ∧ T.2 14 = -1 ∧ T.2 15 = 0) ∧ (LnO 32 B Sq (fun _ => []) [])) := by
  refine Mz.ofZ (by decide) rfl (Nat.le_of_ble_eq_true rfl) ?_
  intro zp ze zR zs zm zargs zbelow zmeth zc zA zQ ZC ZE hRf hRc hRs hRl
  refine z_aload_n ZC 0 dX6_init_0 rfl rfl ?_
  refine z_objInit ZC uM_X6_3 uI_java_lang_Object__init_ uC_java_lang_Object__init_ dX6_init_1 (by omega) (by simp only [List.map_nil, List.map_cons, List.sum_nil, List.sum_cons, Value.category]; omega) ?_
  refine z_aload_n ZC 0 dX6_init_4 rfl rfl ?_
  refine z_new ZC (ci := 2) (fs := [.null, .null, .null, .null, .null, .null, .null, vZ 0, vZ 0]) inUX2 tyX2_ok uL_X6_9 uB_X2 uN_X2 rfl (new_fs_X2) (by omega) (by omega) dX6_init_5 (fun q5 => ?_)
  refine z_dup ZC dX6_init_8 rfl ?_
  refine z_callI ZC 0 (c_X2_init zl D K q5 B ) uC_X2_init uN_X2 uM_X6_11 uI_X2_init rfl (by decide +kernel) rfl ⟨by omega, by omega⟩ ⟨by omega, by omega⟩ (Nat.le_of_ble_eq_true rfl) [1] rfl (by decide) rfl dX6_init_9 (fun r w2 gc_9 gs_9 hp => ?_)
  obtain ⟨a_9, S_9, rfl, rfl, rfl, rfl, hO_9⟩ := hp
  refine z_ws (ws2 := [(h, .inr (6, [.null, .null, .null, .null, .null, .null, .null, .null, .null, .null, .null, vZ 0, vZ 0, vZ 0, vZ 0])), (q5, .inr (2, [.ref (a_9 0), .ref (a_9 1), .ref (a_9 2), .ref (a_9 3), .ref (a_9 4), .ref (a_9 5), .ref (a_9 6), vZ (S_9.2 7), vZ (S_9.2 8)])), ((a_9 0), .inl (K.1, 32, .inl (ar (S_9.1 0)))), ((a_9 1), .inl (K.1, 32, .inl (ar (S_9.1 1)))), ((a_9 2), .inl (K.1, 32, .inl (ar (S_9.1 2)))), ((a_9 3), .inl (K.1, 32, .inl (ar (S_9.1 3)))), ((a_9 4), .inl (K.1, 32, .inl (ar (S_9.1 4)))), ((a_9 5), .inl (K.1, 32, .inl (ar (S_9.1 5)))), ((a_9 6), .inl (K.1, 32, .inl (ar (S_9.1 6))))]) rfl ?_
  refine z_st (st2 := [.ref q5, .ref h]) rfl ?_
  refine z_putF ZC ZE.2.2.2.2 inUX6 tyX6_ok nmX6 0 rfl rfl 3 (by decide) uF_X6_12 rfl rfl (rfl) (rfl) (Nat.le_of_ble_eq_true rfl) dX6_init_12 ?_
  refine z_aload_n ZC 0 dX6_init_15 rfl rfl ?_
  refine z_bipush ZC dX6_init_16 (by decide) ?_
  refine z_newa ZC (n := 8) uA_int dX6_init_18 (by rfl) (by omega) (by omega) (by omega) (fun q18 => ?_)
  refine z_putF ZC ZE.2.2.2.2 inUX6 tyX6_ok nmX6 0 rfl rfl 4 (by decide) uF_X6_18 rfl rfl (rfl) (rfl) (Nat.le_of_ble_eq_true rfl) dX6_init_20 ?_
  refine z_aload_n ZC 0 dX6_init_23 rfl rfl ?_
  refine z_bipush ZC dX6_init_24 (by decide) ?_
  refine z_newa ZC (n := 8) uA_int dX6_init_26 (by rfl) (by omega) (by omega) (by omega) (fun q26 => ?_)
  refine z_putF ZC ZE.2.2.2.2 inUX6 tyX6_ok nmX6 0 rfl rfl 5 (by decide) uF_X6_22 rfl rfl (rfl) (rfl) (Nat.le_of_ble_eq_true rfl) dX6_init_28 ?_
  refine z_ws (ws2 := [(h, .inr (6, [.null, .null, .null, .ref q5, .ref q18, .ref q26, .null, .null, .null, .null, .null, vZ 0, vZ 0, vZ 0, vZ 0])), (q5, .inr (2, [.ref (a_9 0), .ref (a_9 1), .ref (a_9 2), .ref (a_9 3), .ref (a_9 4), .ref (a_9 5), .ref (a_9 6), vZ (S_9.2 7), vZ (S_9.2 8)])), ((a_9 0), .inl (K.1, 32, .inl (ar (S_9.1 0)))), ((a_9 1), .inl (K.1, 32, .inl (ar (S_9.1 1)))), ((a_9 2), .inl (K.1, 32, .inl (ar (S_9.1 2)))), ((a_9 3), .inl (K.1, 32, .inl (ar (S_9.1 3)))), ((a_9 4), .inl (K.1, 32, .inl (ar (S_9.1 4)))), ((a_9 5), .inl (K.1, 32, .inl (ar (S_9.1 5)))), ((a_9 6), .inl (K.1, 32, .inl (ar (S_9.1 6)))), (q18, .inl (K.1, 8, .inl (ar (fun _ => 0)))), (q26, .inl (K.1, 8, .inl (ar (fun _ => 0))))]) rfl ?_
  refine z_aload_n ZC 0 dX6_init_31 rfl rfl ?_
  refine z_bipush ZC dX6_init_32 (by decide) ?_
  refine z_newa ZC (n := 8) uA_int dX6_init_34 (by rfl) (by omega) (by omega) (by omega) (fun q34 => ?_)
  refine z_putF ZC ZE.2.2.2.2 inUX6 tyX6_ok nmX6 0 rfl rfl 6 (by decide) uF_X6_25 rfl rfl (rfl) (rfl) (Nat.le_of_ble_eq_true rfl) dX6_init_36 ?_
  refine z_aload_n ZC 0 dX6_init_39 rfl rfl ?_
  refine z_bipush ZC dX6_init_40 (by decide) ?_
  refine z_newa ZC (n := 10) uA_int dX6_init_42 (by rfl) (by omega) (by omega) (by omega) (fun q42 => ?_)
  refine z_putF ZC ZE.2.2.2.2 inUX6 tyX6_ok nmX6 0 rfl rfl 7 (by decide) uF_X6_28 rfl rfl (rfl) (rfl) (Nat.le_of_ble_eq_true rfl) dX6_init_44 ?_
  refine z_aload_n ZC 0 dX6_init_47 rfl rfl ?_
  refine z_bipush ZC dX6_init_48 (by decide) ?_
  refine z_newa ZC (n := 10) uA_int dX6_init_50 (by rfl) (by omega) (by omega) (by omega) (fun q50 => ?_)
  refine z_putF ZC ZE.2.2.2.2 inUX6 tyX6_ok nmX6 0 rfl rfl 8 (by decide) uF_X6_31 rfl rfl (rfl) (rfl) (Nat.le_of_ble_eq_true rfl) dX6_init_52 ?_
  refine z_ws (ws2 := [(h, .inr (6, [.null, .null, .null, .ref q5, .ref q18, .ref q26, .ref q34, .ref q42, .ref q50, .null, .null, vZ 0, vZ 0, vZ 0, vZ 0])), (q5, .inr (2, [.ref (a_9 0), .ref (a_9 1), .ref (a_9 2), .ref (a_9 3), .ref (a_9 4), .ref (a_9 5), .ref (a_9 6), vZ (S_9.2 7), vZ (S_9.2 8)])), ((a_9 0), .inl (K.1, 32, .inl (ar (S_9.1 0)))), ((a_9 1), .inl (K.1, 32, .inl (ar (S_9.1 1)))), ((a_9 2), .inl (K.1, 32, .inl (ar (S_9.1 2)))), ((a_9 3), .inl (K.1, 32, .inl (ar (S_9.1 3)))), ((a_9 4), .inl (K.1, 32, .inl (ar (S_9.1 4)))), ((a_9 5), .inl (K.1, 32, .inl (ar (S_9.1 5)))), ((a_9 6), .inl (K.1, 32, .inl (ar (S_9.1 6)))), (q18, .inl (K.1, 8, .inl (ar (fun _ => 0)))), (q26, .inl (K.1, 8, .inl (ar (fun _ => 0)))), (q34, .inl (K.1, 8, .inl (ar (fun _ => 0)))), (q42, .inl (K.1, 10, .inl (ar (fun _ => 0)))), (q50, .inl (K.1, 10, .inl (ar (fun _ => 0))))]) rfl ?_
  refine z_aload_n ZC 0 dX6_init_55 rfl rfl ?_
  refine z_bipush ZC dX6_init_56 (by decide) ?_
  refine z_newa ZC (n := 10) uA_int dX6_init_58 (by rfl) (by omega) (by omega) (by omega) (fun q58 => ?_)
  refine z_putF ZC ZE.2.2.2.2 inUX6 tyX6_ok nmX6 0 rfl rfl 9 (by decide) uF_X6_34 rfl rfl (rfl) (rfl) (Nat.le_of_ble_eq_true rfl) dX6_init_60 ?_
  refine z_aload_n ZC 0 dX6_init_63 rfl rfl ?_
  refine z_bipush ZC dX6_init_64 (by decide) ?_
  refine z_newa ZC (n := 16) uA_int dX6_init_66 (by rfl) (by omega) (by omega) (by omega) (fun q66 => ?_)
  refine z_putF ZC ZE.2.2.2.2 inUX6 tyX6_ok nmX6 0 rfl rfl 10 (by decide) uF_X6_37 rfl rfl (rfl) (rfl) (Nat.le_of_ble_eq_true rfl) dX6_init_68 ?_
  refine z_aload_n ZC 0 dX6_init_71 rfl rfl ?_
  refine z_iconst ZC dX6_init_72 ?_
  refine z_put ZC inUX6 tyX6_ok nmX6 0 rfl rfl 13 (by decide) uF_X6_40 rfl (rfl) (rfl) (Nat.le_of_ble_eq_true rfl) dX6_init_73 ?_
  refine z_ws (ws2 := [(h, .inr (6, [.null, .null, .null, .ref q5, .ref q18, .ref q26, .ref q34, .ref q42, .ref q50, .ref q58, .ref q66, vZ 0, vZ 0, vZ (-1), vZ 0])), (q5, .inr (2, [.ref (a_9 0), .ref (a_9 1), .ref (a_9 2), .ref (a_9 3), .ref (a_9 4), .ref (a_9 5), .ref (a_9 6), vZ (S_9.2 7), vZ (S_9.2 8)])), ((a_9 0), .inl (K.1, 32, .inl (ar (S_9.1 0)))), ((a_9 1), .inl (K.1, 32, .inl (ar (S_9.1 1)))), ((a_9 2), .inl (K.1, 32, .inl (ar (S_9.1 2)))), ((a_9 3), .inl (K.1, 32, .inl (ar (S_9.1 3)))), ((a_9 4), .inl (K.1, 32, .inl (ar (S_9.1 4)))), ((a_9 5), .inl (K.1, 32, .inl (ar (S_9.1 5)))), ((a_9 6), .inl (K.1, 32, .inl (ar (S_9.1 6)))), (q18, .inl (K.1, 8, .inl (ar (fun _ => 0)))), (q26, .inl (K.1, 8, .inl (ar (fun _ => 0)))), (q34, .inl (K.1, 8, .inl (ar (fun _ => 0)))), (q42, .inl (K.1, 10, .inl (ar (fun _ => 0)))), (q50, .inl (K.1, 10, .inl (ar (fun _ => 0)))), (q58, .inl (K.1, 10, .inl (ar (fun _ => 0)))), (q66, .inl (K.1, 16, .inl (ar (fun _ => 0))))]) rfl ?_
  refine z_aload_n ZC 0 dX6_init_76 rfl rfl ?_
  refine z_aload_n ZC 1 dX6_init_77 rfl rfl ?_
  refine z_putF ZC ZE.2.2.2.2 inUX6 tyX6_ok nmX6 0 rfl rfl 0 (by decide) uF_X6_44 rfl rfl (rfl) (rfl) (Nat.le_of_ble_eq_true rfl) dX6_init_78 ?_
  refine z_aload_n ZC 0 dX6_init_81 rfl rfl ?_
  refine z_aload_n ZC 2 dX6_init_82 rfl rfl ?_
  refine z_putF ZC ZE.2.2.2.2 inUX6 tyX6_ok nmX6 0 rfl rfl 1 (by decide) uF_X6_48 rfl rfl (rfl) (rfl) (Nat.le_of_ble_eq_true rfl) dX6_init_83 ?_
  refine z_aload_n ZC 0 dX6_init_86 rfl rfl ?_
  refine z_aload_n ZC 3 dX6_init_87 rfl rfl ?_
  refine z_putF ZC ZE.2.2.2.2 inUX6 tyX6_ok nmX6 0 rfl rfl 2 (by decide) uF_X6_52 rfl rfl (rfl) (rfl) (Nat.le_of_ble_eq_true rfl) dX6_init_88 ?_
  refine z_ws (ws2 := [(h, .inr (6, [.ref ht, .ref hn, .ref hc, .ref q5, .ref q18, .ref q26, .ref q34, .ref q42, .ref q50, .ref q58, .ref q66, vZ 0, vZ 0, vZ (-1), vZ 0])), (q5, .inr (2, [.ref (a_9 0), .ref (a_9 1), .ref (a_9 2), .ref (a_9 3), .ref (a_9 4), .ref (a_9 5), .ref (a_9 6), vZ (S_9.2 7), vZ (S_9.2 8)])), ((a_9 0), .inl (K.1, 32, .inl (ar (S_9.1 0)))), ((a_9 1), .inl (K.1, 32, .inl (ar (S_9.1 1)))), ((a_9 2), .inl (K.1, 32, .inl (ar (S_9.1 2)))), ((a_9 3), .inl (K.1, 32, .inl (ar (S_9.1 3)))), ((a_9 4), .inl (K.1, 32, .inl (ar (S_9.1 4)))), ((a_9 5), .inl (K.1, 32, .inl (ar (S_9.1 5)))), ((a_9 6), .inl (K.1, 32, .inl (ar (S_9.1 6)))), (q18, .inl (K.1, 8, .inl (ar (fun _ => 0)))), (q26, .inl (K.1, 8, .inl (ar (fun _ => 0)))), (q34, .inl (K.1, 8, .inl (ar (fun _ => 0)))), (q42, .inl (K.1, 10, .inl (ar (fun _ => 0)))), (q50, .inl (K.1, 10, .inl (ar (fun _ => 0)))), (q58, .inl (K.1, 10, .inl (ar (fun _ => 0)))), (q66, .inl (K.1, 16, .inl (ar (fun _ => 0))))]) rfl ?_
  refine z_sub (ws2 := ((wTr K h (upf (upf (upf (upf (upf (upf (upf (upf (upf (upf (upf (fun _ => 0) 0 ht) 1 hn) 2 hc) 3 q5) 5 q18) 6 q26) 7 q34) 8 q42) 9 q50) 10 q58) 11 q66) ((fun _ _ => 0), (upf (upf (upf (upf (fun _ => 0) 12 0) 13 0) 14 (-1)) 15 0))) ++ (wLn K ((upf (upf (upf (upf (upf (upf (upf (upf (upf (upf (upf (fun _ => 0) 0 ht) 1 hn) 2 hc) 3 q5) 5 q18) 6 q26) 7 q34) 8 q42) 9 q50) 10 q58) 11 q66) 3) a_9 32 S_9))) [0, 9, 10, 11, 12, 13, 14, 15, 1, 2, 3, 4, 5, 6, 7, 8] (by decide) rfl ?_
  refine z_vret ZC ZE dX6_init_91 (by omega) (by omega) (Nat.le_of_ble_eq_true rfl) ⟨(upf (upf (upf (upf (upf (upf (upf (upf (upf (upf (upf (fun _ => 0) 0 ht) 1 hn) 2 hc) 3 q5) 5 q18) 6 q26) 7 q34) 8 q42) 9 q50) 10 q58) 11 q66), ((fun _ _ => 0), (upf (upf (upf (upf (fun _ => 0) 12 0) 13 0) 14 (-1)) 15 0)), a_9, S_9, rfl, rfl, by omega, by omega, ?_, ?_, ?_, ?_⟩
  · skip
    exact ⟨rfl, rfl, rfl⟩
  · skip
    exact fun _ _ => rfl
  · skip
    exact ⟨rfl, rfl, rfl, rfl⟩
  · skip
    exact hO_9

