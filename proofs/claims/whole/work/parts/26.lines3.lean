/-! ===== Lines: copyFrom, constructor ===== -/
theorem lo_init {B : Nat} {S : Bd} (h0 : ∀ r, S.1 0 r = -1) (h1 : ∀ r, S.1 1 r = -1) (h2 : ∀ r, S.1 2 r = 0) (h7 : S.2 7 = 0) (h8 : S.2 8 = -1) : LnO 32 B S (fun _ => []) [] := by
  refine ⟨fun _ => [], [], fun _ => 0, ⟨⟨Or.inl rfl, by omega, by omega, by omega⟩, fun r _ _ => ⟨h0 r, List.nodup_nil, h1 r, h2 r, fun x hx => absurd hx List.not_mem_nil⟩, ⟨h8, List.nodup_nil, fun x hx => absurd hx List.not_mem_nil⟩, ⟨List.nodup_nil, fun x hx => absurd hx List.not_mem_nil⟩, ?_⟩, fun r _ _ => rfl⟩
  rw [h7]; rfl

set_option maxHeartbeats 4000000 in
set_option maxRecDepth 100000 in
theorem c_X2_copyFrom (zl : Launch) (D : va_G) (K : tyK) (h : Nat) (a : Nat → Nat) (N : Nat) (S : Bd) (h2 : Nat) (a2 : Nat → Nat) (N2 : Nat) (S2 : Bd) (B : Nat) (C : Int → List Pt3) (hN : pw N) (hO : LnO N2 B S2 C []) : Mz zl yX2_copyFrom cX2_copyFrom 2 (none) 3 69 4 16384 D K [.ref h, .ref h2] ((wLn K h a N S) ++ (wLn K h2 a2 N2 S2)) (fun r_ w2_ gc gs => ∃ (a3 : Nat → Nat), ∃ (N3 : Nat), ∃ (S3 : Bd), r_ = none ∧ w2_ = ((wLn K h a3 N3 S3) ++ (wLn K h2 a2 N2 S2)) ∧ (LnO N3 B S3 C []) ∧ (pw N3 ∧ N ≤ N3) ∧ (N + gc ≤ N3) ∧ (8 * N + gs ≤ 8 * N3) ∧ (gc ≤ 4 ∧ gs ≤ 16384)) := by
  refine Mz.ofZ (by decide) rfl (Nat.le_of_ble_eq_true rfl) ?_
  intro zp ze zR zs zm zargs zbelow zmeth zc zA zQ ZC ZE hRf hRc hRs hRl
  have hG := lo_rng hO
  have hpw2 := lo_pw hO
  have hNr := pw_rng hN
  have jn_21 : ∀ (a4 : Nat → Nat) (N4 : Nat) (S4 : Bd) (gv : Nat) (gw : Nat), (pw N4 ∧ N ≤ N4 ∧ S2.2 7 ≤ N4) → (N + gv ≤ N4 ∧ 8 * N + gw ≤ 8 * N4 ∧ gv ≤ 4 ∧ gw ≤ 16384) → Zw zp zl ze zR zs zm zargs zbelow zmeth zc D zA 2 zQ gv gw ([(h, .inr (2, [.ref (a4 0), .ref (a4 1), .ref (a4 2), .ref (a4 3), .ref (a4 4), .ref (a4 5), .ref (a4 6), vZ (S4.2 7), vZ (S4.2 8)])), ((a4 0), .inl (K.1, 32, .inl (ar (S4.1 0)))), ((a4 1), .inl (K.1, 32, .inl (ar (S4.1 1)))), ((a4 2), .inl (K.1, 32, .inl (ar (S4.1 2)))), ((a4 3), .inl (K.1, N4, .inl (ar (S4.1 3)))), ((a4 4), .inl (K.1, N4, .inl (ar (S4.1 4)))), ((a4 5), .inl (K.1, N4, .inl (ar (S4.1 5)))), ((a4 6), .inl (K.1, N4, .inl (ar (S4.1 6)))), (h2, .inr (2, [.ref (a2 0), .ref (a2 1), .ref (a2 2), .ref (a2 3), .ref (a2 4), .ref (a2 5), .ref (a2 6), vZ (S2.2 7), vZ (S2.2 8)])), ((a2 0), .inl (K.1, 32, .inl (ar (S2.1 0)))), ((a2 1), .inl (K.1, 32, .inl (ar (S2.1 1)))), ((a2 2), .inl (K.1, 32, .inl (ar (S2.1 2)))), ((a2 3), .inl (K.1, N2, .inl (ar (S2.1 3)))), ((a2 4), .inl (K.1, N2, .inl (ar (S2.1 4)))), ((a2 5), .inl (K.1, N2, .inl (ar (S2.1 5)))), ((a2 6), .inl (K.1, N2, .inl (ar (S2.1 6))))]) 21 [(0, .ref h), (1, .ref h2)] [] := by
    intro a4 N4 S4 gv gw i1 i2
    refine z_aload_n ZC 1 dX2_copyFrom_21 rfl rfl ?_
    refine z_get ZC inUX2 8 rfl rfl 0 (by decide) uF_X2_9 rfl dX2_copyFrom_22 ?_
    refine z_iconst ZC dX2_copyFrom_25 ?_
    refine z_aload_n ZC 0 dX2_copyFrom_26 rfl rfl ?_
    refine z_get ZC inUX2 0 rfl rfl 0 (by decide) uF_X2_9 rfl dX2_copyFrom_27 ?_
    refine z_iconst ZC dX2_copyFrom_30 ?_
    refine z_aload_n ZC 0 dX2_copyFrom_31 rfl rfl ?_
    refine z_get ZC inUX2 0 rfl rfl 0 (by decide) uF_X2_9 rfl dX2_copyFrom_32 ?_
    refine z_alen ZC 1 rfl dX2_copyFrom_35 ?_
    refine z_copy ZC uM_X2_60 uV_java_lang_System_arraycopy uZ_java_lang_System_arraycopy uN_J10 9 1 rfl rfl (by omega) (by omega) (by simp only [List.map_nil, List.map_cons, List.sum_nil, List.sum_cons, Value.category]; show _ + (5 + 2 + 11) ≤ _; omega) dX2_copyFrom_36 ?_
    refine z_aload_n ZC 1 dX2_copyFrom_39 rfl rfl ?_
    refine z_get ZC inUX2 8 rfl rfl 1 (by decide) uF_X2_15 rfl dX2_copyFrom_40 ?_
    refine z_iconst ZC dX2_copyFrom_43 ?_
    refine z_aload_n ZC 0 dX2_copyFrom_44 rfl rfl ?_
    refine z_get ZC inUX2 0 rfl rfl 1 (by decide) uF_X2_15 rfl dX2_copyFrom_45 ?_
    refine z_iconst ZC dX2_copyFrom_48 ?_
    refine z_aload_n ZC 0 dX2_copyFrom_49 rfl rfl ?_
    refine z_get ZC inUX2 0 rfl rfl 1 (by decide) uF_X2_15 rfl dX2_copyFrom_50 ?_
    refine z_alen ZC 2 rfl dX2_copyFrom_53 ?_
    refine z_copy ZC uM_X2_60 uV_java_lang_System_arraycopy uZ_java_lang_System_arraycopy uN_J10 10 2 rfl rfl (by omega) (by omega) (by simp only [List.map_nil, List.map_cons, List.sum_nil, List.sum_cons, Value.category]; show _ + (5 + 2 + 11) ≤ _; omega) dX2_copyFrom_54 ?_
    refine z_aload_n ZC 1 dX2_copyFrom_57 rfl rfl ?_
    refine z_get ZC inUX2 8 rfl rfl 2 (by decide) uF_X2_18 rfl dX2_copyFrom_58 ?_
    refine z_iconst ZC dX2_copyFrom_61 ?_
    refine z_aload_n ZC 0 dX2_copyFrom_62 rfl rfl ?_
    refine z_get ZC inUX2 0 rfl rfl 2 (by decide) uF_X2_18 rfl dX2_copyFrom_63 ?_
    refine z_iconst ZC dX2_copyFrom_66 ?_
    refine z_aload_n ZC 0 dX2_copyFrom_67 rfl rfl ?_
    refine z_get ZC inUX2 0 rfl rfl 2 (by decide) uF_X2_18 rfl dX2_copyFrom_68 ?_
    refine z_alen ZC 3 rfl dX2_copyFrom_71 ?_
    refine z_copy ZC uM_X2_60 uV_java_lang_System_arraycopy uZ_java_lang_System_arraycopy uN_J10 11 3 rfl rfl (by omega) (by omega) (by simp only [List.map_nil, List.map_cons, List.sum_nil, List.sum_cons, Value.category]; show _ + (5 + 2 + 11) ≤ _; omega) dX2_copyFrom_72 ?_
    refine z_aload_n ZC 1 dX2_copyFrom_75 rfl rfl ?_
    refine z_get ZC inUX2 8 rfl rfl 3 (by decide) uF_X2_21 rfl dX2_copyFrom_76 ?_
    refine z_iconst ZC dX2_copyFrom_79 ?_
    refine z_aload_n ZC 0 dX2_copyFrom_80 rfl rfl ?_
    refine z_get ZC inUX2 0 rfl rfl 3 (by decide) uF_X2_21 rfl dX2_copyFrom_81 ?_
    refine z_iconst ZC dX2_copyFrom_84 ?_
    refine z_aload_n ZC 1 dX2_copyFrom_85 rfl rfl ?_
    refine z_get ZC inUX2 8 rfl rfl 7 (by decide) uF_X2_47 rfl dX2_copyFrom_86 ?_
    refine z_copy ZC uM_X2_60 uV_java_lang_System_arraycopy uZ_java_lang_System_arraycopy uN_J10 12 4 rfl rfl (by omega) (by omega) (by simp only [List.map_nil, List.map_cons, List.sum_nil, List.sum_cons, Value.category]; show _ + (5 + 2 + 11) ≤ _; omega) dX2_copyFrom_89 ?_
    refine z_aload_n ZC 1 dX2_copyFrom_92 rfl rfl ?_
    refine z_get ZC inUX2 8 rfl rfl 4 (by decide) uF_X2_24 rfl dX2_copyFrom_93 ?_
    refine z_iconst ZC dX2_copyFrom_96 ?_
    refine z_aload_n ZC 0 dX2_copyFrom_97 rfl rfl ?_
    refine z_get ZC inUX2 0 rfl rfl 4 (by decide) uF_X2_24 rfl dX2_copyFrom_98 ?_
    refine z_iconst ZC dX2_copyFrom_101 ?_
    refine z_aload_n ZC 1 dX2_copyFrom_102 rfl rfl ?_
    refine z_get ZC inUX2 8 rfl rfl 7 (by decide) uF_X2_47 rfl dX2_copyFrom_103 ?_
    refine z_copy ZC uM_X2_60 uV_java_lang_System_arraycopy uZ_java_lang_System_arraycopy uN_J10 13 5 rfl rfl (by omega) (by omega) (by simp only [List.map_nil, List.map_cons, List.sum_nil, List.sum_cons, Value.category]; show _ + (5 + 2 + 11) ≤ _; omega) dX2_copyFrom_106 ?_
    refine z_aload_n ZC 1 dX2_copyFrom_109 rfl rfl ?_
    refine z_get ZC inUX2 8 rfl rfl 5 (by decide) uF_X2_27 rfl dX2_copyFrom_110 ?_
    refine z_iconst ZC dX2_copyFrom_113 ?_
    refine z_aload_n ZC 0 dX2_copyFrom_114 rfl rfl ?_
    refine z_get ZC inUX2 0 rfl rfl 5 (by decide) uF_X2_27 rfl dX2_copyFrom_115 ?_
    refine z_iconst ZC dX2_copyFrom_118 ?_
    refine z_aload_n ZC 1 dX2_copyFrom_119 rfl rfl ?_
    refine z_get ZC inUX2 8 rfl rfl 7 (by decide) uF_X2_47 rfl dX2_copyFrom_120 ?_
    refine z_copy ZC uM_X2_60 uV_java_lang_System_arraycopy uZ_java_lang_System_arraycopy uN_J10 14 6 rfl rfl (by omega) (by omega) (by simp only [List.map_nil, List.map_cons, List.sum_nil, List.sum_cons, Value.category]; show _ + (5 + 2 + 11) ≤ _; omega) dX2_copyFrom_123 ?_
    refine z_aload_n ZC 1 dX2_copyFrom_126 rfl rfl ?_
    refine z_get ZC inUX2 8 rfl rfl 6 (by decide) uF_X2_30 rfl dX2_copyFrom_127 ?_
    refine z_iconst ZC dX2_copyFrom_130 ?_
    refine z_aload_n ZC 0 dX2_copyFrom_131 rfl rfl ?_
    refine z_get ZC inUX2 0 rfl rfl 6 (by decide) uF_X2_30 rfl dX2_copyFrom_132 ?_
    refine z_iconst ZC dX2_copyFrom_135 ?_
    refine z_aload_n ZC 1 dX2_copyFrom_136 rfl rfl ?_
    refine z_get ZC inUX2 8 rfl rfl 7 (by decide) uF_X2_47 rfl dX2_copyFrom_137 ?_
    refine z_copy ZC uM_X2_60 uV_java_lang_System_arraycopy uZ_java_lang_System_arraycopy uN_J10 15 7 rfl rfl (by omega) (by omega) (by simp only [List.map_nil, List.map_cons, List.sum_nil, List.sum_cons, Value.category]; show _ + (5 + 2 + 11) ≤ _; omega) dX2_copyFrom_140 ?_
    refine z_aload_n ZC 0 dX2_copyFrom_143 rfl rfl ?_
    refine z_aload_n ZC 1 dX2_copyFrom_144 rfl rfl ?_
    refine z_get ZC inUX2 8 rfl rfl 7 (by decide) uF_X2_47 rfl dX2_copyFrom_145 ?_
    refine z_put ZC inUX2 tyX2_ok nmX2 0 rfl rfl 7 (by decide) uF_X2_47 rfl (rfl) (rfl) (Nat.le_of_ble_eq_true rfl) dX2_copyFrom_148 ?_
    refine z_aload_n ZC 0 dX2_copyFrom_151 rfl rfl ?_
    refine z_aload_n ZC 1 dX2_copyFrom_152 rfl rfl ?_
    refine z_get ZC inUX2 8 rfl rfl 8 (by decide) uF_X2_33 rfl dX2_copyFrom_153 ?_
    refine z_put ZC inUX2 tyX2_ok nmX2 0 rfl rfl 8 (by decide) uF_X2_33 rfl (rfl) (rfl) (Nat.le_of_ble_eq_true rfl) dX2_copyFrom_156 ?_
    refine z_vret ZC ZE dX2_copyFrom_159 (by omega) (by omega) (Nat.le_of_ble_eq_true rfl) ⟨a4, N4, ((upf (upf (upf (upf (upf (upf (upf S4.1 0 (cpz (S2.1 0) (S4.1 0) 32)) 1 (cpz (S2.1 1) (S4.1 1) 32)) 2 (cpz (S2.1 2) (S4.1 2) 32)) 3 (cpz (S2.1 3) (S4.1 3) (S2.2 7))) 4 (cpz (S2.1 4) (S4.1 4) (S2.2 7))) 5 (cpz (S2.1 5) (S4.1 5) (S2.2 7))) 6 (cpz (S2.1 6) (S4.1 6) (S2.2 7))), (upf (upf S4.2 7 (S2.2 7)) 8 (S2.2 8))), rfl, rfl, ?_, ?_, ?_, ?_, ?_⟩
    · skip
      exact lo_agree hO i1.1 i1.2.2 rfl rfl (fun r h1 h3 => ⟨if_pos (by omega), if_pos (by omega), if_pos (by omega)⟩) (fun x h1 h3 => ⟨if_pos (by omega), if_pos (by omega), if_pos (by omega), if_pos (by omega)⟩)
    · skip
      exact ⟨i1.1, i1.2.1⟩
    · skip
      omega
    · skip
      omega
    · skip
      omega
  refine z_aload_n ZC 0 dX2_copyFrom_0 rfl rfl ?_
  refine z_get ZC inUX2 0 rfl rfl 3 (by decide) uF_X2_21 rfl dX2_copyFrom_1 ?_
  refine z_alen ZC 4 rfl dX2_copyFrom_4 ?_
  refine z_aload_n ZC 1 dX2_copyFrom_5 rfl rfl ?_
  refine z_get ZC inUX2 8 rfl rfl 7 (by decide) uF_X2_47 rfl dX2_copyFrom_6 ?_
  refine z_icmp_ge ZC 21 dX2_copyFrom_9 (by decide) (by omega) (by omega) (fun c_9 => ?_) (fun c_9 => ?_)
  · skip
    refine z_ws (ws2 := [(h, .inr (2, [.ref (a 0), .ref (a 1), .ref (a 2), .ref (a 3), .ref (a 4), .ref (a 5), .ref (a 6), vZ (S.2 7), vZ (S.2 8)])), ((a 0), .inl (K.1, 32, .inl (ar (S.1 0)))), ((a 1), .inl (K.1, 32, .inl (ar (S.1 1)))), ((a 2), .inl (K.1, 32, .inl (ar (S.1 2)))), ((a 3), .inl (K.1, N, .inl (ar (S.1 3)))), ((a 4), .inl (K.1, N, .inl (ar (S.1 4)))), ((a 5), .inl (K.1, N, .inl (ar (S.1 5)))), ((a 6), .inl (K.1, N, .inl (ar (S.1 6)))), (h2, .inr (2, [.ref (a2 0), .ref (a2 1), .ref (a2 2), .ref (a2 3), .ref (a2 4), .ref (a2 5), .ref (a2 6), vZ (S2.2 7), vZ (S2.2 8)])), ((a2 0), .inl (K.1, 32, .inl (ar (S2.1 0)))), ((a2 1), .inl (K.1, 32, .inl (ar (S2.1 1)))), ((a2 2), .inl (K.1, 32, .inl (ar (S2.1 2)))), ((a2 3), .inl (K.1, N2, .inl (ar (S2.1 3)))), ((a2 4), .inl (K.1, N2, .inl (ar (S2.1 4)))), ((a2 5), .inl (K.1, N2, .inl (ar (S2.1 5)))), ((a2 6), .inl (K.1, N2, .inl (ar (S2.1 6))))]) rfl (z_lv (lv2 := [(0, .ref h), (1, .ref h2)]) ⟨rfl, rfl, trivial⟩ ?_)
    refine jn_21 a N S 0 0 ?_ ?_
    · skip
      exact ⟨hN, Nat.le_refl _, c_9⟩
    · skip
      omega
  · skip
    refine z_aload_n ZC 0 dX2_copyFrom_12 rfl rfl ?_
    refine z_aload_n ZC 1 dX2_copyFrom_13 rfl rfl ?_
    refine z_get ZC inUX2 8 rfl rfl 3 (by decide) uF_X2_21 rfl dX2_copyFrom_14 ?_
    refine z_alen ZC 12 rfl dX2_copyFrom_17 ?_
    refine z_callV ZC 1 (c_X2_makeRoom zl D K h a N S N2 (by omega)) (gdV uM_X2_56 uI_X2_makeRoom uS_X2_makeRoom uN_X2 uC_X2_makeRoom) (by decide +kernel) rfl ⟨by omega, by omega⟩ ⟨by omega, by omega⟩ (Nat.le_of_ble_eq_true rfl) [0, 1, 2, 3, 4, 5, 6, 7] rfl (by decide) rfl rfl rfl rfl dX2_copyFrom_18 (fun r w2 gc_18 gs_18 hp => ?_)
    obtain ⟨a2_18, rfl, rfl, hgc_18, hgs_18⟩ := hp
    refine z_ws (ws2 := [(h, .inr (2, [.ref (a2_18 0), .ref (a2_18 1), .ref (a2_18 2), .ref (a2_18 3), .ref (a2_18 4), .ref (a2_18 5), .ref (a2_18 6), vZ (S.2 7), vZ (S.2 8)])), ((a2_18 0), .inl (K.1, 32, .inl (ar (S.1 0)))), ((a2_18 1), .inl (K.1, 32, .inl (ar (S.1 1)))), ((a2_18 2), .inl (K.1, 32, .inl (ar (S.1 2)))), ((a2_18 3), .inl (K.1, N2, .inl (ar (cpz (S.1 3) (fun _ => 0) N)))), ((a2_18 4), .inl (K.1, N2, .inl (ar (cpz (S.1 4) (fun _ => 0) N)))), ((a2_18 5), .inl (K.1, N2, .inl (ar (cpz (S.1 5) (fun _ => 0) N)))), ((a2_18 6), .inl (K.1, N2, .inl (ar (cpz (S.1 6) (fun _ => 0) N)))), (h2, .inr (2, [.ref (a2 0), .ref (a2 1), .ref (a2 2), .ref (a2 3), .ref (a2 4), .ref (a2 5), .ref (a2 6), vZ (S2.2 7), vZ (S2.2 8)])), ((a2 0), .inl (K.1, 32, .inl (ar (S2.1 0)))), ((a2 1), .inl (K.1, 32, .inl (ar (S2.1 1)))), ((a2 2), .inl (K.1, 32, .inl (ar (S2.1 2)))), ((a2 3), .inl (K.1, N2, .inl (ar (S2.1 3)))), ((a2 4), .inl (K.1, N2, .inl (ar (S2.1 4)))), ((a2 5), .inl (K.1, N2, .inl (ar (S2.1 5)))), ((a2 6), .inl (K.1, N2, .inl (ar (S2.1 6))))]) rfl ?_
    refine z_st (st2 := []) rfl ?_
    refine z_ws (ws2 := [(h, .inr (2, [.ref (a2_18 0), .ref (a2_18 1), .ref (a2_18 2), .ref (a2_18 3), .ref (a2_18 4), .ref (a2_18 5), .ref (a2_18 6), vZ (S.2 7), vZ (S.2 8)])), ((a2_18 0), .inl (K.1, 32, .inl (ar (S.1 0)))), ((a2_18 1), .inl (K.1, 32, .inl (ar (S.1 1)))), ((a2_18 2), .inl (K.1, 32, .inl (ar (S.1 2)))), ((a2_18 3), .inl (K.1, N2, .inl (ar (cpz (S.1 3) (fun _ => 0) N)))), ((a2_18 4), .inl (K.1, N2, .inl (ar (cpz (S.1 4) (fun _ => 0) N)))), ((a2_18 5), .inl (K.1, N2, .inl (ar (cpz (S.1 5) (fun _ => 0) N)))), ((a2_18 6), .inl (K.1, N2, .inl (ar (cpz (S.1 6) (fun _ => 0) N)))), (h2, .inr (2, [.ref (a2 0), .ref (a2 1), .ref (a2 2), .ref (a2 3), .ref (a2 4), .ref (a2 5), .ref (a2 6), vZ (S2.2 7), vZ (S2.2 8)])), ((a2 0), .inl (K.1, 32, .inl (ar (S2.1 0)))), ((a2 1), .inl (K.1, 32, .inl (ar (S2.1 1)))), ((a2 2), .inl (K.1, 32, .inl (ar (S2.1 2)))), ((a2 3), .inl (K.1, N2, .inl (ar (S2.1 3)))), ((a2 4), .inl (K.1, N2, .inl (ar (S2.1 4)))), ((a2 5), .inl (K.1, N2, .inl (ar (S2.1 5)))), ((a2 6), .inl (K.1, N2, .inl (ar (S2.1 6))))]) rfl (z_lv (lv2 := [(0, .ref h), (1, .ref h2)]) ⟨rfl, rfl, trivial⟩ ?_)
    refine jn_21 a2_18 N2 ((upf (upf (upf (upf S.1 3 (cpz (S.1 3) (fun _ => 0) N)) 4 (cpz (S.1 4) (fun _ => 0) N)) 5 (cpz (S.1 5) (fun _ => 0) N)) 6 (cpz (S.1 6) (fun _ => 0) N)), S.2) (0 + gc_18) (0 + gs_18) ?_ ?_
    · skip
      exact ⟨hpw2, by omega, by omega⟩
    · skip
      unfold pw at hpw2 hN
      omega

set_option maxHeartbeats 4000000 in
set_option maxRecDepth 100000 in
theorem c_X2_init (zl : Launch) (D : va_G) (K : tyK) (h : Nat) (B : Nat)  : Mz zl yX2_init cX2_init 1 (none) 1 23 7 224 D K [.ref h] [(h, .inr (2, [.null, .null, .null, .null, .null, .null, .null, vZ 0, vZ 0]))] (fun r_ w2_ gc gs => ∃ (a : Nat → Nat), ∃ (S : Bd), r_ = none ∧ w2_ = (wLn K h a 32 S) ∧ gc = 7 ∧ gs = 224 ∧ (LnO 32 B S (fun _ => []) [])) := by
  refine Mz.ofZ (by decide) rfl (Nat.le_of_ble_eq_true rfl) ?_
  intro zp ze zR zs zm zargs zbelow zmeth zc zA zQ ZC ZE hRf hRc hRs hRl
  refine z_aload_n ZC 0 dX2_init_0 rfl rfl ?_
  refine z_objInit ZC uM_X2_3 uI_java_lang_Object__init_ uC_java_lang_Object__init_ dX2_init_1 (by omega) (by simp only [List.map_nil, List.map_cons, List.sum_nil, List.sum_cons, Value.category]; omega) ?_
  refine z_aload_n ZC 0 dX2_init_4 rfl rfl ?_
  refine z_bipush ZC dX2_init_5 (by decide) ?_
  refine z_newa ZC (n := 32) uA_int dX2_init_7 (by rfl) (by omega) (by omega) (by omega) (fun q7 => ?_)
  refine z_putF ZC ZE.2.2.2.2 inUX2 tyX2_ok nmX2 0 rfl rfl 0 (by decide) uF_X2_9 rfl rfl (rfl) (rfl) (Nat.le_of_ble_eq_true rfl) dX2_init_9 ?_
  refine z_aload_n ZC 0 dX2_init_12 rfl rfl ?_
  refine z_bipush ZC dX2_init_13 (by decide) ?_
  refine z_newa ZC (n := 32) uA_int dX2_init_15 (by rfl) (by omega) (by omega) (by omega) (fun q15 => ?_)
  refine z_putF ZC ZE.2.2.2.2 inUX2 tyX2_ok nmX2 0 rfl rfl 1 (by decide) uF_X2_15 rfl rfl (rfl) (rfl) (Nat.le_of_ble_eq_true rfl) dX2_init_17 ?_
  refine z_aload_n ZC 0 dX2_init_20 rfl rfl ?_
  refine z_bipush ZC dX2_init_21 (by decide) ?_
  refine z_newa ZC (n := 32) uA_int dX2_init_23 (by rfl) (by omega) (by omega) (by omega) (fun q23 => ?_)
  refine z_putF ZC ZE.2.2.2.2 inUX2 tyX2_ok nmX2 0 rfl rfl 2 (by decide) uF_X2_18 rfl rfl (rfl) (rfl) (Nat.le_of_ble_eq_true rfl) dX2_init_25 ?_
  refine z_ws (ws2 := [(h, .inr (2, [.ref q7, .ref q15, .ref q23, .null, .null, .null, .null, vZ 0, vZ 0])), (q7, .inl (K.1, 32, .inl (ar (fun _ => 0)))), (q15, .inl (K.1, 32, .inl (ar (fun _ => 0)))), (q23, .inl (K.1, 32, .inl (ar (fun _ => 0))))]) rfl ?_
  refine z_aload_n ZC 0 dX2_init_28 rfl rfl ?_
  refine z_bipush ZC dX2_init_29 (by decide) ?_
  refine z_newa ZC (n := 32) uA_int dX2_init_31 (by rfl) (by omega) (by omega) (by omega) (fun q31 => ?_)
  refine z_put ZC inUX2 tyX2_ok nmX2 0 rfl rfl 3 (by decide) uF_X2_21 rfl (rfl) (rfl) (Nat.le_of_ble_eq_true rfl) dX2_init_33 ?_
  refine z_aload_n ZC 0 dX2_init_36 rfl rfl ?_
  refine z_bipush ZC dX2_init_37 (by decide) ?_
  refine z_newa ZC (n := 32) uA_int dX2_init_39 (by rfl) (by omega) (by omega) (by omega) (fun q39 => ?_)
  refine z_put ZC inUX2 tyX2_ok nmX2 0 rfl rfl 4 (by decide) uF_X2_24 rfl (rfl) (rfl) (Nat.le_of_ble_eq_true rfl) dX2_init_41 ?_
  refine z_aload_n ZC 0 dX2_init_44 rfl rfl ?_
  refine z_bipush ZC dX2_init_45 (by decide) ?_
  refine z_newa ZC (n := 32) uA_int dX2_init_47 (by rfl) (by omega) (by omega) (by omega) (fun q47 => ?_)
  refine z_put ZC inUX2 tyX2_ok nmX2 0 rfl rfl 5 (by decide) uF_X2_27 rfl (rfl) (rfl) (Nat.le_of_ble_eq_true rfl) dX2_init_49 ?_
  refine z_ws (ws2 := [(h, .inr (2, [.ref q7, .ref q15, .ref q23, .ref q31, .ref q39, .ref q47, .null, vZ 0, vZ 0])), (q7, .inl (K.1, 32, .inl (ar (fun _ => 0)))), (q15, .inl (K.1, 32, .inl (ar (fun _ => 0)))), (q23, .inl (K.1, 32, .inl (ar (fun _ => 0)))), (q31, .inl (K.1, 32, .inl (ar (fun _ => 0)))), (q39, .inl (K.1, 32, .inl (ar (fun _ => 0)))), (q47, .inl (K.1, 32, .inl (ar (fun _ => 0))))]) rfl ?_
  refine z_aload_n ZC 0 dX2_init_52 rfl rfl ?_
  refine z_bipush ZC dX2_init_53 (by decide) ?_
  refine z_newa ZC (n := 32) uA_int dX2_init_55 (by rfl) (by omega) (by omega) (by omega) (fun q55 => ?_)
  refine z_put ZC inUX2 tyX2_ok nmX2 0 rfl rfl 6 (by decide) uF_X2_30 rfl (rfl) (rfl) (Nat.le_of_ble_eq_true rfl) dX2_init_57 ?_
  refine z_aload_n ZC 0 dX2_init_60 rfl rfl ?_
  refine z_iconst ZC dX2_init_61 ?_
  refine z_put ZC inUX2 tyX2_ok nmX2 0 rfl rfl 8 (by decide) uF_X2_33 rfl (rfl) (rfl) (Nat.le_of_ble_eq_true rfl) dX2_init_62 ?_
  refine z_aload_n ZC 0 dX2_init_65 rfl rfl ?_
  refine z_get ZC inUX2 0 rfl rfl 0 (by decide) uF_X2_9 rfl dX2_init_66 ?_
  refine z_iconst ZC dX2_init_69 ?_
  refine z_ws (ws2 := [(h, .inr (2, [.ref q7, .ref q15, .ref q23, .ref q31, .ref q39, .ref q47, .ref q55, vZ 0, vZ (-1)])), (q7, .inl (K.1, 32, .inl (ar (fun _ => 0)))), (q15, .inl (K.1, 32, .inl (ar (fun _ => 0)))), (q23, .inl (K.1, 32, .inl (ar (fun _ => 0)))), (q31, .inl (K.1, 32, .inl (ar (fun _ => 0)))), (q39, .inl (K.1, 32, .inl (ar (fun _ => 0)))), (q47, .inl (K.1, 32, .inl (ar (fun _ => 0)))), (q55, .inl (K.1, 32, .inl (ar (fun _ => 0))))]) rfl ?_
  refine z_callS ZC 2 (c_J7_fill_53178 zl D K q7 32 (fun _ => 0) (-1) (by omega)) (gdS uM_X2_37 uZ_J7_fill_53178 uN_J7 uC_J7_fill_53178) (by decide +kernel) rfl ⟨by omega, by omega⟩ ⟨by omega, by omega⟩ (Nat.le_of_ble_eq_true rfl) [1] rfl (by decide) rfl dX2_init_70 (fun r w2 gc_70 gs_70 hp => ?_)
  obtain ⟨rfl, rfl, rfl, rfl⟩ := hp
  refine z_ws (ws2 := [(h, .inr (2, [.ref q7, .ref q15, .ref q23, .ref q31, .ref q39, .ref q47, .ref q55, vZ 0, vZ (-1)])), (q7, .inl (K.1, 32, .inl (ar (fun _ => (-1))))), (q15, .inl (K.1, 32, .inl (ar (fun _ => 0)))), (q23, .inl (K.1, 32, .inl (ar (fun _ => 0)))), (q31, .inl (K.1, 32, .inl (ar (fun _ => 0)))), (q39, .inl (K.1, 32, .inl (ar (fun _ => 0)))), (q47, .inl (K.1, 32, .inl (ar (fun _ => 0)))), (q55, .inl (K.1, 32, .inl (ar (fun _ => 0))))]) rfl ?_
  refine z_st (st2 := []) rfl ?_
  refine z_aload_n ZC 0 dX2_init_73 rfl rfl ?_
  refine z_get ZC inUX2 0 rfl rfl 1 (by decide) uF_X2_15 rfl dX2_init_74 ?_
  refine z_iconst ZC dX2_init_77 ?_
  refine z_callS ZC 2 (c_J7_fill_53178 zl D K q15 32 (fun _ => 0) (-1) (by omega)) (gdS uM_X2_37 uZ_J7_fill_53178 uN_J7 uC_J7_fill_53178) (by decide +kernel) rfl ⟨by omega, by omega⟩ ⟨by omega, by omega⟩ (Nat.le_of_ble_eq_true rfl) [2] rfl (by decide) rfl dX2_init_78 (fun r w2 gc_78 gs_78 hp => ?_)
  obtain ⟨rfl, rfl, rfl, rfl⟩ := hp
  refine z_ws (ws2 := [(h, .inr (2, [.ref q7, .ref q15, .ref q23, .ref q31, .ref q39, .ref q47, .ref q55, vZ 0, vZ (-1)])), (q7, .inl (K.1, 32, .inl (ar (fun _ => (-1))))), (q15, .inl (K.1, 32, .inl (ar (fun _ => (-1))))), (q23, .inl (K.1, 32, .inl (ar (fun _ => 0)))), (q31, .inl (K.1, 32, .inl (ar (fun _ => 0)))), (q39, .inl (K.1, 32, .inl (ar (fun _ => 0)))), (q47, .inl (K.1, 32, .inl (ar (fun _ => 0)))), (q55, .inl (K.1, 32, .inl (ar (fun _ => 0))))]) rfl ?_
  refine z_st (st2 := []) rfl ?_
  refine z_sub (ws2 := (wLn K h (upf (upf (upf (upf (upf (upf (upf (fun _ => 0) 0 q7) 1 q15) 2 q23) 3 q31) 4 q39) 5 q47) 6 q55) 32 ((upf (upf (upf (upf (upf (upf (upf (fun _ _ => 0) 0 (fun _ => (-1))) 1 (fun _ => (-1))) 2 (fun _ => 0)) 3 (fun _ => 0)) 4 (fun _ => 0)) 5 (fun _ => 0)) 6 (fun _ => 0)), (upf (upf (fun _ => 0) 7 0) 8 (-1))))) [0, 1, 2, 3, 4, 5, 6, 7] (by decide) rfl ?_
  refine z_vret ZC ZE dX2_init_81 (by omega) (by omega) (Nat.le_of_ble_eq_true rfl) ⟨(upf (upf (upf (upf (upf (upf (upf (fun _ => 0) 0 q7) 1 q15) 2 q23) 3 q31) 4 q39) 5 q47) 6 q55), ((upf (upf (upf (upf (upf (upf (upf (fun _ _ => 0) 0 (fun _ => (-1))) 1 (fun _ => (-1))) 2 (fun _ => 0)) 3 (fun _ => 0)) 4 (fun _ => 0)) 5 (fun _ => 0)) 6 (fun _ => 0)), (upf (upf (fun _ => 0) 7 0) 8 (-1))), rfl, rfl, by omega, by omega, ?_⟩
  · skip
    exact lo_init (fun _ => rfl) (fun _ => rfl) (fun _ => rfl) rfl rfl

