/-! ===== Lines: room, new parts, append, copyFrom, constructor ===== -/
set_option maxHeartbeats 4000000 in
set_option maxRecDepth 100000 in
theorem c_X2_makeRoom (zl : Launch) (D : va_G) (K : tyK) (h : Nat) (a : Nat → Nat) (N : Nat) (S : Bd) (k : Nat) (hk : N < k ∧ k ≤ 4096) : Mz zl yX2_makeRoom cX2_makeRoom 2 (none) 2 48 4 16384 D K [.ref h, vZ (k : Int)] (wLn K h a N S) (fun r_ w2_ gc gs => ∃ (a2 : Nat → Nat), r_ = none ∧ w2_ = (wLn K h a2 k ((upf (upf (upf (upf S.1 3 (cpz (S.1 3) (fun _ => 0) N)) 4 (cpz (S.1 4) (fun _ => 0) N)) 5 (cpz (S.1 5) (fun _ => 0) N)) 6 (cpz (S.1 6) (fun _ => 0) N)), S.2)) ∧ (gc ≤ 4) ∧ (gs ≤ 4 * k)) := by
  refine Mz.ofZ (by decide) rfl (Nat.le_of_ble_eq_true rfl) ?_
  intro zp ze zR zs zm zargs zbelow zmeth zc zA zQ ZC ZE hRf hRc hRs hRl
  refine z_aload_n ZC 0 dX2_makeRoom_0 rfl rfl ?_
  refine z_aload_n ZC 0 dX2_makeRoom_1 rfl rfl ?_
  refine z_get ZC inUX2 0 rfl rfl 3 (by decide) uF_X2_21 rfl dX2_makeRoom_2 ?_
  refine z_iload_n ZC 1 dX2_makeRoom_5 rfl rfl ?_
  refine z_callS ZC 2 (c_J7_copyOf_59c91 zl D K (a 3) N (S.1 3) k (by omega)) (gdS uM_X2_66 uZ_J7_copyOf_59c91 uN_J7 uC_J7_copyOf_59c91) (by decide +kernel) rfl ⟨by omega, by omega⟩ ⟨by omega, by omega⟩ (Nat.le_of_ble_eq_true rfl) [4] rfl (by decide) rfl dX2_makeRoom_6 (fun r w2 gc_6 gs_6 hp => ?_)
  obtain ⟨q_6, rfl, rfl, hgc_6, hgs_6⟩ := hp
  refine z_ws (ws2 := [(h, .inr (2, [.ref (a 0), .ref (a 1), .ref (a 2), .ref (a 3), .ref (a 4), .ref (a 5), .ref (a 6), vZ (S.2 7), vZ (S.2 8)])), ((a 0), .inl (K.1, 32, .inl (ar (S.1 0)))), ((a 1), .inl (K.1, 32, .inl (ar (S.1 1)))), ((a 2), .inl (K.1, 32, .inl (ar (S.1 2)))), ((a 3), .inl (K.1, N, .inl (ar (S.1 3)))), ((a 4), .inl (K.1, N, .inl (ar (S.1 4)))), ((a 5), .inl (K.1, N, .inl (ar (S.1 5)))), ((a 6), .inl (K.1, N, .inl (ar (S.1 6)))), (q_6, .inl (K.1, k, .inl (ar (cpz (S.1 3) (fun _ => 0) N))))]) rfl ?_
  refine z_st (st2 := [.ref q_6, .ref h]) rfl ?_
  refine z_put ZC inUX2 tyX2_ok nmX2 0 rfl rfl 3 (by decide) uF_X2_21 rfl (rfl) (rfl) (Nat.le_of_ble_eq_true rfl) dX2_makeRoom_9 ?_
  refine z_aload_n ZC 0 dX2_makeRoom_12 rfl rfl ?_
  refine z_aload_n ZC 0 dX2_makeRoom_13 rfl rfl ?_
  refine z_get ZC inUX2 0 rfl rfl 4 (by decide) uF_X2_24 rfl dX2_makeRoom_14 ?_
  refine z_iload_n ZC 1 dX2_makeRoom_17 rfl rfl ?_
  refine z_ws (ws2 := [(h, .inr (2, [.ref (a 0), .ref (a 1), .ref (a 2), .ref q_6, .ref (a 4), .ref (a 5), .ref (a 6), vZ (S.2 7), vZ (S.2 8)])), ((a 0), .inl (K.1, 32, .inl (ar (S.1 0)))), ((a 1), .inl (K.1, 32, .inl (ar (S.1 1)))), ((a 2), .inl (K.1, 32, .inl (ar (S.1 2)))), ((a 3), .inl (K.1, N, .inl (ar (S.1 3)))), ((a 4), .inl (K.1, N, .inl (ar (S.1 4)))), ((a 5), .inl (K.1, N, .inl (ar (S.1 5)))), ((a 6), .inl (K.1, N, .inl (ar (S.1 6)))), (q_6, .inl (K.1, k, .inl (ar (cpz (S.1 3) (fun _ => 0) N))))]) rfl ?_
  refine z_callS ZC 2 (c_J7_copyOf_59c91 zl D K (a 4) N (S.1 4) k (by omega)) (gdS uM_X2_66 uZ_J7_copyOf_59c91 uN_J7 uC_J7_copyOf_59c91) (by decide +kernel) rfl ⟨by omega, by omega⟩ ⟨by omega, by omega⟩ (Nat.le_of_ble_eq_true rfl) [5] rfl (by decide) rfl dX2_makeRoom_18 (fun r w2 gc_18 gs_18 hp => ?_)
  obtain ⟨q_18, rfl, rfl, hgc_18, hgs_18⟩ := hp
  refine z_ws (ws2 := [(h, .inr (2, [.ref (a 0), .ref (a 1), .ref (a 2), .ref q_6, .ref (a 4), .ref (a 5), .ref (a 6), vZ (S.2 7), vZ (S.2 8)])), ((a 0), .inl (K.1, 32, .inl (ar (S.1 0)))), ((a 1), .inl (K.1, 32, .inl (ar (S.1 1)))), ((a 2), .inl (K.1, 32, .inl (ar (S.1 2)))), ((a 3), .inl (K.1, N, .inl (ar (S.1 3)))), ((a 4), .inl (K.1, N, .inl (ar (S.1 4)))), ((a 5), .inl (K.1, N, .inl (ar (S.1 5)))), ((a 6), .inl (K.1, N, .inl (ar (S.1 6)))), (q_6, .inl (K.1, k, .inl (ar (cpz (S.1 3) (fun _ => 0) N)))), (q_18, .inl (K.1, k, .inl (ar (cpz (S.1 4) (fun _ => 0) N))))]) rfl ?_
  refine z_st (st2 := [.ref q_18, .ref h]) rfl ?_
  refine z_put ZC inUX2 tyX2_ok nmX2 0 rfl rfl 4 (by decide) uF_X2_24 rfl (rfl) (rfl) (Nat.le_of_ble_eq_true rfl) dX2_makeRoom_21 ?_
  refine z_aload_n ZC 0 dX2_makeRoom_24 rfl rfl ?_
  refine z_aload_n ZC 0 dX2_makeRoom_25 rfl rfl ?_
  refine z_get ZC inUX2 0 rfl rfl 5 (by decide) uF_X2_27 rfl dX2_makeRoom_26 ?_
  refine z_iload_n ZC 1 dX2_makeRoom_29 rfl rfl ?_
  refine z_ws (ws2 := [(h, .inr (2, [.ref (a 0), .ref (a 1), .ref (a 2), .ref q_6, .ref q_18, .ref (a 5), .ref (a 6), vZ (S.2 7), vZ (S.2 8)])), ((a 0), .inl (K.1, 32, .inl (ar (S.1 0)))), ((a 1), .inl (K.1, 32, .inl (ar (S.1 1)))), ((a 2), .inl (K.1, 32, .inl (ar (S.1 2)))), ((a 3), .inl (K.1, N, .inl (ar (S.1 3)))), ((a 4), .inl (K.1, N, .inl (ar (S.1 4)))), ((a 5), .inl (K.1, N, .inl (ar (S.1 5)))), ((a 6), .inl (K.1, N, .inl (ar (S.1 6)))), (q_6, .inl (K.1, k, .inl (ar (cpz (S.1 3) (fun _ => 0) N)))), (q_18, .inl (K.1, k, .inl (ar (cpz (S.1 4) (fun _ => 0) N))))]) rfl ?_
  refine z_callS ZC 2 (c_J7_copyOf_59c91 zl D K (a 5) N (S.1 5) k (by omega)) (gdS uM_X2_66 uZ_J7_copyOf_59c91 uN_J7 uC_J7_copyOf_59c91) (by decide +kernel) rfl ⟨by omega, by omega⟩ ⟨by omega, by omega⟩ (Nat.le_of_ble_eq_true rfl) [6] rfl (by decide) rfl dX2_makeRoom_30 (fun r w2 gc_30 gs_30 hp => ?_)
  obtain ⟨q_30, rfl, rfl, hgc_30, hgs_30⟩ := hp
  refine z_ws (ws2 := [(h, .inr (2, [.ref (a 0), .ref (a 1), .ref (a 2), .ref q_6, .ref q_18, .ref (a 5), .ref (a 6), vZ (S.2 7), vZ (S.2 8)])), ((a 0), .inl (K.1, 32, .inl (ar (S.1 0)))), ((a 1), .inl (K.1, 32, .inl (ar (S.1 1)))), ((a 2), .inl (K.1, 32, .inl (ar (S.1 2)))), ((a 3), .inl (K.1, N, .inl (ar (S.1 3)))), ((a 4), .inl (K.1, N, .inl (ar (S.1 4)))), ((a 5), .inl (K.1, N, .inl (ar (S.1 5)))), ((a 6), .inl (K.1, N, .inl (ar (S.1 6)))), (q_6, .inl (K.1, k, .inl (ar (cpz (S.1 3) (fun _ => 0) N)))), (q_18, .inl (K.1, k, .inl (ar (cpz (S.1 4) (fun _ => 0) N)))), (q_30, .inl (K.1, k, .inl (ar (cpz (S.1 5) (fun _ => 0) N))))]) rfl ?_
  refine z_st (st2 := [.ref q_30, .ref h]) rfl ?_
  refine z_put ZC inUX2 tyX2_ok nmX2 0 rfl rfl 5 (by decide) uF_X2_27 rfl (rfl) (rfl) (Nat.le_of_ble_eq_true rfl) dX2_makeRoom_33 ?_
  refine z_aload_n ZC 0 dX2_makeRoom_36 rfl rfl ?_
  refine z_aload_n ZC 0 dX2_makeRoom_37 rfl rfl ?_
  refine z_get ZC inUX2 0 rfl rfl 6 (by decide) uF_X2_30 rfl dX2_makeRoom_38 ?_
  refine z_iload_n ZC 1 dX2_makeRoom_41 rfl rfl ?_
  refine z_ws (ws2 := [(h, .inr (2, [.ref (a 0), .ref (a 1), .ref (a 2), .ref q_6, .ref q_18, .ref q_30, .ref (a 6), vZ (S.2 7), vZ (S.2 8)])), ((a 0), .inl (K.1, 32, .inl (ar (S.1 0)))), ((a 1), .inl (K.1, 32, .inl (ar (S.1 1)))), ((a 2), .inl (K.1, 32, .inl (ar (S.1 2)))), ((a 3), .inl (K.1, N, .inl (ar (S.1 3)))), ((a 4), .inl (K.1, N, .inl (ar (S.1 4)))), ((a 5), .inl (K.1, N, .inl (ar (S.1 5)))), ((a 6), .inl (K.1, N, .inl (ar (S.1 6)))), (q_6, .inl (K.1, k, .inl (ar (cpz (S.1 3) (fun _ => 0) N)))), (q_18, .inl (K.1, k, .inl (ar (cpz (S.1 4) (fun _ => 0) N)))), (q_30, .inl (K.1, k, .inl (ar (cpz (S.1 5) (fun _ => 0) N))))]) rfl ?_
  refine z_callS ZC 2 (c_J7_copyOf_59c91 zl D K (a 6) N (S.1 6) k (by omega)) (gdS uM_X2_66 uZ_J7_copyOf_59c91 uN_J7 uC_J7_copyOf_59c91) (by decide +kernel) rfl ⟨by omega, by omega⟩ ⟨by omega, by omega⟩ (Nat.le_of_ble_eq_true rfl) [7] rfl (by decide) rfl dX2_makeRoom_42 (fun r w2 gc_42 gs_42 hp => ?_)
  obtain ⟨q_42, rfl, rfl, hgc_42, hgs_42⟩ := hp
  refine z_ws (ws2 := [(h, .inr (2, [.ref (a 0), .ref (a 1), .ref (a 2), .ref q_6, .ref q_18, .ref q_30, .ref (a 6), vZ (S.2 7), vZ (S.2 8)])), ((a 0), .inl (K.1, 32, .inl (ar (S.1 0)))), ((a 1), .inl (K.1, 32, .inl (ar (S.1 1)))), ((a 2), .inl (K.1, 32, .inl (ar (S.1 2)))), ((a 3), .inl (K.1, N, .inl (ar (S.1 3)))), ((a 4), .inl (K.1, N, .inl (ar (S.1 4)))), ((a 5), .inl (K.1, N, .inl (ar (S.1 5)))), ((a 6), .inl (K.1, N, .inl (ar (S.1 6)))), (q_6, .inl (K.1, k, .inl (ar (cpz (S.1 3) (fun _ => 0) N)))), (q_18, .inl (K.1, k, .inl (ar (cpz (S.1 4) (fun _ => 0) N)))), (q_30, .inl (K.1, k, .inl (ar (cpz (S.1 5) (fun _ => 0) N)))), (q_42, .inl (K.1, k, .inl (ar (cpz (S.1 6) (fun _ => 0) N))))]) rfl ?_
  refine z_st (st2 := [.ref q_42, .ref h]) rfl ?_
  refine z_put ZC inUX2 tyX2_ok nmX2 0 rfl rfl 6 (by decide) uF_X2_30 rfl (rfl) (rfl) (Nat.le_of_ble_eq_true rfl) dX2_makeRoom_45 ?_
  refine z_sub (ws2 := (wLn K h (upf (upf (upf (upf a 3 q_6) 4 q_18) 5 q_30) 6 q_42) k ((upf (upf (upf (upf S.1 3 (cpz (S.1 3) (fun _ => 0) N)) 4 (cpz (S.1 4) (fun _ => 0) N)) 5 (cpz (S.1 5) (fun _ => 0) N)) 6 (cpz (S.1 6) (fun _ => 0) N)), S.2))) [0, 1, 2, 3, 8, 9, 10, 11] (by decide) rfl ?_
  refine z_vret ZC ZE dX2_makeRoom_48 (by omega) (by omega) (Nat.le_of_ble_eq_true rfl) ⟨(upf (upf (upf (upf a 3 q_6) 4 q_18) 5 q_30) 6 q_42), rfl, rfl, ?_, ?_⟩
  · skip
    omega
  · skip
    omega

set_option maxHeartbeats 4000000 in
set_option maxRecDepth 100000 in
theorem c_X2_makeRoomForAnHour (zl : Launch) (D : va_G) (K : tyK) (h : Nat) (a : Nat → Nat) (N : Nat) (S : Bd) (B : Nat) (C : Int → List Pt3) (hO : LnO N B S C []) (hB : B + 24 ≤ 4096) : Mz zl yX2_makeRoomForAnHour cX2_makeRoomForAnHour 1 (none) 3 69 4 16384 D K [.ref h] (wLn K h a N S) (fun r_ w2_ gc gs => ∃ (a2 : Nat → Nat), ∃ (N2 : Nat), ∃ (S2 : Bd), r_ = none ∧ w2_ = (wLn K h a2 N2 S2) ∧ (LnO N2 B S2 C []) ∧ (S2.2 7 + 24 ≤ N2) ∧ (pw N2 ∧ N ≤ N2) ∧ (N + gc ≤ N2) ∧ (8 * N + gs ≤ 8 * N2) ∧ (gc ≤ 4 ∧ gs ≤ 16384)) := by
  refine Mz.ofZ (by decide) rfl (Nat.le_of_ble_eq_true rfl) ?_
  intro zp ze zR zs zm zargs zbelow zmeth zc zA zQ ZC ZE hRf hRc hRs hRl
  have hG := lo_rng hO
  refine z_aload_n ZC 0 dX2_makeRoomForAnHour_0 rfl rfl ?_
  refine z_get ZC inUX2 0 rfl rfl 7 (by decide) uF_X2_47 rfl dX2_makeRoomForAnHour_1 ?_
  refine z_bipush ZC dX2_makeRoomForAnHour_4 (by decide) ?_
  refine z_iadd ZC dX2_makeRoomForAnHour_6 ?_
  refine z_aload_n ZC 0 dX2_makeRoomForAnHour_7 rfl rfl ?_
  refine z_get ZC inUX2 0 rfl rfl 3 (by decide) uF_X2_21 rfl dX2_makeRoomForAnHour_8 ?_
  refine z_alen ZC 4 rfl dX2_makeRoomForAnHour_11 ?_
  refine z_icmp_le ZC 32 dX2_makeRoomForAnHour_12 (by decide) (by omega) (by omega) (fun c_12 => ?_) (fun c_12 => ?_)
  · skip
    refine z_vret ZC ZE dX2_makeRoomForAnHour_32 (by omega) (by omega) (Nat.le_of_ble_eq_true rfl) ⟨a, N, S, rfl, rfl, ?_, ?_, ?_, ?_, ?_, ?_⟩
    · skip
      exact hO
    · skip
      omega
    · skip
      exact ⟨lo_pw hO, Nat.le_refl _⟩
    · skip
      omega
    · skip
      omega
    · skip
      omega
  · skip
    refine z_aload_n ZC 0 dX2_makeRoomForAnHour_15 rfl rfl ?_
    refine z_iconst ZC dX2_makeRoomForAnHour_16 ?_
    refine z_aload_n ZC 0 dX2_makeRoomForAnHour_17 rfl rfl ?_
    refine z_get ZC inUX2 0 rfl rfl 3 (by decide) uF_X2_21 rfl dX2_makeRoomForAnHour_18 ?_
    refine z_alen ZC 4 rfl dX2_makeRoomForAnHour_21 ?_
    refine z_imul ZC dX2_makeRoomForAnHour_22 ?_
    refine z_sipush ZC dX2_makeRoomForAnHour_23 (by decide) ?_
    refine z_min ZC uM_X2_50 uZ_J9_min_7cf53 uN_J9 uC_J9_min_7cf53 dX2_makeRoomForAnHour_26 (by omega) (by simp only [List.map_nil, List.map_cons, List.sum_nil, List.sum_cons, Value.category]; omega) (by omega) (by omega) (by omega) (by omega) ?_
    have hpw := lo_pw hO
    have hpw2 : pw (2 * N) := by unfold pw at hpw ⊢; omega
    unfold pw at hpw
    refine z_top (y := ((2 * N : Nat) : Int)) (by omega) ?_
    refine z_callV ZC 1 (c_X2_makeRoom zl D K h a N S (2 * N) (by omega)) (gdV uM_X2_56 uI_X2_makeRoom uS_X2_makeRoom uN_X2 uC_X2_makeRoom) (by decide +kernel) rfl ⟨by omega, by omega⟩ ⟨by omega, by omega⟩ (Nat.le_of_ble_eq_true rfl) [0, 1, 2, 3, 4, 5, 6, 7] rfl (by decide) rfl rfl rfl rfl dX2_makeRoomForAnHour_29 (fun r w2 gc_29 gs_29 hp => ?_)
    obtain ⟨a2_29, rfl, rfl, hgc_29, hgs_29⟩ := hp
    refine z_ws (ws2 := [(h, .inr (2, [.ref (a2_29 0), .ref (a2_29 1), .ref (a2_29 2), .ref (a2_29 3), .ref (a2_29 4), .ref (a2_29 5), .ref (a2_29 6), vZ (S.2 7), vZ (S.2 8)])), ((a2_29 0), .inl (K.1, 32, .inl (ar (S.1 0)))), ((a2_29 1), .inl (K.1, 32, .inl (ar (S.1 1)))), ((a2_29 2), .inl (K.1, 32, .inl (ar (S.1 2)))), ((a2_29 3), .inl (K.1, (2 * N), .inl (ar (cpz (S.1 3) (fun _ => 0) N)))), ((a2_29 4), .inl (K.1, (2 * N), .inl (ar (cpz (S.1 4) (fun _ => 0) N)))), ((a2_29 5), .inl (K.1, (2 * N), .inl (ar (cpz (S.1 5) (fun _ => 0) N)))), ((a2_29 6), .inl (K.1, (2 * N), .inl (ar (cpz (S.1 6) (fun _ => 0) N))))]) rfl ?_
    refine z_st (st2 := []) rfl ?_
    refine z_vret ZC ZE dX2_makeRoomForAnHour_32 (by omega) (by omega) (Nat.le_of_ble_eq_true rfl) ⟨a2_29, (2 * N), ((upf (upf (upf (upf S.1 3 (cpz (S.1 3) (fun _ => 0) N)) 4 (cpz (S.1 4) (fun _ => 0) N)) 5 (cpz (S.1 5) (fun _ => 0) N)) 6 (cpz (S.1 6) (fun _ => 0) N)), S.2), rfl, rfl, ?_, ?_, ?_, ?_, ?_, ?_⟩
    · skip
      exact lo_agree hO hpw2 (by omega) rfl rfl (fun r _ _ => ⟨rfl, rfl, rfl⟩) (fun x h1 h2 => ⟨if_pos (by omega), if_pos (by omega), if_pos (by omega), if_pos (by omega)⟩)
    · skip
      show S.2 7 + 24 ≤ _
      omega
    · skip
      exact ⟨hpw2, by omega⟩
    · skip
      omega
    · skip
      omega
    · skip
      omega

set_option maxHeartbeats 4000000 in
set_option maxRecDepth 100000 in
theorem c_X2_newPart (zl : Launch) (D : va_G) (K : tyK) (h : Nat) (a : Nat → Nat) (N : Nat) (S : Bd) (B : Nat) (C : Int → List Pt3) (hO : LnO N B S C []) (hB : lns C 32 + 1 ≤ B ∧ lns C 32 + 1 ≤ N ∧ B ≤ 4096) : Mz zl yX2_newPart cX2_newPart 2 (some .int) 0 0 0 0 D K [.ref h] (wLn K h a N S) (fun r_ w2_ gc gs => ∃ (p : Int), ∃ (S2 : Bd), r_ = some (vZ p) ∧ w2_ = (wLn K h a N S2) ∧ gc = 0 ∧ gs = 0 ∧ (LnO N B S2 C [p]) ∧ (0 ≤ p ∧ p < N ∧ p < 4096) ∧ (S2.1 1 = S.1 1)) := by
  refine Mz.ofZ (by decide) rfl (Nat.le_of_ble_eq_true rfl) ?_
  intro zp ze zR zs zm zargs zbelow zmeth zc zA zQ ZC ZE hRf hRc hRs hRl
  have hG := lo_rng hO
  refine z_aload_n ZC 0 dX2_newPart_0 rfl rfl ?_
  refine z_get ZC inUX2 0 rfl rfl 8 (by decide) uF_X2_33 rfl dX2_newPart_1 ?_
  refine z_iconst ZC dX2_newPart_4 ?_
  refine z_icmp_eq ZC 25 dX2_newPart_5 (by decide) (by omega) (by omega) (fun c_5 => ?_) (fun c_5 => ?_)
  · skip
    have hu := lo_used hO c_5
    refine z_aload_n ZC 0 dX2_newPart_25 rfl rfl ?_
    refine z_get ZC inUX2 0 rfl rfl 7 (by decide) uF_X2_47 rfl dX2_newPart_26 ?_
    refine z_aload_n ZC 0 dX2_newPart_29 rfl rfl ?_
    refine z_get ZC inUX2 0 rfl rfl 3 (by decide) uF_X2_21 rfl dX2_newPart_30 ?_
    refine z_alen ZC 4 rfl dX2_newPart_33 ?_
    refine z_icmp_ge ZC 51 dX2_newPart_34 (by decide) (by omega) (by omega) (fun c_34 => ?_) (fun c_34 => ?_)
    · skip
      omega
    · skip
      refine z_aload_n ZC 0 dX2_newPart_37 rfl rfl ?_
      refine z_dup ZC dX2_newPart_38 rfl ?_
      refine z_get ZC inUX2 0 rfl rfl 7 (by decide) uF_X2_47 rfl dX2_newPart_39 ?_
      refine z_dup_x1 ZC dX2_newPart_42 rfl rfl ?_
      refine z_iconst ZC dX2_newPart_43 ?_
      refine z_iadd ZC dX2_newPart_44 ?_
      refine z_put ZC inUX2 tyX2_ok nmX2 0 rfl rfl 7 (by decide) uF_X2_47 rfl (rfl) (rfl) (Nat.le_of_ble_eq_true rfl) dX2_newPart_45 ?_
      refine z_goto ZC 52 dX2_newPart_48 (by decide) ?_
      refine z_iret ZC ZE dX2_newPart_52 (by omega) (by omega) (Nat.le_of_ble_eq_true rfl) ⟨(S.2 7), (S.1, (upf S.2 7 ((S.2 7) + 1))), rfl, rfl, by omega, by omega, ?_, ?_, ?_⟩
      · skip
        exact lo_new2 hO c_5 (by omega) (by omega)
      · skip
        omega
      · skip
        rfl
  · skip
    obtain ⟨f1, f2, f3, f4⟩ := lo_new1 hO c_5
    refine z_aload_n ZC 0 dX2_newPart_8 rfl rfl ?_
    refine z_get ZC inUX2 0 rfl rfl 8 (by decide) uF_X2_33 rfl dX2_newPart_9 ?_
    refine z_istore_n ZC 1 dX2_newPart_12 rfl (by decide) ?_
    refine z_aload_n ZC 0 dX2_newPart_13 rfl rfl ?_
    refine z_aload_n ZC 0 dX2_newPart_14 rfl rfl ?_
    refine z_get ZC inUX2 0 rfl rfl 6 (by decide) uF_X2_30 rfl dX2_newPart_15 ?_
    refine z_iload_n ZC 1 dX2_newPart_18 rfl rfl ?_
    refine z_iald ZC 7 rfl dX2_newPart_19 (by omega) ?_
    refine z_put ZC inUX2 tyX2_ok nmX2 0 rfl rfl 8 (by decide) uF_X2_33 rfl (rfl) (rfl) (Nat.le_of_ble_eq_true rfl) dX2_newPart_20 ?_
    refine z_iload_n ZC 1 dX2_newPart_23 rfl rfl ?_
    refine z_iret ZC ZE dX2_newPart_24 (by omega) (by omega) (Nat.le_of_ble_eq_true rfl) ⟨(S.2 8), (S.1, (upf S.2 8 ((S.1 6) (S.2 8)))), rfl, rfl, by omega, by omega, ?_, ?_, ?_⟩
    · skip
      exact f4
    · skip
      exact ⟨f1, f3, by omega⟩
    · skip
      rfl

set_option maxHeartbeats 4000000 in
set_option maxRecDepth 100000 in
theorem c_X2_append (zl : Launch) (D : va_G) (K : tyK) (h : Nat) (a : Nat → Nat) (N : Nat) (S : Bd) (B : Nat) (C : Int → List Pt3) (line : Int) (who : Int) (many : Int) (hour : Int) (hO : LnO N B S C []) (hr : 0 ≤ line ∧ line < 32) (hB : lns C 32 + 1 ≤ B ∧ lns C 32 + 1 ≤ N ∧ B ≤ 4096) (hm : 1 ≤ many) (hw : -2147483648 ≤ who ∧ who < 2147483648) (hh : -2147483648 ≤ hour ∧ hour < 2147483648) (hv : ∀ q ∈ C line, (-1 ≤ q.1 ∧ q.1 ≤ 10000) ∧ (-1 ≤ q.2.2 ∧ q.2.2 ≤ 10000)) : Mz zl yX2_append cX2_append 7 (none) 1 21 0 0 D K [.ref h, vZ line, vZ who, vZ many, vZ hour] (wLn K h a N S) (fun r_ w2_ gc gs => ∃ (S2 : Bd), r_ = none ∧ w2_ = (wLn K h a N S2) ∧ gc = 0 ∧ gs = 0 ∧ (LnO N B S2 (upL C line (ap3 (C line) who many hour)) [])) := by
  refine Mz.ofZ (by decide) rfl (Nat.le_of_ble_eq_true rfl) ?_
  intro zp ze zR zs zm zargs zbelow zmeth zc zA zQ ZC ZE hRf hRc hRs hRl
  have hG := lo_rng hO
  have hF := lo_last hO hr
  have hFr := lo_lrng hO hr
  refine z_aload_n ZC 0 dX2_append_0 rfl rfl ?_
  refine z_get ZC inUX2 0 rfl rfl 1 (by decide) uF_X2_15 rfl dX2_append_1 ?_
  refine z_iload_n ZC 1 dX2_append_4 rfl rfl ?_
  refine z_iald ZC 2 rfl dX2_append_5 (by omega) ?_
  refine z_nm (fun p ep => ?_)
  refine z_istore ZC dX2_append_6 (by decide) ?_
  have jn_59 : (p = -1 ∨ ¬ (S.1 3 p = who ∧ S.1 5 p = hour)) → Zw zp zl ze zR zs zm zargs zbelow zmeth zc D zA 7 zQ 0 0 ([(h, .inr (2, [.ref (a 0), .ref (a 1), .ref (a 2), .ref (a 3), .ref (a 4), .ref (a 5), .ref (a 6), vZ (S.2 7), vZ (S.2 8)])), ((a 0), .inl (K.1, 32, .inl (ar (S.1 0)))), ((a 1), .inl (K.1, 32, .inl (ar (S.1 1)))), ((a 2), .inl (K.1, 32, .inl (ar (S.1 2)))), ((a 3), .inl (K.1, N, .inl (ar (S.1 3)))), ((a 4), .inl (K.1, N, .inl (ar (S.1 4)))), ((a 5), .inl (K.1, N, .inl (ar (S.1 5)))), ((a 6), .inl (K.1, N, .inl (ar (S.1 6))))]) 59 [(0, .ref h), (1, vZ line), (2, vZ who), (3, vZ many), (4, vZ hour), (5, vZ p)] [] := by
    intro hcc
    refine z_aload_n ZC 0 dX2_append_59 rfl rfl ?_
    refine z_callV ZC 0 (c_X2_newPart zl D K h a N S B C (hO) (hB)) (gdV uM_X2_43 uI_X2_newPart uS_X2_newPart uN_X2 uC_X2_newPart) (by decide +kernel) rfl ⟨by omega, by omega⟩ ⟨by omega, by omega⟩ (Nat.le_of_ble_eq_true rfl) [0, 1, 2, 3, 4, 5, 6, 7] rfl (by decide) rfl rfl rfl rfl dX2_append_60 (fun r w2 gc_60 gs_60 hp => ?_)
    obtain ⟨p_60, S2_60, rfl, rfl, rfl, rfl, hO2_60, hp_60, h1_60⟩ := hp
    have hG2 := lo_rng hO2_60
    have ep2 : p = S2_60.1 1 line := by rw [h1_60]; exact ep
    refine z_ws (ws2 := [(h, .inr (2, [.ref (a 0), .ref (a 1), .ref (a 2), .ref (a 3), .ref (a 4), .ref (a 5), .ref (a 6), vZ (S2_60.2 7), vZ (S2_60.2 8)])), ((a 0), .inl (K.1, 32, .inl (ar (S2_60.1 0)))), ((a 1), .inl (K.1, 32, .inl (ar (S2_60.1 1)))), ((a 2), .inl (K.1, 32, .inl (ar (S2_60.1 2)))), ((a 3), .inl (K.1, N, .inl (ar (S2_60.1 3)))), ((a 4), .inl (K.1, N, .inl (ar (S2_60.1 4)))), ((a 5), .inl (K.1, N, .inl (ar (S2_60.1 5)))), ((a 6), .inl (K.1, N, .inl (ar (S2_60.1 6))))]) rfl ?_
    refine z_st (st2 := [vZ p_60]) rfl ?_
    refine z_istore ZC dX2_append_63 (by decide) ?_
    refine z_iload ZC dX2_append_65 rfl ?_
    refine z_iconst ZC dX2_append_67 ?_
    refine z_icmp_ne ZC 72 dX2_append_68 (by decide) (by omega) (by omega) (fun c_68 => ?_) (fun c_68 => ?_)
    · skip
      refine z_aload_n ZC 0 dX2_append_72 rfl rfl ?_
      refine z_get ZC inUX2 0 rfl rfl 2 (by decide) uF_X2_18 rfl dX2_append_73 ?_
      refine z_iload_n ZC 1 dX2_append_76 rfl rfl ?_
      refine z_dup2 ZC dX2_append_77 rfl rfl ?_
      refine z_iald ZC 3 rfl dX2_append_78 (by omega) ?_
      refine z_iload_n ZC 3 dX2_append_79 rfl rfl ?_
      refine z_iadd ZC dX2_append_80 ?_
      refine z_iast ZC 3 rfl dX2_append_81 (by omega) ?_
      refine z_aload_n ZC 0 dX2_append_82 rfl rfl ?_
      refine z_get ZC inUX2 0 rfl rfl 3 (by decide) uF_X2_21 rfl dX2_append_83 ?_
      refine z_iload ZC dX2_append_86 rfl ?_
      refine z_iload_n ZC 2 dX2_append_88 rfl rfl ?_
      refine z_iast ZC 4 rfl dX2_append_89 (by omega) ?_
      refine z_aload_n ZC 0 dX2_append_90 rfl rfl ?_
      refine z_get ZC inUX2 0 rfl rfl 4 (by decide) uF_X2_24 rfl dX2_append_91 ?_
      refine z_iload ZC dX2_append_94 rfl ?_
      refine z_iload_n ZC 3 dX2_append_96 rfl rfl ?_
      refine z_iast ZC 5 rfl dX2_append_97 (by omega) ?_
      refine z_ws (ws2 := [(h, .inr (2, [.ref (a 0), .ref (a 1), .ref (a 2), .ref (a 3), .ref (a 4), .ref (a 5), .ref (a 6), vZ (S2_60.2 7), vZ (S2_60.2 8)])), ((a 0), .inl (K.1, 32, .inl (ar (S2_60.1 0)))), ((a 1), .inl (K.1, 32, .inl (ar (S2_60.1 1)))), ((a 2), .inl (K.1, 32, .inl (ar (upz (S2_60.1 2) line (((S2_60.1 2) line) + many))))), ((a 3), .inl (K.1, N, .inl (ar (upz (S2_60.1 3) p_60 who)))), ((a 4), .inl (K.1, N, .inl (ar (upz (S2_60.1 4) p_60 many)))), ((a 5), .inl (K.1, N, .inl (ar (S2_60.1 5)))), ((a 6), .inl (K.1, N, .inl (ar (S2_60.1 6))))]) rfl ?_
      refine z_aload_n ZC 0 dX2_append_98 rfl rfl ?_
      refine z_get ZC inUX2 0 rfl rfl 5 (by decide) uF_X2_27 rfl dX2_append_99 ?_
      refine z_iload ZC dX2_append_102 rfl ?_
      refine z_iload ZC dX2_append_104 rfl ?_
      refine z_iast ZC 6 rfl dX2_append_106 (by omega) ?_
      refine z_aload_n ZC 0 dX2_append_107 rfl rfl ?_
      refine z_get ZC inUX2 0 rfl rfl 6 (by decide) uF_X2_30 rfl dX2_append_108 ?_
      refine z_iload ZC dX2_append_111 rfl ?_
      refine z_iconst ZC dX2_append_113 ?_
      refine z_iast ZC 7 rfl dX2_append_114 (by omega) ?_
      refine z_iload ZC dX2_append_115 rfl ?_
      refine z_iconst ZC dX2_append_117 ?_
      refine z_icmp_ne ZC 132 dX2_append_118 (by decide) (by subst ep; omega) (by omega) (fun c_118 => ?_) (fun c_118 => ?_)
      · skip
        refine z_aload_n ZC 0 dX2_append_132 rfl rfl ?_
        refine z_get ZC inUX2 0 rfl rfl 6 (by decide) uF_X2_30 rfl dX2_append_133 ?_
        refine z_iload ZC dX2_append_136 rfl ?_
        refine z_iload ZC dX2_append_138 rfl ?_
        refine z_iast ZC 7 rfl dX2_append_140 (by subst ep; omega) ?_
        refine z_ws (ws2 := [(h, .inr (2, [.ref (a 0), .ref (a 1), .ref (a 2), .ref (a 3), .ref (a 4), .ref (a 5), .ref (a 6), vZ (S2_60.2 7), vZ (S2_60.2 8)])), ((a 0), .inl (K.1, 32, .inl (ar (S2_60.1 0)))), ((a 1), .inl (K.1, 32, .inl (ar (S2_60.1 1)))), ((a 2), .inl (K.1, 32, .inl (ar (upz (S2_60.1 2) line (((S2_60.1 2) line) + many))))), ((a 3), .inl (K.1, N, .inl (ar (upz (S2_60.1 3) p_60 who)))), ((a 4), .inl (K.1, N, .inl (ar (upz (S2_60.1 4) p_60 many)))), ((a 5), .inl (K.1, N, .inl (ar (upz (S2_60.1 5) p_60 hour)))), ((a 6), .inl (K.1, N, .inl (ar (upz (upz (S2_60.1 6) p_60 (-1)) p p_60))))]) rfl ?_
        refine z_aload_n ZC 0 dX2_append_141 rfl rfl ?_
        refine z_get ZC inUX2 0 rfl rfl 1 (by decide) uF_X2_15 rfl dX2_append_142 ?_
        refine z_iload_n ZC 1 dX2_append_145 rfl rfl ?_
        refine z_iload ZC dX2_append_146 rfl ?_
        refine z_iast ZC 2 rfl dX2_append_148 (by omega) ?_
        refine z_vret ZC ZE dX2_append_149 (by omega) (by omega) (Nat.le_of_ble_eq_true rfl) ⟨((upf (upf (upf (upf (upf (upf S2_60.1 1 (upz (S2_60.1 1) line p_60)) 2 (upz (S2_60.1 2) line (((S2_60.1 2) line) + many))) 3 (upz (S2_60.1 3) p_60 who)) 4 (upz (S2_60.1 4) p_60 many)) 5 (upz (S2_60.1 5) p_60 hour)) 6 (upz (upz (S2_60.1 6) p_60 (-1)) p p_60)), S2_60.2), rfl, rfl, by omega, by omega, ?_⟩
        · skip
          rcases lo_last hO2_60 hr with ⟨z1, z2⟩ | ⟨l2, z1, z2, -⟩
          · omega
          · have hap : ap3 (C line) who many hour = C line ++ [(who, many, hour)] := by
              rcases hF with ⟨e1, e2⟩ | ⟨l3, e1, -⟩
              · rw [e1] at z1; simp at z1
              · rw [e1, ap3_snoc, if_neg]
                have hcc2 := hcc.resolve_left c_118
                rw [ep] at hcc2
                exact hcc2
            rw [hap]
            refine lo_push (fi2 := S2_60.1 0) hO2_60 hr hm (fun j => ?_) (fun x => ?_)
            · rw [if_neg]
              rintro ⟨-, q⟩
              rw [z1] at q; simp at q
            · show upz (upz (S2_60.1 6) p_60 (-1)) p p_60 x = _
              unfold upz
              by_cases q : x = p
              · rw [if_pos q, if_pos ⟨by rw [z1]; simp, q.trans ep2⟩]
              · have q3 : ¬ (C line ≠ [] ∧ x = S2_60.1 1 line) := fun q2 => q (q2.2.trans ep2.symm)
                rw [if_neg q, if_neg q3]
      · skip
        refine z_aload_n ZC 0 dX2_append_121 rfl rfl ?_
        refine z_get ZC inUX2 0 rfl rfl 0 (by decide) uF_X2_9 rfl dX2_append_122 ?_
        refine z_iload_n ZC 1 dX2_append_125 rfl rfl ?_
        refine z_iload ZC dX2_append_126 rfl ?_
        refine z_iast ZC 1 rfl dX2_append_128 (by omega) ?_
        refine z_ws (ws2 := [(h, .inr (2, [.ref (a 0), .ref (a 1), .ref (a 2), .ref (a 3), .ref (a 4), .ref (a 5), .ref (a 6), vZ (S2_60.2 7), vZ (S2_60.2 8)])), ((a 0), .inl (K.1, 32, .inl (ar (upz (S2_60.1 0) line p_60)))), ((a 1), .inl (K.1, 32, .inl (ar (S2_60.1 1)))), ((a 2), .inl (K.1, 32, .inl (ar (upz (S2_60.1 2) line (((S2_60.1 2) line) + many))))), ((a 3), .inl (K.1, N, .inl (ar (upz (S2_60.1 3) p_60 who)))), ((a 4), .inl (K.1, N, .inl (ar (upz (S2_60.1 4) p_60 many)))), ((a 5), .inl (K.1, N, .inl (ar (upz (S2_60.1 5) p_60 hour)))), ((a 6), .inl (K.1, N, .inl (ar (upz (S2_60.1 6) p_60 (-1)))))]) rfl ?_
        refine z_goto ZC 141 dX2_append_129 (by decide) ?_
        refine z_aload_n ZC 0 dX2_append_141 rfl rfl ?_
        refine z_get ZC inUX2 0 rfl rfl 1 (by decide) uF_X2_15 rfl dX2_append_142 ?_
        refine z_iload_n ZC 1 dX2_append_145 rfl rfl ?_
        refine z_iload ZC dX2_append_146 rfl ?_
        refine z_iast ZC 2 rfl dX2_append_148 (by omega) ?_
        refine z_vret ZC ZE dX2_append_149 (by omega) (by omega) (Nat.le_of_ble_eq_true rfl) ⟨((upf (upf (upf (upf (upf (upf (upf S2_60.1 0 (upz (S2_60.1 0) line p_60)) 1 (upz (S2_60.1 1) line p_60)) 2 (upz (S2_60.1 2) line (((S2_60.1 2) line) + many))) 3 (upz (S2_60.1 3) p_60 who)) 4 (upz (S2_60.1 4) p_60 many)) 5 (upz (S2_60.1 5) p_60 hour)) 6 (upz (S2_60.1 6) p_60 (-1))), S2_60.2), rfl, rfl, by omega, by omega, ?_⟩
        · skip
          rcases lo_last hO2_60 hr with ⟨z1, z2⟩ | ⟨l2, z1, z2, -⟩
          · have hap : ap3 (C line) who many hour = C line ++ [(who, many, hour)] := by rw [z1]; rfl
            rw [hap]
            refine lo_push (nx2 := upz (S2_60.1 6) p_60 (-1)) hO2_60 hr hm (fun j => ?_) (fun x => ?_)
            · show upz (S2_60.1 0) line p_60 j = _
              unfold upz
              by_cases q : j = line
              · rw [if_pos q, if_pos ⟨q, z1⟩]
              · rw [if_neg q, if_neg (fun q2 => q q2.1)]
            · rw [if_neg (fun q => q.1 z1)]; rfl
          · omega
    · skip
      omega
  refine z_iload ZC dX2_append_8 rfl ?_
  refine z_iconst ZC dX2_append_10 ?_
  refine z_icmp_eq ZC 59 dX2_append_11 (by decide) (by subst ep; omega) (by omega) (fun c_11 => ?_) (fun c_11 => ?_)
  · skip
    refine z_ws (ws2 := [(h, .inr (2, [.ref (a 0), .ref (a 1), .ref (a 2), .ref (a 3), .ref (a 4), .ref (a 5), .ref (a 6), vZ (S.2 7), vZ (S.2 8)])), ((a 0), .inl (K.1, 32, .inl (ar (S.1 0)))), ((a 1), .inl (K.1, 32, .inl (ar (S.1 1)))), ((a 2), .inl (K.1, 32, .inl (ar (S.1 2)))), ((a 3), .inl (K.1, N, .inl (ar (S.1 3)))), ((a 4), .inl (K.1, N, .inl (ar (S.1 4)))), ((a 5), .inl (K.1, N, .inl (ar (S.1 5)))), ((a 6), .inl (K.1, N, .inl (ar (S.1 6))))]) rfl (z_lv (lv2 := [(0, .ref h), (1, vZ line), (2, vZ who), (3, vZ many), (4, vZ hour), (5, vZ p)]) ⟨rfl, rfl, rfl, rfl, rfl, rfl, trivial⟩ ?_)
    refine jn_59  ?_
    · skip
      omega
  · skip
    obtain ⟨l2, e, e2, -⟩ := hF.resolve_left (fun q => c_11 (ep.trans q.2))
    have hv2 : (-1 ≤ S.1 3 (S.1 1 line) ∧ S.1 3 (S.1 1 line) ≤ 10000) ∧ (-1 ≤ S.1 5 (S.1 1 line) ∧ S.1 5 (S.1 1 line) ≤ 10000) := hv _ (by rw [e]; exact List.mem_append_right _ List.mem_cons_self)
    refine z_aload_n ZC 0 dX2_append_14 rfl rfl ?_
    refine z_get ZC inUX2 0 rfl rfl 3 (by decide) uF_X2_21 rfl dX2_append_15 ?_
    refine z_iload ZC dX2_append_18 rfl ?_
    refine z_iald ZC 4 rfl dX2_append_20 (by subst ep; omega) ?_
    refine z_iload_n ZC 2 dX2_append_21 rfl rfl ?_
    refine z_icmp_ne ZC 59 dX2_append_22 (by decide) (by subst ep; omega) (by omega) (fun c_22 => ?_) (fun c_22 => ?_)
    · skip
      refine z_ws (ws2 := [(h, .inr (2, [.ref (a 0), .ref (a 1), .ref (a 2), .ref (a 3), .ref (a 4), .ref (a 5), .ref (a 6), vZ (S.2 7), vZ (S.2 8)])), ((a 0), .inl (K.1, 32, .inl (ar (S.1 0)))), ((a 1), .inl (K.1, 32, .inl (ar (S.1 1)))), ((a 2), .inl (K.1, 32, .inl (ar (S.1 2)))), ((a 3), .inl (K.1, N, .inl (ar (S.1 3)))), ((a 4), .inl (K.1, N, .inl (ar (S.1 4)))), ((a 5), .inl (K.1, N, .inl (ar (S.1 5)))), ((a 6), .inl (K.1, N, .inl (ar (S.1 6))))]) rfl (z_lv (lv2 := [(0, .ref h), (1, vZ line), (2, vZ who), (3, vZ many), (4, vZ hour), (5, vZ p)]) ⟨rfl, rfl, rfl, rfl, rfl, rfl, trivial⟩ ?_)
      refine jn_59  ?_
      · skip
        omega
    · skip
      refine z_aload_n ZC 0 dX2_append_25 rfl rfl ?_
      refine z_get ZC inUX2 0 rfl rfl 5 (by decide) uF_X2_27 rfl dX2_append_26 ?_
      refine z_iload ZC dX2_append_29 rfl ?_
      refine z_iald ZC 6 rfl dX2_append_31 (by subst ep; omega) ?_
      refine z_iload ZC dX2_append_32 rfl ?_
      refine z_icmp_ne ZC 59 dX2_append_34 (by decide) (by subst ep; omega) (by omega) (fun c_34 => ?_) (fun c_34 => ?_)
      · skip
        refine z_ws (ws2 := [(h, .inr (2, [.ref (a 0), .ref (a 1), .ref (a 2), .ref (a 3), .ref (a 4), .ref (a 5), .ref (a 6), vZ (S.2 7), vZ (S.2 8)])), ((a 0), .inl (K.1, 32, .inl (ar (S.1 0)))), ((a 1), .inl (K.1, 32, .inl (ar (S.1 1)))), ((a 2), .inl (K.1, 32, .inl (ar (S.1 2)))), ((a 3), .inl (K.1, N, .inl (ar (S.1 3)))), ((a 4), .inl (K.1, N, .inl (ar (S.1 4)))), ((a 5), .inl (K.1, N, .inl (ar (S.1 5)))), ((a 6), .inl (K.1, N, .inl (ar (S.1 6))))]) rfl (z_lv (lv2 := [(0, .ref h), (1, vZ line), (2, vZ who), (3, vZ many), (4, vZ hour), (5, vZ p)]) ⟨rfl, rfl, rfl, rfl, rfl, rfl, trivial⟩ ?_)
        refine jn_59  ?_
        · skip
          omega
      · skip
        refine z_aload_n ZC 0 dX2_append_37 rfl rfl ?_
        refine z_get ZC inUX2 0 rfl rfl 2 (by decide) uF_X2_18 rfl dX2_append_38 ?_
        refine z_iload_n ZC 1 dX2_append_41 rfl rfl ?_
        refine z_dup2 ZC dX2_append_42 rfl rfl ?_
        refine z_iald ZC 3 rfl dX2_append_43 (by omega) ?_
        refine z_iload_n ZC 3 dX2_append_44 rfl rfl ?_
        refine z_iadd ZC dX2_append_45 ?_
        refine z_iast ZC 3 rfl dX2_append_46 (by omega) ?_
        refine z_aload_n ZC 0 dX2_append_47 rfl rfl ?_
        refine z_get ZC inUX2 0 rfl rfl 4 (by decide) uF_X2_24 rfl dX2_append_48 ?_
        refine z_iload ZC dX2_append_51 rfl ?_
        refine z_dup2 ZC dX2_append_53 rfl rfl ?_
        refine z_iald ZC 5 rfl dX2_append_54 (by subst ep; omega) ?_
        refine z_iload_n ZC 3 dX2_append_55 rfl rfl ?_
        refine z_iadd ZC dX2_append_56 ?_
        refine z_iast ZC 5 rfl dX2_append_57 (by subst ep; omega) ?_
        refine z_vret ZC ZE dX2_append_58 (by omega) (by omega) (Nat.le_of_ble_eq_true rfl) ⟨((upf (upf S.1 2 (upz (S.1 2) line (((S.1 2) line) + many))) 4 (upz (S.1 4) p (((S.1 4) p) + many))), S.2), rfl, rfl, by omega, by omega, ?_⟩
        · skip
          rw [e, ap3_snoc, if_pos (by subst ep; exact ⟨c_22, c_34⟩)]
          have q := lo_merge (many := many) hO hr e ep (by omega)
          exact q

