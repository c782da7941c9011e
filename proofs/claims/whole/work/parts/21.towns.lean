/-! ===== Towns.darkness, sight; Arrays.fill, copyOf; Log ===== -/
set_option maxHeartbeats 4000000 in
set_option maxRecDepth 100000 in
theorem c_X5_darkness (zl : Launch) (D : va_G) (K : tyK) (h : Nat) (a : Nat → Nat) (T : Bd) (town : Int) (ht : 0 ≤ town ∧ town < 10) (hw : 1 ≤ T.2 2 ∧ T.2 2 ≤ 100) (hf : 0 ≤ T.1 0 town ∧ T.1 0 town ≤ 99) : Mz zl yX5_darkness cX5_darkness 4 (some .int) 0 0 0 0 D K [.ref h, vZ town] (wTo K h a T) (fun r_ w2_ gc gs => ∃ (d : Int), r_ = some (vZ d) ∧ w2_ = (wTo K h a T) ∧ gc = 0 ∧ gs = 0 ∧ (d = drk (T.2 2) (T.1 0 town))) := by
  refine Mz.ofZ (by decide) rfl (Nat.le_of_ble_eq_true rfl) ?_
  intro zp ze zR zs zm zargs zbelow zmeth zc zA zQ ZC ZE hRf hRc hRs hRl
  refine z_aload_n ZC 0 dX5_darkness_0 rfl rfl ?_
  refine z_get ZC inUX5 0 rfl rfl 2 (by decide) uF_X5_18 rfl dX5_darkness_1 ?_
  refine z_aload_n ZC 0 dX5_darkness_4 rfl rfl ?_
  refine z_get ZC inUX5 0 rfl rfl 2 (by decide) uF_X5_18 rfl dX5_darkness_5 ?_
  refine z_imul ZC dX5_darkness_8 ?_
  refine z_aload_n ZC 0 dX5_darkness_9 rfl rfl ?_
  refine z_get ZC inUX5 0 rfl rfl 0 (by decide) uF_X5_9 rfl dX5_darkness_10 ?_
  refine z_iload_n ZC 1 dX5_darkness_13 rfl rfl ?_
  refine z_iald ZC 1 rfl dX5_darkness_14 (by omega) ?_
  refine z_aload_n ZC 0 dX5_darkness_15 rfl rfl ?_
  refine z_get ZC inUX5 0 rfl rfl 0 (by decide) uF_X5_9 rfl dX5_darkness_16 ?_
  refine z_iload_n ZC 1 dX5_darkness_19 rfl rfl ?_
  refine z_iald ZC 1 rfl dX5_darkness_20 (by omega) ?_
  refine z_imul ZC dX5_darkness_21 ?_
  refine z_isub ZC dX5_darkness_22 ?_
  refine z_istore_n ZC 2 dX5_darkness_23 rfl (by decide) ?_
  have hb1 := sq_le (i := T.1 0 town) (k := 99) (by omega) (by omega)
  have hb2 := sq_le (i := T.2 2) (k := 100) (by omega) (by omega)
  have hb3 := sq_nn (T.1 0 town)
  have hb4 := sq_nn (T.2 2)
  refine z_aload_n ZC 0 dX5_darkness_24 rfl rfl ?_
  refine z_get ZC inUX5 0 rfl rfl 2 (by decide) uF_X5_18 rfl dX5_darkness_25 ?_
  refine z_istore_n ZC 3 dX5_darkness_28 rfl (by decide) ?_
  have lp_29 : ∀ (n_29 : Nat) (root : Int), (0 ≤ root ∧ root ≤ T.2 2) → (isq root.toNat (T.2 2 * T.2 2 - T.1 0 town * T.1 0 town) = isq 100 (T.2 2 * T.2 2 - T.1 0 town * T.1 0 town)) → (root.toNat) < n_29 → Zw zp zl ze zR zs zm zargs zbelow zmeth zc D zA 4 zQ 0 0 ([(h, .inr (5, [.ref (a 0), .ref (a 1), vZ (T.2 2), vZ (T.2 3)])), ((a 0), .inl (K.1, 10, .inl (ar (T.1 0)))), ((a 1), .inl (K.1, 10, .inl (ar (T.1 1))))]) 29 [(0, .ref h), (1, vZ town), (2, vZ (((T.2 2) * (T.2 2)) - (((T.1 0) town) * ((T.1 0) town)))), (3, vZ root)] [] := by
    intro n_29
    induction n_29 with
    | zero => intro root hi he hm_29; exact absurd hm_29 (Nat.not_lt_zero _)
    | succ n_29 ih_29 =>
      intro root hi he hm_29
      refine z_iload_n ZC 3 dX5_darkness_29 rfl rfl ?_
      refine z_if_le ZC 50 dX5_darkness_30 (by decide) (by omega) (fun c_30 => ?_) (fun c_30 => ?_)
      · skip
        refine z_iconst ZC dX5_darkness_50 ?_
        refine z_iret ZC ZE dX5_darkness_51 (by omega) (by omega) (Nat.le_of_ble_eq_true rfl) ⟨0, rfl, rfl, by omega, by omega, ?_⟩
        · skip
          unfold drk
          rw [← he, show root.toNat = 0 by omega]
          rfl
      · skip
        have hb5 := sq_le (i := root) (k := 100) (by omega) (by omega)
        have hb6 := sq_nn root
        have hst := isq_step (v := (T.2 2 * T.2 2 - T.1 0 town * T.1 0 town)) (i := root) (by omega)
        refine z_iload_n ZC 3 dX5_darkness_33 rfl rfl ?_
        refine z_iload_n ZC 3 dX5_darkness_34 rfl rfl ?_
        refine z_imul ZC dX5_darkness_35 ?_
        refine z_iload_n ZC 2 dX5_darkness_36 rfl rfl ?_
        refine z_icmp_gt ZC 44 dX5_darkness_37 (by decide) (by omega) (by omega) (fun c_37 => ?_) (fun c_37 => ?_)
        · skip
          refine z_iinc ZC dX5_darkness_44 rfl (by decide) ?_
          refine z_goto ZC 29 dX5_darkness_47 (by decide) ?_
          refine z_ws (ws2 := [(h, .inr (5, [.ref (a 0), .ref (a 1), vZ (T.2 2), vZ (T.2 3)])), ((a 0), .inl (K.1, 10, .inl (ar (T.1 0)))), ((a 1), .inl (K.1, 10, .inl (ar (T.1 1))))]) rfl (z_lv (lv2 := [(0, .ref h), (1, vZ town), (2, vZ (((T.2 2) * (T.2 2)) - (((T.1 0) town) * ((T.1 0) town)))), (3, vZ (root + (-1)))]) ⟨rfl, rfl, rfl, rfl, trivial⟩ ?_)
          refine ih_29 (root + (-1)) ?_ ?_ (by omega)
          · skip
            omega
          · skip
            rw [← he, hst, if_neg (by omega)]; rfl
        · skip
          refine z_iload_n ZC 3 dX5_darkness_40 rfl rfl ?_
          refine z_iconst ZC dX5_darkness_41 ?_
          refine z_imul ZC dX5_darkness_42 ?_
          refine z_iret ZC ZE dX5_darkness_43 (by omega) (by omega) (Nat.le_of_ble_eq_true rfl) ⟨(root * 3), rfl, rfl, by omega, by omega, ?_⟩
          · skip
            unfold drk
            rw [← he, hst, if_pos (by omega)]
            omega
  refine z_ws (ws2 := [(h, .inr (5, [.ref (a 0), .ref (a 1), vZ (T.2 2), vZ (T.2 3)])), ((a 0), .inl (K.1, 10, .inl (ar (T.1 0)))), ((a 1), .inl (K.1, 10, .inl (ar (T.1 1))))]) rfl (z_lv (lv2 := [(0, .ref h), (1, vZ town), (2, vZ (((T.2 2) * (T.2 2)) - (((T.1 0) town) * ((T.1 0) town)))), (3, vZ (T.2 2))]) ⟨rfl, rfl, rfl, rfl, trivial⟩ ?_)
  refine lp_29 _ (T.2 2) ?_ ?_ (Nat.lt_succ_self _)
  · skip
    omega
  · skip
    refine (isq_drop (n := (T.2 2).toNat) ?_ (by omega)).symm
    have hb7 : (((T.2 2).toNat : Nat) : Int) = T.2 2 := by omega
    rw [hb7]
    have hb8 : (T.2 2 + 1) * (T.2 2 + 1) = T.2 2 * T.2 2 + 2 * T.2 2 + 1 := by rw [Int.add_mul, Int.mul_add]; omega
    omega

set_option maxHeartbeats 4000000 in
set_option maxRecDepth 100000 in
theorem c_X5_sight (zl : Launch) (D : va_G) (K : tyK) (h : Nat) (a : Nat → Nat) (T : Bd) (town : Int) (ht : 0 ≤ town ∧ town < 10) (hw : 1 ≤ T.2 2 ∧ T.2 2 ≤ 100) (hf : 0 ≤ T.1 0 town ∧ T.1 0 town ≤ 99) : Mz zl yX5_sight cX5_sight 2 (some .int) 1 23 0 0 D K [.ref h, vZ town] (wTo K h a T) (fun r_ w2_ gc gs => r_ = some (vZ (drk (T.2 2) (T.1 0 town) * (100 - T.1 1 town))) ∧ w2_ = (wTo K h a T) ∧ gc = 0 ∧ gs = 0) := by
  refine Mz.ofZ (by decide) rfl (Nat.le_of_ble_eq_true rfl) ?_
  intro zp ze zR zs zm zargs zbelow zmeth zc zA zQ ZC ZE hRf hRc hRs hRl
  refine z_aload_n ZC 0 dX5_sight_0 rfl rfl ?_
  refine z_iload_n ZC 1 dX5_sight_1 rfl rfl ?_
  refine z_callV ZC 1 (c_X5_darkness zl D K h a T town (by omega) (by omega) (by omega)) (gdV uM_X5_25 uI_X5_darkness uS_X5_darkness uN_X5 uC_X5_darkness) (by decide +kernel) rfl ⟨by omega, by omega⟩ ⟨by omega, by omega⟩ (Nat.le_of_ble_eq_true rfl) [0, 1, 2] rfl (by decide) rfl rfl rfl rfl dX5_sight_2 (fun r w2 gc_2 gs_2 hp => ?_)
  obtain ⟨d_2, rfl, rfl, rfl, rfl, hd_2⟩ := hp
  refine z_ws (ws2 := [(h, .inr (5, [.ref (a 0), .ref (a 1), vZ (T.2 2), vZ (T.2 3)])), ((a 0), .inl (K.1, 10, .inl (ar (T.1 0)))), ((a 1), .inl (K.1, 10, .inl (ar (T.1 1))))]) rfl ?_
  refine z_st (st2 := [vZ d_2]) rfl ?_
  refine z_bipush ZC dX5_sight_5 (by decide) ?_
  refine z_aload_n ZC 0 dX5_sight_7 rfl rfl ?_
  refine z_get ZC inUX5 0 rfl rfl 1 (by decide) uF_X5_15 rfl dX5_sight_8 ?_
  refine z_iload_n ZC 1 dX5_sight_11 rfl rfl ?_
  refine z_iald ZC 2 rfl dX5_sight_12 (by omega) ?_
  refine z_isub ZC dX5_sight_13 ?_
  refine z_imul ZC dX5_sight_14 ?_
  refine z_top (y := drk (T.2 2) (T.1 0 town) * (100 - T.1 1 town)) (by rw [hd_2]) ?_
  exact z_iret ZC ZE dX5_sight_15 (by omega) (by omega) (Nat.le_of_ble_eq_true rfl) ⟨rfl, rfl, by omega, by omega⟩

set_option maxHeartbeats 4000000 in
set_option maxRecDepth 100000 in
theorem c_J7_fill_53178 (zl : Launch) (D : va_G) (K : tyK) (h : Nat) (n : Nat) (g : Int → Int) (v : Int) (hn : (n : Int) < 2147483648) : Mz zl yJ7_fill_53178 cJ7_fill_53178 4 (none) 0 0 0 0 D K [.ref h, vZ v] [(h, .inl (K.1, n, .inl (ar g)))] (fun r_ w2_ gc gs => r_ = none ∧ w2_ = [(h, .inl (K.1, n, .inl (ar (fun _ => v))))] ∧ gc = 0 ∧ gs = 0) := by
  refine Mz.ofZ (by decide) rfl (Nat.le_of_ble_eq_true rfl) ?_
  intro zp ze zR zs zm zargs zbelow zmeth zc zA zQ ZC ZE hRf hRc hRs hRl
  refine z_iconst ZC dJ7_fill_53178_0 ?_
  refine z_istore_n ZC 2 dJ7_fill_53178_1 rfl (by decide) ?_
  refine z_aload_n ZC 0 dJ7_fill_53178_2 rfl rfl ?_
  refine z_alen ZC 0 rfl dJ7_fill_53178_3 ?_
  refine z_istore_n ZC 3 dJ7_fill_53178_4 rfl (by decide) ?_
  have lp_5 : ∀ (n_5 : Nat) (i : Int) (f : Int → Int), (0 ≤ i ∧ i ≤ n) → (∀ j : Int, 0 ≤ j → j < i → f j = v) → ((n : Int).toNat - i.toNat) < n_5 → Zw zp zl ze zR zs zm zargs zbelow zmeth zc D zA 4 zQ 0 0 ([(h, .inl (K.1, n, .inl (ar f)))]) 5 [(0, .ref h), (1, vZ v), (2, vZ i), (3, vZ (n : Int))] [] := by
    intro n_5
    induction n_5 with
    | zero => intro i f hi hf hm_5; exact absurd hm_5 (Nat.not_lt_zero _)
    | succ n_5 ih_5 =>
      intro i f hi hf hm_5
      refine z_iload_n ZC 2 dJ7_fill_53178_5 rfl rfl ?_
      refine z_iload_n ZC 3 dJ7_fill_53178_6 rfl rfl ?_
      refine z_icmp_ge ZC 20 dJ7_fill_53178_7 (by decide) (by omega) (by omega) (fun c_7 => ?_) (fun c_7 => ?_)
      · skip
        refine z_rep (g2 := fun _ => v) 0 rfl (fun j h1 h2 => hf j h1 (by omega)) ?_
        exact z_vret ZC ZE dJ7_fill_53178_20 (by omega) (by omega) (Nat.le_of_ble_eq_true rfl) ⟨rfl, rfl, by omega, by omega⟩
      · skip
        refine z_aload_n ZC 0 dJ7_fill_53178_10 rfl rfl ?_
        refine z_iload_n ZC 2 dJ7_fill_53178_11 rfl rfl ?_
        refine z_iload_n ZC 1 dJ7_fill_53178_12 rfl rfl ?_
        refine z_iast ZC 0 rfl dJ7_fill_53178_13 (by omega) ?_
        refine z_iinc ZC dJ7_fill_53178_14 rfl (by decide) ?_
        refine z_goto ZC 5 dJ7_fill_53178_17 (by decide) ?_
        refine z_ws (ws2 := [(h, .inl (K.1, n, .inl (ar (upz f i v))))]) rfl (z_lv (lv2 := [(0, .ref h), (1, vZ v), (2, vZ (i + 1)), (3, vZ (n : Int))]) ⟨rfl, rfl, rfl, rfl, trivial⟩ ?_)
        refine ih_5 (i + 1) (upz f i v) ?_ ?_ (by omega)
        · skip
          omega
        · skip
          intro j h1 h2
          unfold upz
          split
          · rfl
          · exact hf j h1 (by omega)
  refine z_ws (ws2 := [(h, .inl (K.1, n, .inl (ar g)))]) rfl (z_lv (lv2 := [(0, .ref h), (1, vZ v), (2, vZ 0), (3, vZ (n : Int))]) ⟨rfl, rfl, rfl, rfl, trivial⟩ ?_)
  refine lp_5 _ 0 g ?_ ?_ (Nat.lt_succ_self _)
  · skip
    omega
  · skip
    omega

set_option maxHeartbeats 4000000 in
set_option maxRecDepth 100000 in
theorem c_J7_copyOf_59c91 (zl : Launch) (D : va_G) (K : tyK) (h : Nat) (n : Nat) (g : Int → Int) (k : Nat) (hn : (n : Int) < k ∧ (k : Int) ≤ 100000) : Mz zl yJ7_copyOf_59c91 cJ7_copyOf_59c91 3 (some (.array .int)) 1 26 1 k D K [.ref h, vZ (k : Int)] [(h, .inl (K.1, n, .inl (ar g)))] (fun r_ w2_ gc gs => ∃ (q : Nat), r_ = some (.ref q) ∧ w2_ = ([(h, .inl (K.1, n, .inl (ar g)))] ++ [(q, .inl (K.1, k, .inl (ar (cpz g (fun _ => 0) n))))]) ∧ (gc ≤ 1) ∧ (gs ≤ k)) := by
  refine Mz.ofZ (by decide) rfl (Nat.le_of_ble_eq_true rfl) ?_
  intro zp ze zR zs zm zargs zbelow zmeth zc zA zQ ZC ZE hRf hRc hRs hRl
  refine z_iload_n ZC 1 dJ7_copyOf_59c91_0 rfl rfl ?_
  refine z_aload_n ZC 0 dJ7_copyOf_59c91_1 rfl rfl ?_
  refine z_alen ZC 0 rfl dJ7_copyOf_59c91_2 ?_
  refine z_icmp_ne ZC 14 dJ7_copyOf_59c91_3 (by decide) (by omega) (by omega) (fun c_3 => ?_) (fun c_3 => ?_)
  · skip
    refine z_iload_n ZC 1 dJ7_copyOf_59c91_14 rfl rfl ?_
    refine z_newa ZC (n := k) uA_int dJ7_copyOf_59c91_15 (by rfl) (by omega) (by omega) (by omega) (fun q15 => ?_)
    refine z_astore_n ZC 2 dJ7_copyOf_59c91_17 rfl (by decide) ?_
    refine z_aload_n ZC 0 dJ7_copyOf_59c91_18 rfl rfl ?_
    refine z_iconst ZC dJ7_copyOf_59c91_19 ?_
    refine z_aload_n ZC 2 dJ7_copyOf_59c91_20 rfl rfl ?_
    refine z_iconst ZC dJ7_copyOf_59c91_21 ?_
    refine z_aload_n ZC 0 dJ7_copyOf_59c91_22 rfl rfl ?_
    refine z_alen ZC 0 rfl dJ7_copyOf_59c91_23 ?_
    refine z_iload_n ZC 1 dJ7_copyOf_59c91_24 rfl rfl ?_
    refine z_min ZC uM_J7_304 uZ_J9_min_7cf53 uN_J9 uC_J9_min_7cf53 dJ7_copyOf_59c91_25 (by omega) (by simp only [List.map_nil, List.map_cons, List.sum_nil, List.sum_cons, Value.category]; omega) (by omega) (by omega) (by omega) (by omega) ?_
    refine z_copy ZC uM_J7_150 uV_java_lang_System_arraycopy uZ_java_lang_System_arraycopy uN_J10 0 1 rfl rfl (by omega) (by omega) (by simp only [List.map_nil, List.map_cons, List.sum_nil, List.sum_cons, Value.category]; show _ + (5 + 2 + 11) ≤ _; omega) dJ7_copyOf_59c91_28 ?_
    refine z_aload_n ZC 2 dJ7_copyOf_59c91_31 rfl rfl ?_
    refine z_rep (g2 := cpz g (fun _ => 0) n) 1 rfl (fun j h1 h2 => by unfold cpz; rw [Int.min_eq_left (by omega)]) ?_
    refine z_aret ZC ZE (by first | exact Or.inl ⟨_, rfl⟩ | exact Or.inr ⟨_, rfl⟩) (by first | exact Or.inl rfl | exact Or.inr ⟨_, rfl⟩) dJ7_copyOf_59c91_32 (by omega) (by omega) (Nat.le_of_ble_eq_true rfl) ⟨q15, rfl, rfl, ?_, ?_⟩
    · skip
      omega
    · skip
      omega
  · skip
    omega

