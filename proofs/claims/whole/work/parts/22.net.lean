/-! ===== Net, Log ===== -/
set_option maxHeartbeats 4000000 in
set_option maxRecDepth 100000 in
theorem c_X4_isShut (l : Launch) (D : va_G) (K : tyK) (h : Nat) (a : Nat → Nat) (Ne : Bd) (road : Int) (hour : Int) (hr : 0 ≤ road ∧ road < 16) (h4 : -2147483648 ≤ Ne.1 4 road ∧ Ne.1 4 road < 2147483648) (h5 : -2147483648 ≤ Ne.1 5 road ∧ Ne.1 5 road < 2147483648) (hh : -2147483648 ≤ hour ∧ hour < 2147483648) : Mz l yX4_isShut cX4_isShut 3 (some .boolean) 0 0 0 0 D K [.ref h, vZ road, vZ hour] (wNe K h a Ne) (fun r w2 gc gs => ∃ (b : Int), r = some (vZ b) ∧ w2 = (wNe K h a Ne) ∧ gc = 0 ∧ gs = 0 ∧ ((b = 1 ∧ (Ne.1 4 road ≤ hour ∧ hour < Ne.1 5 road)) ∨ (b = 0 ∧ ¬ (Ne.1 4 road ≤ hour ∧ hour < Ne.1 5 road)))) := by
  refine Mz.ofZ (by decide) rfl (Nat.le_of_ble_eq_true rfl) ?_
  intro p e R s m args below meth c A Q C E hRf hRc hRs hRl
  refine z_iload_n C 2 dX4_isShut_0 rfl rfl ?_
  refine z_aload_n C 0 dX4_isShut_1 rfl rfl ?_
  refine z_get C inUX4 0 rfl rfl 4 (by decide) uF_X4_24 rfl dX4_isShut_2 ?_
  refine z_iload_n C 1 dX4_isShut_5 rfl rfl ?_
  refine z_iald C 5 rfl dX4_isShut_6 (by omega) ?_
  refine z_icmp_lt C 24 dX4_isShut_7 (by decide) (by omega) (by omega) (fun c_7 => ?_) (fun c_7 => ?_)
  · skip
    refine z_iconst C dX4_isShut_24 ?_
    refine z_zret C E dX4_isShut_25 (by omega) (by omega) (by omega) (Nat.le_of_ble_eq_true rfl) ⟨0, rfl, rfl, by omega, by omega, ?_⟩
    · skip
      omega
  · skip
    refine z_iload_n C 2 dX4_isShut_10 rfl rfl ?_
    refine z_aload_n C 0 dX4_isShut_11 rfl rfl ?_
    refine z_get C inUX4 0 rfl rfl 5 (by decide) uF_X4_27 rfl dX4_isShut_12 ?_
    refine z_iload_n C 1 dX4_isShut_15 rfl rfl ?_
    refine z_iald C 6 rfl dX4_isShut_16 (by omega) ?_
    refine z_icmp_ge C 24 dX4_isShut_17 (by decide) (by omega) (by omega) (fun c_17 => ?_) (fun c_17 => ?_)
    · skip
      refine z_iconst C dX4_isShut_24 ?_
      refine z_zret C E dX4_isShut_25 (by omega) (by omega) (by omega) (Nat.le_of_ble_eq_true rfl) ⟨0, rfl, rfl, by omega, by omega, ?_⟩
      · skip
        omega
    · skip
      refine z_iconst C dX4_isShut_20 ?_
      refine z_goto C 25 dX4_isShut_21 (by decide) ?_
      refine z_zret C E dX4_isShut_25 (by omega) (by omega) (by omega) (Nat.le_of_ble_eq_true rfl) ⟨1, rfl, rfl, by omega, by omega, ?_⟩
      · skip
        omega

set_option maxHeartbeats 4000000 in
set_option maxRecDepth 100000 in
theorem c_X4_lets (l : Launch) (D : va_G) (K : tyK) (h : Nat) (a : Nat → Nat) (Ne : Bd) (road : Int) (hour : Int) (hr : 0 ≤ road ∧ road < 16) (h4 : -2147483648 ≤ Ne.1 4 road ∧ Ne.1 4 road < 2147483648) (h5 : -2147483648 ≤ Ne.1 5 road ∧ Ne.1 5 road < 2147483648) (hh : -2147483648 ≤ hour ∧ hour < 2147483648) : Mz l yX4_lets cX4_lets 3 (some .int) 1 22 0 0 D K [.ref h, vZ road, vZ hour] (wNe K h a Ne) (fun r w2 gc gs => ∃ (v : Int), r = some (vZ v) ∧ w2 = (wNe K h a Ne) ∧ gc = 0 ∧ gs = 0 ∧ (v = if Ne.1 4 road ≤ hour ∧ hour < Ne.1 5 road then 0 else Ne.1 2 road)) := by
  refine Mz.ofZ (by decide) rfl (Nat.le_of_ble_eq_true rfl) ?_
  intro p e R s m args below meth c A Q C E hRf hRc hRs hRl
  refine z_aload_n C 0 dX4_lets_0 rfl rfl ?_
  refine z_iload_n C 1 dX4_lets_1 rfl rfl ?_
  refine z_iload_n C 2 dX4_lets_2 rfl rfl ?_
  refine z_callV C 2 (c_X4_isShut l D K h a Ne road hour (by omega) (by omega) (by omega) (by omega)) (gdV uM_X4_53 uI_X4_isShut uS_X4_isShut uN_X4 uC_X4_isShut) (by decide +kernel) rfl ⟨by omega, by omega⟩ ⟨by omega, by omega⟩ (by decide) [0, 1, 2, 3, 4, 5, 6, 7, 8] rfl (by decide) rfl rfl rfl rfl dX4_lets_3 (fun r w2 gc gs hp => ?_)
  obtain ⟨b_3, rfl, rfl, rfl, rfl, hb_3⟩ := hp
  refine z_ws (ws2 := [(h, .inr (4, [.ref (a 0), .ref (a 1), .ref (a 2), .ref (a 3), .ref (a 4), .ref (a 5), .ref (a 6), .ref (a 7), vZ (Ne.2 8)])), ((a 0), .inl (K.1, 16, .inl (ar (Ne.1 0)))), ((a 1), .inl (K.1, 16, .inl (ar (Ne.1 1)))), ((a 2), .inl (K.1, 16, .inl (ar (Ne.1 2)))), ((a 3), .inl (K.1, 16, .inl (ar (Ne.1 3)))), ((a 4), .inl (K.1, 16, .inl (ar (Ne.1 4)))), ((a 5), .inl (K.1, 16, .inl (ar (Ne.1 5)))), ((a 6), .inl (K.1, 100, .inl (ar (Ne.1 6)))), ((a 7), .inl (K.1, 100, .inl (ar (Ne.1 7))))]) rfl ?_
  refine z_if_eq C 13 dX4_lets_6 (by decide) (by omega) (fun c_6 => ?_) (fun c_6 => ?_)
  · skip
    refine z_aload_n C 0 dX4_lets_13 rfl rfl ?_
    refine z_get C inUX4 0 rfl rfl 2 (by decide) uF_X4_18 rfl dX4_lets_14 ?_
    refine z_iload_n C 1 dX4_lets_17 rfl rfl ?_
    refine z_iald C 3 rfl dX4_lets_18 (by omega) ?_
    refine z_iret C E dX4_lets_19 (by omega) (by omega) (Nat.le_of_ble_eq_true rfl) ⟨((Ne.1 2) road), rfl, rfl, by omega, by omega, ?_⟩
    · skip
      rw [if_neg (by omega)]
  · skip
    refine z_iconst C dX4_lets_9 ?_
    refine z_goto C 19 dX4_lets_10 (by decide) ?_
    refine z_iret C E dX4_lets_19 (by omega) (by omega) (Nat.le_of_ble_eq_true rfl) ⟨0, rfl, rfl, by omega, by omega, ?_⟩
    · skip
      rw [if_pos (by omega)]

set_option maxHeartbeats 4000000 in
set_option maxRecDepth 100000 in
theorem c_X4_shorten (l : Launch) (D : va_G) (K : tyK) (h : Nat) (a : Nat → Nat) (Ne : Bd) (start : Int) (fin : Int) (takes : Int) (hs : 0 ≤ start ∧ start < 10) (he : 0 ≤ fin ∧ fin < 10) (ht : 1 ≤ takes ∧ takes ≤ 9) (hL : ∀ k : Int, 0 ≤ k → k < 100 → -1 ≤ Ne.1 6 k ∧ Ne.1 6 k ≤ 10000) : Mz l yX4_shorten cX4_shorten 9 (none) 1 22 0 0 D K [.ref h, vZ start, vZ fin, vZ takes] (wNe K h a Ne) (fun r w2 gc gs => ∃ (L2 : Int → Int), r = none ∧ w2 = (wNe K h a ((upf Ne.1 6 L2), Ne.2)) ∧ gc = 0 ∧ gs = 0 ∧ (∀ i j : Int, 0 ≤ i → i < 10 → 0 ≤ j → j < 10 → L2 (i * 10 + j) = shv (Ne.1 6) start fin takes i j)) := by
  refine Mz.ofZ (by decide) rfl (Nat.le_of_ble_eq_true rfl) ?_
  intro p e R s m args below meth c A Q C E hRf hRc hRs hRl
  refine z_iconst C dX4_shorten_0 ?_
  refine z_istore C dX4_shorten_1 (by decide) ?_
  have lp_3 : ∀ (n_3 : Nat) (i : Int) (M : Int → Int), (0 ≤ i ∧ i ≤ 10) → (∀ x y : Int, 0 ≤ x → x < 10 → 0 ≤ y → y < 10 → (x < i → M (x * 10 + y) = shv (Ne.1 6) start fin takes x y) ∧ (i ≤ x → M (x * 10 + y) = Ne.1 6 (x * 10 + y))) → ((10 - i).toNat) < n_3 → Zw p l e R s m args below meth c D A 9 Q 0 0 ([(h, .inr (4, [.ref (a 0), .ref (a 1), .ref (a 2), .ref (a 3), .ref (a 4), .ref (a 5), .ref (a 6), .ref (a 7), vZ (Ne.2 8)])), ((a 0), .inl (K.1, 16, .inl (ar (Ne.1 0)))), ((a 1), .inl (K.1, 16, .inl (ar (Ne.1 1)))), ((a 2), .inl (K.1, 16, .inl (ar (Ne.1 2)))), ((a 3), .inl (K.1, 16, .inl (ar (Ne.1 3)))), ((a 4), .inl (K.1, 16, .inl (ar (Ne.1 4)))), ((a 5), .inl (K.1, 16, .inl (ar (Ne.1 5)))), ((a 6), .inl (K.1, 100, .inl (ar M))), ((a 7), .inl (K.1, 100, .inl (ar (Ne.1 7))))]) 3 [(0, .ref h), (1, vZ start), (2, vZ fin), (3, vZ takes), (4, vZ i)] [] := by
    intro n_3
    induction n_3 with
    | zero => intro i M hi hM hm_3; exact absurd hm_3 (Nat.not_lt_zero _)
    | succ n_3 ih_3 =>
      intro i M hi hM hm_3
      refine z_iload C dX4_shorten_3 rfl ?_
      refine z_bipush C dX4_shorten_5 (by decide) ?_
      refine z_icmp_ge C 110 dX4_shorten_7 (by decide) (by omega) (by omega) (fun c_7 => ?_) (fun c_7 => ?_)
      · skip
        refine z_vret C E dX4_shorten_110 (by omega) (by omega) (Nat.le_of_ble_eq_true rfl) ⟨M, rfl, rfl, by omega, by omega, ?_⟩
        · skip
          intro x y h1 h2 h3 h4
          exact (hM x y h1 h2 h3 h4).1 (by omega)
      · skip
        refine z_aload_n C 0 dX4_shorten_10 rfl rfl ?_
        refine z_iload C dX4_shorten_11 rfl ?_
        refine z_iload_n C 1 dX4_shorten_13 rfl rfl ?_
        refine z_callV C 2 (c_X4_leastHours l D K h a ((upf Ne.1 6 M), Ne.2) i start (by omega) (by omega)) (gdV uM_X4_57 uI_X4_leastHours uS_X4_leastHours uN_X4 uC_X4_leastHours) (by decide +kernel) rfl ⟨by omega, by omega⟩ ⟨by omega, by omega⟩ (by decide) [0, 1, 2, 3, 4, 5, 6, 7, 8] rfl (by decide) rfl rfl rfl rfl dX4_shorten_14 (fun r w2 gc gs hp => ?_)
        obtain ⟨rfl, rfl, rfl, rfl⟩ := hp
        refine z_top (y := (M (i * 10 + start))) rfl ?_
        refine z_ws (ws2 := [(h, .inr (4, [.ref (a 0), .ref (a 1), .ref (a 2), .ref (a 3), .ref (a 4), .ref (a 5), .ref (a 6), .ref (a 7), vZ (Ne.2 8)])), ((a 0), .inl (K.1, 16, .inl (ar (Ne.1 0)))), ((a 1), .inl (K.1, 16, .inl (ar (Ne.1 1)))), ((a 2), .inl (K.1, 16, .inl (ar (Ne.1 2)))), ((a 3), .inl (K.1, 16, .inl (ar (Ne.1 3)))), ((a 4), .inl (K.1, 16, .inl (ar (Ne.1 4)))), ((a 5), .inl (K.1, 16, .inl (ar (Ne.1 5)))), ((a 6), .inl (K.1, 100, .inl (ar M))), ((a 7), .inl (K.1, 100, .inl (ar (Ne.1 7))))]) rfl ?_
        refine z_istore C dX4_shorten_17 (by decide) ?_
        refine z_iconst C dX4_shorten_19 ?_
        refine z_istore C dX4_shorten_20 (by decide) ?_
        have lp_22 : ∀ (n_22 : Nat) (j : Int) (N : Int → Int), (0 ≤ j ∧ j ≤ 10) → (∀ x y : Int, 0 ≤ x → x < 10 → 0 ≤ y → y < 10 → (x < i → N (x * 10 + y) = shv (Ne.1 6) start fin takes x y) ∧ (i < x → N (x * 10 + y) = Ne.1 6 (x * 10 + y)) ∧ (x = i → y < j → N (x * 10 + y) = shv (Ne.1 6) start fin takes x y) ∧ (x = i → j ≤ y → N (x * 10 + y) = Ne.1 6 (x * 10 + y))) → ((10 - j).toNat) < n_22 → Zw p l e R s m args below meth c D A 9 Q (0 + 0) (0 + 0) ([(h, .inr (4, [.ref (a 0), .ref (a 1), .ref (a 2), .ref (a 3), .ref (a 4), .ref (a 5), .ref (a 6), .ref (a 7), vZ (Ne.2 8)])), ((a 0), .inl (K.1, 16, .inl (ar (Ne.1 0)))), ((a 1), .inl (K.1, 16, .inl (ar (Ne.1 1)))), ((a 2), .inl (K.1, 16, .inl (ar (Ne.1 2)))), ((a 3), .inl (K.1, 16, .inl (ar (Ne.1 3)))), ((a 4), .inl (K.1, 16, .inl (ar (Ne.1 4)))), ((a 5), .inl (K.1, 16, .inl (ar (Ne.1 5)))), ((a 6), .inl (K.1, 100, .inl (ar N))), ((a 7), .inl (K.1, 100, .inl (ar (Ne.1 7))))]) 22 [(0, .ref h), (1, vZ start), (2, vZ fin), (3, vZ takes), (4, vZ i), (5, vZ (M (i * 10 + start))), (6, vZ j)] [] := by
          intro n_22
          induction n_22 with
          | zero => intro j N hj hN hm_22; exact absurd hm_22 (Nat.not_lt_zero _)
          | succ n_22 ih_22 =>
            intro j N hj hN hm_22
            refine z_iload C dX4_shorten_22 rfl ?_
            refine z_bipush C dX4_shorten_24 (by decide) ?_
            refine z_icmp_ge C 104 dX4_shorten_26 (by decide) (by omega) (by omega) (fun c_26 => ?_) (fun c_26 => ?_)
            · skip
              refine z_iinc C dX4_shorten_104 rfl (by decide) ?_
              refine z_goto C 3 dX4_shorten_107 (by decide) ?_
              refine z_ws (ws2 := [(h, .inr (4, [.ref (a 0), .ref (a 1), .ref (a 2), .ref (a 3), .ref (a 4), .ref (a 5), .ref (a 6), .ref (a 7), vZ (Ne.2 8)])), ((a 0), .inl (K.1, 16, .inl (ar (Ne.1 0)))), ((a 1), .inl (K.1, 16, .inl (ar (Ne.1 1)))), ((a 2), .inl (K.1, 16, .inl (ar (Ne.1 2)))), ((a 3), .inl (K.1, 16, .inl (ar (Ne.1 3)))), ((a 4), .inl (K.1, 16, .inl (ar (Ne.1 4)))), ((a 5), .inl (K.1, 16, .inl (ar (Ne.1 5)))), ((a 6), .inl (K.1, 100, .inl (ar N))), ((a 7), .inl (K.1, 100, .inl (ar (Ne.1 7))))]) rfl (z_lv (lv2 := [(0, .ref h), (1, vZ start), (2, vZ fin), (3, vZ takes), (4, vZ (i + 1))]) ⟨rfl, rfl, rfl, rfl, rfl, trivial⟩ ?_)
              refine ih_3 (i + 1) N ?_ ?_ (by omega)
              · skip
                omega
              · skip
                intro x y h1 h2 h3 h4
                have q := hN x y h1 h2 h3 h4
                have q3 := hM i y (by omega) (by omega) h3 h4
                have hb0 := hM i start (by omega) (by omega) (by omega) (by omega)
                refine ⟨fun z => ?_, fun z => (q.2.1 (by omega))⟩
                rcases Int.lt_or_le x i with z2 | z2
                · exact q.1 z2
                · have z3 : x = i := by omega
                  subst z3
                  rcases Int.lt_or_le y j with z4 | z4
                  · exact q.2.2.1 rfl z4
                  · first
                      | omega
                      | (rw [q.2.2.2 rfl z4]; unfold shv; rw [if_neg]; rintro ⟨w1, -⟩; exact w1 (by rw [← hb0.2 (by omega)]; assumption))
            · skip
              have hB0 := (hM i start (by omega) (by omega) (by omega) (by omega)).2 (by omega)
              have hBr := hL (i * 10 + start) (by omega) (by omega)
              rw [← hB0] at hBr
              refine z_iload C dX4_shorten_29 rfl ?_
              refine z_iconst C dX4_shorten_31 ?_
              refine z_icmp_eq C 104 dX4_shorten_32 (by decide) (by omega) (by omega) (fun c_32 => ?_) (fun c_32 => ?_)
              · skip
                refine z_iinc C dX4_shorten_104 rfl (by decide) ?_
                refine z_goto C 3 dX4_shorten_107 (by decide) ?_
                refine z_ws (ws2 := [(h, .inr (4, [.ref (a 0), .ref (a 1), .ref (a 2), .ref (a 3), .ref (a 4), .ref (a 5), .ref (a 6), .ref (a 7), vZ (Ne.2 8)])), ((a 0), .inl (K.1, 16, .inl (ar (Ne.1 0)))), ((a 1), .inl (K.1, 16, .inl (ar (Ne.1 1)))), ((a 2), .inl (K.1, 16, .inl (ar (Ne.1 2)))), ((a 3), .inl (K.1, 16, .inl (ar (Ne.1 3)))), ((a 4), .inl (K.1, 16, .inl (ar (Ne.1 4)))), ((a 5), .inl (K.1, 16, .inl (ar (Ne.1 5)))), ((a 6), .inl (K.1, 100, .inl (ar N))), ((a 7), .inl (K.1, 100, .inl (ar (Ne.1 7))))]) rfl (z_lv (lv2 := [(0, .ref h), (1, vZ start), (2, vZ fin), (3, vZ takes), (4, vZ (i + 1))]) ⟨rfl, rfl, rfl, rfl, rfl, trivial⟩ ?_)
                refine ih_3 (i + 1) N ?_ ?_ (by omega)
                · skip
                  omega
                · skip
                  intro x y h1 h2 h3 h4
                  have q := hN x y h1 h2 h3 h4
                  have q3 := hM i y (by omega) (by omega) h3 h4
                  have hb0 := hM i start (by omega) (by omega) (by omega) (by omega)
                  refine ⟨fun z => ?_, fun z => (q.2.1 (by omega))⟩
                  rcases Int.lt_or_le x i with z2 | z2
                  · exact q.1 z2
                  · have z3 : x = i := by omega
                    subst z3
                    rcases Int.lt_or_le y j with z4 | z4
                    · exact q.2.2.1 rfl z4
                    · first
                        | omega
                        | (rw [q.2.2.2 rfl z4]; unfold shv; rw [if_neg]; rintro ⟨w1, -⟩; exact w1 (by rw [← hb0.2 (by omega)]; assumption))
              · skip
                refine z_aload_n C 0 dX4_shorten_35 rfl rfl ?_
                refine z_iload_n C 2 dX4_shorten_36 rfl rfl ?_
                refine z_iload C dX4_shorten_37 rfl ?_
                refine z_callV C 2 (c_X4_leastHours l D K h a ((upf Ne.1 6 N), Ne.2) fin j (by omega) (by omega)) (gdV uM_X4_57 uI_X4_leastHours uS_X4_leastHours uN_X4 uC_X4_leastHours) (by decide +kernel) rfl ⟨by omega, by omega⟩ ⟨by omega, by omega⟩ (by decide) [0, 1, 2, 3, 4, 5, 6, 7, 8] rfl (by decide) rfl rfl rfl rfl dX4_shorten_39 (fun r w2 gc gs hp => ?_)
                obtain ⟨rfl, rfl, rfl, rfl⟩ := hp
                refine z_top (y := (N (fin * 10 + j))) rfl ?_
                refine z_ws (ws2 := [(h, .inr (4, [.ref (a 0), .ref (a 1), .ref (a 2), .ref (a 3), .ref (a 4), .ref (a 5), .ref (a 6), .ref (a 7), vZ (Ne.2 8)])), ((a 0), .inl (K.1, 16, .inl (ar (Ne.1 0)))), ((a 1), .inl (K.1, 16, .inl (ar (Ne.1 1)))), ((a 2), .inl (K.1, 16, .inl (ar (Ne.1 2)))), ((a 3), .inl (K.1, 16, .inl (ar (Ne.1 3)))), ((a 4), .inl (K.1, 16, .inl (ar (Ne.1 4)))), ((a 5), .inl (K.1, 16, .inl (ar (Ne.1 5)))), ((a 6), .inl (K.1, 100, .inl (ar N))), ((a 7), .inl (K.1, 100, .inl (ar (Ne.1 7))))]) rfl ?_
                refine z_istore C dX4_shorten_42 (by decide) ?_
                refine z_aload_n C 0 dX4_shorten_44 rfl rfl ?_
                refine z_iload C dX4_shorten_45 rfl ?_
                refine z_iload C dX4_shorten_47 rfl ?_
                refine z_callV C 2 (c_X4_leastHours l D K h a ((upf Ne.1 6 N), Ne.2) i j (by omega) (by omega)) (gdV uM_X4_57 uI_X4_leastHours uS_X4_leastHours uN_X4 uC_X4_leastHours) (by decide +kernel) rfl ⟨by omega, by omega⟩ ⟨by omega, by omega⟩ (by decide) [0, 1, 2, 3, 4, 5, 6, 7, 8] rfl (by decide) rfl rfl rfl rfl dX4_shorten_49 (fun r w2 gc gs hp => ?_)
                obtain ⟨rfl, rfl, rfl, rfl⟩ := hp
                refine z_top (y := (N (i * 10 + j))) rfl ?_
                refine z_ws (ws2 := [(h, .inr (4, [.ref (a 0), .ref (a 1), .ref (a 2), .ref (a 3), .ref (a 4), .ref (a 5), .ref (a 6), .ref (a 7), vZ (Ne.2 8)])), ((a 0), .inl (K.1, 16, .inl (ar (Ne.1 0)))), ((a 1), .inl (K.1, 16, .inl (ar (Ne.1 1)))), ((a 2), .inl (K.1, 16, .inl (ar (Ne.1 2)))), ((a 3), .inl (K.1, 16, .inl (ar (Ne.1 3)))), ((a 4), .inl (K.1, 16, .inl (ar (Ne.1 4)))), ((a 5), .inl (K.1, 16, .inl (ar (Ne.1 5)))), ((a 6), .inl (K.1, 100, .inl (ar N))), ((a 7), .inl (K.1, 100, .inl (ar (Ne.1 7))))]) rfl ?_
                refine z_istore C dX4_shorten_52 (by decide) ?_
                have hOj := (hN i j (by omega) (by omega) (by omega) (by omega)).2.2.2 rfl (by omega)
                have hEj : N (fin * 10 + j) = Ne.1 6 (fin * 10 + j) := by
                  have q := hN fin j (by omega) (by omega) (by omega) (by omega)
                  rcases Int.lt_trichotomy fin i with z | z | z
                  · rw [q.1 z]; exact shv_end (by omega) hL hs he (by omega)
                  · exact q.2.2.2 z (by omega)
                  · exact q.2.1 z
                have hEr := hL (fin * 10 + j) (by omega) (by omega)
                have hOr := hL (i * 10 + j) (by omega) (by omega)
                rw [← hEj] at hEr
                rw [← hOj] at hOr
                refine z_iload C dX4_shorten_54 rfl ?_
                refine z_iconst C dX4_shorten_56 ?_
                refine z_icmp_eq C 98 dX4_shorten_57 (by decide) (rg_1 hEr) (rg_m1) (fun c_57 => ?_) (fun c_57 => ?_)
                · skip
                  refine z_iinc C dX4_shorten_98 rfl (by decide) ?_
                  refine z_goto C 22 dX4_shorten_101 (by decide) ?_
                  refine z_ws (ws2 := [(h, .inr (4, [.ref (a 0), .ref (a 1), .ref (a 2), .ref (a 3), .ref (a 4), .ref (a 5), .ref (a 6), .ref (a 7), vZ (Ne.2 8)])), ((a 0), .inl (K.1, 16, .inl (ar (Ne.1 0)))), ((a 1), .inl (K.1, 16, .inl (ar (Ne.1 1)))), ((a 2), .inl (K.1, 16, .inl (ar (Ne.1 2)))), ((a 3), .inl (K.1, 16, .inl (ar (Ne.1 3)))), ((a 4), .inl (K.1, 16, .inl (ar (Ne.1 4)))), ((a 5), .inl (K.1, 16, .inl (ar (Ne.1 5)))), ((a 6), .inl (K.1, 100, .inl (ar N))), ((a 7), .inl (K.1, 100, .inl (ar (Ne.1 7))))]) rfl (z_lv (lv2 := [(0, .ref h), (1, vZ start), (2, vZ fin), (3, vZ takes), (4, vZ i), (5, vZ (M (i * 10 + start))), (6, vZ (j + 1))]) ⟨rfl, rfl, rfl, rfl, rfl, rfl, rfl, trivial⟩ ?_)
                  refine ih_22 (j + 1) N ?_ ?_ (by omega)
                  · skip
                    omega
                  · skip
                    intro x y h1 h2 h3 h4
                    have q := hN x y h1 h2 h3 h4
                    refine ⟨q.1, q.2.1, fun z1 z2 => ?_, fun z1 z2 => q.2.2.2 z1 (by omega)⟩
                    rcases Int.lt_or_le y j with z3 | z3
                    · exact q.2.2.1 z1 z3
                    · have z4 : y = j := by omega
                      subst z4; subst z1
                      rw [q.2.2.2 rfl (Int.le_refl _)]
                      unfold shv
                      rw [if_neg]
                      rintro ⟨-, w2, -⟩
                      exact w2 (by rw [← hEj]; exact c_57)
                · skip
                  refine z_iload C dX4_shorten_60 rfl ?_
                  refine z_iconst C dX4_shorten_62 ?_
                  refine z_icmp_eq C 78 dX4_shorten_63 (by decide) (rg_1 hOr) (rg_m1) (fun c_63 => ?_) (fun c_63 => ?_)
                  · skip
                    refine z_aload_n C 0 dX4_shorten_78 rfl rfl ?_
                    refine z_get C inUX4 0 rfl rfl 6 (by decide) uF_X4_30 rfl dX4_shorten_79 ?_
                    refine z_iload C dX4_shorten_82 rfl ?_
                    refine z_bipush C dX4_shorten_84 (by decide) ?_
                    refine z_imul C dX4_shorten_86 ?_
                    refine z_iload C dX4_shorten_87 rfl ?_
                    refine z_iadd C dX4_shorten_89 ?_
                    refine z_iload C dX4_shorten_90 rfl ?_
                    refine z_iload_n C 3 dX4_shorten_92 rfl rfl ?_
                    refine z_iadd C dX4_shorten_93 ?_
                    refine z_iload C dX4_shorten_94 rfl ?_
                    refine z_iadd C dX4_shorten_96 ?_
                    refine z_iast C 7 rfl dX4_shorten_97 (ix10 ⟨hi.1, c_7⟩ ⟨hj.1, c_26⟩) ?_
                    refine z_iinc C dX4_shorten_98 rfl (by decide) ?_
                    refine z_goto C 22 dX4_shorten_101 (by decide) ?_
                    refine z_ws (ws2 := [(h, .inr (4, [.ref (a 0), .ref (a 1), .ref (a 2), .ref (a 3), .ref (a 4), .ref (a 5), .ref (a 6), .ref (a 7), vZ (Ne.2 8)])), ((a 0), .inl (K.1, 16, .inl (ar (Ne.1 0)))), ((a 1), .inl (K.1, 16, .inl (ar (Ne.1 1)))), ((a 2), .inl (K.1, 16, .inl (ar (Ne.1 2)))), ((a 3), .inl (K.1, 16, .inl (ar (Ne.1 3)))), ((a 4), .inl (K.1, 16, .inl (ar (Ne.1 4)))), ((a 5), .inl (K.1, 16, .inl (ar (Ne.1 5)))), ((a 6), .inl (K.1, 100, .inl (ar (upz N ((i * 10) + j) (((M (i * 10 + start)) + takes) + (N (fin * 10 + j))))))), ((a 7), .inl (K.1, 100, .inl (ar (Ne.1 7))))]) rfl (z_lv (lv2 := [(0, .ref h), (1, vZ start), (2, vZ fin), (3, vZ takes), (4, vZ i), (5, vZ (M (i * 10 + start))), (6, vZ (j + 1))]) ⟨rfl, rfl, rfl, rfl, rfl, rfl, rfl, trivial⟩ ?_)
                    refine ih_22 (j + 1) (upz N ((i * 10) + j) (((M (i * 10 + start)) + takes) + (N (fin * 10 + j)))) ?_ ?_ (by omega)
                    · skip
                      omega
                    · skip
                      intro x y h1 h2 h3 h4
                      have q := hN x y h1 h2 h3 h4
                      have ex := ix10e ⟨h1, h2⟩ ⟨h3, h4⟩ ⟨hi.1, c_7⟩ ⟨hj.1, c_26⟩
                      unfold upz
                      by_cases z : x = i ∧ y = j
                      · rw [if_pos (ex.mpr z)]
                        obtain ⟨z1, z2⟩ := z
                        subst z1; subst z2
                        refine ⟨fun z => by omega, fun z => by omega, fun _ _ => ?_, fun _ z => by omega⟩
                        unfold shv
                        rw [← hB0, ← hEj, ← hOj, if_pos]
                        exact ⟨c_32, c_57, Or.inl c_63⟩
                      · rw [if_neg (fun q2 => z (ex.mp q2))]
                        exact ⟨q.1, q.2.1, fun z1 z2 => q.2.2.1 z1 (by omega), fun z1 z2 => q.2.2.2 z1 (by omega)⟩
                  · skip
                    refine z_iload C dX4_shorten_66 rfl ?_
                    refine z_iload_n C 3 dX4_shorten_68 rfl rfl ?_
                    refine z_iadd C dX4_shorten_69 ?_
                    refine z_iload C dX4_shorten_70 rfl ?_
                    refine z_iadd C dX4_shorten_72 ?_
                    refine z_iload C dX4_shorten_73 rfl ?_
                    refine z_icmp_ge C 98 dX4_shorten_75 (by decide) (rg3 hBr ht hEr) (rg_1 hOr) (fun c_75 => ?_) (fun c_75 => ?_)
                    · skip
                      refine z_iinc C dX4_shorten_98 rfl (by decide) ?_
                      refine z_goto C 22 dX4_shorten_101 (by decide) ?_
                      refine z_ws (ws2 := [(h, .inr (4, [.ref (a 0), .ref (a 1), .ref (a 2), .ref (a 3), .ref (a 4), .ref (a 5), .ref (a 6), .ref (a 7), vZ (Ne.2 8)])), ((a 0), .inl (K.1, 16, .inl (ar (Ne.1 0)))), ((a 1), .inl (K.1, 16, .inl (ar (Ne.1 1)))), ((a 2), .inl (K.1, 16, .inl (ar (Ne.1 2)))), ((a 3), .inl (K.1, 16, .inl (ar (Ne.1 3)))), ((a 4), .inl (K.1, 16, .inl (ar (Ne.1 4)))), ((a 5), .inl (K.1, 16, .inl (ar (Ne.1 5)))), ((a 6), .inl (K.1, 100, .inl (ar N))), ((a 7), .inl (K.1, 100, .inl (ar (Ne.1 7))))]) rfl (z_lv (lv2 := [(0, .ref h), (1, vZ start), (2, vZ fin), (3, vZ takes), (4, vZ i), (5, vZ (M (i * 10 + start))), (6, vZ (j + 1))]) ⟨rfl, rfl, rfl, rfl, rfl, rfl, rfl, trivial⟩ ?_)
                      refine ih_22 (j + 1) N ?_ ?_ (by omega)
                      · skip
                        omega
                      · skip
                        intro x y h1 h2 h3 h4
                        have q := hN x y h1 h2 h3 h4
                        refine ⟨q.1, q.2.1, fun z1 z2 => ?_, fun z1 z2 => q.2.2.2 z1 (by omega)⟩
                        rcases Int.lt_or_le y j with z3 | z3
                        · exact q.2.2.1 z1 z3
                        · have z4 : y = j := by omega
                          subst z4; subst z1
                          rw [q.2.2.2 rfl (Int.le_refl _)]
                          unfold shv
                          rw [if_neg]
                          rintro ⟨-, -, w3 | w3⟩
                          · exact c_63 (by rw [hOj]; exact w3)
                          · rw [← hB0, ← hEj, ← hOj] at w3; omega
                    · skip
                      refine z_aload_n C 0 dX4_shorten_78 rfl rfl ?_
                      refine z_get C inUX4 0 rfl rfl 6 (by decide) uF_X4_30 rfl dX4_shorten_79 ?_
                      refine z_iload C dX4_shorten_82 rfl ?_
                      refine z_bipush C dX4_shorten_84 (by decide) ?_
                      refine z_imul C dX4_shorten_86 ?_
                      refine z_iload C dX4_shorten_87 rfl ?_
                      refine z_iadd C dX4_shorten_89 ?_
                      refine z_iload C dX4_shorten_90 rfl ?_
                      refine z_iload_n C 3 dX4_shorten_92 rfl rfl ?_
                      refine z_iadd C dX4_shorten_93 ?_
                      refine z_iload C dX4_shorten_94 rfl ?_
                      refine z_iadd C dX4_shorten_96 ?_
                      refine z_iast C 7 rfl dX4_shorten_97 (ix10 ⟨hi.1, c_7⟩ ⟨hj.1, c_26⟩) ?_
                      refine z_iinc C dX4_shorten_98 rfl (by decide) ?_
                      refine z_goto C 22 dX4_shorten_101 (by decide) ?_
                      refine z_ws (ws2 := [(h, .inr (4, [.ref (a 0), .ref (a 1), .ref (a 2), .ref (a 3), .ref (a 4), .ref (a 5), .ref (a 6), .ref (a 7), vZ (Ne.2 8)])), ((a 0), .inl (K.1, 16, .inl (ar (Ne.1 0)))), ((a 1), .inl (K.1, 16, .inl (ar (Ne.1 1)))), ((a 2), .inl (K.1, 16, .inl (ar (Ne.1 2)))), ((a 3), .inl (K.1, 16, .inl (ar (Ne.1 3)))), ((a 4), .inl (K.1, 16, .inl (ar (Ne.1 4)))), ((a 5), .inl (K.1, 16, .inl (ar (Ne.1 5)))), ((a 6), .inl (K.1, 100, .inl (ar (upz N ((i * 10) + j) (((M (i * 10 + start)) + takes) + (N (fin * 10 + j))))))), ((a 7), .inl (K.1, 100, .inl (ar (Ne.1 7))))]) rfl (z_lv (lv2 := [(0, .ref h), (1, vZ start), (2, vZ fin), (3, vZ takes), (4, vZ i), (5, vZ (M (i * 10 + start))), (6, vZ (j + 1))]) ⟨rfl, rfl, rfl, rfl, rfl, rfl, rfl, trivial⟩ ?_)
                      refine ih_22 (j + 1) (upz N ((i * 10) + j) (((M (i * 10 + start)) + takes) + (N (fin * 10 + j)))) ?_ ?_ (by omega)
                      · skip
                        omega
                      · skip
                        intro x y h1 h2 h3 h4
                        have q := hN x y h1 h2 h3 h4
                        have ex := ix10e ⟨h1, h2⟩ ⟨h3, h4⟩ ⟨hi.1, c_7⟩ ⟨hj.1, c_26⟩
                        unfold upz
                        by_cases z : x = i ∧ y = j
                        · rw [if_pos (ex.mpr z)]
                          obtain ⟨z1, z2⟩ := z
                          subst z1; subst z2
                          refine ⟨fun z => by omega, fun z => by omega, fun _ _ => ?_, fun _ z => by omega⟩
                          unfold shv
                          rw [← hB0, ← hEj, ← hOj, if_pos]
                          exact ⟨c_32, c_57, Or.inr c_75⟩
                        · rw [if_neg (fun q2 => z (ex.mp q2))]
                          exact ⟨q.1, q.2.1, fun z1 z2 => q.2.2.1 z1 (by omega), fun z1 z2 => q.2.2.2 z1 (by omega)⟩
        refine z_ws (ws2 := [(h, .inr (4, [.ref (a 0), .ref (a 1), .ref (a 2), .ref (a 3), .ref (a 4), .ref (a 5), .ref (a 6), .ref (a 7), vZ (Ne.2 8)])), ((a 0), .inl (K.1, 16, .inl (ar (Ne.1 0)))), ((a 1), .inl (K.1, 16, .inl (ar (Ne.1 1)))), ((a 2), .inl (K.1, 16, .inl (ar (Ne.1 2)))), ((a 3), .inl (K.1, 16, .inl (ar (Ne.1 3)))), ((a 4), .inl (K.1, 16, .inl (ar (Ne.1 4)))), ((a 5), .inl (K.1, 16, .inl (ar (Ne.1 5)))), ((a 6), .inl (K.1, 100, .inl (ar M))), ((a 7), .inl (K.1, 100, .inl (ar (Ne.1 7))))]) rfl (z_lv (lv2 := [(0, .ref h), (1, vZ start), (2, vZ fin), (3, vZ takes), (4, vZ i), (5, vZ (M (i * 10 + start))), (6, vZ 0)]) ⟨rfl, rfl, rfl, rfl, rfl, rfl, rfl, trivial⟩ ?_)
        refine lp_22 _ 0 M ?_ ?_ (Nat.lt_succ_self _)
        · skip
          omega
        · skip
          intro x y h1 h2 h3 h4
          have q := hM x y h1 h2 h3 h4
          exact ⟨q.1, fun z => q.2 (by omega), fun z1 z2 => by omega, fun z1 z2 => q.2 (by omega)⟩
  refine z_ws (ws2 := [(h, .inr (4, [.ref (a 0), .ref (a 1), .ref (a 2), .ref (a 3), .ref (a 4), .ref (a 5), .ref (a 6), .ref (a 7), vZ (Ne.2 8)])), ((a 0), .inl (K.1, 16, .inl (ar (Ne.1 0)))), ((a 1), .inl (K.1, 16, .inl (ar (Ne.1 1)))), ((a 2), .inl (K.1, 16, .inl (ar (Ne.1 2)))), ((a 3), .inl (K.1, 16, .inl (ar (Ne.1 3)))), ((a 4), .inl (K.1, 16, .inl (ar (Ne.1 4)))), ((a 5), .inl (K.1, 16, .inl (ar (Ne.1 5)))), ((a 6), .inl (K.1, 100, .inl (ar (Ne.1 6)))), ((a 7), .inl (K.1, 100, .inl (ar (Ne.1 7))))]) rfl (z_lv (lv2 := [(0, .ref h), (1, vZ start), (2, vZ fin), (3, vZ takes), (4, vZ 0)]) ⟨rfl, rfl, rfl, rfl, rfl, trivial⟩ ?_)
  refine lp_3 _ 0 (Ne.1 6) ?_ ?_ (Nat.lt_succ_self _)
  · skip
    omega
  · skip
    intro x y h1 h2 h3 h4
    exact ⟨fun q => by omega, fun _ => rfl⟩

