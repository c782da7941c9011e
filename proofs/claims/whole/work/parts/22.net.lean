/-! ===== Net, Log ===== -/
set_option maxHeartbeats 4000000 in
set_option maxRecDepth 100000 in
theorem c_X4_isShut (zl : Launch) (D : va_G) (K : tyK) (h : Nat) (a : Nat → Nat) (Ne : Bd) (road : Int) (hour : Int) (hr : 0 ≤ road ∧ road < 16) (h4 : -2147483648 ≤ Ne.1 4 road ∧ Ne.1 4 road < 2147483648) (h5 : -2147483648 ≤ Ne.1 5 road ∧ Ne.1 5 road < 2147483648) (hh : -2147483648 ≤ hour ∧ hour < 2147483648) : Mz zl yX4_isShut cX4_isShut 3 (some .boolean) 0 0 0 0 D K [.ref h, vZ road, vZ hour] (wNe K h a Ne) (fun r_ w2_ gc gs => ∃ (b : Int), r_ = some (vZ b) ∧ w2_ = (wNe K h a Ne) ∧ gc = 0 ∧ gs = 0 ∧ ((b = 1 ∧ (Ne.1 4 road ≤ hour ∧ hour < Ne.1 5 road)) ∨ (b = 0 ∧ ¬ (Ne.1 4 road ≤ hour ∧ hour < Ne.1 5 road)))) := by
  refine Mz.ofZ (by decide) rfl (Nat.le_of_ble_eq_true rfl) ?_
  intro zp ze zR zs zm zargs zbelow zmeth zc zA zQ ZC ZE hRf hRc hRs hRl
  refine z_iload_n ZC 2 dX4_isShut_0 rfl rfl ?_
  refine z_aload_n ZC 0 dX4_isShut_1 rfl rfl ?_
  refine z_get ZC inUX4 0 rfl rfl 4 (by decide) uF_X4_24 rfl dX4_isShut_2 ?_
  refine z_iload_n ZC 1 dX4_isShut_5 rfl rfl ?_
  refine z_iald ZC 5 rfl dX4_isShut_6 (by omega) ?_
  refine z_icmp_lt ZC 24 dX4_isShut_7 (by decide) (by omega) (by omega) (fun c_7 => ?_) (fun c_7 => ?_)
  · skip
    refine z_iconst ZC dX4_isShut_24 ?_
    refine z_zret ZC ZE dX4_isShut_25 (by omega) (by omega) (by omega) (Nat.le_of_ble_eq_true rfl) ⟨0, rfl, rfl, by omega, by omega, ?_⟩
    · skip
      omega
  · skip
    refine z_iload_n ZC 2 dX4_isShut_10 rfl rfl ?_
    refine z_aload_n ZC 0 dX4_isShut_11 rfl rfl ?_
    refine z_get ZC inUX4 0 rfl rfl 5 (by decide) uF_X4_27 rfl dX4_isShut_12 ?_
    refine z_iload_n ZC 1 dX4_isShut_15 rfl rfl ?_
    refine z_iald ZC 6 rfl dX4_isShut_16 (by omega) ?_
    refine z_icmp_ge ZC 24 dX4_isShut_17 (by decide) (by omega) (by omega) (fun c_17 => ?_) (fun c_17 => ?_)
    · skip
      refine z_iconst ZC dX4_isShut_24 ?_
      refine z_zret ZC ZE dX4_isShut_25 (by omega) (by omega) (by omega) (Nat.le_of_ble_eq_true rfl) ⟨0, rfl, rfl, by omega, by omega, ?_⟩
      · skip
        omega
    · skip
      refine z_iconst ZC dX4_isShut_20 ?_
      refine z_goto ZC 25 dX4_isShut_21 (by decide) ?_
      refine z_zret ZC ZE dX4_isShut_25 (by omega) (by omega) (by omega) (Nat.le_of_ble_eq_true rfl) ⟨1, rfl, rfl, by omega, by omega, ?_⟩
      · skip
        omega

set_option maxHeartbeats 4000000 in
set_option maxRecDepth 100000 in
theorem c_X4_lets (zl : Launch) (D : va_G) (K : tyK) (h : Nat) (a : Nat → Nat) (Ne : Bd) (road : Int) (hour : Int) (hr : 0 ≤ road ∧ road < 16) (h4 : -2147483648 ≤ Ne.1 4 road ∧ Ne.1 4 road < 2147483648) (h5 : -2147483648 ≤ Ne.1 5 road ∧ Ne.1 5 road < 2147483648) (hh : -2147483648 ≤ hour ∧ hour < 2147483648) : Mz zl yX4_lets cX4_lets 3 (some .int) 1 22 0 0 D K [.ref h, vZ road, vZ hour] (wNe K h a Ne) (fun r_ w2_ gc gs => ∃ (v : Int), r_ = some (vZ v) ∧ w2_ = (wNe K h a Ne) ∧ gc = 0 ∧ gs = 0 ∧ (v = if Ne.1 4 road ≤ hour ∧ hour < Ne.1 5 road then 0 else Ne.1 2 road)) := by
  refine Mz.ofZ (by decide) rfl (Nat.le_of_ble_eq_true rfl) ?_
  intro zp ze zR zs zm zargs zbelow zmeth zc zA zQ ZC ZE hRf hRc hRs hRl
  refine z_aload_n ZC 0 dX4_lets_0 rfl rfl ?_
  refine z_iload_n ZC 1 dX4_lets_1 rfl rfl ?_
  refine z_iload_n ZC 2 dX4_lets_2 rfl rfl ?_
  refine z_callV ZC 2 (c_X4_isShut zl D K h a Ne road hour (by omega) (by omega) (by omega) (by omega)) (gdV uM_X4_53 uI_X4_isShut uS_X4_isShut uN_X4 uC_X4_isShut) (by decide +kernel) rfl ⟨by omega, by omega⟩ ⟨by omega, by omega⟩ (Nat.le_of_ble_eq_true rfl) [0, 1, 2, 3, 4, 5, 6, 7, 8] rfl (by decide) rfl rfl rfl rfl dX4_lets_3 (fun r w2 gc_3 gs_3 hp => ?_)
  obtain ⟨b_3, rfl, rfl, rfl, rfl, hb_3⟩ := hp
  refine z_ws (ws2 := [(h, .inr (4, [.ref (a 0), .ref (a 1), .ref (a 2), .ref (a 3), .ref (a 4), .ref (a 5), .ref (a 6), .ref (a 7), vZ (Ne.2 8)])), ((a 0), .inl (K.1, 16, .inl (ar (Ne.1 0)))), ((a 1), .inl (K.1, 16, .inl (ar (Ne.1 1)))), ((a 2), .inl (K.1, 16, .inl (ar (Ne.1 2)))), ((a 3), .inl (K.1, 16, .inl (ar (Ne.1 3)))), ((a 4), .inl (K.1, 16, .inl (ar (Ne.1 4)))), ((a 5), .inl (K.1, 16, .inl (ar (Ne.1 5)))), ((a 6), .inl (K.1, 100, .inl (ar (Ne.1 6)))), ((a 7), .inl (K.1, 100, .inl (ar (Ne.1 7))))]) rfl ?_
  refine z_st (st2 := [vZ b_3]) rfl ?_
  refine z_if_eq ZC 13 dX4_lets_6 (by decide) (by omega) (fun c_6 => ?_) (fun c_6 => ?_)
  · skip
    refine z_aload_n ZC 0 dX4_lets_13 rfl rfl ?_
    refine z_get ZC inUX4 0 rfl rfl 2 (by decide) uF_X4_18 rfl dX4_lets_14 ?_
    refine z_iload_n ZC 1 dX4_lets_17 rfl rfl ?_
    refine z_iald ZC 3 rfl dX4_lets_18 (by omega) ?_
    refine z_iret ZC ZE dX4_lets_19 (by omega) (by omega) (Nat.le_of_ble_eq_true rfl) ⟨((Ne.1 2) road), rfl, rfl, by omega, by omega, ?_⟩
    · skip
      rw [if_neg (by omega)]
  · skip
    refine z_iconst ZC dX4_lets_9 ?_
    refine z_goto ZC 19 dX4_lets_10 (by decide) ?_
    refine z_iret ZC ZE dX4_lets_19 (by omega) (by omega) (Nat.le_of_ble_eq_true rfl) ⟨0, rfl, rfl, by omega, by omega, ?_⟩
    · skip
      rw [if_pos (by omega)]

set_option maxHeartbeats 4000000 in
set_option maxRecDepth 100000 in
theorem c_X4_shorten (zl : Launch) (D : va_G) (K : tyK) (h : Nat) (a : Nat → Nat) (Ne : Bd) (start : Int) (fin : Int) (takes : Int) (hs : 0 ≤ start ∧ start < 10) (he : 0 ≤ fin ∧ fin < 10) (ht : 1 ≤ takes ∧ takes ≤ 9) (hL : ∀ k : Int, 0 ≤ k → k < 100 → -1 ≤ Ne.1 6 k ∧ Ne.1 6 k ≤ 10000) : Mz zl yX4_shorten cX4_shorten 9 (none) 1 22 0 0 D K [.ref h, vZ start, vZ fin, vZ takes] (wNe K h a Ne) (fun r_ w2_ gc gs => ∃ (L2 : Int → Int), r_ = none ∧ w2_ = (wNe K h a ((upf Ne.1 6 L2), Ne.2)) ∧ gc = 0 ∧ gs = 0 ∧ (∀ i j : Int, 0 ≤ i → i < 10 → 0 ≤ j → j < 10 → L2 (i * 10 + j) = shv (Ne.1 6) start fin takes i j)) := by
  refine Mz.ofZ (by decide) rfl (Nat.le_of_ble_eq_true rfl) ?_
  intro zp ze zR zs zm zargs zbelow zmeth zc zA zQ ZC ZE hRf hRc hRs hRl
  refine z_iconst ZC dX4_shorten_0 ?_
  refine z_istore ZC dX4_shorten_1 (by decide) ?_
  have lp_3 : ∀ (n_3 : Nat) (i : Int) (M : Int → Int), (0 ≤ i ∧ i ≤ 10) → (∀ x y : Int, 0 ≤ x → x < 10 → 0 ≤ y → y < 10 → (x < i → M (x * 10 + y) = shv (Ne.1 6) start fin takes x y) ∧ (i ≤ x → M (x * 10 + y) = Ne.1 6 (x * 10 + y))) → ((10 - i).toNat) < n_3 → Zw zp zl ze zR zs zm zargs zbelow zmeth zc D zA 9 zQ 0 0 ([(h, .inr (4, [.ref (a 0), .ref (a 1), .ref (a 2), .ref (a 3), .ref (a 4), .ref (a 5), .ref (a 6), .ref (a 7), vZ (Ne.2 8)])), ((a 0), .inl (K.1, 16, .inl (ar (Ne.1 0)))), ((a 1), .inl (K.1, 16, .inl (ar (Ne.1 1)))), ((a 2), .inl (K.1, 16, .inl (ar (Ne.1 2)))), ((a 3), .inl (K.1, 16, .inl (ar (Ne.1 3)))), ((a 4), .inl (K.1, 16, .inl (ar (Ne.1 4)))), ((a 5), .inl (K.1, 16, .inl (ar (Ne.1 5)))), ((a 6), .inl (K.1, 100, .inl (ar M))), ((a 7), .inl (K.1, 100, .inl (ar (Ne.1 7))))]) 3 [(0, .ref h), (1, vZ start), (2, vZ fin), (3, vZ takes), (4, vZ i)] [] := by
    intro n_3
    induction n_3 with
    | zero => intro i M hi hM hm_3; exact absurd hm_3 (Nat.not_lt_zero _)
    | succ n_3 ih_3 =>
      intro i M hi hM hm_3
      refine z_iload ZC dX4_shorten_3 rfl ?_
      refine z_bipush ZC dX4_shorten_5 (by decide) ?_
      refine z_icmp_ge ZC 110 dX4_shorten_7 (by decide) (by omega) (by omega) (fun c_7 => ?_) (fun c_7 => ?_)
      · skip
        refine z_vret ZC ZE dX4_shorten_110 (by omega) (by omega) (Nat.le_of_ble_eq_true rfl) ⟨M, rfl, rfl, by omega, by omega, ?_⟩
        · skip
          intro x y h1 h2 h3 h4
          exact (hM x y h1 h2 h3 h4).1 (by omega)
      · skip
        refine z_aload_n ZC 0 dX4_shorten_10 rfl rfl ?_
        refine z_iload ZC dX4_shorten_11 rfl ?_
        refine z_iload_n ZC 1 dX4_shorten_13 rfl rfl ?_
        have hy_hi_14_0 : 0 ≤ i ∧ i < 10 := by omega
        have hy_hj_14_0 : 0 ≤ start ∧ start < 10 := by omega
        refine z_callV ZC 2 (c_X4_leastHours zl D K h a ((upf Ne.1 6 M), Ne.2) i start (hy_hi_14_0) (hy_hj_14_0)) (gdV uM_X4_57 uI_X4_leastHours uS_X4_leastHours uN_X4 uC_X4_leastHours) (by decide +kernel) rfl ⟨by omega, by omega⟩ ⟨by omega, by omega⟩ (Nat.le_of_ble_eq_true rfl) [0, 1, 2, 3, 4, 5, 6, 7, 8] rfl (by decide) rfl rfl rfl rfl dX4_shorten_14 (fun r w2 gc_14 gs_14 hp => ?_)
        obtain ⟨rfl, rfl, rfl, rfl⟩ := hp
        refine z_top (y := (M (i * 10 + start))) rfl ?_
        refine z_ws (ws2 := [(h, .inr (4, [.ref (a 0), .ref (a 1), .ref (a 2), .ref (a 3), .ref (a 4), .ref (a 5), .ref (a 6), .ref (a 7), vZ (Ne.2 8)])), ((a 0), .inl (K.1, 16, .inl (ar (Ne.1 0)))), ((a 1), .inl (K.1, 16, .inl (ar (Ne.1 1)))), ((a 2), .inl (K.1, 16, .inl (ar (Ne.1 2)))), ((a 3), .inl (K.1, 16, .inl (ar (Ne.1 3)))), ((a 4), .inl (K.1, 16, .inl (ar (Ne.1 4)))), ((a 5), .inl (K.1, 16, .inl (ar (Ne.1 5)))), ((a 6), .inl (K.1, 100, .inl (ar M))), ((a 7), .inl (K.1, 100, .inl (ar (Ne.1 7))))]) rfl ?_
        refine z_st (st2 := [vZ (M (i * 10 + start))]) rfl ?_
        refine z_istore ZC dX4_shorten_17 (by decide) ?_
        refine z_iconst ZC dX4_shorten_19 ?_
        refine z_istore ZC dX4_shorten_20 (by decide) ?_
        have lp_22 : ∀ (n_22 : Nat) (j : Int) (N : Int → Int), (0 ≤ j ∧ j ≤ 10) → (∀ x y : Int, 0 ≤ x → x < 10 → 0 ≤ y → y < 10 → (x < i → N (x * 10 + y) = shv (Ne.1 6) start fin takes x y) ∧ (i < x → N (x * 10 + y) = Ne.1 6 (x * 10 + y)) ∧ (x = i → y < j → N (x * 10 + y) = shv (Ne.1 6) start fin takes x y) ∧ (x = i → j ≤ y → N (x * 10 + y) = Ne.1 6 (x * 10 + y))) → ((10 - j).toNat) < n_22 → Zw zp zl ze zR zs zm zargs zbelow zmeth zc D zA 9 zQ (0 + 0) (0 + 0) ([(h, .inr (4, [.ref (a 0), .ref (a 1), .ref (a 2), .ref (a 3), .ref (a 4), .ref (a 5), .ref (a 6), .ref (a 7), vZ (Ne.2 8)])), ((a 0), .inl (K.1, 16, .inl (ar (Ne.1 0)))), ((a 1), .inl (K.1, 16, .inl (ar (Ne.1 1)))), ((a 2), .inl (K.1, 16, .inl (ar (Ne.1 2)))), ((a 3), .inl (K.1, 16, .inl (ar (Ne.1 3)))), ((a 4), .inl (K.1, 16, .inl (ar (Ne.1 4)))), ((a 5), .inl (K.1, 16, .inl (ar (Ne.1 5)))), ((a 6), .inl (K.1, 100, .inl (ar N))), ((a 7), .inl (K.1, 100, .inl (ar (Ne.1 7))))]) 22 [(0, .ref h), (1, vZ start), (2, vZ fin), (3, vZ takes), (4, vZ i), (5, vZ (M (i * 10 + start))), (6, vZ j)] [] := by
          intro n_22
          induction n_22 with
          | zero => intro j N hj hN hm_22; exact absurd hm_22 (Nat.not_lt_zero _)
          | succ n_22 ih_22 =>
            intro j N hj hN hm_22
            refine z_iload ZC dX4_shorten_22 rfl ?_
            refine z_bipush ZC dX4_shorten_24 (by decide) ?_
            refine z_icmp_ge ZC 104 dX4_shorten_26 (by decide) (by omega) (by omega) (fun c_26 => ?_) (fun c_26 => ?_)
            · skip
              refine z_iinc ZC dX4_shorten_104 rfl (by decide) ?_
              refine z_goto ZC 3 dX4_shorten_107 (by decide) ?_
              refine z_ws (ws2 := [(h, .inr (4, [.ref (a 0), .ref (a 1), .ref (a 2), .ref (a 3), .ref (a 4), .ref (a 5), .ref (a 6), .ref (a 7), vZ (Ne.2 8)])), ((a 0), .inl (K.1, 16, .inl (ar (Ne.1 0)))), ((a 1), .inl (K.1, 16, .inl (ar (Ne.1 1)))), ((a 2), .inl (K.1, 16, .inl (ar (Ne.1 2)))), ((a 3), .inl (K.1, 16, .inl (ar (Ne.1 3)))), ((a 4), .inl (K.1, 16, .inl (ar (Ne.1 4)))), ((a 5), .inl (K.1, 16, .inl (ar (Ne.1 5)))), ((a 6), .inl (K.1, 100, .inl (ar N))), ((a 7), .inl (K.1, 100, .inl (ar (Ne.1 7))))]) rfl (z_lv (lv2 := [(0, .ref h), (1, vZ start), (2, vZ fin), (3, vZ takes), (4, vZ (i + 1))]) ⟨rfl, rfl, rfl, rfl, rfl, trivial⟩ ?_)
              refine ih_3 (i + 1) N ?_ ?_ (by omega)
              · skip
                omega
              · skip
                intro x y h1 h2 h3 h4
                have q := hN x y h1 h2 h3 h4
                have q3 := hM i y (by omega) (by omega) h3 h4
                have hb0 := hM i start (by omega) (by omega) (by omega) (by omega)
                refine ⟨fun z => ?_, fun z => (q.2.1 (by omega))⟩
                rcases Int.lt_or_le x i with z2 | z2
                · exact q.1 z2
                · have z3 : x = i := by omega
                  subst z3
                  rcases Int.lt_or_le y j with z4 | z4
                  · exact q.2.2.1 rfl z4
                  · first
                      | omega
                      | (rw [q.2.2.2 rfl z4]; unfold shv; rw [if_neg]; rintro ⟨w1, -⟩; exact w1 (by rw [← hb0.2 (by omega)]; assumption))
            · skip
              have hB0 := (hM i start (by omega) (by omega) (by omega) (by omega)).2 (by omega)
              have hBr := hL (i * 10 + start) (by omega) (by omega)
              rw [← hB0] at hBr
              refine z_iload ZC dX4_shorten_29 rfl ?_
              refine z_iconst ZC dX4_shorten_31 ?_
              refine z_icmp_eq ZC 104 dX4_shorten_32 (by decide) (by omega) (by omega) (fun c_32 => ?_) (fun c_32 => ?_)
              · skip
                refine z_iinc ZC dX4_shorten_104 rfl (by decide) ?_
                refine z_goto ZC 3 dX4_shorten_107 (by decide) ?_
                refine z_ws (ws2 := [(h, .inr (4, [.ref (a 0), .ref (a 1), .ref (a 2), .ref (a 3), .ref (a 4), .ref (a 5), .ref (a 6), .ref (a 7), vZ (Ne.2 8)])), ((a 0), .inl (K.1, 16, .inl (ar (Ne.1 0)))), ((a 1), .inl (K.1, 16, .inl (ar (Ne.1 1)))), ((a 2), .inl (K.1, 16, .inl (ar (Ne.1 2)))), ((a 3), .inl (K.1, 16, .inl (ar (Ne.1 3)))), ((a 4), .inl (K.1, 16, .inl (ar (Ne.1 4)))), ((a 5), .inl (K.1, 16, .inl (ar (Ne.1 5)))), ((a 6), .inl (K.1, 100, .inl (ar N))), ((a 7), .inl (K.1, 100, .inl (ar (Ne.1 7))))]) rfl (z_lv (lv2 := [(0, .ref h), (1, vZ start), (2, vZ fin), (3, vZ takes), (4, vZ (i + 1))]) ⟨rfl, rfl, rfl, rfl, rfl, trivial⟩ ?_)
                refine ih_3 (i + 1) N ?_ ?_ (by omega)
                · skip
                  omega
                · skip
                  intro x y h1 h2 h3 h4
                  have q := hN x y h1 h2 h3 h4
                  have q3 := hM i y (by omega) (by omega) h3 h4
                  have hb0 := hM i start (by omega) (by omega) (by omega) (by omega)
                  refine ⟨fun z => ?_, fun z => (q.2.1 (by omega))⟩
                  rcases Int.lt_or_le x i with z2 | z2
                  · exact q.1 z2
                  · have z3 : x = i := by omega
                    subst z3
                    rcases Int.lt_or_le y j with z4 | z4
                    · exact q.2.2.1 rfl z4
                    · first
                        | omega
                        | (rw [q.2.2.2 rfl z4]; unfold shv; rw [if_neg]; rintro ⟨w1, -⟩; exact w1 (by rw [← hb0.2 (by omega)]; assumption))
              · skip
                refine z_aload_n ZC 0 dX4_shorten_35 rfl rfl ?_
                refine z_iload_n ZC 2 dX4_shorten_36 rfl rfl ?_
                refine z_iload ZC dX4_shorten_37 rfl ?_
                have hy_hi_39_0 : 0 ≤ fin ∧ fin < 10 := by omega
                have hy_hj_39_0 : 0 ≤ j ∧ j < 10 := by omega
                refine z_callV ZC 2 (c_X4_leastHours zl D K h a ((upf Ne.1 6 N), Ne.2) fin j (hy_hi_39_0) (hy_hj_39_0)) (gdV uM_X4_57 uI_X4_leastHours uS_X4_leastHours uN_X4 uC_X4_leastHours) (by decide +kernel) rfl ⟨by omega, by omega⟩ ⟨by omega, by omega⟩ (Nat.le_of_ble_eq_true rfl) [0, 1, 2, 3, 4, 5, 6, 7, 8] rfl (by decide) rfl rfl rfl rfl dX4_shorten_39 (fun r w2 gc_39 gs_39 hp => ?_)
                obtain ⟨rfl, rfl, rfl, rfl⟩ := hp
                refine z_top (y := (N (fin * 10 + j))) rfl ?_
                refine z_ws (ws2 := [(h, .inr (4, [.ref (a 0), .ref (a 1), .ref (a 2), .ref (a 3), .ref (a 4), .ref (a 5), .ref (a 6), .ref (a 7), vZ (Ne.2 8)])), ((a 0), .inl (K.1, 16, .inl (ar (Ne.1 0)))), ((a 1), .inl (K.1, 16, .inl (ar (Ne.1 1)))), ((a 2), .inl (K.1, 16, .inl (ar (Ne.1 2)))), ((a 3), .inl (K.1, 16, .inl (ar (Ne.1 3)))), ((a 4), .inl (K.1, 16, .inl (ar (Ne.1 4)))), ((a 5), .inl (K.1, 16, .inl (ar (Ne.1 5)))), ((a 6), .inl (K.1, 100, .inl (ar N))), ((a 7), .inl (K.1, 100, .inl (ar (Ne.1 7))))]) rfl ?_
                refine z_st (st2 := [vZ (N (fin * 10 + j))]) rfl ?_
                refine z_istore ZC dX4_shorten_42 (by decide) ?_
                refine z_aload_n ZC 0 dX4_shorten_44 rfl rfl ?_
                refine z_iload ZC dX4_shorten_45 rfl ?_
                refine z_iload ZC dX4_shorten_47 rfl ?_
                have hy_hi_49_0 : 0 ≤ i ∧ i < 10 := by omega
                have hy_hj_49_0 : 0 ≤ j ∧ j < 10 := by omega
                refine z_callV ZC 2 (c_X4_leastHours zl D K h a ((upf Ne.1 6 N), Ne.2) i j (hy_hi_49_0) (hy_hj_49_0)) (gdV uM_X4_57 uI_X4_leastHours uS_X4_leastHours uN_X4 uC_X4_leastHours) (by decide +kernel) rfl ⟨by omega, by omega⟩ ⟨by omega, by omega⟩ (Nat.le_of_ble_eq_true rfl) [0, 1, 2, 3, 4, 5, 6, 7, 8] rfl (by decide) rfl rfl rfl rfl dX4_shorten_49 (fun r w2 gc_49 gs_49 hp => ?_)
                obtain ⟨rfl, rfl, rfl, rfl⟩ := hp
                refine z_top (y := (N (i * 10 + j))) rfl ?_
                refine z_ws (ws2 := [(h, .inr (4, [.ref (a 0), .ref (a 1), .ref (a 2), .ref (a 3), .ref (a 4), .ref (a 5), .ref (a 6), .ref (a 7), vZ (Ne.2 8)])), ((a 0), .inl (K.1, 16, .inl (ar (Ne.1 0)))), ((a 1), .inl (K.1, 16, .inl (ar (Ne.1 1)))), ((a 2), .inl (K.1, 16, .inl (ar (Ne.1 2)))), ((a 3), .inl (K.1, 16, .inl (ar (Ne.1 3)))), ((a 4), .inl (K.1, 16, .inl (ar (Ne.1 4)))), ((a 5), .inl (K.1, 16, .inl (ar (Ne.1 5)))), ((a 6), .inl (K.1, 100, .inl (ar N))), ((a 7), .inl (K.1, 100, .inl (ar (Ne.1 7))))]) rfl ?_
                refine z_st (st2 := [vZ (N (i * 10 + j))]) rfl ?_
                refine z_istore ZC dX4_shorten_52 (by decide) ?_
                have hOj := (hN i j (by omega) (by omega) (by omega) (by omega)).2.2.2 rfl (by omega)
                have hEj : N (fin * 10 + j) = Ne.1 6 (fin * 10 + j) := by
                  have q := hN fin j (by omega) (by omega) (by omega) (by omega)
                  rcases Int.lt_trichotomy fin i with z | z | z
                  · rw [q.1 z]; exact shv_end (by omega) hL hs he (by omega)
                  · exact q.2.2.2 z (by omega)
                  · exact q.2.1 z
                have hEr := hL (fin * 10 + j) (by omega) (by omega)
                have hOr := hL (i * 10 + j) (by omega) (by omega)
                rw [← hEj] at hEr
                rw [← hOj] at hOr
                refine z_iload ZC dX4_shorten_54 rfl ?_
                refine z_iconst ZC dX4_shorten_56 ?_
                refine z_icmp_eq ZC 98 dX4_shorten_57 (by decide) (rg_1 hEr) (rg_m1) (fun c_57 => ?_) (fun c_57 => ?_)
                · skip
                  refine z_iinc ZC dX4_shorten_98 rfl (by decide) ?_
                  refine z_goto ZC 22 dX4_shorten_101 (by decide) ?_
                  refine z_ws (ws2 := [(h, .inr (4, [.ref (a 0), .ref (a 1), .ref (a 2), .ref (a 3), .ref (a 4), .ref (a 5), .ref (a 6), .ref (a 7), vZ (Ne.2 8)])), ((a 0), .inl (K.1, 16, .inl (ar (Ne.1 0)))), ((a 1), .inl (K.1, 16, .inl (ar (Ne.1 1)))), ((a 2), .inl (K.1, 16, .inl (ar (Ne.1 2)))), ((a 3), .inl (K.1, 16, .inl (ar (Ne.1 3)))), ((a 4), .inl (K.1, 16, .inl (ar (Ne.1 4)))), ((a 5), .inl (K.1, 16, .inl (ar (Ne.1 5)))), ((a 6), .inl (K.1, 100, .inl (ar N))), ((a 7), .inl (K.1, 100, .inl (ar (Ne.1 7))))]) rfl (z_lv (lv2 := [(0, .ref h), (1, vZ start), (2, vZ fin), (3, vZ takes), (4, vZ i), (5, vZ (M (i * 10 + start))), (6, vZ (j + 1))]) ⟨rfl, rfl, rfl, rfl, rfl, rfl, rfl, trivial⟩ ?_)
                  refine ih_22 (j + 1) N ?_ ?_ (by omega)
                  · skip
                    omega
                  · skip
                    intro x y h1 h2 h3 h4
                    have q := hN x y h1 h2 h3 h4
                    refine ⟨q.1, q.2.1, fun z1 z2 => ?_, fun z1 z2 => q.2.2.2 z1 (by omega)⟩
                    rcases Int.lt_or_le y j with z3 | z3
                    · exact q.2.2.1 z1 z3
                    · have z4 : y = j := by omega
                      subst z4; subst z1
                      rw [q.2.2.2 rfl (Int.le_refl _)]
                      unfold shv
                      rw [if_neg]
                      rintro ⟨-, w2, -⟩
                      exact w2 (by rw [← hEj]; exact c_57)
                · skip
                  refine z_iload ZC dX4_shorten_60 rfl ?_
                  refine z_iconst ZC dX4_shorten_62 ?_
                  refine z_icmp_eq ZC 78 dX4_shorten_63 (by decide) (rg_1 hOr) (rg_m1) (fun c_63 => ?_) (fun c_63 => ?_)
                  · skip
                    refine z_aload_n ZC 0 dX4_shorten_78 rfl rfl ?_
                    refine z_get ZC inUX4 0 rfl rfl 6 (by decide) uF_X4_30 rfl dX4_shorten_79 ?_
                    refine z_iload ZC dX4_shorten_82 rfl ?_
                    refine z_bipush ZC dX4_shorten_84 (by decide) ?_
                    refine z_imul ZC dX4_shorten_86 ?_
                    refine z_iload ZC dX4_shorten_87 rfl ?_
                    refine z_iadd ZC dX4_shorten_89 ?_
                    refine z_iload ZC dX4_shorten_90 rfl ?_
                    refine z_iload_n ZC 3 dX4_shorten_92 rfl rfl ?_
                    refine z_iadd ZC dX4_shorten_93 ?_
                    refine z_iload ZC dX4_shorten_94 rfl ?_
                    refine z_iadd ZC dX4_shorten_96 ?_
                    refine z_iast ZC 7 rfl dX4_shorten_97 (ix10 ⟨hi.1, c_7⟩ ⟨hj.1, c_26⟩) ?_
                    refine z_iinc ZC dX4_shorten_98 rfl (by decide) ?_
                    refine z_goto ZC 22 dX4_shorten_101 (by decide) ?_
                    refine z_ws (ws2 := [(h, .inr (4, [.ref (a 0), .ref (a 1), .ref (a 2), .ref (a 3), .ref (a 4), .ref (a 5), .ref (a 6), .ref (a 7), vZ (Ne.2 8)])), ((a 0), .inl (K.1, 16, .inl (ar (Ne.1 0)))), ((a 1), .inl (K.1, 16, .inl (ar (Ne.1 1)))), ((a 2), .inl (K.1, 16, .inl (ar (Ne.1 2)))), ((a 3), .inl (K.1, 16, .inl (ar (Ne.1 3)))), ((a 4), .inl (K.1, 16, .inl (ar (Ne.1 4)))), ((a 5), .inl (K.1, 16, .inl (ar (Ne.1 5)))), ((a 6), .inl (K.1, 100, .inl (ar (upz N ((i * 10) + j) (((M (i * 10 + start)) + takes) + (N (fin * 10 + j))))))), ((a 7), .inl (K.1, 100, .inl (ar (Ne.1 7))))]) rfl (z_lv (lv2 := [(0, .ref h), (1, vZ start), (2, vZ fin), (3, vZ takes), (4, vZ i), (5, vZ (M (i * 10 + start))), (6, vZ (j + 1))]) ⟨rfl, rfl, rfl, rfl, rfl, rfl, rfl, trivial⟩ ?_)
                    refine ih_22 (j + 1) (upz N ((i * 10) + j) (((M (i * 10 + start)) + takes) + (N (fin * 10 + j)))) ?_ ?_ (by omega)
                    · skip
                      omega
                    · skip
                      intro x y h1 h2 h3 h4
                      have q := hN x y h1 h2 h3 h4
                      have ex := ix10e ⟨h1, h2⟩ ⟨h3, h4⟩ ⟨hi.1, c_7⟩ ⟨hj.1, c_26⟩
                      unfold upz
                      by_cases z : x = i ∧ y = j
                      · rw [if_pos (ex.mpr z)]
                        obtain ⟨z1, z2⟩ := z
                        subst z1; subst z2
                        refine ⟨fun z => by omega, fun z => by omega, fun _ _ => ?_, fun _ z => by omega⟩
                        unfold shv
                        rw [← hB0, ← hEj, ← hOj, if_pos]
                        exact ⟨c_32, c_57, Or.inl c_63⟩
                      · rw [if_neg (fun q2 => z (ex.mp q2))]
                        exact ⟨q.1, q.2.1, fun z1 z2 => q.2.2.1 z1 (by omega), fun z1 z2 => q.2.2.2 z1 (by omega)⟩
                  · skip
                    refine z_iload ZC dX4_shorten_66 rfl ?_
                    refine z_iload_n ZC 3 dX4_shorten_68 rfl rfl ?_
                    refine z_iadd ZC dX4_shorten_69 ?_
                    refine z_iload ZC dX4_shorten_70 rfl ?_
                    refine z_iadd ZC dX4_shorten_72 ?_
                    refine z_iload ZC dX4_shorten_73 rfl ?_
                    refine z_icmp_ge ZC 98 dX4_shorten_75 (by decide) (rg3 hBr ht hEr) (rg_1 hOr) (fun c_75 => ?_) (fun c_75 => ?_)
                    · skip
                      refine z_iinc ZC dX4_shorten_98 rfl (by decide) ?_
                      refine z_goto ZC 22 dX4_shorten_101 (by decide) ?_
                      refine z_ws (ws2 := [(h, .inr (4, [.ref (a 0), .ref (a 1), .ref (a 2), .ref (a 3), .ref (a 4), .ref (a 5), .ref (a 6), .ref (a 7), vZ (Ne.2 8)])), ((a 0), .inl (K.1, 16, .inl (ar (Ne.1 0)))), ((a 1), .inl (K.1, 16, .inl (ar (Ne.1 1)))), ((a 2), .inl (K.1, 16, .inl (ar (Ne.1 2)))), ((a 3), .inl (K.1, 16, .inl (ar (Ne.1 3)))), ((a 4), .inl (K.1, 16, .inl (ar (Ne.1 4)))), ((a 5), .inl (K.1, 16, .inl (ar (Ne.1 5)))), ((a 6), .inl (K.1, 100, .inl (ar N))), ((a 7), .inl (K.1, 100, .inl (ar (Ne.1 7))))]) rfl (z_lv (lv2 := [(0, .ref h), (1, vZ start), (2, vZ fin), (3, vZ takes), (4, vZ i), (5, vZ (M (i * 10 + start))), (6, vZ (j + 1))]) ⟨rfl, rfl, rfl, rfl, rfl, rfl, rfl, trivial⟩ ?_)
                      refine ih_22 (j + 1) N ?_ ?_ (by omega)
                      · skip
                        omega
                      · skip
                        intro x y h1 h2 h3 h4
                        have q := hN x y h1 h2 h3 h4
                        refine ⟨q.1, q.2.1, fun z1 z2 => ?_, fun z1 z2 => q.2.2.2 z1 (by omega)⟩
                        rcases Int.lt_or_le y j with z3 | z3
                        · exact q.2.2.1 z1 z3
                        · have z4 : y = j := by omega
                          subst z4; subst z1
                          rw [q.2.2.2 rfl (Int.le_refl _)]
                          unfold shv
                          rw [if_neg]
                          rintro ⟨-, -, w3 | w3⟩
                          · exact c_63 (by rw [hOj]; exact w3)
                          · rw [← hB0, ← hEj, ← hOj] at w3; omega
                    · skip
                      refine z_aload_n ZC 0 dX4_shorten_78 rfl rfl ?_
                      refine z_get ZC inUX4 0 rfl rfl 6 (by decide) uF_X4_30 rfl dX4_shorten_79 ?_
                      refine z_iload ZC dX4_shorten_82 rfl ?_
                      refine z_bipush ZC dX4_shorten_84 (by decide) ?_
                      refine z_imul ZC dX4_shorten_86 ?_
                      refine z_iload ZC dX4_shorten_87 rfl ?_
                      refine z_iadd ZC dX4_shorten_89 ?_
                      refine z_iload ZC dX4_shorten_90 rfl ?_
                      refine z_iload_n ZC 3 dX4_shorten_92 rfl rfl ?_
                      refine z_iadd ZC dX4_shorten_93 ?_
                      refine z_iload ZC dX4_shorten_94 rfl ?_
                      refine z_iadd ZC dX4_shorten_96 ?_
                      refine z_iast ZC 7 rfl dX4_shorten_97 (ix10 ⟨hi.1, c_7⟩ ⟨hj.1, c_26⟩) ?_
                      refine z_iinc ZC dX4_shorten_98 rfl (by decide) ?_
                      refine z_goto ZC 22 dX4_shorten_101 (by decide) ?_
                      refine z_ws (ws2 := [(h, .inr (4, [.ref (a 0), .ref (a 1), .ref (a 2), .ref (a 3), .ref (a 4), .ref (a 5), .ref (a 6), .ref (a 7), vZ (Ne.2 8)])), ((a 0), .inl (K.1, 16, .inl (ar (Ne.1 0)))), ((a 1), .inl (K.1, 16, .inl (ar (Ne.1 1)))), ((a 2), .inl (K.1, 16, .inl (ar (Ne.1 2)))), ((a 3), .inl (K.1, 16, .inl (ar (Ne.1 3)))), ((a 4), .inl (K.1, 16, .inl (ar (Ne.1 4)))), ((a 5), .inl (K.1, 16, .inl (ar (Ne.1 5)))), ((a 6), .inl (K.1, 100, .inl (ar (upz N ((i * 10) + j) (((M (i * 10 + start)) + takes) + (N (fin * 10 + j))))))), ((a 7), .inl (K.1, 100, .inl (ar (Ne.1 7))))]) rfl (z_lv (lv2 := [(0, .ref h), (1, vZ start), (2, vZ fin), (3, vZ takes), (4, vZ i), (5, vZ (M (i * 10 + start))), (6, vZ (j + 1))]) ⟨rfl, rfl, rfl, rfl, rfl, rfl, rfl, trivial⟩ ?_)
                      refine ih_22 (j + 1) (upz N ((i * 10) + j) (((M (i * 10 + start)) + takes) + (N (fin * 10 + j)))) ?_ ?_ (by omega)
                      · skip
                        omega
                      · skip
                        intro x y h1 h2 h3 h4
                        have q := hN x y h1 h2 h3 h4
                        have ex := ix10e ⟨h1, h2⟩ ⟨h3, h4⟩ ⟨hi.1, c_7⟩ ⟨hj.1, c_26⟩
                        unfold upz
                        by_cases z : x = i ∧ y = j
                        · rw [if_pos (ex.mpr z)]
                          obtain ⟨z1, z2⟩ := z
                          subst z1; subst z2
                          refine ⟨fun z => by omega, fun z => by omega, fun _ _ => ?_, fun _ z => by omega⟩
                          unfold shv
                          rw [← hB0, ← hEj, ← hOj, if_pos]
                          exact ⟨c_32, c_57, Or.inr c_75⟩
                        · rw [if_neg (fun q2 => z (ex.mp q2))]
                          exact ⟨q.1, q.2.1, fun z1 z2 => q.2.2.1 z1 (by omega), fun z1 z2 => q.2.2.2 z1 (by omega)⟩
        refine z_ws (ws2 := [(h, .inr (4, [.ref (a 0), .ref (a 1), .ref (a 2), .ref (a 3), .ref (a 4), .ref (a 5), .ref (a 6), .ref (a 7), vZ (Ne.2 8)])), ((a 0), .inl (K.1, 16, .inl (ar (Ne.1 0)))), ((a 1), .inl (K.1, 16, .inl (ar (Ne.1 1)))), ((a 2), .inl (K.1, 16, .inl (ar (Ne.1 2)))), ((a 3), .inl (K.1, 16, .inl (ar (Ne.1 3)))), ((a 4), .inl (K.1, 16, .inl (ar (Ne.1 4)))), ((a 5), .inl (K.1, 16, .inl (ar (Ne.1 5)))), ((a 6), .inl (K.1, 100, .inl (ar M))), ((a 7), .inl (K.1, 100, .inl (ar (Ne.1 7))))]) rfl (z_lv (lv2 := [(0, .ref h), (1, vZ start), (2, vZ fin), (3, vZ takes), (4, vZ i), (5, vZ (M (i * 10 + start))), (6, vZ 0)]) ⟨rfl, rfl, rfl, rfl, rfl, rfl, rfl, trivial⟩ ?_)
        refine lp_22 _ 0 M ?_ ?_ (Nat.lt_succ_self _)
        · skip
          omega
        · skip
          intro x y h1 h2 h3 h4
          have q := hM x y h1 h2 h3 h4
          exact ⟨q.1, fun z => q.2 (by omega), fun z1 z2 => by omega, fun z1 z2 => q.2 (by omega)⟩
  refine z_ws (ws2 := [(h, .inr (4, [.ref (a 0), .ref (a 1), .ref (a 2), .ref (a 3), .ref (a 4), .ref (a 5), .ref (a 6), .ref (a 7), vZ (Ne.2 8)])), ((a 0), .inl (K.1, 16, .inl (ar (Ne.1 0)))), ((a 1), .inl (K.1, 16, .inl (ar (Ne.1 1)))), ((a 2), .inl (K.1, 16, .inl (ar (Ne.1 2)))), ((a 3), .inl (K.1, 16, .inl (ar (Ne.1 3)))), ((a 4), .inl (K.1, 16, .inl (ar (Ne.1 4)))), ((a 5), .inl (K.1, 16, .inl (ar (Ne.1 5)))), ((a 6), .inl (K.1, 100, .inl (ar (Ne.1 6)))), ((a 7), .inl (K.1, 100, .inl (ar (Ne.1 7))))]) rfl (z_lv (lv2 := [(0, .ref h), (1, vZ start), (2, vZ fin), (3, vZ takes), (4, vZ 0)]) ⟨rfl, rfl, rfl, rfl, rfl, trivial⟩ ?_)
  refine lp_3 _ 0 (Ne.1 6) ?_ ?_ (Nat.lt_succ_self _)
  · skip
    omega
  · skip
    intro x y h1 h2 h3 h4
    exact ⟨fun q => by omega, fun _ => rfl⟩

set_option maxHeartbeats 4000000 in
set_option maxRecDepth 100000 in
theorem c_X4_findWays (zl : Launch) (D : va_G) (K : tyK) (h : Nat) (a : Nat → Nat) (Ne : Bd) (hc : 0 ≤ Ne.2 8 ∧ Ne.2 8 ≤ 16) (hR : ∀ r : Int, 0 ≤ r → r < Ne.2 8 → (0 ≤ Ne.1 0 r ∧ Ne.1 0 r < 10) ∧ (0 ≤ Ne.1 1 r ∧ Ne.1 1 r < 10) ∧ (1 ≤ Ne.1 3 r ∧ Ne.1 3 r ≤ 9)) (hL : ∀ k : Int, 0 ≤ k → k < 100 → -1 ≤ Ne.1 6 k ∧ Ne.1 6 k ≤ 10000) : Mz zl yX4_findWays cX4_findWays 4 (none) 1 22 0 0 D K [.ref h] (wNe K h a Ne) (fun r_ w2_ gc gs => ∃ (W2 : Int → Int), r_ = none ∧ w2_ = (wNe K h a ((upf Ne.1 7 W2), Ne.2)) ∧ gc = 0 ∧ gs = 0 ∧ (∀ x y : Int, 0 ≤ x → x < 10 → 0 ≤ y → y < 10 → fwp (wayP (Ne.1 0) (Ne.1 1) (Ne.1 3) (Ne.1 6) x y) (-1) (Ne.2 8) (Ne.1 7 (x * 10 + y)) (W2 (x * 10 + y)))) := by
  refine Mz.ofZ (by decide) rfl (Nat.le_of_ble_eq_true rfl) ?_
  intro zp ze zR zs zm zargs zbelow zmeth zc zA zQ ZC ZE hRf hRc hRs hRl
  refine z_aload_n ZC 0 dX4_findWays_0 rfl rfl ?_
  refine z_get ZC inUX4 0 rfl rfl 8 (by decide) uF_X4_42 rfl dX4_findWays_1 ?_
  refine z_iconst ZC dX4_findWays_4 ?_
  refine z_isub ZC dX4_findWays_5 ?_
  refine z_istore_n ZC 1 dX4_findWays_6 rfl (by decide) ?_
  have lp_7 : ∀ (n_7 : Nat) (r : Int) (M : Int → Int), (-1 ≤ r ∧ r < Ne.2 8) → (∀ x y : Int, 0 ≤ x → x < 10 → 0 ≤ y → y < 10 → fwp (wayP (Ne.1 0) (Ne.1 1) (Ne.1 3) (Ne.1 6) x y) r (Ne.2 8) (Ne.1 7 (x * 10 + y)) (M (x * 10 + y))) → ((r + 1).toNat) < n_7 → Zw zp zl ze zR zs zm zargs zbelow zmeth zc D zA 4 zQ 0 0 ([(h, .inr (4, [.ref (a 0), .ref (a 1), .ref (a 2), .ref (a 3), .ref (a 4), .ref (a 5), .ref (a 6), .ref (a 7), vZ (Ne.2 8)])), ((a 0), .inl (K.1, 16, .inl (ar (Ne.1 0)))), ((a 1), .inl (K.1, 16, .inl (ar (Ne.1 1)))), ((a 2), .inl (K.1, 16, .inl (ar (Ne.1 2)))), ((a 3), .inl (K.1, 16, .inl (ar (Ne.1 3)))), ((a 4), .inl (K.1, 16, .inl (ar (Ne.1 4)))), ((a 5), .inl (K.1, 16, .inl (ar (Ne.1 5)))), ((a 6), .inl (K.1, 100, .inl (ar (Ne.1 6)))), ((a 7), .inl (K.1, 100, .inl (ar M)))]) 7 [(0, .ref h), (1, vZ r)] [] := by
    intro n_7
    induction n_7 with
    | zero => intro r M hr hM hm_7; exact absurd hm_7 (Nat.not_lt_zero _)
    | succ n_7 ih_7 =>
      intro r M hr hM hm_7
      refine z_iload_n ZC 1 dX4_findWays_7 rfl rfl ?_
      refine z_if_lt ZC 87 dX4_findWays_8 (by decide) (by omega) (fun c_8 => ?_) (fun c_8 => ?_)
      · skip
        refine z_vret ZC ZE dX4_findWays_87 (by omega) (by omega) (Nat.le_of_ble_eq_true rfl) ⟨M, rfl, rfl, by omega, by omega, ?_⟩
        · skip
          intro x y h1 h2 h3 h4
          have q := hM x y h1 h2 h3 h4
          rw [show r = -1 by omega] at q
          exact q
      · skip
        refine z_iconst ZC dX4_findWays_11 ?_
        refine z_istore_n ZC 2 dX4_findWays_12 rfl (by decide) ?_
        have lp_13 : ∀ (n_13 : Nat) (j : Int) (N : Int → Int), (0 ≤ j ∧ j ≤ 10) → (∀ x y : Int, 0 ≤ x → x < 10 → 0 ≤ y → y < 10 → (x = Ne.1 0 r ∧ y < j → fwp (wayP (Ne.1 0) (Ne.1 1) (Ne.1 3) (Ne.1 6) x y) (r - 1) (Ne.2 8) (Ne.1 7 (x * 10 + y)) (N (x * 10 + y))) ∧ (¬ (x = Ne.1 0 r ∧ y < j) → fwp (wayP (Ne.1 0) (Ne.1 1) (Ne.1 3) (Ne.1 6) x y) r (Ne.2 8) (Ne.1 7 (x * 10 + y)) (N (x * 10 + y)))) → ((10 - j).toNat) < n_13 → Zw zp zl ze zR zs zm zargs zbelow zmeth zc D zA 4 zQ 0 0 ([(h, .inr (4, [.ref (a 0), .ref (a 1), .ref (a 2), .ref (a 3), .ref (a 4), .ref (a 5), .ref (a 6), .ref (a 7), vZ (Ne.2 8)])), ((a 0), .inl (K.1, 16, .inl (ar (Ne.1 0)))), ((a 1), .inl (K.1, 16, .inl (ar (Ne.1 1)))), ((a 2), .inl (K.1, 16, .inl (ar (Ne.1 2)))), ((a 3), .inl (K.1, 16, .inl (ar (Ne.1 3)))), ((a 4), .inl (K.1, 16, .inl (ar (Ne.1 4)))), ((a 5), .inl (K.1, 16, .inl (ar (Ne.1 5)))), ((a 6), .inl (K.1, 100, .inl (ar (Ne.1 6)))), ((a 7), .inl (K.1, 100, .inl (ar N)))]) 13 [(0, .ref h), (1, vZ r), (2, vZ j)] [] := by
          intro n_13
          induction n_13 with
          | zero => intro j N hj hN hm_13; exact absurd hm_13 (Nat.not_lt_zero _)
          | succ n_13 ih_13 =>
            intro j N hj hN hm_13
            refine z_iload_n ZC 2 dX4_findWays_13 rfl rfl ?_
            refine z_bipush ZC dX4_findWays_14 (by decide) ?_
            refine z_icmp_ge ZC 81 dX4_findWays_16 (by decide) (by omega) (by omega) (fun c_16 => ?_) (fun c_16 => ?_)
            · skip
              refine z_iinc ZC dX4_findWays_81 rfl (by decide) ?_
              refine z_goto ZC 7 dX4_findWays_84 (by decide) ?_
              refine z_ws (ws2 := [(h, .inr (4, [.ref (a 0), .ref (a 1), .ref (a 2), .ref (a 3), .ref (a 4), .ref (a 5), .ref (a 6), .ref (a 7), vZ (Ne.2 8)])), ((a 0), .inl (K.1, 16, .inl (ar (Ne.1 0)))), ((a 1), .inl (K.1, 16, .inl (ar (Ne.1 1)))), ((a 2), .inl (K.1, 16, .inl (ar (Ne.1 2)))), ((a 3), .inl (K.1, 16, .inl (ar (Ne.1 3)))), ((a 4), .inl (K.1, 16, .inl (ar (Ne.1 4)))), ((a 5), .inl (K.1, 16, .inl (ar (Ne.1 5)))), ((a 6), .inl (K.1, 100, .inl (ar (Ne.1 6)))), ((a 7), .inl (K.1, 100, .inl (ar N)))]) rfl (z_lv (lv2 := [(0, .ref h), (1, vZ (r + (-1)))]) ⟨rfl, rfl, trivial⟩ ?_)
              refine ih_7 (r + (-1)) N ?_ ?_ (by omega)
              · skip
                omega
              · skip
                intro x y h1 h2 h3 h4
                have q := hN x y h1 h2 h3 h4
                by_cases z : x = Ne.1 0 r
                · exact q.1 ⟨z, by omega⟩
                · exact fwp_no (q.2 (fun z2 => z z2.1)) (fun z2 => z z2.1.symm)
            · skip
              obtain ⟨hFr, hTo, hHr⟩ := hR r (by omega) (by omega)
              refine z_aload_n ZC 0 dX4_findWays_19 rfl rfl ?_
              refine z_aload_n ZC 0 dX4_findWays_20 rfl rfl ?_
              refine z_get ZC inUX4 0 rfl rfl 1 (by decide) uF_X4_15 rfl dX4_findWays_21 ?_
              refine z_iload_n ZC 1 dX4_findWays_24 rfl rfl ?_
              refine z_iald ZC 2 rfl dX4_findWays_25 (by omega) ?_
              refine z_iload_n ZC 2 dX4_findWays_26 rfl rfl ?_
              have hy_hi_27_0 : 0 ≤ ((Ne.1 1) r) ∧ ((Ne.1 1) r) < 10 := by omega
              have hy_hj_27_0 : 0 ≤ j ∧ j < 10 := by omega
              refine z_callV ZC 2 (c_X4_leastHours zl D K h a ((upf Ne.1 7 N), Ne.2) ((Ne.1 1) r) j (hy_hi_27_0) (hy_hj_27_0)) (gdV uM_X4_57 uI_X4_leastHours uS_X4_leastHours uN_X4 uC_X4_leastHours) (by decide +kernel) rfl ⟨by omega, by omega⟩ ⟨by omega, by omega⟩ (Nat.le_of_ble_eq_true rfl) [0, 1, 2, 3, 4, 5, 6, 7, 8] rfl (by decide) rfl rfl rfl rfl dX4_findWays_27 (fun r w2 gc_27 gs_27 hp => ?_)
              obtain ⟨rfl, rfl, rfl, rfl⟩ := hp
              refine z_top (y := ((Ne.1 6) (((Ne.1 1) r) * 10 + j))) rfl ?_
              refine z_ws (ws2 := [(h, .inr (4, [.ref (a 0), .ref (a 1), .ref (a 2), .ref (a 3), .ref (a 4), .ref (a 5), .ref (a 6), .ref (a 7), vZ (Ne.2 8)])), ((a 0), .inl (K.1, 16, .inl (ar (Ne.1 0)))), ((a 1), .inl (K.1, 16, .inl (ar (Ne.1 1)))), ((a 2), .inl (K.1, 16, .inl (ar (Ne.1 2)))), ((a 3), .inl (K.1, 16, .inl (ar (Ne.1 3)))), ((a 4), .inl (K.1, 16, .inl (ar (Ne.1 4)))), ((a 5), .inl (K.1, 16, .inl (ar (Ne.1 5)))), ((a 6), .inl (K.1, 100, .inl (ar (Ne.1 6)))), ((a 7), .inl (K.1, 100, .inl (ar N)))]) rfl ?_
              refine z_st (st2 := [vZ ((Ne.1 6) (((Ne.1 1) r) * 10 + j))]) rfl ?_
              refine z_istore_n ZC 3 dX4_findWays_30 rfl (by decide) ?_
              have hLt := hL (Ne.1 1 r * 10 + j) (by omega) (by omega)
              refine z_iload_n ZC 3 dX4_findWays_31 rfl rfl ?_
              refine z_iconst ZC dX4_findWays_32 ?_
              refine z_icmp_eq ZC 75 dX4_findWays_33 (by decide) (rg_1 hLt) (rg_m1) (fun c_33 => ?_) (fun c_33 => ?_)
              · skip
                refine z_iinc ZC dX4_findWays_75 rfl (by decide) ?_
                refine z_goto ZC 13 dX4_findWays_78 (by decide) ?_
                refine z_ws (ws2 := [(h, .inr (4, [.ref (a 0), .ref (a 1), .ref (a 2), .ref (a 3), .ref (a 4), .ref (a 5), .ref (a 6), .ref (a 7), vZ (Ne.2 8)])), ((a 0), .inl (K.1, 16, .inl (ar (Ne.1 0)))), ((a 1), .inl (K.1, 16, .inl (ar (Ne.1 1)))), ((a 2), .inl (K.1, 16, .inl (ar (Ne.1 2)))), ((a 3), .inl (K.1, 16, .inl (ar (Ne.1 3)))), ((a 4), .inl (K.1, 16, .inl (ar (Ne.1 4)))), ((a 5), .inl (K.1, 16, .inl (ar (Ne.1 5)))), ((a 6), .inl (K.1, 100, .inl (ar (Ne.1 6)))), ((a 7), .inl (K.1, 100, .inl (ar N)))]) rfl (z_lv (lv2 := [(0, .ref h), (1, vZ r), (2, vZ (j + 1))]) ⟨rfl, rfl, rfl, trivial⟩ ?_)
                refine ih_13 (j + 1) N ?_ ?_ (by omega)
                · skip
                  omega
                · skip
                  intro x y h1 h2 h3 h4
                  have q := hN x y h1 h2 h3 h4
                  by_cases z : x = Ne.1 0 r ∧ y = j
                  · obtain ⟨z1, z2⟩ := z
                    subst z2
                    refine ⟨fun _ => fwp_no (q.2 (by omega)) (fun z3 => z3.2.1 c_33), fun z3 => absurd ⟨z1, by omega⟩ z3⟩
                  · refine ⟨fun z3 => q.1 ⟨z3.1, ?_⟩, fun z3 => q.2 (fun z4 => z3 ⟨z4.1, by omega⟩)⟩
                    rcases Int.lt_or_le y j with z4 | z4
                    · exact z4
                    · exact absurd ⟨z3.1, by omega⟩ z
              · skip
                refine z_aload_n ZC 0 dX4_findWays_36 rfl rfl ?_
                refine z_get ZC inUX4 0 rfl rfl 3 (by decide) uF_X4_21 rfl dX4_findWays_37 ?_
                refine z_iload_n ZC 1 dX4_findWays_40 rfl rfl ?_
                refine z_iald ZC 4 rfl dX4_findWays_41 (by omega) ?_
                refine z_iload_n ZC 3 dX4_findWays_42 rfl rfl ?_
                refine z_iadd ZC dX4_findWays_43 ?_
                refine z_aload_n ZC 0 dX4_findWays_44 rfl rfl ?_
                refine z_aload_n ZC 0 dX4_findWays_45 rfl rfl ?_
                refine z_get ZC inUX4 0 rfl rfl 0 (by decide) uF_X4_9 rfl dX4_findWays_46 ?_
                refine z_iload_n ZC 1 dX4_findWays_49 rfl rfl ?_
                refine z_iald ZC 1 rfl dX4_findWays_50 (by omega) ?_
                refine z_iload_n ZC 2 dX4_findWays_51 rfl rfl ?_
                have hy_hi_52_0 : 0 ≤ ((Ne.1 0) r) ∧ ((Ne.1 0) r) < 10 := by omega
                have hy_hj_52_0 : 0 ≤ j ∧ j < 10 := by omega
                refine z_callV ZC 2 (c_X4_leastHours zl D K h a ((upf Ne.1 7 N), Ne.2) ((Ne.1 0) r) j (hy_hi_52_0) (hy_hj_52_0)) (gdV uM_X4_57 uI_X4_leastHours uS_X4_leastHours uN_X4 uC_X4_leastHours) (by decide +kernel) rfl ⟨by omega, by omega⟩ ⟨by omega, by omega⟩ (Nat.le_of_ble_eq_true rfl) [0, 1, 2, 3, 4, 5, 6, 7, 8] rfl (by decide) rfl rfl rfl rfl dX4_findWays_52 (fun r w2 gc_52 gs_52 hp => ?_)
                obtain ⟨rfl, rfl, rfl, rfl⟩ := hp
                refine z_top (y := ((Ne.1 6) (((Ne.1 0) r) * 10 + j))) rfl ?_
                refine z_ws (ws2 := [(h, .inr (4, [.ref (a 0), .ref (a 1), .ref (a 2), .ref (a 3), .ref (a 4), .ref (a 5), .ref (a 6), .ref (a 7), vZ (Ne.2 8)])), ((a 0), .inl (K.1, 16, .inl (ar (Ne.1 0)))), ((a 1), .inl (K.1, 16, .inl (ar (Ne.1 1)))), ((a 2), .inl (K.1, 16, .inl (ar (Ne.1 2)))), ((a 3), .inl (K.1, 16, .inl (ar (Ne.1 3)))), ((a 4), .inl (K.1, 16, .inl (ar (Ne.1 4)))), ((a 5), .inl (K.1, 16, .inl (ar (Ne.1 5)))), ((a 6), .inl (K.1, 100, .inl (ar (Ne.1 6)))), ((a 7), .inl (K.1, 100, .inl (ar N)))]) rfl ?_
                refine z_st (st2 := [vZ ((Ne.1 6) (((Ne.1 0) r) * 10 + j)), vZ (((Ne.1 3) r) + ((Ne.1 6) (((Ne.1 1) r) * 10 + j)))]) rfl ?_
                have hLf := hL (Ne.1 0 r * 10 + j) (by omega) (by omega)
                refine z_icmp_ne ZC 75 dX4_findWays_55 (by decide) (by omega) (rg_1 hLf) (fun c_55 => ?_) (fun c_55 => ?_)
                · skip
                  refine z_iinc ZC dX4_findWays_75 rfl (by decide) ?_
                  refine z_goto ZC 13 dX4_findWays_78 (by decide) ?_
                  refine z_ws (ws2 := [(h, .inr (4, [.ref (a 0), .ref (a 1), .ref (a 2), .ref (a 3), .ref (a 4), .ref (a 5), .ref (a 6), .ref (a 7), vZ (Ne.2 8)])), ((a 0), .inl (K.1, 16, .inl (ar (Ne.1 0)))), ((a 1), .inl (K.1, 16, .inl (ar (Ne.1 1)))), ((a 2), .inl (K.1, 16, .inl (ar (Ne.1 2)))), ((a 3), .inl (K.1, 16, .inl (ar (Ne.1 3)))), ((a 4), .inl (K.1, 16, .inl (ar (Ne.1 4)))), ((a 5), .inl (K.1, 16, .inl (ar (Ne.1 5)))), ((a 6), .inl (K.1, 100, .inl (ar (Ne.1 6)))), ((a 7), .inl (K.1, 100, .inl (ar N)))]) rfl (z_lv (lv2 := [(0, .ref h), (1, vZ r), (2, vZ (j + 1))]) ⟨rfl, rfl, rfl, trivial⟩ ?_)
                  refine ih_13 (j + 1) N ?_ ?_ (by omega)
                  · skip
                    omega
                  · skip
                    intro x y h1 h2 h3 h4
                    have q := hN x y h1 h2 h3 h4
                    by_cases z : x = Ne.1 0 r ∧ y = j
                    · obtain ⟨z1, z2⟩ := z
                      subst z2
                      refine ⟨fun _ => fwp_no (q.2 (by omega)) (fun z3 => c_55 ?_), fun z3 => absurd ⟨z1, by omega⟩ z3⟩
                      rw [← z1]; exact z3.2.2
                    · refine ⟨fun z3 => q.1 ⟨z3.1, ?_⟩, fun z3 => q.2 (fun z4 => z3 ⟨z4.1, by omega⟩)⟩
                      rcases Int.lt_or_le y j with z4 | z4
                      · exact z4
                      · exact absurd ⟨z3.1, by omega⟩ z
                · skip
                  refine z_aload_n ZC 0 dX4_findWays_58 rfl rfl ?_
                  refine z_get ZC inUX4 0 rfl rfl 7 (by decide) uF_X4_33 rfl dX4_findWays_59 ?_
                  refine z_aload_n ZC 0 dX4_findWays_62 rfl rfl ?_
                  refine z_get ZC inUX4 0 rfl rfl 0 (by decide) uF_X4_9 rfl dX4_findWays_63 ?_
                  refine z_iload_n ZC 1 dX4_findWays_66 rfl rfl ?_
                  refine z_iald ZC 1 rfl dX4_findWays_67 (by omega) ?_
                  refine z_bipush ZC dX4_findWays_68 (by decide) ?_
                  refine z_imul ZC dX4_findWays_70 ?_
                  refine z_iload_n ZC 2 dX4_findWays_71 rfl rfl ?_
                  refine z_iadd ZC dX4_findWays_72 ?_
                  refine z_iload_n ZC 1 dX4_findWays_73 rfl rfl ?_
                  refine z_iast ZC 8 rfl dX4_findWays_74 (ix10 hFr ⟨hj.1, c_16⟩) ?_
                  refine z_iinc ZC dX4_findWays_75 rfl (by decide) ?_
                  refine z_goto ZC 13 dX4_findWays_78 (by decide) ?_
                  refine z_ws (ws2 := [(h, .inr (4, [.ref (a 0), .ref (a 1), .ref (a 2), .ref (a 3), .ref (a 4), .ref (a 5), .ref (a 6), .ref (a 7), vZ (Ne.2 8)])), ((a 0), .inl (K.1, 16, .inl (ar (Ne.1 0)))), ((a 1), .inl (K.1, 16, .inl (ar (Ne.1 1)))), ((a 2), .inl (K.1, 16, .inl (ar (Ne.1 2)))), ((a 3), .inl (K.1, 16, .inl (ar (Ne.1 3)))), ((a 4), .inl (K.1, 16, .inl (ar (Ne.1 4)))), ((a 5), .inl (K.1, 16, .inl (ar (Ne.1 5)))), ((a 6), .inl (K.1, 100, .inl (ar (Ne.1 6)))), ((a 7), .inl (K.1, 100, .inl (ar (upz N ((((Ne.1 0) r) * 10) + j) r))))]) rfl (z_lv (lv2 := [(0, .ref h), (1, vZ r), (2, vZ (j + 1))]) ⟨rfl, rfl, rfl, trivial⟩ ?_)
                  refine ih_13 (j + 1) (upz N ((((Ne.1 0) r) * 10) + j) r) ?_ ?_ (by omega)
                  · skip
                    omega
                  · skip
                    intro x y h1 h2 h3 h4
                    have q := hN x y h1 h2 h3 h4
                    have ex := ix10e ⟨h1, h2⟩ ⟨h3, h4⟩ hFr ⟨hj.1, c_16⟩
                    unfold upz
                    by_cases z : x = Ne.1 0 r ∧ y = j
                    · rw [if_pos (ex.mpr z)]
                      obtain ⟨z1, z2⟩ := z
                      subst z2
                      refine ⟨fun _ => fwp_yes ⟨z1.symm, c_33, ?_⟩ hr.2, fun z3 => absurd ⟨z1, by omega⟩ z3⟩
                      rw [z1]; exact c_55
                    · rw [if_neg (fun q2 => z (ex.mp q2))]
                      refine ⟨fun z3 => q.1 ⟨z3.1, ?_⟩, fun z3 => q.2 (fun z4 => z3 ⟨z4.1, by omega⟩)⟩
                      rcases Int.lt_or_le y j with z4 | z4
                      · exact z4
                      · exact absurd ⟨z3.1, by omega⟩ z
        refine z_ws (ws2 := [(h, .inr (4, [.ref (a 0), .ref (a 1), .ref (a 2), .ref (a 3), .ref (a 4), .ref (a 5), .ref (a 6), .ref (a 7), vZ (Ne.2 8)])), ((a 0), .inl (K.1, 16, .inl (ar (Ne.1 0)))), ((a 1), .inl (K.1, 16, .inl (ar (Ne.1 1)))), ((a 2), .inl (K.1, 16, .inl (ar (Ne.1 2)))), ((a 3), .inl (K.1, 16, .inl (ar (Ne.1 3)))), ((a 4), .inl (K.1, 16, .inl (ar (Ne.1 4)))), ((a 5), .inl (K.1, 16, .inl (ar (Ne.1 5)))), ((a 6), .inl (K.1, 100, .inl (ar (Ne.1 6)))), ((a 7), .inl (K.1, 100, .inl (ar M)))]) rfl (z_lv (lv2 := [(0, .ref h), (1, vZ r), (2, vZ 0)]) ⟨rfl, rfl, rfl, trivial⟩ ?_)
        refine lp_13 _ 0 M ?_ ?_ (Nat.lt_succ_self _)
        · skip
          omega
        · skip
          intro x y h1 h2 h3 h4
          exact ⟨fun z => by omega, fun _ => hM x y h1 h2 h3 h4⟩
  refine z_ws (ws2 := [(h, .inr (4, [.ref (a 0), .ref (a 1), .ref (a 2), .ref (a 3), .ref (a 4), .ref (a 5), .ref (a 6), .ref (a 7), vZ (Ne.2 8)])), ((a 0), .inl (K.1, 16, .inl (ar (Ne.1 0)))), ((a 1), .inl (K.1, 16, .inl (ar (Ne.1 1)))), ((a 2), .inl (K.1, 16, .inl (ar (Ne.1 2)))), ((a 3), .inl (K.1, 16, .inl (ar (Ne.1 3)))), ((a 4), .inl (K.1, 16, .inl (ar (Ne.1 4)))), ((a 5), .inl (K.1, 16, .inl (ar (Ne.1 5)))), ((a 6), .inl (K.1, 100, .inl (ar (Ne.1 6)))), ((a 7), .inl (K.1, 100, .inl (ar (Ne.1 7))))]) rfl (z_lv (lv2 := [(0, .ref h), (1, vZ ((Ne.2 8) - 1))]) ⟨rfl, rfl, trivial⟩ ?_)
  refine lp_7 _ ((Ne.2 8) - 1) (Ne.1 7) ?_ ?_ (Nat.lt_succ_self _)
  · skip
    omega
  · skip
    intro x y h1 h2 h3 h4
    exact fwp_0 _ _ _

set_option maxHeartbeats 4000000 in
set_option maxRecDepth 100000 in
theorem c_X4_add (zl : Launch) (D : va_G) (K : tyK) (h : Nat) (a : Nat → Nat) (Ne : Bd) (start : Int) (fin : Int) (many : Int) (takes : Int) (hc : 0 ≤ Ne.2 8 ∧ Ne.2 8 < 16) (hR : ∀ r : Int, 0 ≤ r → r < Ne.2 8 → (0 ≤ Ne.1 0 r ∧ Ne.1 0 r < 10) ∧ (0 ≤ Ne.1 1 r ∧ Ne.1 1 r < 10) ∧ (1 ≤ Ne.1 3 r ∧ Ne.1 3 r ≤ 9)) (hL : ∀ k : Int, 0 ≤ k → k < 100 → -1 ≤ Ne.1 6 k ∧ Ne.1 6 k ≤ 1000) (hs : 0 ≤ start ∧ start < 10) (he : 0 ≤ fin ∧ fin < 10) (ht : 1 ≤ takes ∧ takes ≤ 9) : Mz zl yX4_add cX4_add 5 (some .int) 2 50 0 0 D K [.ref h, vZ start, vZ fin, vZ many, vZ takes] (wNe K h a Ne) (fun r_ w2_ gc gs => ∃ (L2 : Int → Int), ∃ (W2 : Int → Int), r_ = some (vZ (Ne.2 8)) ∧ w2_ = (wNe K h a ((upf (upf (upf (upf (upf (upf Ne.1 0 (upz (Ne.1 0) (Ne.2 8) start)) 1 (upz (Ne.1 1) (Ne.2 8) fin)) 2 (upz (Ne.1 2) (Ne.2 8) many)) 3 (upz (Ne.1 3) (Ne.2 8) takes)) 6 L2) 7 W2), (upf Ne.2 8 (Ne.2 8 + 1)))) ∧ gc = 0 ∧ gs = 0 ∧ (∀ i j : Int, 0 ≤ i → i < 10 → 0 ≤ j → j < 10 → L2 (i * 10 + j) = shv (Ne.1 6) start fin takes i j) ∧ (∀ x y : Int, 0 ≤ x → x < 10 → 0 ≤ y → y < 10 → fwp (wayP (upz (Ne.1 0) (Ne.2 8) start) (upz (Ne.1 1) (Ne.2 8) fin) (upz (Ne.1 3) (Ne.2 8) takes) L2 x y) (-1) (Ne.2 8 + 1) (Ne.1 7 (x * 10 + y)) (W2 (x * 10 + y)))) := by
  refine Mz.ofZ (by decide) rfl (Nat.le_of_ble_eq_true rfl) ?_
  intro zp ze zR zs zm zargs zbelow zmeth zc zA zQ ZC ZE hRf hRc hRs hRl
  refine z_aload_n ZC 0 dX4_add_0 rfl rfl ?_
  refine z_get ZC inUX4 0 rfl rfl 0 (by decide) uF_X4_9 rfl dX4_add_1 ?_
  refine z_aload_n ZC 0 dX4_add_4 rfl rfl ?_
  refine z_get ZC inUX4 0 rfl rfl 8 (by decide) uF_X4_42 rfl dX4_add_5 ?_
  refine z_iload_n ZC 1 dX4_add_8 rfl rfl ?_
  refine z_iast ZC 1 rfl dX4_add_9 (by omega) ?_
  refine z_aload_n ZC 0 dX4_add_10 rfl rfl ?_
  refine z_get ZC inUX4 0 rfl rfl 1 (by decide) uF_X4_15 rfl dX4_add_11 ?_
  refine z_aload_n ZC 0 dX4_add_14 rfl rfl ?_
  refine z_get ZC inUX4 0 rfl rfl 8 (by decide) uF_X4_42 rfl dX4_add_15 ?_
  refine z_iload_n ZC 2 dX4_add_18 rfl rfl ?_
  refine z_iast ZC 2 rfl dX4_add_19 (by omega) ?_
  refine z_aload_n ZC 0 dX4_add_20 rfl rfl ?_
  refine z_get ZC inUX4 0 rfl rfl 2 (by decide) uF_X4_18 rfl dX4_add_21 ?_
  refine z_aload_n ZC 0 dX4_add_24 rfl rfl ?_
  refine z_get ZC inUX4 0 rfl rfl 8 (by decide) uF_X4_42 rfl dX4_add_25 ?_
  refine z_iload_n ZC 3 dX4_add_28 rfl rfl ?_
  refine z_iast ZC 3 rfl dX4_add_29 (by omega) ?_
  refine z_ws (ws2 := [(h, .inr (4, [.ref (a 0), .ref (a 1), .ref (a 2), .ref (a 3), .ref (a 4), .ref (a 5), .ref (a 6), .ref (a 7), vZ (Ne.2 8)])), ((a 0), .inl (K.1, 16, .inl (ar (upz (Ne.1 0) (Ne.2 8) start)))), ((a 1), .inl (K.1, 16, .inl (ar (upz (Ne.1 1) (Ne.2 8) fin)))), ((a 2), .inl (K.1, 16, .inl (ar (upz (Ne.1 2) (Ne.2 8) many)))), ((a 3), .inl (K.1, 16, .inl (ar (Ne.1 3)))), ((a 4), .inl (K.1, 16, .inl (ar (Ne.1 4)))), ((a 5), .inl (K.1, 16, .inl (ar (Ne.1 5)))), ((a 6), .inl (K.1, 100, .inl (ar (Ne.1 6)))), ((a 7), .inl (K.1, 100, .inl (ar (Ne.1 7))))]) rfl ?_
  refine z_aload_n ZC 0 dX4_add_30 rfl rfl ?_
  refine z_get ZC inUX4 0 rfl rfl 3 (by decide) uF_X4_21 rfl dX4_add_31 ?_
  refine z_aload_n ZC 0 dX4_add_34 rfl rfl ?_
  refine z_get ZC inUX4 0 rfl rfl 8 (by decide) uF_X4_42 rfl dX4_add_35 ?_
  refine z_iload ZC dX4_add_38 rfl ?_
  refine z_iast ZC 4 rfl dX4_add_40 (by omega) ?_
  refine z_aload_n ZC 0 dX4_add_41 rfl rfl ?_
  refine z_dup ZC dX4_add_42 rfl ?_
  refine z_get ZC inUX4 0 rfl rfl 8 (by decide) uF_X4_42 rfl dX4_add_43 ?_
  refine z_iconst ZC dX4_add_46 ?_
  refine z_iadd ZC dX4_add_47 ?_
  refine z_put ZC inUX4 tyX4_ok nmX4 0 rfl rfl 8 (by decide) uF_X4_42 rfl (rfl) (rfl) (Nat.le_of_ble_eq_true rfl) dX4_add_48 ?_
  refine z_aload_n ZC 0 dX4_add_51 rfl rfl ?_
  refine z_iload_n ZC 1 dX4_add_52 rfl rfl ?_
  refine z_iload_n ZC 2 dX4_add_53 rfl rfl ?_
  refine z_iload ZC dX4_add_54 rfl ?_
  refine z_ws (ws2 := [(h, .inr (4, [.ref (a 0), .ref (a 1), .ref (a 2), .ref (a 3), .ref (a 4), .ref (a 5), .ref (a 6), .ref (a 7), vZ ((Ne.2 8) + 1)])), ((a 0), .inl (K.1, 16, .inl (ar (upz (Ne.1 0) (Ne.2 8) start)))), ((a 1), .inl (K.1, 16, .inl (ar (upz (Ne.1 1) (Ne.2 8) fin)))), ((a 2), .inl (K.1, 16, .inl (ar (upz (Ne.1 2) (Ne.2 8) many)))), ((a 3), .inl (K.1, 16, .inl (ar (upz (Ne.1 3) (Ne.2 8) takes)))), ((a 4), .inl (K.1, 16, .inl (ar (Ne.1 4)))), ((a 5), .inl (K.1, 16, .inl (ar (Ne.1 5)))), ((a 6), .inl (K.1, 100, .inl (ar (Ne.1 6)))), ((a 7), .inl (K.1, 100, .inl (ar (Ne.1 7))))]) rfl ?_
  have hy_hs_56_0 : 0 ≤ start ∧ start < 10 := by omega
  have hy_he_56_0 : 0 ≤ fin ∧ fin < 10 := by omega
  have hy_ht_56_0 : 1 ≤ takes ∧ takes ≤ 9 := by omega
  have hy_hL_56_0 : ∀ k : Int, 0 ≤ k → k < 100 → -1 ≤ (Ne.1 6) k ∧ (Ne.1 6) k ≤ 10000 := fun k h1 h2 => by have := hL k h1 h2; omega
  refine z_callV ZC 3 (c_X4_shorten zl D K h a ((upf (upf (upf (upf Ne.1 0 (upz (Ne.1 0) (Ne.2 8) start)) 1 (upz (Ne.1 1) (Ne.2 8) fin)) 2 (upz (Ne.1 2) (Ne.2 8) many)) 3 (upz (Ne.1 3) (Ne.2 8) takes)), (upf Ne.2 8 ((Ne.2 8) + 1))) start fin takes (hy_hs_56_0) (hy_he_56_0) (hy_ht_56_0) (hy_hL_56_0)) (gdV uM_X4_46 uI_X4_shorten uS_X4_shorten uN_X4 uC_X4_shorten) (by decide +kernel) rfl ⟨by omega, by omega⟩ ⟨by omega, by omega⟩ (Nat.le_of_ble_eq_true rfl) [0, 1, 2, 3, 4, 5, 6, 7, 8] rfl (by decide) rfl rfl rfl rfl dX4_add_56 (fun r w2 gc_56 gs_56 hp => ?_)
  obtain ⟨L2_56, rfl, rfl, rfl, rfl, hL2_56⟩ := hp
  have hL2_56 : ∀ i j : Int, 0 ≤ i → i < 10 → 0 ≤ j → j < 10 → L2_56 (i * 10 + j) = shv ((Ne.1 6)) start fin takes i j := hL2_56
  refine z_ws (ws2 := [(h, .inr (4, [.ref (a 0), .ref (a 1), .ref (a 2), .ref (a 3), .ref (a 4), .ref (a 5), .ref (a 6), .ref (a 7), vZ ((Ne.2 8) + 1)])), ((a 0), .inl (K.1, 16, .inl (ar (upz (Ne.1 0) (Ne.2 8) start)))), ((a 1), .inl (K.1, 16, .inl (ar (upz (Ne.1 1) (Ne.2 8) fin)))), ((a 2), .inl (K.1, 16, .inl (ar (upz (Ne.1 2) (Ne.2 8) many)))), ((a 3), .inl (K.1, 16, .inl (ar (upz (Ne.1 3) (Ne.2 8) takes)))), ((a 4), .inl (K.1, 16, .inl (ar (Ne.1 4)))), ((a 5), .inl (K.1, 16, .inl (ar (Ne.1 5)))), ((a 6), .inl (K.1, 100, .inl (ar L2_56))), ((a 7), .inl (K.1, 100, .inl (ar (Ne.1 7))))]) rfl ?_
  refine z_st (st2 := []) rfl ?_
  refine z_aload_n ZC 0 dX4_add_59 rfl rfl ?_
  have hR2 : ∀ r : Int, 0 ≤ r → r < Ne.2 8 + 1 → (0 ≤ (upz (Ne.1 0) (Ne.2 8) start) r ∧ (upz (Ne.1 0) (Ne.2 8) start) r < 10) ∧ (0 ≤ (upz (Ne.1 1) (Ne.2 8) fin) r ∧ (upz (Ne.1 1) (Ne.2 8) fin) r < 10) ∧ (1 ≤ (upz (Ne.1 3) (Ne.2 8) takes) r ∧ (upz (Ne.1 3) (Ne.2 8) takes) r ≤ 9) := by
    intro r h1 h2
    unfold upz
    split
    · omega
    · exact hR r h1 (by omega)
  have hLb : ∀ k : Int, 0 ≤ k → k < 100 → -1 ≤ L2_56 k ∧ L2_56 k ≤ 10000 := by
    intro k h1 h2
    have q := hL2_56 (k / 10) (k % 10) (by omega) (by omega) (by omega) (by omega)
    have q1 := hL (k / 10 * 10 + start) (by omega) (by omega)
    have q2 := hL (fin * 10 + k % 10) (by omega) (by omega)
    have q3 := hL (k / 10 * 10 + k % 10) (by omega) (by omega)
    rw [show k / 10 * 10 + k % 10 = k by omega] at q
    rw [q]
    unfold shv
    split <;> omega
  have hy_hc_60_0 : 0 ≤ ((Ne.2 8) + 1) ∧ ((Ne.2 8) + 1) ≤ 16 := by omega
  have hy_hR_60_0 : ∀ r : Int, 0 ≤ r → r < ((Ne.2 8) + 1) → (0 ≤ (upz (Ne.1 0) (Ne.2 8) start) r ∧ (upz (Ne.1 0) (Ne.2 8) start) r < 10) ∧ (0 ≤ (upz (Ne.1 1) (Ne.2 8) fin) r ∧ (upz (Ne.1 1) (Ne.2 8) fin) r < 10) ∧ (1 ≤ (upz (Ne.1 3) (Ne.2 8) takes) r ∧ (upz (Ne.1 3) (Ne.2 8) takes) r ≤ 9) := hR2
  have hy_hL_60_0 : ∀ k : Int, 0 ≤ k → k < 100 → -1 ≤ L2_56 k ∧ L2_56 k ≤ 10000 := hLb
  refine z_callV ZC 0 (c_X4_findWays zl D K h a ((upf (upf (upf (upf (upf Ne.1 0 (upz (Ne.1 0) (Ne.2 8) start)) 1 (upz (Ne.1 1) (Ne.2 8) fin)) 2 (upz (Ne.1 2) (Ne.2 8) many)) 3 (upz (Ne.1 3) (Ne.2 8) takes)) 6 L2_56), (upf Ne.2 8 ((Ne.2 8) + 1))) (hy_hc_60_0) (hy_hR_60_0) (hy_hL_60_0)) (gdV uM_X4_50 uI_X4_findWays uS_X4_findWays uN_X4 uC_X4_findWays) (by decide +kernel) rfl ⟨by omega, by omega⟩ ⟨by omega, by omega⟩ (Nat.le_of_ble_eq_true rfl) [0, 1, 2, 3, 4, 5, 6, 7, 8] rfl (by decide) rfl rfl rfl rfl dX4_add_60 (fun r w2 gc_60 gs_60 hp => ?_)
  obtain ⟨W2_60, rfl, rfl, rfl, rfl, hW2_60⟩ := hp
  have hW2_60 : ∀ x y : Int, 0 ≤ x → x < 10 → 0 ≤ y → y < 10 → fwp (wayP ((upz (Ne.1 0) (Ne.2 8) start)) ((upz (Ne.1 1) (Ne.2 8) fin)) ((upz (Ne.1 3) (Ne.2 8) takes)) (L2_56) x y) (-1) (((Ne.2 8) + 1)) ((Ne.1 7) (x * 10 + y)) (W2_60 (x * 10 + y)) := hW2_60
  refine z_ws (ws2 := [(h, .inr (4, [.ref (a 0), .ref (a 1), .ref (a 2), .ref (a 3), .ref (a 4), .ref (a 5), .ref (a 6), .ref (a 7), vZ ((Ne.2 8) + 1)])), ((a 0), .inl (K.1, 16, .inl (ar (upz (Ne.1 0) (Ne.2 8) start)))), ((a 1), .inl (K.1, 16, .inl (ar (upz (Ne.1 1) (Ne.2 8) fin)))), ((a 2), .inl (K.1, 16, .inl (ar (upz (Ne.1 2) (Ne.2 8) many)))), ((a 3), .inl (K.1, 16, .inl (ar (upz (Ne.1 3) (Ne.2 8) takes)))), ((a 4), .inl (K.1, 16, .inl (ar (Ne.1 4)))), ((a 5), .inl (K.1, 16, .inl (ar (Ne.1 5)))), ((a 6), .inl (K.1, 100, .inl (ar L2_56))), ((a 7), .inl (K.1, 100, .inl (ar W2_60)))]) rfl ?_
  refine z_st (st2 := []) rfl ?_
  refine z_aload_n ZC 0 dX4_add_63 rfl rfl ?_
  refine z_get ZC inUX4 0 rfl rfl 8 (by decide) uF_X4_42 rfl dX4_add_64 ?_
  refine z_iconst ZC dX4_add_67 ?_
  refine z_isub ZC dX4_add_68 ?_
  refine z_top (y := Ne.2 8) (by omega) ?_
  refine z_iret ZC ZE dX4_add_69 (by omega) (by omega) (Nat.le_of_ble_eq_true rfl) ⟨L2_56, W2_60, rfl, rfl, by omega, by omega, ?_, ?_⟩
  · skip
    exact hL2_56
  · skip
    exact hW2_60

set_option maxHeartbeats 4000000 in
set_option maxRecDepth 100000 in
theorem c_X3_atLeast (zl : Launch) (D : va_G) (K : tyK) (h : Nat) (a : Nat → Nat) (Lo : Bd) (fr : Int) (to : Int) (hft : 0 ≤ fr ∧ fr ≤ to ∧ to < 200) (hC : ∀ j : Int, 0 ≤ j → j < 200 → -1 ≤ Lo.1 2 j ∧ Lo.1 2 j ≤ 5000) : Mz zl yX3_atLeast cX3_atLeast 5 (some .int) 0 0 0 0 D K [.ref h, vZ fr, vZ to] (wLo K h a Lo) (fun r_ w2_ gc gs => ∃ (v : Int), r_ = some (vZ v) ∧ w2_ = (wLo K h a Lo) ∧ gc = 0 ∧ gs = 0 ∧ (v = smI (fun j => if Lo.1 2 j = -1 then 0 else Lo.1 2 j) fr (to + 1 - fr).toNat)) := by
  refine Mz.ofZ (by decide) rfl (Nat.le_of_ble_eq_true rfl) ?_
  intro zp ze zR zs zm zargs zbelow zmeth zc zA zQ ZC ZE hRf hRc hRs hRl
  refine z_iconst ZC dX3_atLeast_0 ?_
  refine z_istore_n ZC 3 dX3_atLeast_1 rfl (by decide) ?_
  refine z_iload_n ZC 1 dX3_atLeast_2 rfl rfl ?_
  refine z_istore ZC dX3_atLeast_3 (by decide) ?_
  have lp_5 : ∀ (n_5 : Nat) (sm : Int) (j : Int), (fr ≤ j ∧ j ≤ to + 1) → (sm = smI (fun j => if Lo.1 2 j = -1 then 0 else Lo.1 2 j) fr (j - fr).toNat) → ((to + 1 - j).toNat) < n_5 → Zw zp zl ze zR zs zm zargs zbelow zmeth zc D zA 5 zQ 0 0 ([(h, .inr (3, [.ref (a 0), .ref (a 1), .ref (a 2)])), ((a 0), .inl (K.1, 200, .inl (ar (Lo.1 0)))), ((a 1), .inl (K.1, 200, .inl (ar (Lo.1 1)))), ((a 2), .inl (K.1, 200, .inl (ar (Lo.1 2))))]) 5 [(0, .ref h), (1, vZ fr), (2, vZ to), (3, vZ sm), (4, vZ j)] [] := by
    intro n_5
    induction n_5 with
    | zero => intro sm j hj hs hm_5; exact absurd hm_5 (Nat.not_lt_zero _)
    | succ n_5 ih_5 =>
      intro sm j hj hs hm_5
      refine z_iload ZC dX3_atLeast_5 rfl ?_
      refine z_iload_n ZC 2 dX3_atLeast_7 rfl rfl ?_
      refine z_icmp_gt ZC 50 dX3_atLeast_8 (by decide) (by omega) (by omega) (fun c_8 => ?_) (fun c_8 => ?_)
      · skip
        refine z_iload_n ZC 3 dX3_atLeast_50 rfl rfl ?_
        refine z_iret ZC ZE dX3_atLeast_51 (by omega) (by omega) (Nat.le_of_ble_eq_true rfl) ⟨sm, rfl, rfl, by omega, by omega, ?_⟩
        · skip
          rw [hs, show j = to + 1 by omega]
      · skip
        refine z_iload ZC dX3_atLeast_11 rfl ?_
        refine z_sipush ZC dX3_atLeast_13 (by decide) ?_
        refine z_icmp_ge ZC 50 dX3_atLeast_16 (by decide) (by omega) (by omega) (fun c_16 => ?_) (fun c_16 => ?_)
        · skip
          omega
        · skip
          refine z_iload_n ZC 3 dX3_atLeast_19 rfl rfl ?_
          refine z_aload_n ZC 0 dX3_atLeast_20 rfl rfl ?_
          refine z_get ZC inUX3 0 rfl rfl 2 (by decide) uF_X3_18 rfl dX3_atLeast_21 ?_
          refine z_iload ZC dX3_atLeast_24 rfl ?_
          refine z_iald ZC 3 rfl dX3_atLeast_26 (by omega) ?_
          refine z_iconst ZC dX3_atLeast_27 ?_
          have hCj := hC j (by omega) (by omega)
          refine z_icmp_ne ZC 35 dX3_atLeast_28 (by decide) (by omega) (by omega) (fun c_28 => ?_) (fun c_28 => ?_)
          · skip
            refine z_aload_n ZC 0 dX3_atLeast_35 rfl rfl ?_
            refine z_get ZC inUX3 0 rfl rfl 2 (by decide) uF_X3_18 rfl dX3_atLeast_36 ?_
            refine z_iload ZC dX3_atLeast_39 rfl ?_
            refine z_iald ZC 3 rfl dX3_atLeast_41 (by omega) ?_
            refine z_iadd ZC dX3_atLeast_42 ?_
            refine z_istore_n ZC 3 dX3_atLeast_43 rfl (by decide) ?_
            refine z_iinc ZC dX3_atLeast_44 rfl (by decide) ?_
            refine z_goto ZC 5 dX3_atLeast_47 (by decide) ?_
            refine z_ws (ws2 := [(h, .inr (3, [.ref (a 0), .ref (a 1), .ref (a 2)])), ((a 0), .inl (K.1, 200, .inl (ar (Lo.1 0)))), ((a 1), .inl (K.1, 200, .inl (ar (Lo.1 1)))), ((a 2), .inl (K.1, 200, .inl (ar (Lo.1 2))))]) rfl (z_lv (lv2 := [(0, .ref h), (1, vZ fr), (2, vZ to), (3, vZ (sm + ((Lo.1 2) j))), (4, vZ (j + 1))]) ⟨rfl, rfl, rfl, rfl, rfl, trivial⟩ ?_)
            refine ih_5 (sm + ((Lo.1 2) j)) (j + 1) ?_ ?_ (by omega)
            · skip
              omega
            · skip
              rw [smI_next hj.1, hs, if_neg c_28]
          · skip
            refine z_iconst ZC dX3_atLeast_31 ?_
            refine z_goto ZC 42 dX3_atLeast_32 (by decide) ?_
            refine z_iadd ZC dX3_atLeast_42 ?_
            refine z_istore_n ZC 3 dX3_atLeast_43 rfl (by decide) ?_
            refine z_iinc ZC dX3_atLeast_44 rfl (by decide) ?_
            refine z_goto ZC 5 dX3_atLeast_47 (by decide) ?_
            refine z_ws (ws2 := [(h, .inr (3, [.ref (a 0), .ref (a 1), .ref (a 2)])), ((a 0), .inl (K.1, 200, .inl (ar (Lo.1 0)))), ((a 1), .inl (K.1, 200, .inl (ar (Lo.1 1)))), ((a 2), .inl (K.1, 200, .inl (ar (Lo.1 2))))]) rfl (z_lv (lv2 := [(0, .ref h), (1, vZ fr), (2, vZ to), (3, vZ (sm + 0)), (4, vZ (j + 1))]) ⟨rfl, rfl, rfl, rfl, rfl, trivial⟩ ?_)
            refine ih_5 (sm + 0) (j + 1) ?_ ?_ (by omega)
            · skip
              omega
            · skip
              rw [smI_next hj.1, hs, if_pos c_28]
  refine z_ws (ws2 := [(h, .inr (3, [.ref (a 0), .ref (a 1), .ref (a 2)])), ((a 0), .inl (K.1, 200, .inl (ar (Lo.1 0)))), ((a 1), .inl (K.1, 200, .inl (ar (Lo.1 1)))), ((a 2), .inl (K.1, 200, .inl (ar (Lo.1 2))))]) rfl (z_lv (lv2 := [(0, .ref h), (1, vZ fr), (2, vZ to), (3, vZ 0), (4, vZ fr)]) ⟨rfl, rfl, rfl, rfl, rfl, trivial⟩ ?_)
  refine lp_5 _ 0 fr ?_ ?_ (Nat.lt_succ_self _)
  · skip
    omega
  · skip
    rw [show (fr - fr).toNat = 0 by omega]; rfl

set_option maxHeartbeats 4000000 in
set_option maxRecDepth 100000 in
theorem c_X3_atMost (zl : Launch) (D : va_G) (K : tyK) (h : Nat) (a : Nat → Nat) (Lo : Bd) (fr : Int) (to : Int) (hft : 0 ≤ fr ∧ fr ≤ to ∧ to < 200) (hC : ∀ j : Int, 0 ≤ j → j < 200 → -1 ≤ Lo.1 2 j ∧ Lo.1 2 j ≤ 5000) : Mz zl yX3_atMost cX3_atMost 5 (some .int) 0 0 0 0 D K [.ref h, vZ fr, vZ to] (wLo K h a Lo) (fun r_ w2_ gc gs => ∃ (v : Int), r_ = some (vZ v) ∧ w2_ = (wLo K h a Lo) ∧ gc = 0 ∧ gs = 0 ∧ (v = smI (fun j => if Lo.1 2 j = -1 then Lo.1 1 j else Lo.1 2 j) fr (to + 1 - fr).toNat)) := by
  refine Mz.ofZ (by decide) rfl (Nat.le_of_ble_eq_true rfl) ?_
  intro zp ze zR zs zm zargs zbelow zmeth zc zA zQ ZC ZE hRf hRc hRs hRl
  refine z_iconst ZC dX3_atMost_0 ?_
  refine z_istore_n ZC 3 dX3_atMost_1 rfl (by decide) ?_
  refine z_iload_n ZC 1 dX3_atMost_2 rfl rfl ?_
  refine z_istore ZC dX3_atMost_3 (by decide) ?_
  have lp_5 : ∀ (n_5 : Nat) (sm : Int) (j : Int), (fr ≤ j ∧ j ≤ to + 1) → (sm = smI (fun j => if Lo.1 2 j = -1 then Lo.1 1 j else Lo.1 2 j) fr (j - fr).toNat) → ((to + 1 - j).toNat) < n_5 → Zw zp zl ze zR zs zm zargs zbelow zmeth zc D zA 5 zQ 0 0 ([(h, .inr (3, [.ref (a 0), .ref (a 1), .ref (a 2)])), ((a 0), .inl (K.1, 200, .inl (ar (Lo.1 0)))), ((a 1), .inl (K.1, 200, .inl (ar (Lo.1 1)))), ((a 2), .inl (K.1, 200, .inl (ar (Lo.1 2))))]) 5 [(0, .ref h), (1, vZ fr), (2, vZ to), (3, vZ sm), (4, vZ j)] [] := by
    intro n_5
    induction n_5 with
    | zero => intro sm j hj hs hm_5; exact absurd hm_5 (Nat.not_lt_zero _)
    | succ n_5 ih_5 =>
      intro sm j hj hs hm_5
      refine z_iload ZC dX3_atMost_5 rfl ?_
      refine z_iload_n ZC 2 dX3_atMost_7 rfl rfl ?_
      refine z_icmp_gt ZC 56 dX3_atMost_8 (by decide) (by omega) (by omega) (fun c_8 => ?_) (fun c_8 => ?_)
      · skip
        refine z_iload_n ZC 3 dX3_atMost_56 rfl rfl ?_
        refine z_iret ZC ZE dX3_atMost_57 (by omega) (by omega) (Nat.le_of_ble_eq_true rfl) ⟨sm, rfl, rfl, by omega, by omega, ?_⟩
        · skip
          rw [hs, show j = to + 1 by omega]
      · skip
        refine z_iload ZC dX3_atMost_11 rfl ?_
        refine z_sipush ZC dX3_atMost_13 (by decide) ?_
        refine z_icmp_ge ZC 56 dX3_atMost_16 (by decide) (by omega) (by omega) (fun c_16 => ?_) (fun c_16 => ?_)
        · skip
          omega
        · skip
          refine z_iload_n ZC 3 dX3_atMost_19 rfl rfl ?_
          refine z_aload_n ZC 0 dX3_atMost_20 rfl rfl ?_
          refine z_get ZC inUX3 0 rfl rfl 2 (by decide) uF_X3_18 rfl dX3_atMost_21 ?_
          refine z_iload ZC dX3_atMost_24 rfl ?_
          refine z_iald ZC 3 rfl dX3_atMost_26 (by omega) ?_
          refine z_iconst ZC dX3_atMost_27 ?_
          have hCj := hC j (by omega) (by omega)
          refine z_icmp_ne ZC 41 dX3_atMost_28 (by decide) (by omega) (by omega) (fun c_28 => ?_) (fun c_28 => ?_)
          · skip
            refine z_aload_n ZC 0 dX3_atMost_41 rfl rfl ?_
            refine z_get ZC inUX3 0 rfl rfl 2 (by decide) uF_X3_18 rfl dX3_atMost_42 ?_
            refine z_iload ZC dX3_atMost_45 rfl ?_
            refine z_iald ZC 3 rfl dX3_atMost_47 (by omega) ?_
            refine z_iadd ZC dX3_atMost_48 ?_
            refine z_istore_n ZC 3 dX3_atMost_49 rfl (by decide) ?_
            refine z_iinc ZC dX3_atMost_50 rfl (by decide) ?_
            refine z_goto ZC 5 dX3_atMost_53 (by decide) ?_
            refine z_ws (ws2 := [(h, .inr (3, [.ref (a 0), .ref (a 1), .ref (a 2)])), ((a 0), .inl (K.1, 200, .inl (ar (Lo.1 0)))), ((a 1), .inl (K.1, 200, .inl (ar (Lo.1 1)))), ((a 2), .inl (K.1, 200, .inl (ar (Lo.1 2))))]) rfl (z_lv (lv2 := [(0, .ref h), (1, vZ fr), (2, vZ to), (3, vZ (sm + ((Lo.1 2) j))), (4, vZ (j + 1))]) ⟨rfl, rfl, rfl, rfl, rfl, trivial⟩ ?_)
            refine ih_5 (sm + ((Lo.1 2) j)) (j + 1) ?_ ?_ (by omega)
            · skip
              omega
            · skip
              rw [smI_next hj.1, hs, if_neg c_28]
          · skip
            refine z_aload_n ZC 0 dX3_atMost_31 rfl rfl ?_
            refine z_get ZC inUX3 0 rfl rfl 1 (by decide) uF_X3_15 rfl dX3_atMost_32 ?_
            refine z_iload ZC dX3_atMost_35 rfl ?_
            refine z_iald ZC 2 rfl dX3_atMost_37 (by omega) ?_
            refine z_goto ZC 48 dX3_atMost_38 (by decide) ?_
            refine z_iadd ZC dX3_atMost_48 ?_
            refine z_istore_n ZC 3 dX3_atMost_49 rfl (by decide) ?_
            refine z_iinc ZC dX3_atMost_50 rfl (by decide) ?_
            refine z_goto ZC 5 dX3_atMost_53 (by decide) ?_
            refine z_ws (ws2 := [(h, .inr (3, [.ref (a 0), .ref (a 1), .ref (a 2)])), ((a 0), .inl (K.1, 200, .inl (ar (Lo.1 0)))), ((a 1), .inl (K.1, 200, .inl (ar (Lo.1 1)))), ((a 2), .inl (K.1, 200, .inl (ar (Lo.1 2))))]) rfl (z_lv (lv2 := [(0, .ref h), (1, vZ fr), (2, vZ to), (3, vZ (sm + ((Lo.1 1) j))), (4, vZ (j + 1))]) ⟨rfl, rfl, rfl, rfl, rfl, trivial⟩ ?_)
            refine ih_5 (sm + ((Lo.1 1) j)) (j + 1) ?_ ?_ (by omega)
            · skip
              omega
            · skip
              rw [smI_next hj.1, hs, if_pos c_28]
  refine z_ws (ws2 := [(h, .inr (3, [.ref (a 0), .ref (a 1), .ref (a 2)])), ((a 0), .inl (K.1, 200, .inl (ar (Lo.1 0)))), ((a 1), .inl (K.1, 200, .inl (ar (Lo.1 1)))), ((a 2), .inl (K.1, 200, .inl (ar (Lo.1 2))))]) rfl (z_lv (lv2 := [(0, .ref h), (1, vZ fr), (2, vZ to), (3, vZ 0), (4, vZ fr)]) ⟨rfl, rfl, rfl, rfl, rfl, trivial⟩ ?_)
  refine lp_5 _ 0 fr ?_ ?_ (Nat.lt_succ_self _)
  · skip
    omega
  · skip
    rw [show (fr - fr).toNat = 0 by omega]; rfl

set_option maxHeartbeats 4000000 in
set_option maxRecDepth 100000 in
theorem c_X3_note (zl : Launch) (D : va_G) (K : tyK) (h : Nat) (a : Nat → Nat) (Lo : Bd) (hour : Int) (o : Int) (mo : Int) (hh : 0 ≤ hour ∧ hour < 200) : Mz zl yX3_note cX3_note 4 (none) 0 0 0 0 D K [.ref h, vZ hour, vZ o, vZ mo] (wLo K h a Lo) (fun r_ w2_ gc gs => r_ = none ∧ w2_ = (wLo K h a ((upf (upf Lo.1 0 (upz (Lo.1 0) hour o)) 1 (upz (Lo.1 1) hour mo)), Lo.2)) ∧ gc = 0 ∧ gs = 0) := by
  refine Mz.ofZ (by decide) rfl (Nat.le_of_ble_eq_true rfl) ?_
  intro zp ze zR zs zm zargs zbelow zmeth zc zA zQ ZC ZE hRf hRc hRs hRl
  refine z_iload_n ZC 1 dX3_note_0 rfl rfl ?_
  refine z_if_lt ZC 25 dX3_note_1 (by decide) (by omega) (fun c_1 => ?_) (fun c_1 => ?_)
  · skip
    omega
  · skip
    refine z_iload_n ZC 1 dX3_note_4 rfl rfl ?_
    refine z_sipush ZC dX3_note_5 (by decide) ?_
    refine z_icmp_ge ZC 25 dX3_note_8 (by decide) (by omega) (by omega) (fun c_8 => ?_) (fun c_8 => ?_)
    · skip
      omega
    · skip
      refine z_aload_n ZC 0 dX3_note_11 rfl rfl ?_
      refine z_get ZC inUX3 0 rfl rfl 0 (by decide) uF_X3_9 rfl dX3_note_12 ?_
      refine z_iload_n ZC 1 dX3_note_15 rfl rfl ?_
      refine z_iload_n ZC 2 dX3_note_16 rfl rfl ?_
      refine z_iast ZC 1 rfl dX3_note_17 (by omega) ?_
      refine z_aload_n ZC 0 dX3_note_18 rfl rfl ?_
      refine z_get ZC inUX3 0 rfl rfl 1 (by decide) uF_X3_15 rfl dX3_note_19 ?_
      refine z_iload_n ZC 1 dX3_note_22 rfl rfl ?_
      refine z_iload_n ZC 3 dX3_note_23 rfl rfl ?_
      refine z_iast ZC 2 rfl dX3_note_24 (by omega) ?_
      exact z_vret ZC ZE dX3_note_25 (by omega) (by omega) (Nat.le_of_ble_eq_true rfl) ⟨rfl, rfl, by omega, by omega⟩

