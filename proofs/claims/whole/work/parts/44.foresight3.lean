/-! ===== Foresight: the crowds that wait, steps ===== -/
/-- the crowds below n that aren't let go before the hour now -/
def wl (f : Int → Int) (now : Int) : Nat → List Int
  | 0 => []
  | n + 1 => wl f now n ++ (if f (n : Int) < now then [] else [(n : Int)])
theorem wl_next {f : Int → Int} {now c : Int} (h : 0 ≤ c) : wl f now (c + 1).toNat = wl f now c.toNat ++ (if f c < now then [] else [c]) := by
  rw [show (c + 1).toNat = c.toNat + 1 by omega]
  show wl f now c.toNat ++ (if f ((c.toNat : Nat) : Int) < now then [] else [((c.toNat : Nat) : Int)]) = _
  rw [show ((c.toNat : Nat) : Int) = c by omega]
theorem wl_len {f : Int → Int} {now : Int} : ∀ {n : Nat} {c : Int}, (wl f now n).length ≤ (wl f now (n + 1)).length
  | n, c => by
    show _ ≤ (wl f now n ++ _).length
    rw [List.length_append]; omega
theorem wl_mono {f : Int → Int} {now : Int} {m : Nat} : ∀ {n : Nat}, m ≤ n → (wl f now m).length ≤ (wl f now n).length
  | 0, h => by rw [Nat.le_zero.mp h]; exact Nat.le_refl _
  | n + 1, h => by
    rcases Nat.lt_or_ge m (n + 1) with q | q
    · exact Nat.le_trans (wl_mono (n := n) (by omega)) (wl_len (c := 0))
    · rw [show m = n + 1 by omega]; exact Nat.le_refl _
theorem wl_mem {f : Int → Int} {now x : Int} : ∀ {n : Nat}, x ∈ wl f now n → 0 ≤ x ∧ x < n ∧ ¬ f x < now
  | 0, h => by cases h
  | n + 1, h => by
    rcases List.mem_append.mp h with h | h
    · have := wl_mem h
      exact ⟨this.1, by omega, this.2.2⟩
    · split at h
      · cases h
      · rw [List.mem_singleton.mp h]
        exact ⟨by omega, by omega, by assumption⟩
theorem getD_app {l : List Int} {x : Int} {i : Int} (h0 : 0 ≤ i) (h1 : i ≤ l.length) : (l ++ [x]).getD i.toNat 0 = if i = l.length then x else l.getD i.toNat 0 := by
  rw [List.getD_eq_getElem?_getD, List.getD_eq_getElem?_getD]
  by_cases e : i = l.length
  · rw [if_pos e, List.getElem?_append_right (by omega)]
    rw [show i.toNat - l.length = 0 by omega]; rfl
  · rw [if_neg e, List.getElem?_append_left (by omega)]

set_option maxHeartbeats 4000000 in
set_option maxRecDepth 100000 in
theorem c_X1_findWaiting (zl : Launch) (D : va_G) (K : tyK) (h : Nat) (a : Nat → Nat) (F : Bd) (au : Nat → Nat) (U : Bd) (ac : Nat → Nat) (Cr : Bd) (hc : 0 ≤ Cr.2 3 ∧ Cr.2 3 ≤ 8) (hu : ∀ c : Int, 0 ≤ c → c < Cr.2 3 → 0 ≤ U.1 5 c ∧ U.1 5 c ≤ 300) (hn : 0 ≤ U.2 12 ∧ U.2 12 ≤ 200) : Mz zl yX1_findWaiting cX1_findWaiting 2 (none) 1 21 0 0 D K [.ref h] ((wFo K h a F) ++ (wTr K (a 0) au U) ++ (wCr K (au 2) ac Cr)) (fun r_ w2_ gc gs => ∃ (Wa : Int → Int), ∃ (n : Int), r_ = none ∧ w2_ = ((wFo K h a ((upf F.1 3 Wa), (upf F.2 9 n))) ++ (wTr K (a 0) au U) ++ (wCr K (au 2) ac Cr)) ∧ gc = 0 ∧ gs = 0 ∧ ((4 < (wl (U.1 5) (U.2 12) (Cr.2 3).toNat).length ∧ n = 0) ∨ ((wl (U.1 5) (U.2 12) (Cr.2 3).toNat).length ≤ 4 ∧ n = (wl (U.1 5) (U.2 12) (Cr.2 3).toNat).length ∧ ∀ i : Int, 0 ≤ i → i < n → Wa i = (wl (U.1 5) (U.2 12) (Cr.2 3).toNat).getD i.toNat 0))) := by
  refine Mz.ofZ (by decide) rfl (Nat.le_of_ble_eq_true rfl) ?_
  intro zp ze zR zs zm zargs zbelow zmeth zc zA zQ ZC ZE hRf hRc hRs hRl
  refine z_aload_n ZC 0 dX1_findWaiting_0 rfl rfl ?_
  refine z_iconst ZC dX1_findWaiting_1 ?_
  refine z_put ZC inUX1 tyX1_ok nmX1 0 rfl rfl 9 (by decide) uF_X1_35 rfl (rfl) (rfl) (Nat.le_of_ble_eq_true rfl) dX1_findWaiting_2 ?_
  refine z_iconst ZC dX1_findWaiting_5 ?_
  refine z_istore_n ZC 1 dX1_findWaiting_6 rfl (by decide) ?_
  have lp_7 : ∀ (n_7 : Nat) (c : Int) (Wa : Int → Int) (n : Int), (0 ≤ c ∧ c ≤ Cr.2 3) → ((wl (U.1 5) (U.2 12) c.toNat).length ≤ 4 ∧ n = (wl (U.1 5) (U.2 12) c.toNat).length ∧ ∀ i : Int, 0 ≤ i → i < n → Wa i = (wl (U.1 5) (U.2 12) c.toNat).getD i.toNat 0) → ((Cr.2 3 - c).toNat) < n_7 → Zw zp zl ze zR zs zm zargs zbelow zmeth zc D zA 2 zQ 0 0 ([(h, .inr (1, [.ref (a 0), .ref (a 1), .ref (a 2), .ref (a 3), .ref (a 4), vZ (F.2 5), vZ (F.2 6), vZ (F.2 7), vZ (F.2 8), vZ n, vZ (F.2 10), vZ (F.2 11)])), ((a 2), .inl (K.1, 10, .inl (ar (F.1 2)))), ((a 3), .inl (K.1, 4, .inl (ar Wa))), ((a 4), .inl (K.1, 4, .inl (ar (F.1 4)))), ((a 0), .inr (6, [.ref (au 0), .ref (au 1), .ref (au 2), .ref (au 3), .ref (au 5), .ref (au 6), .ref (au 7), .ref (au 8), .ref (au 9), .ref (au 10), .ref (au 11), vZ (U.2 12), vZ (U.2 13), vZ (U.2 14), vZ (U.2 15)])), ((au 5), .inl (K.1, 8, .inl (ar (U.1 5)))), ((au 6), .inl (K.1, 8, .inl (ar (U.1 6)))), ((au 7), .inl (K.1, 8, .inl (ar (U.1 7)))), ((au 8), .inl (K.1, 10, .inl (ar (U.1 8)))), ((au 9), .inl (K.1, 10, .inl (ar (U.1 9)))), ((au 10), .inl (K.1, 10, .inl (ar (U.1 10)))), ((au 11), .inl (K.1, 16, .inl (ar (U.1 11)))), ((au 2), .inr (0, [.ref (ac 0), .ref (ac 1), .ref (ac 2), vZ (Cr.2 3), vZ (Cr.2 4)])), ((ac 0), .inl (K.1, 8, .inl (ar (Cr.1 0)))), ((ac 1), .inl (K.1, 8, .inl (ar (Cr.1 1)))), ((ac 2), .inl (K.1, 8, .inl (ar (Cr.1 2))))]) 7 [(0, .ref h), (1, vZ c)] [] := by
    intro n_7
    induction n_7 with
    | zero => intro c Wa n h0 h1 hm_7; exact absurd hm_7 (Nat.not_lt_zero _)
    | succ n_7 ih_7 =>
      intro c Wa n h0 h1 hm_7
      refine z_iload_n ZC 1 dX1_findWaiting_7 rfl rfl ?_
      refine z_aload_n ZC 0 dX1_findWaiting_8 rfl rfl ?_
      refine z_get ZC inUX1 0 rfl rfl 0 (by decide) uF_X1_21 rfl dX1_findWaiting_9 ?_
      refine z_get ZC inUX6 4 rfl rfl 2 (by decide) uF_X1_106 rfl dX1_findWaiting_12 ?_
      refine z_get ZC inUX0 12 rfl rfl 3 (by decide) uF_X1_110 rfl dX1_findWaiting_15 ?_
      refine z_icmp_ge ZC 72 dX1_findWaiting_18 (by decide) (by omega) (by omega) (fun c_18 => ?_) (fun c_18 => ?_)
      · skip
        refine z_vret ZC ZE dX1_findWaiting_72 (by omega) (by omega) (Nat.le_of_ble_eq_true rfl) ⟨Wa, n, rfl, rfl, by omega, by omega, ?_⟩
        · skip
          right
          rw [show Cr.2 3 = c by omega]
          exact h1
      · skip
        refine z_aload_n ZC 0 dX1_findWaiting_21 rfl rfl ?_
        refine z_get ZC inUX1 0 rfl rfl 0 (by decide) uF_X1_21 rfl dX1_findWaiting_22 ?_
        refine z_iload_n ZC 1 dX1_findWaiting_25 rfl rfl ?_
        refine z_callV ZC 1 (c_X6_isLetGo zl D K (a 0) au U c (by omega) (by have := hu c (by omega) (by omega); omega) (by omega)) (gdV uM_X1_115 uI_X6_isLetGo uS_X6_isLetGo uN_X6 uC_X6_isLetGo) (by decide +kernel) rfl ⟨by omega, by omega⟩ ⟨by omega, by omega⟩ (Nat.le_of_ble_eq_true rfl) [4, 5, 6, 7, 8, 9, 10, 11] rfl (by decide) rfl rfl rfl rfl dX1_findWaiting_26 (fun r w2 gc_26 gs_26 hp => ?_)
        obtain ⟨b_26, rfl, rfl, rfl, rfl, hb_26⟩ := hp
        refine z_ws (ws2 := [(h, .inr (1, [.ref (a 0), .ref (a 1), .ref (a 2), .ref (a 3), .ref (a 4), vZ (F.2 5), vZ (F.2 6), vZ (F.2 7), vZ (F.2 8), vZ n, vZ (F.2 10), vZ (F.2 11)])), ((a 2), .inl (K.1, 10, .inl (ar (F.1 2)))), ((a 3), .inl (K.1, 4, .inl (ar Wa))), ((a 4), .inl (K.1, 4, .inl (ar (F.1 4)))), ((a 0), .inr (6, [.ref (au 0), .ref (au 1), .ref (au 2), .ref (au 3), .ref (au 5), .ref (au 6), .ref (au 7), .ref (au 8), .ref (au 9), .ref (au 10), .ref (au 11), vZ (U.2 12), vZ (U.2 13), vZ (U.2 14), vZ (U.2 15)])), ((au 5), .inl (K.1, 8, .inl (ar (U.1 5)))), ((au 6), .inl (K.1, 8, .inl (ar (U.1 6)))), ((au 7), .inl (K.1, 8, .inl (ar (U.1 7)))), ((au 8), .inl (K.1, 10, .inl (ar (U.1 8)))), ((au 9), .inl (K.1, 10, .inl (ar (U.1 9)))), ((au 10), .inl (K.1, 10, .inl (ar (U.1 10)))), ((au 11), .inl (K.1, 16, .inl (ar (U.1 11)))), ((au 2), .inr (0, [.ref (ac 0), .ref (ac 1), .ref (ac 2), vZ (Cr.2 3), vZ (Cr.2 4)])), ((ac 0), .inl (K.1, 8, .inl (ar (Cr.1 0)))), ((ac 1), .inl (K.1, 8, .inl (ar (Cr.1 1)))), ((ac 2), .inl (K.1, 8, .inl (ar (Cr.1 2))))]) rfl ?_
        refine z_st (st2 := [vZ b_26]) rfl ?_
        refine z_if_ne ZC 66 dX1_findWaiting_29 (by decide) (by omega) (fun c_29 => ?_) (fun c_29 => ?_)
        · skip
          refine z_iinc ZC dX1_findWaiting_66 rfl (by decide) ?_
          refine z_goto ZC 7 dX1_findWaiting_69 (by decide) ?_
          refine z_ws (ws2 := [(h, .inr (1, [.ref (a 0), .ref (a 1), .ref (a 2), .ref (a 3), .ref (a 4), vZ (F.2 5), vZ (F.2 6), vZ (F.2 7), vZ (F.2 8), vZ n, vZ (F.2 10), vZ (F.2 11)])), ((a 2), .inl (K.1, 10, .inl (ar (F.1 2)))), ((a 3), .inl (K.1, 4, .inl (ar Wa))), ((a 4), .inl (K.1, 4, .inl (ar (F.1 4)))), ((a 0), .inr (6, [.ref (au 0), .ref (au 1), .ref (au 2), .ref (au 3), .ref (au 5), .ref (au 6), .ref (au 7), .ref (au 8), .ref (au 9), .ref (au 10), .ref (au 11), vZ (U.2 12), vZ (U.2 13), vZ (U.2 14), vZ (U.2 15)])), ((au 5), .inl (K.1, 8, .inl (ar (U.1 5)))), ((au 6), .inl (K.1, 8, .inl (ar (U.1 6)))), ((au 7), .inl (K.1, 8, .inl (ar (U.1 7)))), ((au 8), .inl (K.1, 10, .inl (ar (U.1 8)))), ((au 9), .inl (K.1, 10, .inl (ar (U.1 9)))), ((au 10), .inl (K.1, 10, .inl (ar (U.1 10)))), ((au 11), .inl (K.1, 16, .inl (ar (U.1 11)))), ((au 2), .inr (0, [.ref (ac 0), .ref (ac 1), .ref (ac 2), vZ (Cr.2 3), vZ (Cr.2 4)])), ((ac 0), .inl (K.1, 8, .inl (ar (Cr.1 0)))), ((ac 1), .inl (K.1, 8, .inl (ar (Cr.1 1)))), ((ac 2), .inl (K.1, 8, .inl (ar (Cr.1 2))))]) rfl (z_lv (lv2 := [(0, .ref h), (1, vZ (c + 1))]) ⟨rfl, rfl, trivial⟩ ?_)
          refine ih_7 (c + 1) Wa n ?_ ?_ (dec_lt hm_7 c_18)
          · skip
            omega
          · skip
            rw [wl_next h0.1, if_pos (by omega), List.append_nil]
            exact h1
        · skip
          refine z_aload_n ZC 0 dX1_findWaiting_32 rfl rfl ?_
          refine z_get ZC inUX1 0 rfl rfl 9 (by decide) uF_X1_35 rfl dX1_findWaiting_33 ?_
          refine z_iconst ZC dX1_findWaiting_36 ?_
          refine z_icmp_lt ZC 46 dX1_findWaiting_37 (by decide) (by omega) (by omega) (fun c_37 => ?_) (fun c_37 => ?_)
          · skip
            refine z_aload_n ZC 0 dX1_findWaiting_46 rfl rfl ?_
            refine z_get ZC inUX1 0 rfl rfl 3 (by decide) uF_X1_15 rfl dX1_findWaiting_47 ?_
            refine z_aload_n ZC 0 dX1_findWaiting_50 rfl rfl ?_
            refine z_get ZC inUX1 0 rfl rfl 9 (by decide) uF_X1_35 rfl dX1_findWaiting_51 ?_
            refine z_iload_n ZC 1 dX1_findWaiting_54 rfl rfl ?_
            refine z_iast ZC 2 rfl dX1_findWaiting_55 (by omega) ?_
            refine z_aload_n ZC 0 dX1_findWaiting_56 rfl rfl ?_
            refine z_dup ZC dX1_findWaiting_57 rfl ?_
            refine z_get ZC inUX1 0 rfl rfl 9 (by decide) uF_X1_35 rfl dX1_findWaiting_58 ?_
            refine z_iconst ZC dX1_findWaiting_61 ?_
            refine z_iadd ZC dX1_findWaiting_62 ?_
            refine z_put ZC inUX1 tyX1_ok nmX1 0 rfl rfl 9 (by decide) uF_X1_35 rfl (rfl) (rfl) (Nat.le_of_ble_eq_true rfl) dX1_findWaiting_63 ?_
            refine z_iinc ZC dX1_findWaiting_66 rfl (by decide) ?_
            refine z_goto ZC 7 dX1_findWaiting_69 (by decide) ?_
            refine z_ws (ws2 := [(h, .inr (1, [.ref (a 0), .ref (a 1), .ref (a 2), .ref (a 3), .ref (a 4), vZ (F.2 5), vZ (F.2 6), vZ (F.2 7), vZ (F.2 8), vZ (n + 1), vZ (F.2 10), vZ (F.2 11)])), ((a 2), .inl (K.1, 10, .inl (ar (F.1 2)))), ((a 3), .inl (K.1, 4, .inl (ar (upz Wa n c)))), ((a 4), .inl (K.1, 4, .inl (ar (F.1 4)))), ((a 0), .inr (6, [.ref (au 0), .ref (au 1), .ref (au 2), .ref (au 3), .ref (au 5), .ref (au 6), .ref (au 7), .ref (au 8), .ref (au 9), .ref (au 10), .ref (au 11), vZ (U.2 12), vZ (U.2 13), vZ (U.2 14), vZ (U.2 15)])), ((au 5), .inl (K.1, 8, .inl (ar (U.1 5)))), ((au 6), .inl (K.1, 8, .inl (ar (U.1 6)))), ((au 7), .inl (K.1, 8, .inl (ar (U.1 7)))), ((au 8), .inl (K.1, 10, .inl (ar (U.1 8)))), ((au 9), .inl (K.1, 10, .inl (ar (U.1 9)))), ((au 10), .inl (K.1, 10, .inl (ar (U.1 10)))), ((au 11), .inl (K.1, 16, .inl (ar (U.1 11)))), ((au 2), .inr (0, [.ref (ac 0), .ref (ac 1), .ref (ac 2), vZ (Cr.2 3), vZ (Cr.2 4)])), ((ac 0), .inl (K.1, 8, .inl (ar (Cr.1 0)))), ((ac 1), .inl (K.1, 8, .inl (ar (Cr.1 1)))), ((ac 2), .inl (K.1, 8, .inl (ar (Cr.1 2))))]) rfl (z_lv (lv2 := [(0, .ref h), (1, vZ (c + 1))]) ⟨rfl, rfl, trivial⟩ ?_)
            refine ih_7 (c + 1) (upz Wa n c) (n + 1) ?_ ?_ (dec_lt hm_7 c_18)
            · skip
              omega
            · skip
              rw [wl_next h0.1, if_neg (by omega), List.length_append]
              have hl := h1.1
              have he := h1.2.1
              refine ⟨by simp only [List.length_cons, List.length_nil]; omega, by simp only [List.length_cons, List.length_nil]; omega, fun i a b => ?_⟩
              rw [getD_app a (by omega)]
              unfold upz
              by_cases z : i = n
              · rw [if_pos z, if_pos (by omega)]
              · rw [if_neg z, if_neg (by omega)]
                exact h1.2.2 i a (by omega)
          · skip
            refine z_aload_n ZC 0 dX1_findWaiting_40 rfl rfl ?_
            refine z_iconst ZC dX1_findWaiting_41 ?_
            refine z_put ZC inUX1 tyX1_ok nmX1 0 rfl rfl 9 (by decide) uF_X1_35 rfl (rfl) (rfl) (Nat.le_of_ble_eq_true rfl) dX1_findWaiting_42 ?_
            refine z_vret ZC ZE dX1_findWaiting_45 (by omega) (by omega) (Nat.le_of_ble_eq_true rfl) ⟨Wa, 0, rfl, rfl, by omega, by omega, ?_⟩
            · skip
              left
              refine ⟨?_, rfl⟩
              have m := wl_mono (f := U.1 5) (now := U.2 12) (m := (c + 1).toNat) (n := (Cr.2 3).toNat) (by omega)
              rw [wl_next h0.1, if_neg (by omega), List.length_append] at m
              simp only [List.length_cons, List.length_nil] at m
              omega
  refine z_ws (ws2 := [(h, .inr (1, [.ref (a 0), .ref (a 1), .ref (a 2), .ref (a 3), .ref (a 4), vZ (F.2 5), vZ (F.2 6), vZ (F.2 7), vZ (F.2 8), vZ 0, vZ (F.2 10), vZ (F.2 11)])), ((a 2), .inl (K.1, 10, .inl (ar (F.1 2)))), ((a 3), .inl (K.1, 4, .inl (ar (F.1 3)))), ((a 4), .inl (K.1, 4, .inl (ar (F.1 4)))), ((a 0), .inr (6, [.ref (au 0), .ref (au 1), .ref (au 2), .ref (au 3), .ref (au 5), .ref (au 6), .ref (au 7), .ref (au 8), .ref (au 9), .ref (au 10), .ref (au 11), vZ (U.2 12), vZ (U.2 13), vZ (U.2 14), vZ (U.2 15)])), ((au 5), .inl (K.1, 8, .inl (ar (U.1 5)))), ((au 6), .inl (K.1, 8, .inl (ar (U.1 6)))), ((au 7), .inl (K.1, 8, .inl (ar (U.1 7)))), ((au 8), .inl (K.1, 10, .inl (ar (U.1 8)))), ((au 9), .inl (K.1, 10, .inl (ar (U.1 9)))), ((au 10), .inl (K.1, 10, .inl (ar (U.1 10)))), ((au 11), .inl (K.1, 16, .inl (ar (U.1 11)))), ((au 2), .inr (0, [.ref (ac 0), .ref (ac 1), .ref (ac 2), vZ (Cr.2 3), vZ (Cr.2 4)])), ((ac 0), .inl (K.1, 8, .inl (ar (Cr.1 0)))), ((ac 1), .inl (K.1, 8, .inl (ar (Cr.1 1)))), ((ac 2), .inl (K.1, 8, .inl (ar (Cr.1 2))))]) rfl (z_lv (lv2 := [(0, .ref h), (1, vZ 0)]) ⟨rfl, rfl, trivial⟩ ?_)
  refine lp_7 _ 0 (F.1 3) 0 ?_ ?_ (Nat.lt_succ_self _)
  · skip
    omega
  · skip
    exact ⟨by show 0 ≤ 4; omega, rfl, fun i a b => by omega⟩

set_option maxHeartbeats 4000000 in
set_option maxRecDepth 100000 in
theorem c_X1_stepOf (zl : Launch) (D : va_G) (K : tyK) (h : Nat) (a : Nat → Nat) (F : Bd) (way : Int) (place : Int) (hn : 0 < F.2 9 ∧ F.2 9 ≤ 4) (hp : 0 ≤ place ∧ place < F.2 9) (hw : 0 ≤ way ∧ way < 256) : Mz zl yX1_stepOf cX1_stepOf 3 (some .int) 0 0 0 0 D K [.ref h, vZ way, vZ place] (wFo K h a F) (fun r_ w2_ gc gs => r_ = some (vZ (stp (F.2 9) way place)) ∧ w2_ = (wFo K h a F) ∧ gc = 0 ∧ gs = 0) := by
  refine Mz.ofZ (by decide) rfl (Nat.le_of_ble_eq_true rfl) ?_
  intro zp ze zR zs zm zargs zbelow zmeth zc zA zQ ZC ZE hRf hRc hRs hRl
  refine z_iload_n ZC 1 dX1_stepOf_0 rfl rfl ?_
  refine z_iconst ZC dX1_stepOf_1 ?_
  refine z_aload_n ZC 0 dX1_stepOf_2 rfl rfl ?_
  refine z_get ZC inUX1 0 rfl rfl 9 (by decide) uF_X1_35 rfl dX1_stepOf_3 ?_
  refine z_iconst ZC dX1_stepOf_6 ?_
  refine z_isub ZC dX1_stepOf_7 ?_
  refine z_iload_n ZC 2 dX1_stepOf_8 rfl rfl ?_
  refine z_isub ZC dX1_stepOf_9 ?_
  refine z_imul ZC dX1_stepOf_10 ?_
  refine z_nm (fun sh esh => ?_)
  refine z_ishr ZC dX1_stepOf_11 (by omega) (by omega) ?_
  have hdv : 0 ≤ way / 2 ^ sh.toNat ∧ way / 2 ^ sh.toNat ≤ 256 := by
    have hp2 : (0 : Int) < 2 ^ sh.toNat := Int.pow_pos (by omega)
    exact ⟨Int.ediv_nonneg (by omega) (by omega), Int.le_trans (Int.ediv_le_self _ (by omega)) (by omega)⟩
  refine z_iconst ZC dX1_stepOf_12 ?_
  refine z_iand3 ZC dX1_stepOf_13 (by omega) ?_
  refine z_top (y := stp (F.2 9) way place) (by rw [esh]; rfl) ?_
  exact z_iret ZC ZE dX1_stepOf_14 (by omega) (by omega) (Nat.le_of_ble_eq_true rfl) ⟨rfl, rfl, by omega, by omega⟩

theorem stp_rng (n way i : Int) : 0 ≤ stp n way i ∧ stp n way i < 4 := by unfold stp; omega

set_option maxHeartbeats 4000000 in
set_option maxRecDepth 100000 in
theorem c_X1_isWithinHours (zl : Launch) (D : va_G) (K : tyK) (h : Nat) (a : Nat → Nat) (F : Bd) (au : Nat → Nat) (U : Bd) (way : Int) (hn : 0 < F.2 9 ∧ F.2 9 ≤ 4) (hw : 0 ≤ way ∧ way < 256) (hnw : 0 ≤ U.2 12 ∧ U.2 12 ≤ 200) : Mz zl yX1_isWithinHours cX1_isWithinHours 3 (some .boolean) 1 22 0 0 D K [.ref h, vZ way] ((wFo K h a F) ++ (wTr K (a 0) au U)) (fun r_ w2_ gc gs => ∃ (b : Int), r_ = some (vZ b) ∧ w2_ = ((wFo K h a F) ++ (wTr K (a 0) au U)) ∧ gc = 0 ∧ gs = 0 ∧ ((b = 1 ∧ (∀ i : Int, 0 ≤ i → i < F.2 9 → U.2 12 + stp (F.2 9) way i < 200)) ∨ (b = 0 ∧ ¬ (∀ i : Int, 0 ≤ i → i < F.2 9 → U.2 12 + stp (F.2 9) way i < 200)))) := by
  refine Mz.ofZ (by decide) rfl (Nat.le_of_ble_eq_true rfl) ?_
  intro zp ze zR zs zm zargs zbelow zmeth zc zA zQ ZC ZE hRf hRc hRs hRl
  refine z_iconst ZC dX1_isWithinHours_0 ?_
  refine z_istore_n ZC 2 dX1_isWithinHours_1 rfl (by decide) ?_
  have lp_2 : ∀ (n_2 : Nat) (i : Int), (0 ≤ i ∧ i ≤ F.2 9) → (∀ j : Int, 0 ≤ j → j < i → U.2 12 + stp (F.2 9) way j < 200) → ((F.2 9 - i).toNat) < n_2 → Zw zp zl ze zR zs zm zargs zbelow zmeth zc D zA 3 zQ 0 0 ([(h, .inr (1, [.ref (a 0), .ref (a 1), .ref (a 2), .ref (a 3), .ref (a 4), vZ (F.2 5), vZ (F.2 6), vZ (F.2 7), vZ (F.2 8), vZ (F.2 9), vZ (F.2 10), vZ (F.2 11)])), ((a 2), .inl (K.1, 10, .inl (ar (F.1 2)))), ((a 3), .inl (K.1, 4, .inl (ar (F.1 3)))), ((a 4), .inl (K.1, 4, .inl (ar (F.1 4)))), ((a 0), .inr (6, [.ref (au 0), .ref (au 1), .ref (au 2), .ref (au 3), .ref (au 5), .ref (au 6), .ref (au 7), .ref (au 8), .ref (au 9), .ref (au 10), .ref (au 11), vZ (U.2 12), vZ (U.2 13), vZ (U.2 14), vZ (U.2 15)])), ((au 5), .inl (K.1, 8, .inl (ar (U.1 5)))), ((au 6), .inl (K.1, 8, .inl (ar (U.1 6)))), ((au 7), .inl (K.1, 8, .inl (ar (U.1 7)))), ((au 8), .inl (K.1, 10, .inl (ar (U.1 8)))), ((au 9), .inl (K.1, 10, .inl (ar (U.1 9)))), ((au 10), .inl (K.1, 10, .inl (ar (U.1 10)))), ((au 11), .inl (K.1, 16, .inl (ar (U.1 11))))]) 2 [(0, .ref h), (1, vZ way), (2, vZ i)] [] := by
    intro n_2
    induction n_2 with
    | zero => intro i h0 h1 hm_2; exact absurd hm_2 (Nat.not_lt_zero _)
    | succ n_2 ih_2 =>
      intro i h0 h1 hm_2
      refine z_iload_n ZC 2 dX1_isWithinHours_2 rfl rfl ?_
      refine z_aload_n ZC 0 dX1_isWithinHours_3 rfl rfl ?_
      refine z_get ZC inUX1 0 rfl rfl 9 (by decide) uF_X1_35 rfl dX1_isWithinHours_4 ?_
      refine z_icmp_ge ZC 38 dX1_isWithinHours_7 (by decide) (by omega) (by omega) (fun c_7 => ?_) (fun c_7 => ?_)
      · skip
        refine z_iconst ZC dX1_isWithinHours_38 ?_
        refine z_zret ZC ZE dX1_isWithinHours_39 (by omega) (by omega) (by omega) (Nat.le_of_ble_eq_true rfl) ⟨1, rfl, rfl, by omega, by omega, ?_⟩
        · skip
          left
          refine ⟨rfl, fun j a b => h1 j a (by omega)⟩
      · skip
        refine z_aload_n ZC 0 dX1_isWithinHours_10 rfl rfl ?_
        refine z_get ZC inUX1 0 rfl rfl 0 (by decide) uF_X1_21 rfl dX1_isWithinHours_11 ?_
        refine z_get ZC inUX6 4 rfl rfl 11 (by decide) uF_X1_39 rfl dX1_isWithinHours_14 ?_
        refine z_aload_n ZC 0 dX1_isWithinHours_17 rfl rfl ?_
        refine z_iload_n ZC 1 dX1_isWithinHours_18 rfl rfl ?_
        refine z_iload_n ZC 2 dX1_isWithinHours_19 rfl rfl ?_
        refine z_callV ZC 2 (c_X1_stepOf zl D K h a F way i (by omega) (by omega) (by omega)) (gdV uM_X1_118 uI_X1_stepOf uS_X1_stepOf uN_X1 uC_X1_stepOf) (by decide +kernel) rfl ⟨by omega, by omega⟩ ⟨by omega, by omega⟩ (Nat.le_of_ble_eq_true rfl) [0, 1, 2, 3] rfl (by decide) rfl rfl rfl rfl dX1_isWithinHours_20 (fun r w2 gc_20 gs_20 hp => ?_)
        obtain ⟨rfl, rfl, rfl, rfl⟩ := hp
        refine z_ws (ws2 := [(h, .inr (1, [.ref (a 0), .ref (a 1), .ref (a 2), .ref (a 3), .ref (a 4), vZ (F.2 5), vZ (F.2 6), vZ (F.2 7), vZ (F.2 8), vZ (F.2 9), vZ (F.2 10), vZ (F.2 11)])), ((a 2), .inl (K.1, 10, .inl (ar (F.1 2)))), ((a 3), .inl (K.1, 4, .inl (ar (F.1 3)))), ((a 4), .inl (K.1, 4, .inl (ar (F.1 4)))), ((a 0), .inr (6, [.ref (au 0), .ref (au 1), .ref (au 2), .ref (au 3), .ref (au 5), .ref (au 6), .ref (au 7), .ref (au 8), .ref (au 9), .ref (au 10), .ref (au 11), vZ (U.2 12), vZ (U.2 13), vZ (U.2 14), vZ (U.2 15)])), ((au 5), .inl (K.1, 8, .inl (ar (U.1 5)))), ((au 6), .inl (K.1, 8, .inl (ar (U.1 6)))), ((au 7), .inl (K.1, 8, .inl (ar (U.1 7)))), ((au 8), .inl (K.1, 10, .inl (ar (U.1 8)))), ((au 9), .inl (K.1, 10, .inl (ar (U.1 9)))), ((au 10), .inl (K.1, 10, .inl (ar (U.1 10)))), ((au 11), .inl (K.1, 16, .inl (ar (U.1 11))))]) rfl ?_
        refine z_st (st2 := [vZ (stp (F.2 9) way i), vZ (U.2 12)]) rfl ?_
        refine z_iadd ZC dX1_isWithinHours_23 ?_
        refine z_sipush ZC dX1_isWithinHours_24 (by decide) ?_
        have hsr := stp_rng (F.2 9) way i
        refine z_icmp_lt ZC 32 dX1_isWithinHours_27 (by decide) (by omega) (by omega) (fun c_27 => ?_) (fun c_27 => ?_)
        · skip
          refine z_iinc ZC dX1_isWithinHours_32 rfl (by decide) ?_
          refine z_goto ZC 2 dX1_isWithinHours_35 (by decide) ?_
          refine z_ws (ws2 := [(h, .inr (1, [.ref (a 0), .ref (a 1), .ref (a 2), .ref (a 3), .ref (a 4), vZ (F.2 5), vZ (F.2 6), vZ (F.2 7), vZ (F.2 8), vZ (F.2 9), vZ (F.2 10), vZ (F.2 11)])), ((a 2), .inl (K.1, 10, .inl (ar (F.1 2)))), ((a 3), .inl (K.1, 4, .inl (ar (F.1 3)))), ((a 4), .inl (K.1, 4, .inl (ar (F.1 4)))), ((a 0), .inr (6, [.ref (au 0), .ref (au 1), .ref (au 2), .ref (au 3), .ref (au 5), .ref (au 6), .ref (au 7), .ref (au 8), .ref (au 9), .ref (au 10), .ref (au 11), vZ (U.2 12), vZ (U.2 13), vZ (U.2 14), vZ (U.2 15)])), ((au 5), .inl (K.1, 8, .inl (ar (U.1 5)))), ((au 6), .inl (K.1, 8, .inl (ar (U.1 6)))), ((au 7), .inl (K.1, 8, .inl (ar (U.1 7)))), ((au 8), .inl (K.1, 10, .inl (ar (U.1 8)))), ((au 9), .inl (K.1, 10, .inl (ar (U.1 9)))), ((au 10), .inl (K.1, 10, .inl (ar (U.1 10)))), ((au 11), .inl (K.1, 16, .inl (ar (U.1 11))))]) rfl (z_lv (lv2 := [(0, .ref h), (1, vZ way), (2, vZ (i + 1))]) ⟨rfl, rfl, rfl, trivial⟩ ?_)
          refine ih_2 (i + 1) ?_ ?_ (dec_lt hm_2 c_7)
          · skip
            omega
          · skip
            intro j a b
            by_cases z : j = i
            · subst z; exact c_27
            · exact h1 j a (by omega)
        · skip
          refine z_iconst ZC dX1_isWithinHours_30 ?_
          refine z_zret ZC ZE dX1_isWithinHours_31 (by omega) (by omega) (by omega) (Nat.le_of_ble_eq_true rfl) ⟨0, rfl, rfl, by omega, by omega, ?_⟩
          · skip
            right
            refine ⟨rfl, fun q => ?_⟩
            have := q i (by omega) (by omega)
            omega
  refine z_ws (ws2 := [(h, .inr (1, [.ref (a 0), .ref (a 1), .ref (a 2), .ref (a 3), .ref (a 4), vZ (F.2 5), vZ (F.2 6), vZ (F.2 7), vZ (F.2 8), vZ (F.2 9), vZ (F.2 10), vZ (F.2 11)])), ((a 2), .inl (K.1, 10, .inl (ar (F.1 2)))), ((a 3), .inl (K.1, 4, .inl (ar (F.1 3)))), ((a 4), .inl (K.1, 4, .inl (ar (F.1 4)))), ((a 0), .inr (6, [.ref (au 0), .ref (au 1), .ref (au 2), .ref (au 3), .ref (au 5), .ref (au 6), .ref (au 7), .ref (au 8), .ref (au 9), .ref (au 10), .ref (au 11), vZ (U.2 12), vZ (U.2 13), vZ (U.2 14), vZ (U.2 15)])), ((au 5), .inl (K.1, 8, .inl (ar (U.1 5)))), ((au 6), .inl (K.1, 8, .inl (ar (U.1 6)))), ((au 7), .inl (K.1, 8, .inl (ar (U.1 7)))), ((au 8), .inl (K.1, 10, .inl (ar (U.1 8)))), ((au 9), .inl (K.1, 10, .inl (ar (U.1 9)))), ((au 10), .inl (K.1, 10, .inl (ar (U.1 10)))), ((au 11), .inl (K.1, 16, .inl (ar (U.1 11))))]) rfl (z_lv (lv2 := [(0, .ref h), (1, vZ way), (2, vZ 0)]) ⟨rfl, rfl, rfl, trivial⟩ ?_)
  refine lp_2 _ 0 ?_ ?_ (Nat.lt_succ_self _)
  · skip
    omega
  · skip
    intro j a b; omega

set_option maxHeartbeats 4000000 in
set_option maxRecDepth 100000 in
theorem c_X1_keepWay (zl : Launch) (D : va_G) (K : tyK) (h : Nat) (a : Nat → Nat) (F : Bd) (way : Int) (e1 : Int) (w1 : Int) (hn : 0 < F.2 9 ∧ F.2 9 ≤ 4) (hw : 0 ≤ way ∧ way < 256) : Mz zl yX1_keepWay cX1_keepWay 5 (none) 1 22 0 0 D K [.ref h, vZ way, vZ e1, vZ w1] (wFo K h a F) (fun r_ w2_ gc gs => ∃ (Bs : Int → Int), r_ = none ∧ w2_ = (wFo K h a ((upf F.1 4 Bs), (upf (upf F.2 10 e1) 11 w1))) ∧ gc = 0 ∧ gs = 0 ∧ (∀ i : Int, 0 ≤ i → i < F.2 9 → Bs i = stp (F.2 9) way i)) := by
  refine Mz.ofZ (by decide) rfl (Nat.le_of_ble_eq_true rfl) ?_
  intro zp ze zR zs zm zargs zbelow zmeth zc zA zQ ZC ZE hRf hRc hRs hRl
  refine z_aload_n ZC 0 dX1_keepWay_0 rfl rfl ?_
  refine z_iload_n ZC 2 dX1_keepWay_1 rfl rfl ?_
  refine z_put ZC inUX1 tyX1_ok nmX1 0 rfl rfl 10 (by decide) uF_X1_83 rfl (rfl) (rfl) (Nat.le_of_ble_eq_true rfl) dX1_keepWay_2 ?_
  refine z_aload_n ZC 0 dX1_keepWay_5 rfl rfl ?_
  refine z_iload_n ZC 3 dX1_keepWay_6 rfl rfl ?_
  refine z_put ZC inUX1 tyX1_ok nmX1 0 rfl rfl 11 (by decide) uF_X1_89 rfl (rfl) (rfl) (Nat.le_of_ble_eq_true rfl) dX1_keepWay_7 ?_
  refine z_iconst ZC dX1_keepWay_10 ?_
  refine z_istore ZC dX1_keepWay_11 (by decide) ?_
  have lp_13 : ∀ (n_13 : Nat) (i : Int) (Bs : Int → Int), (0 ≤ i ∧ i ≤ F.2 9) → (∀ j : Int, 0 ≤ j → j < i → Bs j = stp (F.2 9) way j) → ((F.2 9 - i).toNat) < n_13 → Zw zp zl ze zR zs zm zargs zbelow zmeth zc D zA 5 zQ 0 0 ([(h, .inr (1, [.ref (a 0), .ref (a 1), .ref (a 2), .ref (a 3), .ref (a 4), vZ (F.2 5), vZ (F.2 6), vZ (F.2 7), vZ (F.2 8), vZ (F.2 9), vZ e1, vZ w1])), ((a 2), .inl (K.1, 10, .inl (ar (F.1 2)))), ((a 3), .inl (K.1, 4, .inl (ar (F.1 3)))), ((a 4), .inl (K.1, 4, .inl (ar Bs)))]) 13 [(0, .ref h), (1, vZ way), (2, vZ e1), (3, vZ w1), (4, vZ i)] [] := by
    intro n_13
    induction n_13 with
    | zero => intro i Bs h0 h1 hm_13; exact absurd hm_13 (Nat.not_lt_zero _)
    | succ n_13 ih_13 =>
      intro i Bs h0 h1 hm_13
      refine z_iload ZC dX1_keepWay_13 rfl ?_
      refine z_aload_n ZC 0 dX1_keepWay_15 rfl rfl ?_
      refine z_get ZC inUX1 0 rfl rfl 9 (by decide) uF_X1_35 rfl dX1_keepWay_16 ?_
      refine z_icmp_ge ZC 42 dX1_keepWay_19 (by decide) (by omega) (by omega) (fun c_19 => ?_) (fun c_19 => ?_)
      · skip
        refine z_vret ZC ZE dX1_keepWay_42 (by omega) (by omega) (Nat.le_of_ble_eq_true rfl) ⟨Bs, rfl, rfl, by omega, by omega, ?_⟩
        · skip
          intro j a b
          exact h1 j a (by omega)
      · skip
        refine z_aload_n ZC 0 dX1_keepWay_22 rfl rfl ?_
        refine z_get ZC inUX1 0 rfl rfl 4 (by decide) uF_X1_18 rfl dX1_keepWay_23 ?_
        refine z_iload ZC dX1_keepWay_26 rfl ?_
        refine z_aload_n ZC 0 dX1_keepWay_28 rfl rfl ?_
        refine z_iload_n ZC 1 dX1_keepWay_29 rfl rfl ?_
        refine z_iload ZC dX1_keepWay_30 rfl ?_
        have hy_hn_32_0 : 0 < (F.2 9) ∧ (F.2 9) ≤ 4 := by omega
        have hy_hp_32_0 : 0 ≤ i ∧ i < (F.2 9) := by omega
        have hy_hw_32_0 : 0 ≤ way ∧ way < 256 := by omega
        refine z_callV ZC 2 (c_X1_stepOf zl D K h a ((upf F.1 4 Bs), (upf (upf F.2 10 e1) 11 w1)) way i (hy_hn_32_0) (hy_hp_32_0) (hy_hw_32_0)) (gdV uM_X1_118 uI_X1_stepOf uS_X1_stepOf uN_X1 uC_X1_stepOf) (by decide +kernel) rfl ⟨by omega, by omega⟩ ⟨by omega, by omega⟩ (Nat.le_of_ble_eq_true rfl) [0, 1, 2, 3] rfl (by decide) rfl rfl rfl rfl dX1_keepWay_32 (fun r w2 gc_32 gs_32 hp => ?_)
        obtain ⟨rfl, rfl, rfl, rfl⟩ := hp
        refine z_top (y := (stp ((F.2 9)) way i)) rfl ?_
        refine z_ws (ws2 := [(h, .inr (1, [.ref (a 0), .ref (a 1), .ref (a 2), .ref (a 3), .ref (a 4), vZ (F.2 5), vZ (F.2 6), vZ (F.2 7), vZ (F.2 8), vZ (F.2 9), vZ e1, vZ w1])), ((a 2), .inl (K.1, 10, .inl (ar (F.1 2)))), ((a 3), .inl (K.1, 4, .inl (ar (F.1 3)))), ((a 4), .inl (K.1, 4, .inl (ar Bs)))]) rfl ?_
        refine z_st (st2 := [vZ (stp ((F.2 9)) way i), vZ i, .ref (a 4)]) rfl ?_
        refine z_iast ZC 3 rfl dX1_keepWay_35 (by omega) ?_
        refine z_iinc ZC dX1_keepWay_36 rfl (by decide) ?_
        refine z_goto ZC 13 dX1_keepWay_39 (by decide) ?_
        refine z_ws (ws2 := [(h, .inr (1, [.ref (a 0), .ref (a 1), .ref (a 2), .ref (a 3), .ref (a 4), vZ (F.2 5), vZ (F.2 6), vZ (F.2 7), vZ (F.2 8), vZ (F.2 9), vZ e1, vZ w1])), ((a 2), .inl (K.1, 10, .inl (ar (F.1 2)))), ((a 3), .inl (K.1, 4, .inl (ar (F.1 3)))), ((a 4), .inl (K.1, 4, .inl (ar (upz Bs i (stp ((F.2 9)) way i)))))]) rfl (z_lv (lv2 := [(0, .ref h), (1, vZ way), (2, vZ e1), (3, vZ w1), (4, vZ (i + 1))]) ⟨rfl, rfl, rfl, rfl, rfl, trivial⟩ ?_)
        refine ih_13 (i + 1) (upz Bs i (stp ((F.2 9)) way i)) ?_ ?_ (dec_lt hm_13 c_19)
        · skip
          omega
        · skip
          intro j a b
          unfold upz
          split
          · rename_i z; rw [z]
          · exact h1 j a (by omega)
  refine z_ws (ws2 := [(h, .inr (1, [.ref (a 0), .ref (a 1), .ref (a 2), .ref (a 3), .ref (a 4), vZ (F.2 5), vZ (F.2 6), vZ (F.2 7), vZ (F.2 8), vZ (F.2 9), vZ e1, vZ w1])), ((a 2), .inl (K.1, 10, .inl (ar (F.1 2)))), ((a 3), .inl (K.1, 4, .inl (ar (F.1 3)))), ((a 4), .inl (K.1, 4, .inl (ar (F.1 4))))]) rfl (z_lv (lv2 := [(0, .ref h), (1, vZ way), (2, vZ e1), (3, vZ w1), (4, vZ 0)]) ⟨rfl, rfl, rfl, rfl, rfl, trivial⟩ ?_)
  refine lp_13 _ 0 (F.1 4) ?_ ?_ (Nat.lt_succ_self _)
  · skip
    omega
  · skip
    intro j a b; omega

