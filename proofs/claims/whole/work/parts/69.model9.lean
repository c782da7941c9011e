/-! ===== the reference: the plan ===== -/
theorem div_step {c W : Int} {m : Nat} (hc : 0 ≤ c) (hW : 1 ≤ W) : c / W ^ m / W = c / W ^ (m + 1) := by
  obtain ⟨a, rfl⟩ : ∃ a : Nat, c = (a : Int) := ⟨c.toNat, by omega⟩
  obtain ⟨w, rfl⟩ : ∃ w : Nat, W = (w : Int) := ⟨W.toNat, by omega⟩
  rw [← Int.natCast_pow, ← Int.natCast_pow, ← Int.natCast_ediv, ← Int.natCast_ediv, ← Int.natCast_ediv, Nat.div_div_eq_div_mul, Nat.pow_succ]
theorem div_rng {c W : Int} {m : Nat} (hc : 0 ≤ c ∧ c ≤ 256) (hW : 1 ≤ W) : 0 ≤ c / W ^ m ∧ c / W ^ m ≤ 256 := by
  have h : (0 : Int) < W ^ m := Int.pow_pos (by omega)
  exact ⟨Int.ediv_nonneg hc.1 (by omega), Int.le_trans (Int.ediv_le_self _ hc.1) hc.2⟩
theorem aFl_rng {Cr : Bd} {A : Ab} (h : AR Cr A) : -1 ≤ aFl Cr A ∧ aFl Cr A ≤ 200 := by
  refine ⟨?_, aFl_le h⟩
  have hlow : ∀ (f : Int → Int) (m : Nat), -1 ≤ aMx f m := by
    intro f m
    induction m with
    | zero => exact Int.le_refl _
    | succ m ih => show -1 ≤ max (aMx f m) (f (m : Int)); omega
  unfold aFl
  split
  · omega
  · exact hlow _ _
theorem mod_rng {x W : Int} (hW : 1 ≤ W ∧ W ≤ 4) : 0 ≤ x % W ∧ x % W < W := ⟨Int.emod_nonneg _ (by omega), Int.emod_lt_of_pos _ (by omega)⟩

set_option maxHeartbeats 4000000 in
set_option maxRecDepth 100000 in
theorem c_X8_plans (zl : Launch) (D : va_G) (K : tyK) (h : Nat) (a : Nat → Nat) (M : Bd) (To : Bd) (Ne : Bd) (Cr : Bd) (A : Ab) (C : Int → List Pt3) (hcf : Cfg Ne Cr) (hnw : NW Ne) (hms : MS To Ne Cr M) (hto : 0 ≤ To.2 3 ∧ To.2 3 ≤ 10) (hab : AB Ne Cr A) (hmx : MX Cr A M C) (har : AR Cr A) (hao : AO A) (hli : ∀ t : Int, 0 ≤ t → t < 10 → -1 ≤ M.1 33 t ∧ M.1 33 t ≤ 1000) (hah : ∀ c : Int, 0 ≤ c → c < Cr.2 3 → A.1 0 c ≤ 199) : Mz zl yX8_plans cX8_plans 7 (some .int) 5 114 0 0 D K [.ref h] (wMo K h a M) (fun r_ w2_ gc gs => ∃ (M2 : Bd), ∃ (v : Int), r_ = some (vZ v) ∧ w2_ = (wMo K h a M2) ∧ gc = 0 ∧ gs = 0 ∧ (MX Cr A M2 C) ∧ (KP [16, 22, 23, 24, 25, 26, 27, 28, 29, 30, 31, 32, 33, 35, 39, 40] [20, 21, 34, 36, 37, 38, 41, 42, 43] M M2) ∧ (∀ t : Int, 0 ≤ t → t < 10 → -1 ≤ M2.1 33 t ∧ M2.1 33 t ≤ 1000) ∧ ((((wlA Cr A).length = 0 ∨ 4 < (wlA Cr A).length) ∧ v = -1) ∨ ((0 < (wlA Cr A).length ∧ (wlA Cr A).length ≤ 4) ∧ v = ((wlA Cr A).length : Int) ∧ (∀ i : Int, 0 ≤ i → i < v → M2.1 39 i = (wlA Cr A).getD i.toNat 0) ∧ M2.2 42 = (pFold Ne Cr A (4 ^ (wlA Cr A).length)).1 ∧ M2.2 43 = (pFold Ne Cr A (4 ^ (wlA Cr A).length)).2.1 ∧ (0 ≤ M2.2 41 ∧ M2.2 41 ≤ 256) ∧ cv (min 4 (200 - A.2.1 0)).toNat (wlA Cr A).length (M2.2 41) = (pFold Ne Cr A (4 ^ (wlA Cr A).length)).2.2))) := by
  refine Mz.ofZ (by decide) rfl (Nat.le_of_ble_eq_true rfl) ?_
  intro zp ze zR zs zm zargs zbelow zmeth zc zA zQ ZC ZE hRf hRc hRs hRl
  have hnn := hab.2.1
  have hc8 := hcf.2.1
  have e12 : M.2 12 = Cr.2 3 := hms.2.2.1
  have e20 : M.2 20 = A.2.1 0 := hmx.2.2.2.1
  refine z_iconst ZC dX8_plans_0 ?_
  refine z_istore_n ZC 1 dX8_plans_1 rfl (by decide) ?_
  refine z_iconst ZC dX8_plans_2 ?_
  refine z_istore_n ZC 2 dX8_plans_3 rfl (by decide) ?_
  have lp_4 : ∀ (n_4 : Nat) (n : Int) (c : Int) (Fe : Int → Int) (Ws : Int → Int), (0 ≤ c ∧ c ≤ Cr.2 3) → ((wl (A.1 0) (A.2.1 0) c.toNat).length ≤ 4 ∧ n = ((wl (A.1 0) (A.2.1 0) c.toNat).length : Int) ∧ ∀ i : Int, 0 ≤ i → i < n → Fe i = (wl (A.1 0) (A.2.1 0) c.toNat).getD i.toNat 0 ∧ Ws i = A.1 0 (Fe i)) → ((Cr.2 3 - c).toNat) < n_4 → Zw zp zl ze zR zs zm zargs zbelow zmeth zc D zA 7 zQ 0 0 ([(h, .inr (8, [vZ (M.2 0), .ref (a 1), .ref (a 2), vZ (M.2 3), vZ (M.2 4), .ref (a 5), .ref (a 6), .ref (a 7), .ref (a 8), .ref (a 9), .ref (a 10), .ref (a 11), vZ (M.2 12), .ref (a 13), .ref (a 14), .ref (a 15), .ref (a 16), .ref (a 17), .ref (a 18), .ref (a 19), vZ (M.2 20), vZ (M.2 21), .ref (a 22), .ref (a 23), .ref (a 24), .ref (a 25), .ref (a 26), .ref (a 27), .ref (a 28), .ref (a 29), .ref (a 30), .ref (a 31), .ref (a 32), .ref (a 33), vZ (M.2 34), .ref (a 35), vZ (M.2 36), vZ (M.2 37), vZ (M.2 38), .ref (a 39), .ref (a 40), vZ (M.2 41), vZ (M.2 42), vZ (M.2 43)])), ((a 1), .inl (K.1, 10, .inl (ar (M.1 1)))), ((a 2), .inl (K.1, 10, .inl (ar (M.1 2)))), ((a 5), .inl (K.1, 16, .inl (ar (M.1 5)))), ((a 6), .inl (K.1, 16, .inl (ar (M.1 6)))), ((a 7), .inl (K.1, 16, .inl (ar (M.1 7)))), ((a 8), .inl (K.1, 16, .inl (ar (M.1 8)))), ((a 9), .inl (K.1, 16, .inl (ar (M.1 9)))), ((a 10), .inl (K.1, 16, .inl (ar (M.1 10)))), ((a 11), .inl (K.1, 100, .inl (ar (M.1 11)))), ((a 13), .inl (K.1, 8, .inl (ar (M.1 13)))), ((a 14), .inl (K.1, 8, .inl (ar (M.1 14)))), ((a 15), .inl (K.1, 8, .inl (ar (M.1 15)))), ((a 16), .inl (K.1, 8, .inl (ar (M.1 16)))), ((a 17), .inl (K.1, 3200, .inl (ar (M.1 17)))), ((a 18), .inl (K.1, 3200, .inl (ar (M.1 18)))), ((a 19), .inl (K.2.1, 3200, .inl (ar (M.1 19)))), ((a 22), .inl (K.1, 3400, .inl (ar (M.1 22)))), ((a 23), .inl (K.1, 3400, .inl (ar (M.1 23)))), ((a 24), .inl (K.1, 3400, .inl (ar (M.1 24)))), ((a 25), .inl (K.1, 3400, .inl (ar (M.1 25)))), ((a 26), .inl (K.1, 32, .inl (ar (M.1 26)))), ((a 27), .inl (K.1, 32, .inl (ar (M.1 27)))), ((a 28), .inl (K.2.1, 8, .inl (ar (M.1 28)))), ((a 29), .inl (K.1, 8, .inl (ar (M.1 29)))), ((a 30), .inl (K.1, 8, .inl (ar (M.1 30)))), ((a 31), .inl (K.1, 10, .inl (ar (M.1 31)))), ((a 32), .inl (K.1, 10, .inl (ar (M.1 32)))), ((a 33), .inl (K.1, 10, .inl (ar (M.1 33)))), ((a 35), .inl (K.1, 13711, .inl (ar (M.1 35)))), ((a 39), .inl (K.1, 4, .inl (ar Fe))), ((a 40), .inl (K.1, 4, .inl (ar Ws)))]) 4 [(0, .ref h), (1, vZ n), (2, vZ c)] [] := by
    intro n_4
    induction n_4 with
    | zero => intro n c Fe Ws h0 h1 hm_4; exact absurd hm_4 (Nat.not_lt_zero _)
    | succ n_4 ih_4 =>
      intro n c Fe Ws h0 h1 hm_4
      refine z_iload_n ZC 2 dX8_plans_4 rfl rfl ?_
      refine z_aload_n ZC 0 dX8_plans_5 rfl rfl ?_
      refine z_get ZC inUX8 0 rfl rfl 12 (by decide) uF_X8_121 rfl dX8_plans_6 ?_
      refine z_icmp_ge ZC 59 dX8_plans_9 (by decide) (by omega) (by omega) (fun c_9 => ?_) (fun c_9 => ?_)
      · skip
        have ewl : (wl (A.1 0) (A.2.1 0) c.toNat) = wlA Cr A := by
          unfold wlA; rw [show c = Cr.2 3 by omega]
        rw [ewl] at h1
        have hfe : ∀ i : Int, 0 ≤ i → i < n → (0 ≤ Fe i ∧ Fe i < Cr.2 3) ∧ ¬ A.1 0 (Fe i) < A.2.1 0 := by
          intro i i1 i2
          have q := wlA_mem (Cr := Cr) (A := A) (i := i) hc8.1 i1 (by omega)
          rw [(h1.2.2 i i1 i2).1]
          exact ⟨⟨q.1, q.2.1⟩, q.2.2⟩
        have hinj : ∀ i j : Int, 0 ≤ i → i < n → 0 ≤ j → j < n → Fe i = Fe j → i = j := by
          intro i j i1 i2 j1 j2 q
          rw [(h1.2.2 i i1 i2).1, (h1.2.2 j j1 j2).1] at q
          unfold wlA at h1 q
          exact wl_inj ⟨i1, by omega⟩ ⟨j1, by omega⟩ q
        have jn_84 : ∀ (W : Int), (W = min 4 (200 - A.2.1 0)) → Zw zp zl ze zR zs zm zargs zbelow zmeth zc D zA 7 zQ 0 0 ([(h, .inr (8, [vZ (M.2 0), .ref (a 1), .ref (a 2), vZ (M.2 3), vZ (M.2 4), .ref (a 5), .ref (a 6), .ref (a 7), .ref (a 8), .ref (a 9), .ref (a 10), .ref (a 11), vZ (M.2 12), .ref (a 13), .ref (a 14), .ref (a 15), .ref (a 16), .ref (a 17), .ref (a 18), .ref (a 19), vZ (M.2 20), vZ (M.2 21), .ref (a 22), .ref (a 23), .ref (a 24), .ref (a 25), .ref (a 26), .ref (a 27), .ref (a 28), .ref (a 29), .ref (a 30), .ref (a 31), .ref (a 32), .ref (a 33), vZ (M.2 34), .ref (a 35), vZ (M.2 36), vZ (M.2 37), vZ (M.2 38), .ref (a 39), .ref (a 40), vZ (M.2 41), vZ (M.2 42), vZ (M.2 43)])), ((a 1), .inl (K.1, 10, .inl (ar (M.1 1)))), ((a 2), .inl (K.1, 10, .inl (ar (M.1 2)))), ((a 5), .inl (K.1, 16, .inl (ar (M.1 5)))), ((a 6), .inl (K.1, 16, .inl (ar (M.1 6)))), ((a 7), .inl (K.1, 16, .inl (ar (M.1 7)))), ((a 8), .inl (K.1, 16, .inl (ar (M.1 8)))), ((a 9), .inl (K.1, 16, .inl (ar (M.1 9)))), ((a 10), .inl (K.1, 16, .inl (ar (M.1 10)))), ((a 11), .inl (K.1, 100, .inl (ar (M.1 11)))), ((a 13), .inl (K.1, 8, .inl (ar (M.1 13)))), ((a 14), .inl (K.1, 8, .inl (ar (M.1 14)))), ((a 15), .inl (K.1, 8, .inl (ar (M.1 15)))), ((a 16), .inl (K.1, 8, .inl (ar (M.1 16)))), ((a 17), .inl (K.1, 3200, .inl (ar (M.1 17)))), ((a 18), .inl (K.1, 3200, .inl (ar (M.1 18)))), ((a 19), .inl (K.2.1, 3200, .inl (ar (M.1 19)))), ((a 22), .inl (K.1, 3400, .inl (ar (M.1 22)))), ((a 23), .inl (K.1, 3400, .inl (ar (M.1 23)))), ((a 24), .inl (K.1, 3400, .inl (ar (M.1 24)))), ((a 25), .inl (K.1, 3400, .inl (ar (M.1 25)))), ((a 26), .inl (K.1, 32, .inl (ar (M.1 26)))), ((a 27), .inl (K.1, 32, .inl (ar (M.1 27)))), ((a 28), .inl (K.2.1, 8, .inl (ar (M.1 28)))), ((a 29), .inl (K.1, 8, .inl (ar (M.1 29)))), ((a 30), .inl (K.1, 8, .inl (ar (M.1 30)))), ((a 31), .inl (K.1, 10, .inl (ar (M.1 31)))), ((a 32), .inl (K.1, 10, .inl (ar (M.1 32)))), ((a 33), .inl (K.1, 10, .inl (ar (M.1 33)))), ((a 35), .inl (K.1, 13711, .inl (ar (M.1 35)))), ((a 39), .inl (K.1, 4, .inl (ar Fe))), ((a 40), .inl (K.1, 4, .inl (ar Ws)))]) 84 [(0, .ref h), (1, vZ n), (2, vZ W)] [] := by
          intro W hW
          refine z_iload_n ZC 1 dX8_plans_84 rfl rfl ?_
          refine z_if_eq ZC 92 dX8_plans_85 (by decide) (by omega) (fun c_85 => ?_) (fun c_85 => ?_)
          · skip
            refine z_iconst ZC dX8_plans_92 ?_
            refine z_iret ZC ZE dX8_plans_93 (by omega) (by omega) (Nat.le_of_ble_eq_true rfl) ⟨((upf (upf M.1 39 Fe) 40 Ws), M.2), (-1), rfl, rfl, by omega, by omega, ?_, ?_, ?_, ?_⟩
            · skip
              exact hmx
            · skip
              exact ⟨fun k hk => (upf_out hk rfl).trans (upf_out hk rfl), fun k hk => rfl⟩
            · skip
              exact hli
            · skip
              left
              exact ⟨Or.inl (by omega), rfl⟩
          · skip
            have hW1 : 1 ≤ W := by
              have q := hfe 0 (by omega) (by omega)
              have q2 := hah (Fe 0) q.1.1 q.1.2
              omega
            refine z_iload_n ZC 2 dX8_plans_88 rfl rfl ?_
            refine z_if_ne ZC 94 dX8_plans_89 (by decide) (by omega) (fun c_89 => ?_) (fun c_89 => ?_)
            · skip
              refine z_iconst ZC dX8_plans_94 ?_
              refine z_istore_n ZC 3 dX8_plans_95 rfl (by decide) ?_
              refine z_iconst ZC dX8_plans_96 ?_
              refine z_istore ZC dX8_plans_97 (by decide) ?_
              have lp_99 : ∀ (n_99 : Nat) (al : Int) (k : Int), (0 ≤ k ∧ k ≤ n) → (al = W ^ k.toNat) → ((n - k).toNat) < n_99 → Zw zp zl ze zR zs zm zargs zbelow zmeth zc D zA 7 zQ 0 0 ([(h, .inr (8, [vZ (M.2 0), .ref (a 1), .ref (a 2), vZ (M.2 3), vZ (M.2 4), .ref (a 5), .ref (a 6), .ref (a 7), .ref (a 8), .ref (a 9), .ref (a 10), .ref (a 11), vZ (M.2 12), .ref (a 13), .ref (a 14), .ref (a 15), .ref (a 16), .ref (a 17), .ref (a 18), .ref (a 19), vZ (M.2 20), vZ (M.2 21), .ref (a 22), .ref (a 23), .ref (a 24), .ref (a 25), .ref (a 26), .ref (a 27), .ref (a 28), .ref (a 29), .ref (a 30), .ref (a 31), .ref (a 32), .ref (a 33), vZ (M.2 34), .ref (a 35), vZ (M.2 36), vZ (M.2 37), vZ (M.2 38), .ref (a 39), .ref (a 40), vZ (M.2 41), vZ (M.2 42), vZ (M.2 43)])), ((a 1), .inl (K.1, 10, .inl (ar (M.1 1)))), ((a 2), .inl (K.1, 10, .inl (ar (M.1 2)))), ((a 5), .inl (K.1, 16, .inl (ar (M.1 5)))), ((a 6), .inl (K.1, 16, .inl (ar (M.1 6)))), ((a 7), .inl (K.1, 16, .inl (ar (M.1 7)))), ((a 8), .inl (K.1, 16, .inl (ar (M.1 8)))), ((a 9), .inl (K.1, 16, .inl (ar (M.1 9)))), ((a 10), .inl (K.1, 16, .inl (ar (M.1 10)))), ((a 11), .inl (K.1, 100, .inl (ar (M.1 11)))), ((a 13), .inl (K.1, 8, .inl (ar (M.1 13)))), ((a 14), .inl (K.1, 8, .inl (ar (M.1 14)))), ((a 15), .inl (K.1, 8, .inl (ar (M.1 15)))), ((a 16), .inl (K.1, 8, .inl (ar (M.1 16)))), ((a 17), .inl (K.1, 3200, .inl (ar (M.1 17)))), ((a 18), .inl (K.1, 3200, .inl (ar (M.1 18)))), ((a 19), .inl (K.2.1, 3200, .inl (ar (M.1 19)))), ((a 22), .inl (K.1, 3400, .inl (ar (M.1 22)))), ((a 23), .inl (K.1, 3400, .inl (ar (M.1 23)))), ((a 24), .inl (K.1, 3400, .inl (ar (M.1 24)))), ((a 25), .inl (K.1, 3400, .inl (ar (M.1 25)))), ((a 26), .inl (K.1, 32, .inl (ar (M.1 26)))), ((a 27), .inl (K.1, 32, .inl (ar (M.1 27)))), ((a 28), .inl (K.2.1, 8, .inl (ar (M.1 28)))), ((a 29), .inl (K.1, 8, .inl (ar (M.1 29)))), ((a 30), .inl (K.1, 8, .inl (ar (M.1 30)))), ((a 31), .inl (K.1, 10, .inl (ar (M.1 31)))), ((a 32), .inl (K.1, 10, .inl (ar (M.1 32)))), ((a 33), .inl (K.1, 10, .inl (ar (M.1 33)))), ((a 35), .inl (K.1, 13711, .inl (ar (M.1 35)))), ((a 39), .inl (K.1, 4, .inl (ar Fe))), ((a 40), .inl (K.1, 4, .inl (ar Ws)))]) 99 [(0, .ref h), (1, vZ n), (2, vZ W), (3, vZ al), (4, vZ k)] [] := by
                intro n_99
                induction n_99 with
                | zero => intro al k a0 hal hm_99; exact absurd hm_99 (Nat.not_lt_zero _)
                | succ n_99 ih_99 =>
                  intro al k a0 hal hm_99
                  have hwq := wpow (W := W) (n := k.toNat) (by omega) (by omega)
                  refine z_iload ZC dX8_plans_99 rfl ?_
                  refine z_iload_n ZC 1 dX8_plans_101 rfl rfl ?_
                  refine z_icmp_ge ZC 115 dX8_plans_102 (by decide) (by omega) (by omega) (fun c_102 => ?_) (fun c_102 => ?_)
                  · skip
                    have hWc : ((W.toNat : Nat) : Int) = W := by omega
                    have hal2 : al = W ^ (wlA Cr A).length := by rw [hal, show k.toNat = (wlA Cr A).length by omega]
                    have hpw4 := wpow (W := W) (n := (wlA Cr A).length) (by omega) h1.1
                    have halN : al.toNat = W.toNat ^ (wlA Cr A).length := by
                      have q : ((W.toNat ^ (wlA Cr A).length : Nat) : Int) = W ^ (wlA Cr A).length := by rw [Int.natCast_pow, hWc]
                      omega
                    refine z_aload_n ZC 0 dX8_plans_115 rfl rfl ?_
                    refine z_sipush ZC dX8_plans_116 (by decide) ?_
                    refine z_put ZC inUX8 tyX8_ok nmX8 0 rfl rfl 42 (by decide) uF_X8_209 rfl (rfl) (rfl) (Nat.le_of_ble_eq_true rfl) dX8_plans_119 ?_
                    refine z_iconst ZC dX8_plans_122 ?_
                    refine z_istore ZC dX8_plans_123 (by decide) ?_
                    have lp_125 : ∀ (n_125 : Nat) (code : Int) (M1 : Bd), (0 ≤ code ∧ code ≤ al) → (MX Cr (aI A 0 (M1.1 16)) M1 C) → (∀ x : Int, 0 ≤ x → x < 8 → M1.1 16 x = A.1 0 x ∨ ∃ i : Int, 0 ≤ i ∧ i < n ∧ Fe i = x) → (KP [16, 22, 23, 24, 25, 26, 27, 28, 29, 30, 31, 32, 33, 35, 39, 40] [20, 21, 34, 36, 37, 38, 41, 42, 43] M M1) → (M1.1 39 = Fe ∧ M1.1 40 = Ws) → (∀ t : Int, 0 ≤ t → t < 10 → -1 ≤ M1.1 33 t ∧ M1.1 33 t ≤ 1000) → ((code = 0 ∧ M1.2 42 = 10000) ∨ (0 < code ∧ M1.2 42 = (qF Ne Cr A W.toNat (wlA Cr A).length code.toNat).1 ∧ M1.2 43 = (qF Ne Cr A W.toNat (wlA Cr A).length code.toNat).2.1 ∧ cv W.toNat (wlA Cr A).length (M1.2 41) = (qF Ne Cr A W.toNat (wlA Cr A).length code.toNat).2.2 ∧ 0 ≤ M1.2 41 ∧ M1.2 41 < code)) → ((0 ≤ M1.2 42 ∧ M1.2 42 ≤ 10000) ∧ (0 < code → -2147483648 ≤ M1.2 43 ∧ M1.2 43 < 2147483648)) → ((al - code).toNat) < n_125 → Zw zp zl ze zR zs zm zargs zbelow zmeth zc D zA 7 zQ 0 0 ([(h, .inr (8, [vZ (M1.2 0), .ref (a 1), .ref (a 2), vZ (M1.2 3), vZ (M1.2 4), .ref (a 5), .ref (a 6), .ref (a 7), .ref (a 8), .ref (a 9), .ref (a 10), .ref (a 11), vZ (M1.2 12), .ref (a 13), .ref (a 14), .ref (a 15), .ref (a 16), .ref (a 17), .ref (a 18), .ref (a 19), vZ (M1.2 20), vZ (M1.2 21), .ref (a 22), .ref (a 23), .ref (a 24), .ref (a 25), .ref (a 26), .ref (a 27), .ref (a 28), .ref (a 29), .ref (a 30), .ref (a 31), .ref (a 32), .ref (a 33), vZ (M1.2 34), .ref (a 35), vZ (M1.2 36), vZ (M1.2 37), vZ (M1.2 38), .ref (a 39), .ref (a 40), vZ (M1.2 41), vZ (M1.2 42), vZ (M1.2 43)])), ((a 1), .inl (K.1, 10, .inl (ar (M1.1 1)))), ((a 2), .inl (K.1, 10, .inl (ar (M1.1 2)))), ((a 5), .inl (K.1, 16, .inl (ar (M1.1 5)))), ((a 6), .inl (K.1, 16, .inl (ar (M1.1 6)))), ((a 7), .inl (K.1, 16, .inl (ar (M1.1 7)))), ((a 8), .inl (K.1, 16, .inl (ar (M1.1 8)))), ((a 9), .inl (K.1, 16, .inl (ar (M1.1 9)))), ((a 10), .inl (K.1, 16, .inl (ar (M1.1 10)))), ((a 11), .inl (K.1, 100, .inl (ar (M1.1 11)))), ((a 13), .inl (K.1, 8, .inl (ar (M1.1 13)))), ((a 14), .inl (K.1, 8, .inl (ar (M1.1 14)))), ((a 15), .inl (K.1, 8, .inl (ar (M1.1 15)))), ((a 16), .inl (K.1, 8, .inl (ar (M1.1 16)))), ((a 17), .inl (K.1, 3200, .inl (ar (M1.1 17)))), ((a 18), .inl (K.1, 3200, .inl (ar (M1.1 18)))), ((a 19), .inl (K.2.1, 3200, .inl (ar (M1.1 19)))), ((a 22), .inl (K.1, 3400, .inl (ar (M1.1 22)))), ((a 23), .inl (K.1, 3400, .inl (ar (M1.1 23)))), ((a 24), .inl (K.1, 3400, .inl (ar (M1.1 24)))), ((a 25), .inl (K.1, 3400, .inl (ar (M1.1 25)))), ((a 26), .inl (K.1, 32, .inl (ar (M1.1 26)))), ((a 27), .inl (K.1, 32, .inl (ar (M1.1 27)))), ((a 28), .inl (K.2.1, 8, .inl (ar (M1.1 28)))), ((a 29), .inl (K.1, 8, .inl (ar (M1.1 29)))), ((a 30), .inl (K.1, 8, .inl (ar (M1.1 30)))), ((a 31), .inl (K.1, 10, .inl (ar (M1.1 31)))), ((a 32), .inl (K.1, 10, .inl (ar (M1.1 32)))), ((a 33), .inl (K.1, 10, .inl (ar (M1.1 33)))), ((a 35), .inl (K.1, 13711, .inl (ar (M1.1 35)))), ((a 39), .inl (K.1, 4, .inl (ar (M1.1 39)))), ((a 40), .inl (K.1, 4, .inl (ar (M1.1 40))))]) 125 [(0, .ref h), (1, vZ n), (2, vZ W), (3, vZ al), (4, vZ code)] [] := by
                      intro n_125
                      induction n_125 with
                      | zero => intro code M1 c0 c1 c2 c3 c4 c5 c6 c7 hm_125; exact absurd hm_125 (Nat.not_lt_zero _)
                      | succ n_125 ih_125 =>
                        intro code M1 c0 c1 c2 c3 c4 c5 c6 c7 hm_125
                        have e20b : M1.2 20 = A.2.1 0 := c1.2.2.2.1
                        refine z_iload ZC dX8_plans_125 rfl ?_
                        refine z_iload_n ZC 3 dX8_plans_127 rfl rfl ?_
                        refine z_icmp_ge ZC 260 dX8_plans_128 (by decide) (by omega) (by omega) (fun c_128 => ?_) (fun c_128 => ?_)
                        · skip
                          refine z_iconst ZC dX8_plans_260 ?_
                          refine z_istore ZC dX8_plans_261 (by decide) ?_
                          have lp_263 : ∀ (n_263 : Nat) (k : Int) (Lg : Int → Int), (0 ≤ k ∧ k ≤ n) → (∀ x : Int, 0 ≤ x → x < 8 → Lg x = A.1 0 x ∨ ∃ i : Int, k ≤ i ∧ i < n ∧ Fe i = x) → ((n - k).toNat) < n_263 → Zw zp zl ze zR zs zm zargs zbelow zmeth zc D zA 7 zQ 0 0 ([(h, .inr (8, [vZ (M1.2 0), .ref (a 1), .ref (a 2), vZ (M1.2 3), vZ (M1.2 4), .ref (a 5), .ref (a 6), .ref (a 7), .ref (a 8), .ref (a 9), .ref (a 10), .ref (a 11), vZ (M1.2 12), .ref (a 13), .ref (a 14), .ref (a 15), .ref (a 16), .ref (a 17), .ref (a 18), .ref (a 19), vZ (M1.2 20), vZ (M1.2 21), .ref (a 22), .ref (a 23), .ref (a 24), .ref (a 25), .ref (a 26), .ref (a 27), .ref (a 28), .ref (a 29), .ref (a 30), .ref (a 31), .ref (a 32), .ref (a 33), vZ (M1.2 34), .ref (a 35), vZ (M1.2 36), vZ (M1.2 37), vZ (M1.2 38), .ref (a 39), .ref (a 40), vZ (M1.2 41), vZ (M1.2 42), vZ (M1.2 43)])), ((a 1), .inl (K.1, 10, .inl (ar (M1.1 1)))), ((a 2), .inl (K.1, 10, .inl (ar (M1.1 2)))), ((a 5), .inl (K.1, 16, .inl (ar (M1.1 5)))), ((a 6), .inl (K.1, 16, .inl (ar (M1.1 6)))), ((a 7), .inl (K.1, 16, .inl (ar (M1.1 7)))), ((a 8), .inl (K.1, 16, .inl (ar (M1.1 8)))), ((a 9), .inl (K.1, 16, .inl (ar (M1.1 9)))), ((a 10), .inl (K.1, 16, .inl (ar (M1.1 10)))), ((a 11), .inl (K.1, 100, .inl (ar (M1.1 11)))), ((a 13), .inl (K.1, 8, .inl (ar (M1.1 13)))), ((a 14), .inl (K.1, 8, .inl (ar (M1.1 14)))), ((a 15), .inl (K.1, 8, .inl (ar (M1.1 15)))), ((a 16), .inl (K.1, 8, .inl (ar Lg))), ((a 17), .inl (K.1, 3200, .inl (ar (M1.1 17)))), ((a 18), .inl (K.1, 3200, .inl (ar (M1.1 18)))), ((a 19), .inl (K.2.1, 3200, .inl (ar (M1.1 19)))), ((a 22), .inl (K.1, 3400, .inl (ar (M1.1 22)))), ((a 23), .inl (K.1, 3400, .inl (ar (M1.1 23)))), ((a 24), .inl (K.1, 3400, .inl (ar (M1.1 24)))), ((a 25), .inl (K.1, 3400, .inl (ar (M1.1 25)))), ((a 26), .inl (K.1, 32, .inl (ar (M1.1 26)))), ((a 27), .inl (K.1, 32, .inl (ar (M1.1 27)))), ((a 28), .inl (K.2.1, 8, .inl (ar (M1.1 28)))), ((a 29), .inl (K.1, 8, .inl (ar (M1.1 29)))), ((a 30), .inl (K.1, 8, .inl (ar (M1.1 30)))), ((a 31), .inl (K.1, 10, .inl (ar (M1.1 31)))), ((a 32), .inl (K.1, 10, .inl (ar (M1.1 32)))), ((a 33), .inl (K.1, 10, .inl (ar (M1.1 33)))), ((a 35), .inl (K.1, 13711, .inl (ar (M1.1 35)))), ((a 39), .inl (K.1, 4, .inl (ar (M1.1 39)))), ((a 40), .inl (K.1, 4, .inl (ar (M1.1 40))))]) 263 [(0, .ref h), (1, vZ n), (2, vZ W), (3, vZ al), (4, vZ k)] [] := by
                            intro n_263
                            induction n_263 with
                            | zero => intro k Lg r0 r1 hm_263; exact absurd hm_263 (Nat.not_lt_zero _)
                            | succ n_263 ih_263 =>
                              intro k Lg r0 r1 hm_263
                              refine z_iload ZC dX8_plans_263 rfl ?_
                              refine z_iload_n ZC 1 dX8_plans_265 rfl rfl ?_
                              refine z_icmp_ge ZC 294 dX8_plans_266 (by decide) (by omega) (by omega) (fun c_266 => ?_) (fun c_266 => ?_)
                              · skip
                                refine z_iload_n ZC 1 dX8_plans_294 rfl rfl ?_
                                have ecode : code = al := by omega
                                have hqa := qF_all (Ne := Ne) (Cr := Cr) (A := A) (W := W.toNat) (n := (wlA Cr A).length) (by omega) (by omega) (by omega) rfl
                                have hz : 0 < code ∧ _ := c6.resolve_left (by omega)
                                rw [show code.toNat = W.toNat ^ (wlA Cr A).length by rw [ecode]; exact halN, hqa] at hz
                                refine z_iret ZC ZE dX8_plans_295 (by omega) (by omega) (Nat.le_of_ble_eq_true rfl) ⟨((upf M1.1 16 Lg), M1.2), n, rfl, rfl, by omega, by omega, ?_, ?_, ?_, ?_⟩
                                · skip
                                  refine ⟨c1.1, fun x a b => ?_, c1.2.2⟩
                                  show Lg x = A.1 0 x
                                  rcases r1 x a b with y | ⟨i, y1, y2, y3⟩
                                  · exact y
                                  · omega
                                · skip
                                  exact KP.trans c3 (show KP [16, 22, 23, 24, 25, 26, 27, 28, 29, 30, 31, 32, 33, 35, 39, 40] [20, 21, 34, 36, 37, 38, 41, 42, 43] M1 ((upf M1.1 16 Lg), M1.2) from ⟨fun k hk => upf_out hk rfl, fun k hk => rfl⟩) rfl rfl rfl rfl
                                · skip
                                  exact c5
                                · skip
                                  right
                                  refine ⟨⟨by omega, h1.1⟩, h1.2.1, fun i i1 i2 => ?_, hz.2.1, hz.2.2.1, ?_, ?_⟩
                                  · show M1.1 39 i = _
                                    rw [c4.1]; exact (h1.2.2 i i1 i2).1
                                  · show 0 ≤ M1.2 41 ∧ M1.2 41 ≤ 256
                                    omega
                                  · rw [← hW]; exact hz.2.2.2.1
                              · skip
                                have hfk := hfe k r0.1 (by omega)
                                refine z_aload_n ZC 0 dX8_plans_269 rfl rfl ?_
                                refine z_get ZC inUX8 0 rfl rfl 16 (by decide) uF_X8_50 rfl dX8_plans_270 ?_
                                refine z_aload_n ZC 0 dX8_plans_273 rfl rfl ?_
                                refine z_get ZC inUX8 0 rfl rfl 39 (by decide) uF_X8_102 rfl dX8_plans_274 ?_
                                refine z_iload ZC dX8_plans_277 rfl ?_
                                refine z_iald ZC 30 rfl dX8_plans_279 (by omega) ?_
                                refine z_top (y := (Fe k)) (by rw [c4.1]) ?_
                                refine z_aload_n ZC 0 dX8_plans_280 rfl rfl ?_
                                refine z_get ZC inUX8 0 rfl rfl 40 (by decide) uF_X8_105 rfl dX8_plans_281 ?_
                                refine z_iload ZC dX8_plans_284 rfl ?_
                                refine z_iald ZC 31 rfl dX8_plans_286 (by omega) ?_
                                refine z_top (y := (A.1 0 (Fe k))) (by rw [c4.2]; exact (h1.2.2 k r0.1 (by omega)).2) ?_
                                refine z_iast ZC 13 rfl dX8_plans_287 (by omega) ?_
                                refine z_iinc ZC dX8_plans_288 rfl (by decide) ?_
                                refine z_goto ZC 263 dX8_plans_291 (by decide) ?_
                                refine z_ws (ws2 := [(h, .inr (8, [vZ (M1.2 0), .ref (a 1), .ref (a 2), vZ (M1.2 3), vZ (M1.2 4), .ref (a 5), .ref (a 6), .ref (a 7), .ref (a 8), .ref (a 9), .ref (a 10), .ref (a 11), vZ (M1.2 12), .ref (a 13), .ref (a 14), .ref (a 15), .ref (a 16), .ref (a 17), .ref (a 18), .ref (a 19), vZ (M1.2 20), vZ (M1.2 21), .ref (a 22), .ref (a 23), .ref (a 24), .ref (a 25), .ref (a 26), .ref (a 27), .ref (a 28), .ref (a 29), .ref (a 30), .ref (a 31), .ref (a 32), .ref (a 33), vZ (M1.2 34), .ref (a 35), vZ (M1.2 36), vZ (M1.2 37), vZ (M1.2 38), .ref (a 39), .ref (a 40), vZ (M1.2 41), vZ (M1.2 42), vZ (M1.2 43)])), ((a 1), .inl (K.1, 10, .inl (ar (M1.1 1)))), ((a 2), .inl (K.1, 10, .inl (ar (M1.1 2)))), ((a 5), .inl (K.1, 16, .inl (ar (M1.1 5)))), ((a 6), .inl (K.1, 16, .inl (ar (M1.1 6)))), ((a 7), .inl (K.1, 16, .inl (ar (M1.1 7)))), ((a 8), .inl (K.1, 16, .inl (ar (M1.1 8)))), ((a 9), .inl (K.1, 16, .inl (ar (M1.1 9)))), ((a 10), .inl (K.1, 16, .inl (ar (M1.1 10)))), ((a 11), .inl (K.1, 100, .inl (ar (M1.1 11)))), ((a 13), .inl (K.1, 8, .inl (ar (M1.1 13)))), ((a 14), .inl (K.1, 8, .inl (ar (M1.1 14)))), ((a 15), .inl (K.1, 8, .inl (ar (M1.1 15)))), ((a 16), .inl (K.1, 8, .inl (ar (upz Lg (Fe k) (A.1 0 (Fe k)))))), ((a 17), .inl (K.1, 3200, .inl (ar (M1.1 17)))), ((a 18), .inl (K.1, 3200, .inl (ar (M1.1 18)))), ((a 19), .inl (K.2.1, 3200, .inl (ar (M1.1 19)))), ((a 22), .inl (K.1, 3400, .inl (ar (M1.1 22)))), ((a 23), .inl (K.1, 3400, .inl (ar (M1.1 23)))), ((a 24), .inl (K.1, 3400, .inl (ar (M1.1 24)))), ((a 25), .inl (K.1, 3400, .inl (ar (M1.1 25)))), ((a 26), .inl (K.1, 32, .inl (ar (M1.1 26)))), ((a 27), .inl (K.1, 32, .inl (ar (M1.1 27)))), ((a 28), .inl (K.2.1, 8, .inl (ar (M1.1 28)))), ((a 29), .inl (K.1, 8, .inl (ar (M1.1 29)))), ((a 30), .inl (K.1, 8, .inl (ar (M1.1 30)))), ((a 31), .inl (K.1, 10, .inl (ar (M1.1 31)))), ((a 32), .inl (K.1, 10, .inl (ar (M1.1 32)))), ((a 33), .inl (K.1, 10, .inl (ar (M1.1 33)))), ((a 35), .inl (K.1, 13711, .inl (ar (M1.1 35)))), ((a 39), .inl (K.1, 4, .inl (ar (M1.1 39)))), ((a 40), .inl (K.1, 4, .inl (ar (M1.1 40))))]) rfl (z_lv (lv2 := [(0, .ref h), (1, vZ n), (2, vZ W), (3, vZ al), (4, vZ (k + 1))]) ⟨rfl, rfl, rfl, rfl, rfl, trivial⟩ ?_)
                                refine ih_263 (k + 1) (upz Lg (Fe k) (A.1 0 (Fe k))) ?_ ?_ (by omega)
                                · skip
                                  omega
                                · skip
                                  intro x a b
                                  by_cases z : x = Fe k
                                  · left; rw [z, upz_self]
                                  · rw [upz_ne _ _ z]
                                    rcases r1 x a b with y | ⟨i, y1, y2, y3⟩
                                    · exact Or.inl y
                                    · right
                                      refine ⟨i, ?_, y2, y3⟩
                                      have : i ≠ k := fun q => z (by rw [← y3, q])
                                      omega
                          refine z_ws (ws2 := [(h, .inr (8, [vZ (M1.2 0), .ref (a 1), .ref (a 2), vZ (M1.2 3), vZ (M1.2 4), .ref (a 5), .ref (a 6), .ref (a 7), .ref (a 8), .ref (a 9), .ref (a 10), .ref (a 11), vZ (M1.2 12), .ref (a 13), .ref (a 14), .ref (a 15), .ref (a 16), .ref (a 17), .ref (a 18), .ref (a 19), vZ (M1.2 20), vZ (M1.2 21), .ref (a 22), .ref (a 23), .ref (a 24), .ref (a 25), .ref (a 26), .ref (a 27), .ref (a 28), .ref (a 29), .ref (a 30), .ref (a 31), .ref (a 32), .ref (a 33), vZ (M1.2 34), .ref (a 35), vZ (M1.2 36), vZ (M1.2 37), vZ (M1.2 38), .ref (a 39), .ref (a 40), vZ (M1.2 41), vZ (M1.2 42), vZ (M1.2 43)])), ((a 1), .inl (K.1, 10, .inl (ar (M1.1 1)))), ((a 2), .inl (K.1, 10, .inl (ar (M1.1 2)))), ((a 5), .inl (K.1, 16, .inl (ar (M1.1 5)))), ((a 6), .inl (K.1, 16, .inl (ar (M1.1 6)))), ((a 7), .inl (K.1, 16, .inl (ar (M1.1 7)))), ((a 8), .inl (K.1, 16, .inl (ar (M1.1 8)))), ((a 9), .inl (K.1, 16, .inl (ar (M1.1 9)))), ((a 10), .inl (K.1, 16, .inl (ar (M1.1 10)))), ((a 11), .inl (K.1, 100, .inl (ar (M1.1 11)))), ((a 13), .inl (K.1, 8, .inl (ar (M1.1 13)))), ((a 14), .inl (K.1, 8, .inl (ar (M1.1 14)))), ((a 15), .inl (K.1, 8, .inl (ar (M1.1 15)))), ((a 16), .inl (K.1, 8, .inl (ar (M1.1 16)))), ((a 17), .inl (K.1, 3200, .inl (ar (M1.1 17)))), ((a 18), .inl (K.1, 3200, .inl (ar (M1.1 18)))), ((a 19), .inl (K.2.1, 3200, .inl (ar (M1.1 19)))), ((a 22), .inl (K.1, 3400, .inl (ar (M1.1 22)))), ((a 23), .inl (K.1, 3400, .inl (ar (M1.1 23)))), ((a 24), .inl (K.1, 3400, .inl (ar (M1.1 24)))), ((a 25), .inl (K.1, 3400, .inl (ar (M1.1 25)))), ((a 26), .inl (K.1, 32, .inl (ar (M1.1 26)))), ((a 27), .inl (K.1, 32, .inl (ar (M1.1 27)))), ((a 28), .inl (K.2.1, 8, .inl (ar (M1.1 28)))), ((a 29), .inl (K.1, 8, .inl (ar (M1.1 29)))), ((a 30), .inl (K.1, 8, .inl (ar (M1.1 30)))), ((a 31), .inl (K.1, 10, .inl (ar (M1.1 31)))), ((a 32), .inl (K.1, 10, .inl (ar (M1.1 32)))), ((a 33), .inl (K.1, 10, .inl (ar (M1.1 33)))), ((a 35), .inl (K.1, 13711, .inl (ar (M1.1 35)))), ((a 39), .inl (K.1, 4, .inl (ar (M1.1 39)))), ((a 40), .inl (K.1, 4, .inl (ar (M1.1 40))))]) rfl (z_lv (lv2 := [(0, .ref h), (1, vZ n), (2, vZ W), (3, vZ al), (4, vZ 0)]) ⟨rfl, rfl, rfl, rfl, rfl, trivial⟩ ?_)
                          refine lp_263 _ 0 (M1.1 16) ?_ ?_ (Nat.lt_succ_self _)
                          · skip
                            omega
                          · skip
                            exact c2
                        · skip
                          refine z_iload ZC dX8_plans_131 rfl ?_
                          refine z_istore ZC dX8_plans_133 (by decide) ?_
                          refine z_iload_n ZC 1 dX8_plans_135 rfl rfl ?_
                          refine z_iconst ZC dX8_plans_136 ?_
                          refine z_isub ZC dX8_plans_137 ?_
                          refine z_istore ZC dX8_plans_138 (by decide) ?_
                          have lp_140 : ∀ (n_140 : Nat) (left : Int) (k : Int) (Lg : Int → Int), (-1 ≤ k ∧ k < n) → (left = code / W ^ (n - 1 - k).toNat ∧ 0 ≤ left ∧ left ≤ 256) → (∀ i : Int, k < i → i < n → Lg (Fe i) = A.2.1 0 + code / W ^ ((wlA Cr A).length - 1 - i.toNat) % W) → (∀ x : Int, 0 ≤ x → x < 8 → (∀ i : Int, k < i → i < n → Fe i ≠ x) → Lg x = M1.1 16 x) → ((k + 1).toNat) < n_140 → Zw zp zl ze zR zs zm zargs zbelow zmeth zc D zA 7 zQ 0 0 ([(h, .inr (8, [vZ (M1.2 0), .ref (a 1), .ref (a 2), vZ (M1.2 3), vZ (M1.2 4), .ref (a 5), .ref (a 6), .ref (a 7), .ref (a 8), .ref (a 9), .ref (a 10), .ref (a 11), vZ (M1.2 12), .ref (a 13), .ref (a 14), .ref (a 15), .ref (a 16), .ref (a 17), .ref (a 18), .ref (a 19), vZ (M1.2 20), vZ (M1.2 21), .ref (a 22), .ref (a 23), .ref (a 24), .ref (a 25), .ref (a 26), .ref (a 27), .ref (a 28), .ref (a 29), .ref (a 30), .ref (a 31), .ref (a 32), .ref (a 33), vZ (M1.2 34), .ref (a 35), vZ (M1.2 36), vZ (M1.2 37), vZ (M1.2 38), .ref (a 39), .ref (a 40), vZ (M1.2 41), vZ (M1.2 42), vZ (M1.2 43)])), ((a 1), .inl (K.1, 10, .inl (ar (M1.1 1)))), ((a 2), .inl (K.1, 10, .inl (ar (M1.1 2)))), ((a 5), .inl (K.1, 16, .inl (ar (M1.1 5)))), ((a 6), .inl (K.1, 16, .inl (ar (M1.1 6)))), ((a 7), .inl (K.1, 16, .inl (ar (M1.1 7)))), ((a 8), .inl (K.1, 16, .inl (ar (M1.1 8)))), ((a 9), .inl (K.1, 16, .inl (ar (M1.1 9)))), ((a 10), .inl (K.1, 16, .inl (ar (M1.1 10)))), ((a 11), .inl (K.1, 100, .inl (ar (M1.1 11)))), ((a 13), .inl (K.1, 8, .inl (ar (M1.1 13)))), ((a 14), .inl (K.1, 8, .inl (ar (M1.1 14)))), ((a 15), .inl (K.1, 8, .inl (ar (M1.1 15)))), ((a 16), .inl (K.1, 8, .inl (ar Lg))), ((a 17), .inl (K.1, 3200, .inl (ar (M1.1 17)))), ((a 18), .inl (K.1, 3200, .inl (ar (M1.1 18)))), ((a 19), .inl (K.2.1, 3200, .inl (ar (M1.1 19)))), ((a 22), .inl (K.1, 3400, .inl (ar (M1.1 22)))), ((a 23), .inl (K.1, 3400, .inl (ar (M1.1 23)))), ((a 24), .inl (K.1, 3400, .inl (ar (M1.1 24)))), ((a 25), .inl (K.1, 3400, .inl (ar (M1.1 25)))), ((a 26), .inl (K.1, 32, .inl (ar (M1.1 26)))), ((a 27), .inl (K.1, 32, .inl (ar (M1.1 27)))), ((a 28), .inl (K.2.1, 8, .inl (ar (M1.1 28)))), ((a 29), .inl (K.1, 8, .inl (ar (M1.1 29)))), ((a 30), .inl (K.1, 8, .inl (ar (M1.1 30)))), ((a 31), .inl (K.1, 10, .inl (ar (M1.1 31)))), ((a 32), .inl (K.1, 10, .inl (ar (M1.1 32)))), ((a 33), .inl (K.1, 10, .inl (ar (M1.1 33)))), ((a 35), .inl (K.1, 13711, .inl (ar (M1.1 35)))), ((a 39), .inl (K.1, 4, .inl (ar (M1.1 39)))), ((a 40), .inl (K.1, 4, .inl (ar (M1.1 40))))]) 140 [(0, .ref h), (1, vZ n), (2, vZ W), (3, vZ al), (4, vZ code), (5, vZ left), (6, vZ k)] [] := by
                            intro n_140
                            induction n_140 with
                            | zero => intro left k Lg b0 b1 b2 b3 hm_140; exact absurd hm_140 (Nat.not_lt_zero _)
                            | succ n_140 ih_140 =>
                              intro left k Lg b0 b1 b2 b3 hm_140
                              refine z_iload ZC dX8_plans_140 rfl ?_
                              refine z_if_lt ZC 178 dX8_plans_142 (by decide) (by omega) (fun c_142 => ?_) (fun c_142 => ?_)
                              · skip
                                have hdig : ∀ i : Int, 0 ≤ i → i < n → stp (wlA Cr A).length (cv W.toNat (wlA Cr A).length code) i = code / W ^ ((wlA Cr A).length - 1 - i.toNat) % W := by
                                  intro i i1 i2
                                  have q := stp_cv (W := W.toNat) (n := (wlA Cr A).length) (by omega) (c := code) (k := i) c0.1 (by omega)
                                  rw [hWc] at q; exact q
                                have hL16 : ∀ x : Int, 0 ≤ x → x < 8 → Lg x = (pSt Cr A (cv W.toNat (wlA Cr A).length code)).1 0 x := by
                                  intro x a b
                                  show Lg x = hF (A.1 0) (fun i => (wlA Cr A).getD i.toNat 0) (A.2.1 0) (wlA Cr A).length (cv W.toNat (wlA Cr A).length code) (wlA Cr A).length x
                                  have hwf : ∀ i : Int, 0 ≤ i → i < n → (wlA Cr A).getD i.toNat 0 = Fe i := fun i i1 i2 => ((h1.2.2 i i1 i2).1).symm
                                  by_cases z : ∃ i : Int, 0 ≤ i ∧ i < n ∧ Fe i = x
                                  · obtain ⟨i, i1, i2, rfl⟩ := z
                                    have q := hF_in (f := A.1 0) (Wa := fun i => (wlA Cr A).getD i.toNat 0) (now := A.2.1 0) (n := (wlA Cr A).length) (way := (cv W.toNat (wlA Cr A).length code)) (wlA Cr A).length (fun i j a b c d q => hinj i j a (by omega) c (by omega) (by rw [← hwf i a (by omega), ← hwf j c (by omega)]; exact q)) i i1 (by omega)
                                    rw [hwf i i1 i2] at q
                                    rw [q, hdig i i1 i2]
                                    exact b2 i (by omega) i2
                                  · rw [hF_out (wlA Cr A).length (fun i i1 i2 q => z ⟨i, i1, by omega, by rw [← hwf i i1 (by omega)]; exact q⟩), b3 x a b (fun i i1 i2 q => z ⟨i, by omega, i2, q⟩)]
                                    rcases c2 x a b with y | y
                                    · exact y
                                    · exact absurd y z
                                have habp : AB Ne Cr (pSt Cr A (cv W.toNat (wlA Cr A).length code)) := ab_pSt hc8.1 hab (fun i i1 i2 => by
                                  rw [hdig i i1 (by omega)]
                                  have q := mod_rng (x := code / W ^ ((wlA Cr A).length - 1 - i.toNat)) (W := W) (by omega)
                                  omega)
                                have hms1 : MS To Ne Cr M1 := ms_keep hms c3 rfl rfl
                                refine z_aload_n ZC 0 dX8_plans_178 rfl rfl ?_
                                have hy_hcf_179_0 : Cfg Ne Cr := hcf
                                have hy_hnw_179_0 : NW Ne := hnw
                                have hy_hms_179_0 : MS To Ne Cr ((upf M1.1 16 Lg), M1.2) := hms1
                                have hy_hto_179_0 : 0 ≤ To.2 3 ∧ To.2 3 ≤ 10 := hto
                                have hy_hab_179_0 : AB Ne Cr (pSt Cr A (cv W.toNat (wlA Cr A).length code)) := habp
                                have hy_hmx_179_0 : MX Cr (pSt Cr A (cv W.toNat (wlA Cr A).length code)) ((upf M1.1 16 Lg), M1.2) C := ⟨c1.1, hL16, c1.2.2⟩
                                have hy_har_179_0 : AR Cr (pSt Cr A (cv W.toNat (wlA Cr A).length code)) := har
                                have hy_hao_179_0 : AO (pSt Cr A (cv W.toNat (wlA Cr A).length code)) := hao
                                refine z_callV ZC 0 (c_X8_foresees zl D K h a ((upf M1.1 16 Lg), M1.2) To Ne Cr (pSt Cr A (cv W.toNat (wlA Cr A).length code)) C (hy_hcf_179_0) (hy_hnw_179_0) (hy_hms_179_0) (hy_hto_179_0) (hy_hab_179_0) (hy_hmx_179_0) (hy_har_179_0) (hy_hao_179_0)) (gdV uM_X8_206 uI_X8_foresees uS_X8_foresees uN_X8 uC_X8_foresees) (by decide +kernel) rfl ⟨by omega, by omega⟩ ⟨by omega, by omega⟩ (Nat.le_of_ble_eq_true rfl) [0, 1, 2, 3, 4, 5, 6, 7, 8, 9, 10, 11, 12, 13, 14, 15, 16, 17, 18, 19, 20, 21, 22, 23, 24, 25, 26, 27, 28, 29, 30, 31] rfl (by decide) rfl rfl rfl rfl dX8_plans_179 (fun r w2 gc_179 gs_179 hp => ?_)
                                obtain ⟨M2_179, rfl, rfl, rfl, rfl, hmx2_179, hkp_179, h37_179, h38_179, hlk_179, hli2_179⟩ := hp
                                have hmx2_179 : MX Cr (pSt Cr A (cv W.toNat (wlA Cr A).length code)) M2_179 C := hmx2_179
                                have hkp_179 : KP [22, 23, 24, 25, 26, 27, 28, 29, 30, 31, 32, 33, 35] [20, 21, 34, 36, 37, 38] ((upf M1.1 16 Lg), M1.2) M2_179 := hkp_179
                                have h37_179 : M2_179.2 37 = aFl Cr (aHrs To Ne Cr (pSt Cr A (cv W.toNat (wlA Cr A).length code)) (200 - (pSt Cr A (cv W.toNat (wlA Cr A).length code)).2.1 0).toNat) := h37_179
                                have h38_179 : M2_179.2 38 = (aHrs To Ne Cr (pSt Cr A (cv W.toNat (wlA Cr A).length code)) (200 - (pSt Cr A (cv W.toNat (wlA Cr A).length code)).2.1 0).toNat).2.1 1 - (pSt Cr A (cv W.toNat (wlA Cr A).length code)).2.1 1 := h38_179
                                have hlk_179 : ∀ t : Int, 0 ≤ t → t < To.2 3 → M2_179.1 33 t = aLk To Ne Cr (pSt Cr A (cv W.toNat (wlA Cr A).length code)) (200 - (pSt Cr A (cv W.toNat (wlA Cr A).length code)).2.1 0).toNat t := hlk_179
                                have hli2_179 : ∀ t : Int, 0 ≤ t → t < 10 → -1 ≤ M2_179.1 33 t ∧ M2_179.1 33 t ≤ 1000 := hli2_179
                                refine z_ws (ws2 := [(h, .inr (8, [vZ (M2_179.2 0), .ref (a 1), .ref (a 2), vZ (M2_179.2 3), vZ (M2_179.2 4), .ref (a 5), .ref (a 6), .ref (a 7), .ref (a 8), .ref (a 9), .ref (a 10), .ref (a 11), vZ (M2_179.2 12), .ref (a 13), .ref (a 14), .ref (a 15), .ref (a 16), .ref (a 17), .ref (a 18), .ref (a 19), vZ (M2_179.2 20), vZ (M2_179.2 21), .ref (a 22), .ref (a 23), .ref (a 24), .ref (a 25), .ref (a 26), .ref (a 27), .ref (a 28), .ref (a 29), .ref (a 30), .ref (a 31), .ref (a 32), .ref (a 33), vZ (M2_179.2 34), .ref (a 35), vZ (M2_179.2 36), vZ (M2_179.2 37), vZ (M2_179.2 38), .ref (a 39), .ref (a 40), vZ (M2_179.2 41), vZ (M2_179.2 42), vZ (M2_179.2 43)])), ((a 1), .inl (K.1, 10, .inl (ar (M2_179.1 1)))), ((a 2), .inl (K.1, 10, .inl (ar (M2_179.1 2)))), ((a 5), .inl (K.1, 16, .inl (ar (M2_179.1 5)))), ((a 6), .inl (K.1, 16, .inl (ar (M2_179.1 6)))), ((a 7), .inl (K.1, 16, .inl (ar (M2_179.1 7)))), ((a 8), .inl (K.1, 16, .inl (ar (M2_179.1 8)))), ((a 9), .inl (K.1, 16, .inl (ar (M2_179.1 9)))), ((a 10), .inl (K.1, 16, .inl (ar (M2_179.1 10)))), ((a 11), .inl (K.1, 100, .inl (ar (M2_179.1 11)))), ((a 13), .inl (K.1, 8, .inl (ar (M2_179.1 13)))), ((a 14), .inl (K.1, 8, .inl (ar (M2_179.1 14)))), ((a 15), .inl (K.1, 8, .inl (ar (M2_179.1 15)))), ((a 16), .inl (K.1, 8, .inl (ar (M2_179.1 16)))), ((a 17), .inl (K.1, 3200, .inl (ar (M2_179.1 17)))), ((a 18), .inl (K.1, 3200, .inl (ar (M2_179.1 18)))), ((a 19), .inl (K.2.1, 3200, .inl (ar (M2_179.1 19)))), ((a 22), .inl (K.1, 3400, .inl (ar (M2_179.1 22)))), ((a 23), .inl (K.1, 3400, .inl (ar (M2_179.1 23)))), ((a 24), .inl (K.1, 3400, .inl (ar (M2_179.1 24)))), ((a 25), .inl (K.1, 3400, .inl (ar (M2_179.1 25)))), ((a 26), .inl (K.1, 32, .inl (ar (M2_179.1 26)))), ((a 27), .inl (K.1, 32, .inl (ar (M2_179.1 27)))), ((a 28), .inl (K.2.1, 8, .inl (ar (M2_179.1 28)))), ((a 29), .inl (K.1, 8, .inl (ar (M2_179.1 29)))), ((a 30), .inl (K.1, 8, .inl (ar (M2_179.1 30)))), ((a 31), .inl (K.1, 10, .inl (ar (M2_179.1 31)))), ((a 32), .inl (K.1, 10, .inl (ar (M2_179.1 32)))), ((a 33), .inl (K.1, 10, .inl (ar (M2_179.1 33)))), ((a 35), .inl (K.1, 13711, .inl (ar (M2_179.1 35)))), ((a 39), .inl (K.1, 4, .inl (ar (M2_179.1 39)))), ((a 40), .inl (K.1, 4, .inl (ar (M2_179.1 40))))]) rfl ?_
                                refine z_st (st2 := []) rfl ?_
                                have e42 : M2_179.2 42 = M1.2 42 := hkp_179.2 42 rfl
                                have e43 : M2_179.2 43 = M1.2 43 := hkp_179.2 43 rfl
                                have e41 : M2_179.2 41 = M1.2 41 := hkp_179.2 41 rfl
                                have hpe := pE_hrs (To := To) (Ne := Ne) (Cr := Cr) (A := A) (w := (cv W.toNat (wlA Cr A).length code))
                                have e38 : M2_179.2 38 = (pWw Ne Cr A (cv W.toNat (wlA Cr A).length code)) := h38_179.trans hpe.2.symm
                                have hrF := ar_hrs (To := To) hcf hto habp (show AR Cr (pSt Cr A (cv W.toNat (wlA Cr A).length code)) from har) (200 - A.2.1 0).toNat (by show A.2.1 0 + _ ≤ 200; omega)
                                have hfl := aFl_rng hrF.1
                                have e37 : M2_179.2 37 = aFl Cr (aHrs To Ne Cr (pSt Cr A (cv W.toNat (wlA Cr A).length code)) (200 - A.2.1 0).toNat) := h37_179
                                rw [← e37] at hfl
                                have hE : (M2_179.2 37 = -1 ∧ (pEw Ne Cr A (cv W.toNat (wlA Cr A).length code)) = 200) ∨ (M2_179.2 37 ≠ -1 ∧ (pEw Ne Cr A (cv W.toNat (wlA Cr A).length code)) = M2_179.2 37) := by
                                  rw [hpe.1]
                                  unfold pEnd
                                  rw [← e37]
                                  by_cases z : M2_179.2 37 = -1
                                  · rw [if_pos z]; exact Or.inl ⟨z, rfl⟩
                                  · rw [if_neg z]; exact Or.inr ⟨z, rfl⟩
                                have hpw := pWw_rng (w := (cv W.toNat (wlA Cr A).length code)) hcf hab habp
                                have hst : (qF Ne Cr A W.toNat (wlA Cr A).length (code + 1).toNat) = if ((pEw Ne Cr A (cv W.toNat (wlA Cr A).length code)) < (qF Ne Cr A W.toNat (wlA Cr A).length code.toNat).1 ∨ ((pEw Ne Cr A (cv W.toNat (wlA Cr A).length code)) = (qF Ne Cr A W.toNat (wlA Cr A).length code.toNat).1 ∧ (pWw Ne Cr A (cv W.toNat (wlA Cr A).length code)) < (qF Ne Cr A W.toNat (wlA Cr A).length code.toNat).2.1)) then ((pEw Ne Cr A (cv W.toNat (wlA Cr A).length code)), (pWw Ne Cr A (cv W.toNat (wlA Cr A).length code)), (cv W.toNat (wlA Cr A).length code)) else (qF Ne Cr A W.toNat (wlA Cr A).length code.toNat) := by
                                  rw [qF_next c0.1]; rfl
                                have hq0 : code = 0 → (qF Ne Cr A W.toNat (wlA Cr A).length code.toNat).1 = 200 ∧ (qF Ne Cr A W.toNat (wlA Cr A).length code.toNat).2.1 = 2147483647 := by
                                  intro q; rw [q]; exact ⟨rfl, rfl⟩
                                refine z_aload_n ZC 0 dX8_plans_182 rfl rfl ?_
                                refine z_get ZC inUX8 0 rfl rfl 37 (by decide) uF_X8_203 rfl dX8_plans_183 ?_
                                refine z_iconst ZC dX8_plans_186 ?_
                                refine z_icmp_ne ZC 196 dX8_plans_187 (by decide) (by omega) (by omega) (fun c_187 => ?_) (fun c_187 => ?_)
                                · skip
                                  refine z_aload_n ZC 0 dX8_plans_196 rfl rfl ?_
                                  refine z_get ZC inUX8 0 rfl rfl 37 (by decide) uF_X8_203 rfl dX8_plans_197 ?_
                                  refine z_top (y := (pEw Ne Cr A (cv W.toNat (wlA Cr A).length code))) (by omega) ?_
                                  refine z_istore ZC dX8_plans_200 (by decide) ?_
                                  refine z_iload ZC dX8_plans_202 rfl ?_
                                  refine z_aload_n ZC 0 dX8_plans_204 rfl rfl ?_
                                  refine z_get ZC inUX8 0 rfl rfl 42 (by decide) uF_X8_209 rfl dX8_plans_205 ?_
                                  refine z_icmp_gt ZC 254 dX8_plans_208 (by decide) (by omega) (by omega) (fun c_208 => ?_) (fun c_208 => ?_)
                                  · skip
                                    refine z_iinc ZC dX8_plans_254 rfl (by decide) ?_
                                    refine z_goto ZC 125 dX8_plans_257 (by decide) ?_
                                    refine z_ws (ws2 := [(h, .inr (8, [vZ (M2_179.2 0), .ref (a 1), .ref (a 2), vZ (M2_179.2 3), vZ (M2_179.2 4), .ref (a 5), .ref (a 6), .ref (a 7), .ref (a 8), .ref (a 9), .ref (a 10), .ref (a 11), vZ (M2_179.2 12), .ref (a 13), .ref (a 14), .ref (a 15), .ref (a 16), .ref (a 17), .ref (a 18), .ref (a 19), vZ (M2_179.2 20), vZ (M2_179.2 21), .ref (a 22), .ref (a 23), .ref (a 24), .ref (a 25), .ref (a 26), .ref (a 27), .ref (a 28), .ref (a 29), .ref (a 30), .ref (a 31), .ref (a 32), .ref (a 33), vZ (M2_179.2 34), .ref (a 35), vZ (M2_179.2 36), vZ (M2_179.2 37), vZ (M2_179.2 38), .ref (a 39), .ref (a 40), vZ (M2_179.2 41), vZ (M2_179.2 42), vZ (M2_179.2 43)])), ((a 1), .inl (K.1, 10, .inl (ar (M2_179.1 1)))), ((a 2), .inl (K.1, 10, .inl (ar (M2_179.1 2)))), ((a 5), .inl (K.1, 16, .inl (ar (M2_179.1 5)))), ((a 6), .inl (K.1, 16, .inl (ar (M2_179.1 6)))), ((a 7), .inl (K.1, 16, .inl (ar (M2_179.1 7)))), ((a 8), .inl (K.1, 16, .inl (ar (M2_179.1 8)))), ((a 9), .inl (K.1, 16, .inl (ar (M2_179.1 9)))), ((a 10), .inl (K.1, 16, .inl (ar (M2_179.1 10)))), ((a 11), .inl (K.1, 100, .inl (ar (M2_179.1 11)))), ((a 13), .inl (K.1, 8, .inl (ar (M2_179.1 13)))), ((a 14), .inl (K.1, 8, .inl (ar (M2_179.1 14)))), ((a 15), .inl (K.1, 8, .inl (ar (M2_179.1 15)))), ((a 16), .inl (K.1, 8, .inl (ar (M2_179.1 16)))), ((a 17), .inl (K.1, 3200, .inl (ar (M2_179.1 17)))), ((a 18), .inl (K.1, 3200, .inl (ar (M2_179.1 18)))), ((a 19), .inl (K.2.1, 3200, .inl (ar (M2_179.1 19)))), ((a 22), .inl (K.1, 3400, .inl (ar (M2_179.1 22)))), ((a 23), .inl (K.1, 3400, .inl (ar (M2_179.1 23)))), ((a 24), .inl (K.1, 3400, .inl (ar (M2_179.1 24)))), ((a 25), .inl (K.1, 3400, .inl (ar (M2_179.1 25)))), ((a 26), .inl (K.1, 32, .inl (ar (M2_179.1 26)))), ((a 27), .inl (K.1, 32, .inl (ar (M2_179.1 27)))), ((a 28), .inl (K.2.1, 8, .inl (ar (M2_179.1 28)))), ((a 29), .inl (K.1, 8, .inl (ar (M2_179.1 29)))), ((a 30), .inl (K.1, 8, .inl (ar (M2_179.1 30)))), ((a 31), .inl (K.1, 10, .inl (ar (M2_179.1 31)))), ((a 32), .inl (K.1, 10, .inl (ar (M2_179.1 32)))), ((a 33), .inl (K.1, 10, .inl (ar (M2_179.1 33)))), ((a 35), .inl (K.1, 13711, .inl (ar (M2_179.1 35)))), ((a 39), .inl (K.1, 4, .inl (ar (M2_179.1 39)))), ((a 40), .inl (K.1, 4, .inl (ar (M2_179.1 40))))]) rfl (z_lv (lv2 := [(0, .ref h), (1, vZ n), (2, vZ W), (3, vZ al), (4, vZ (code + 1))]) ⟨rfl, rfl, rfl, rfl, rfl, trivial⟩ ?_)
                                    refine ih_125 (code + 1) M2_179 ?_ ?_ ?_ ?_ ?_ ?_ ?_ ?_ (by omega)
                                    · skip
                                      omega
                                    · skip
                                      exact ⟨hmx2_179.1, fun _ _ _ => rfl, hmx2_179.2.2⟩
                                    · skip
                                      intro x a b
                                      show M2_179.1 16 x = _ ∨ _
                                      rw [hkp_179.1 16 rfl]
                                      show Lg x = _ ∨ _
                                      by_cases z : ∃ i : Int, 0 ≤ i ∧ i < n ∧ Fe i = x
                                      · exact Or.inr z
                                      · left
                                        rw [b3 x a b (fun i i1 i2 q => z ⟨i, by omega, i2, q⟩)]
                                        rcases c2 x a b with y | y
                                        · exact y
                                        · exact absurd y z
                                    · skip
                                      exact KP.trans c3 (KP.trans (la := [16, 22, 23, 24, 25, 26, 27, 28, 29, 30, 31, 32, 33, 35, 39, 40]) (lz := [20, 21, 34, 36, 37, 38, 41, 42, 43]) (show KP [16, 22, 23, 24, 25, 26, 27, 28, 29, 30, 31, 32, 33, 35, 39, 40] [20, 21, 34, 36, 37, 38, 41, 42, 43] M1 (upf M1.1 16 Lg, M1.2) from ⟨fun k hk => upf_out hk rfl, fun k hk => rfl⟩) hkp_179 rfl rfl rfl rfl) rfl rfl rfl rfl
                                    · skip
                                      exact ⟨(hkp_179.1 39 rfl).trans c4.1, (hkp_179.1 40 rfl).trans c4.2⟩
                                    · skip
                                      exact hli2_179
                                    · skip
                                      right
                                      rcases c6 with z | z
                                      · exact absurd z.2 (by omega)
                                      · refine ⟨by omega, ?_⟩
                                        rw [hst, if_neg (by omega), e42, e43, e41]
                                        exact ⟨z.2.1, z.2.2.1, z.2.2.2.1, z.2.2.2.2.1, by omega⟩
                                    · skip
                                      rw [e42, e43]
                                      refine ⟨c7.1, fun _ => c7.2 ?_⟩
                                      rcases c6 with z | z
                                      · exact absurd z.2 (by omega)
                                      · exact z.1
                                  · skip
                                    refine z_iload ZC dX8_plans_211 rfl ?_
                                    refine z_aload_n ZC 0 dX8_plans_213 rfl rfl ?_
                                    refine z_get ZC inUX8 0 rfl rfl 42 (by decide) uF_X8_209 rfl dX8_plans_214 ?_
                                    refine z_icmp_ne ZC 234 dX8_plans_217 (by decide) (by omega) (by omega) (fun c_217 => ?_) (fun c_217 => ?_)
                                    · skip
                                      refine z_aload_n ZC 0 dX8_plans_234 rfl rfl ?_
                                      refine z_iload ZC dX8_plans_235 rfl ?_
                                      refine z_put ZC inUX8 tyX8_ok nmX8 0 rfl rfl 42 (by decide) uF_X8_209 rfl (rfl) (rfl) (Nat.le_of_ble_eq_true rfl) dX8_plans_237 ?_
                                      refine z_aload_n ZC 0 dX8_plans_240 rfl rfl ?_
                                      refine z_aload_n ZC 0 dX8_plans_241 rfl rfl ?_
                                      refine z_get ZC inUX8 0 rfl rfl 38 (by decide) uF_X8_200 rfl dX8_plans_242 ?_
                                      refine z_put ZC inUX8 tyX8_ok nmX8 0 rfl rfl 43 (by decide) uF_X8_212 rfl (rfl) (rfl) (Nat.le_of_ble_eq_true rfl) dX8_plans_245 ?_
                                      refine z_aload_n ZC 0 dX8_plans_248 rfl rfl ?_
                                      refine z_iload ZC dX8_plans_249 rfl ?_
                                      refine z_put ZC inUX8 tyX8_ok nmX8 0 rfl rfl 41 (by decide) uF_X8_215 rfl (rfl) (rfl) (Nat.le_of_ble_eq_true rfl) dX8_plans_251 ?_
                                      refine z_ws (ws2 := [(h, .inr (8, [vZ (M2_179.2 0), .ref (a 1), .ref (a 2), vZ (M2_179.2 3), vZ (M2_179.2 4), .ref (a 5), .ref (a 6), .ref (a 7), .ref (a 8), .ref (a 9), .ref (a 10), .ref (a 11), vZ (M2_179.2 12), .ref (a 13), .ref (a 14), .ref (a 15), .ref (a 16), .ref (a 17), .ref (a 18), .ref (a 19), vZ (M2_179.2 20), vZ (M2_179.2 21), .ref (a 22), .ref (a 23), .ref (a 24), .ref (a 25), .ref (a 26), .ref (a 27), .ref (a 28), .ref (a 29), .ref (a 30), .ref (a 31), .ref (a 32), .ref (a 33), vZ (M2_179.2 34), .ref (a 35), vZ (M2_179.2 36), vZ (M2_179.2 37), vZ (M2_179.2 38), .ref (a 39), .ref (a 40), vZ code, vZ (pEw Ne Cr A (cv W.toNat (wlA Cr A).length code)), vZ (M2_179.2 38)])), ((a 1), .inl (K.1, 10, .inl (ar (M2_179.1 1)))), ((a 2), .inl (K.1, 10, .inl (ar (M2_179.1 2)))), ((a 5), .inl (K.1, 16, .inl (ar (M2_179.1 5)))), ((a 6), .inl (K.1, 16, .inl (ar (M2_179.1 6)))), ((a 7), .inl (K.1, 16, .inl (ar (M2_179.1 7)))), ((a 8), .inl (K.1, 16, .inl (ar (M2_179.1 8)))), ((a 9), .inl (K.1, 16, .inl (ar (M2_179.1 9)))), ((a 10), .inl (K.1, 16, .inl (ar (M2_179.1 10)))), ((a 11), .inl (K.1, 100, .inl (ar (M2_179.1 11)))), ((a 13), .inl (K.1, 8, .inl (ar (M2_179.1 13)))), ((a 14), .inl (K.1, 8, .inl (ar (M2_179.1 14)))), ((a 15), .inl (K.1, 8, .inl (ar (M2_179.1 15)))), ((a 16), .inl (K.1, 8, .inl (ar (M2_179.1 16)))), ((a 17), .inl (K.1, 3200, .inl (ar (M2_179.1 17)))), ((a 18), .inl (K.1, 3200, .inl (ar (M2_179.1 18)))), ((a 19), .inl (K.2.1, 3200, .inl (ar (M2_179.1 19)))), ((a 22), .inl (K.1, 3400, .inl (ar (M2_179.1 22)))), ((a 23), .inl (K.1, 3400, .inl (ar (M2_179.1 23)))), ((a 24), .inl (K.1, 3400, .inl (ar (M2_179.1 24)))), ((a 25), .inl (K.1, 3400, .inl (ar (M2_179.1 25)))), ((a 26), .inl (K.1, 32, .inl (ar (M2_179.1 26)))), ((a 27), .inl (K.1, 32, .inl (ar (M2_179.1 27)))), ((a 28), .inl (K.2.1, 8, .inl (ar (M2_179.1 28)))), ((a 29), .inl (K.1, 8, .inl (ar (M2_179.1 29)))), ((a 30), .inl (K.1, 8, .inl (ar (M2_179.1 30)))), ((a 31), .inl (K.1, 10, .inl (ar (M2_179.1 31)))), ((a 32), .inl (K.1, 10, .inl (ar (M2_179.1 32)))), ((a 33), .inl (K.1, 10, .inl (ar (M2_179.1 33)))), ((a 35), .inl (K.1, 13711, .inl (ar (M2_179.1 35)))), ((a 39), .inl (K.1, 4, .inl (ar (M2_179.1 39)))), ((a 40), .inl (K.1, 4, .inl (ar (M2_179.1 40))))]) rfl ?_
                                      refine z_iinc ZC dX8_plans_254 rfl (by decide) ?_
                                      refine z_goto ZC 125 dX8_plans_257 (by decide) ?_
                                      refine z_ws (ws2 := [(h, .inr (8, [vZ (M2_179.2 0), .ref (a 1), .ref (a 2), vZ (M2_179.2 3), vZ (M2_179.2 4), .ref (a 5), .ref (a 6), .ref (a 7), .ref (a 8), .ref (a 9), .ref (a 10), .ref (a 11), vZ (M2_179.2 12), .ref (a 13), .ref (a 14), .ref (a 15), .ref (a 16), .ref (a 17), .ref (a 18), .ref (a 19), vZ (M2_179.2 20), vZ (M2_179.2 21), .ref (a 22), .ref (a 23), .ref (a 24), .ref (a 25), .ref (a 26), .ref (a 27), .ref (a 28), .ref (a 29), .ref (a 30), .ref (a 31), .ref (a 32), .ref (a 33), vZ (M2_179.2 34), .ref (a 35), vZ (M2_179.2 36), vZ (M2_179.2 37), vZ (M2_179.2 38), .ref (a 39), .ref (a 40), vZ code, vZ (pEw Ne Cr A (cv W.toNat (wlA Cr A).length code)), vZ (M2_179.2 38)])), ((a 1), .inl (K.1, 10, .inl (ar (M2_179.1 1)))), ((a 2), .inl (K.1, 10, .inl (ar (M2_179.1 2)))), ((a 5), .inl (K.1, 16, .inl (ar (M2_179.1 5)))), ((a 6), .inl (K.1, 16, .inl (ar (M2_179.1 6)))), ((a 7), .inl (K.1, 16, .inl (ar (M2_179.1 7)))), ((a 8), .inl (K.1, 16, .inl (ar (M2_179.1 8)))), ((a 9), .inl (K.1, 16, .inl (ar (M2_179.1 9)))), ((a 10), .inl (K.1, 16, .inl (ar (M2_179.1 10)))), ((a 11), .inl (K.1, 100, .inl (ar (M2_179.1 11)))), ((a 13), .inl (K.1, 8, .inl (ar (M2_179.1 13)))), ((a 14), .inl (K.1, 8, .inl (ar (M2_179.1 14)))), ((a 15), .inl (K.1, 8, .inl (ar (M2_179.1 15)))), ((a 16), .inl (K.1, 8, .inl (ar (M2_179.1 16)))), ((a 17), .inl (K.1, 3200, .inl (ar (M2_179.1 17)))), ((a 18), .inl (K.1, 3200, .inl (ar (M2_179.1 18)))), ((a 19), .inl (K.2.1, 3200, .inl (ar (M2_179.1 19)))), ((a 22), .inl (K.1, 3400, .inl (ar (M2_179.1 22)))), ((a 23), .inl (K.1, 3400, .inl (ar (M2_179.1 23)))), ((a 24), .inl (K.1, 3400, .inl (ar (M2_179.1 24)))), ((a 25), .inl (K.1, 3400, .inl (ar (M2_179.1 25)))), ((a 26), .inl (K.1, 32, .inl (ar (M2_179.1 26)))), ((a 27), .inl (K.1, 32, .inl (ar (M2_179.1 27)))), ((a 28), .inl (K.2.1, 8, .inl (ar (M2_179.1 28)))), ((a 29), .inl (K.1, 8, .inl (ar (M2_179.1 29)))), ((a 30), .inl (K.1, 8, .inl (ar (M2_179.1 30)))), ((a 31), .inl (K.1, 10, .inl (ar (M2_179.1 31)))), ((a 32), .inl (K.1, 10, .inl (ar (M2_179.1 32)))), ((a 33), .inl (K.1, 10, .inl (ar (M2_179.1 33)))), ((a 35), .inl (K.1, 13711, .inl (ar (M2_179.1 35)))), ((a 39), .inl (K.1, 4, .inl (ar (M2_179.1 39)))), ((a 40), .inl (K.1, 4, .inl (ar (M2_179.1 40))))]) rfl (z_lv (lv2 := [(0, .ref h), (1, vZ n), (2, vZ W), (3, vZ al), (4, vZ (code + 1))]) ⟨rfl, rfl, rfl, rfl, rfl, trivial⟩ ?_)
                                      refine ih_125 (code + 1) (M2_179.1, (upf (upf (upf M2_179.2 41 code) 42 (pEw Ne Cr A (cv W.toNat (wlA Cr A).length code))) 43 (M2_179.2 38))) ?_ ?_ ?_ ?_ ?_ ?_ ?_ ?_ (by omega)
                                      · skip
                                        omega
                                      · skip
                                        exact ⟨hmx2_179.1, fun _ _ _ => rfl, hmx2_179.2.2⟩
                                      · skip
                                        intro x a b
                                        show M2_179.1 16 x = _ ∨ _
                                        rw [hkp_179.1 16 rfl]
                                        show Lg x = _ ∨ _
                                        by_cases z : ∃ i : Int, 0 ≤ i ∧ i < n ∧ Fe i = x
                                        · exact Or.inr z
                                        · left
                                          rw [b3 x a b (fun i i1 i2 q => z ⟨i, by omega, i2, q⟩)]
                                          rcases c2 x a b with y | y
                                          · exact y
                                          · exact absurd y z
                                      · skip
                                        exact KP.trans c3 (KP.trans (la := [16, 22, 23, 24, 25, 26, 27, 28, 29, 30, 31, 32, 33, 35, 39, 40]) (lz := [20, 21, 34, 36, 37, 38, 41, 42, 43]) (KP.trans (la := [16, 22, 23, 24, 25, 26, 27, 28, 29, 30, 31, 32, 33, 35, 39, 40]) (lz := [20, 21, 34, 36, 37, 38, 41, 42, 43]) (show KP [16, 22, 23, 24, 25, 26, 27, 28, 29, 30, 31, 32, 33, 35, 39, 40] [20, 21, 34, 36, 37, 38, 41, 42, 43] M1 (upf M1.1 16 Lg, M1.2) from ⟨fun k hk => upf_out hk rfl, fun k hk => rfl⟩) hkp_179 rfl rfl rfl rfl) (show KP [16, 22, 23, 24, 25, 26, 27, 28, 29, 30, 31, 32, 33, 35, 39, 40] [20, 21, 34, 36, 37, 38, 41, 42, 43] M2_179 (M2_179.1, (upf (upf (upf M2_179.2 41 code) 42 (pEw Ne Cr A (cv W.toNat (wlA Cr A).length code))) 43 (M2_179.2 38))) from ⟨fun k hk => rfl, fun k hk => (upf_out hk rfl).trans ((upf_out hk rfl).trans (upf_out hk rfl))⟩) rfl rfl rfl rfl) rfl rfl rfl rfl
                                      · skip
                                        exact ⟨(hkp_179.1 39 rfl).trans c4.1, (hkp_179.1 40 rfl).trans c4.2⟩
                                      · skip
                                        exact hli2_179
                                      · skip
                                        right
                                        refine ⟨by omega, ?_⟩
                                        rw [hst, if_pos (by rcases c6 with z | z <;> omega)]
                                        exact ⟨rfl, e38, rfl, c0.1, show code < code + 1 by omega⟩
                                      · skip
                                        exact ⟨⟨show 0 ≤ (pEw Ne Cr A (cv W.toNat (wlA Cr A).length code)) by omega, show (pEw Ne Cr A (cv W.toNat (wlA Cr A).length code)) ≤ 10000 by omega⟩, fun _ => ⟨show -2147483648 ≤ M2_179.2 38 by omega, show M2_179.2 38 < 2147483648 by omega⟩⟩
                                    · skip
                                      have hc0 : 0 < code := by
                                        rcases c6 with z | z
                                        · omega
                                        · exact z.1
                                      have hc7 := c7.2 hc0
                                      refine z_aload_n ZC 0 dX8_plans_220 rfl rfl ?_
                                      refine z_get ZC inUX8 0 rfl rfl 38 (by decide) uF_X8_200 rfl dX8_plans_221 ?_
                                      refine z_aload_n ZC 0 dX8_plans_224 rfl rfl ?_
                                      refine z_get ZC inUX8 0 rfl rfl 43 (by decide) uF_X8_212 rfl dX8_plans_225 ?_
                                      refine z_icmp_lt ZC 234 dX8_plans_228 (by decide) (by omega) (by omega) (fun c_228 => ?_) (fun c_228 => ?_)
                                      · skip
                                        refine z_aload_n ZC 0 dX8_plans_234 rfl rfl ?_
                                        refine z_iload ZC dX8_plans_235 rfl ?_
                                        refine z_put ZC inUX8 tyX8_ok nmX8 0 rfl rfl 42 (by decide) uF_X8_209 rfl (rfl) (rfl) (Nat.le_of_ble_eq_true rfl) dX8_plans_237 ?_
                                        refine z_aload_n ZC 0 dX8_plans_240 rfl rfl ?_
                                        refine z_aload_n ZC 0 dX8_plans_241 rfl rfl ?_
                                        refine z_get ZC inUX8 0 rfl rfl 38 (by decide) uF_X8_200 rfl dX8_plans_242 ?_
                                        refine z_put ZC inUX8 tyX8_ok nmX8 0 rfl rfl 43 (by decide) uF_X8_212 rfl (rfl) (rfl) (Nat.le_of_ble_eq_true rfl) dX8_plans_245 ?_
                                        refine z_aload_n ZC 0 dX8_plans_248 rfl rfl ?_
                                        refine z_iload ZC dX8_plans_249 rfl ?_
                                        refine z_put ZC inUX8 tyX8_ok nmX8 0 rfl rfl 41 (by decide) uF_X8_215 rfl (rfl) (rfl) (Nat.le_of_ble_eq_true rfl) dX8_plans_251 ?_
                                        refine z_ws (ws2 := [(h, .inr (8, [vZ (M2_179.2 0), .ref (a 1), .ref (a 2), vZ (M2_179.2 3), vZ (M2_179.2 4), .ref (a 5), .ref (a 6), .ref (a 7), .ref (a 8), .ref (a 9), .ref (a 10), .ref (a 11), vZ (M2_179.2 12), .ref (a 13), .ref (a 14), .ref (a 15), .ref (a 16), .ref (a 17), .ref (a 18), .ref (a 19), vZ (M2_179.2 20), vZ (M2_179.2 21), .ref (a 22), .ref (a 23), .ref (a 24), .ref (a 25), .ref (a 26), .ref (a 27), .ref (a 28), .ref (a 29), .ref (a 30), .ref (a 31), .ref (a 32), .ref (a 33), vZ (M2_179.2 34), .ref (a 35), vZ (M2_179.2 36), vZ (M2_179.2 37), vZ (M2_179.2 38), .ref (a 39), .ref (a 40), vZ code, vZ (pEw Ne Cr A (cv W.toNat (wlA Cr A).length code)), vZ (M2_179.2 38)])), ((a 1), .inl (K.1, 10, .inl (ar (M2_179.1 1)))), ((a 2), .inl (K.1, 10, .inl (ar (M2_179.1 2)))), ((a 5), .inl (K.1, 16, .inl (ar (M2_179.1 5)))), ((a 6), .inl (K.1, 16, .inl (ar (M2_179.1 6)))), ((a 7), .inl (K.1, 16, .inl (ar (M2_179.1 7)))), ((a 8), .inl (K.1, 16, .inl (ar (M2_179.1 8)))), ((a 9), .inl (K.1, 16, .inl (ar (M2_179.1 9)))), ((a 10), .inl (K.1, 16, .inl (ar (M2_179.1 10)))), ((a 11), .inl (K.1, 100, .inl (ar (M2_179.1 11)))), ((a 13), .inl (K.1, 8, .inl (ar (M2_179.1 13)))), ((a 14), .inl (K.1, 8, .inl (ar (M2_179.1 14)))), ((a 15), .inl (K.1, 8, .inl (ar (M2_179.1 15)))), ((a 16), .inl (K.1, 8, .inl (ar (M2_179.1 16)))), ((a 17), .inl (K.1, 3200, .inl (ar (M2_179.1 17)))), ((a 18), .inl (K.1, 3200, .inl (ar (M2_179.1 18)))), ((a 19), .inl (K.2.1, 3200, .inl (ar (M2_179.1 19)))), ((a 22), .inl (K.1, 3400, .inl (ar (M2_179.1 22)))), ((a 23), .inl (K.1, 3400, .inl (ar (M2_179.1 23)))), ((a 24), .inl (K.1, 3400, .inl (ar (M2_179.1 24)))), ((a 25), .inl (K.1, 3400, .inl (ar (M2_179.1 25)))), ((a 26), .inl (K.1, 32, .inl (ar (M2_179.1 26)))), ((a 27), .inl (K.1, 32, .inl (ar (M2_179.1 27)))), ((a 28), .inl (K.2.1, 8, .inl (ar (M2_179.1 28)))), ((a 29), .inl (K.1, 8, .inl (ar (M2_179.1 29)))), ((a 30), .inl (K.1, 8, .inl (ar (M2_179.1 30)))), ((a 31), .inl (K.1, 10, .inl (ar (M2_179.1 31)))), ((a 32), .inl (K.1, 10, .inl (ar (M2_179.1 32)))), ((a 33), .inl (K.1, 10, .inl (ar (M2_179.1 33)))), ((a 35), .inl (K.1, 13711, .inl (ar (M2_179.1 35)))), ((a 39), .inl (K.1, 4, .inl (ar (M2_179.1 39)))), ((a 40), .inl (K.1, 4, .inl (ar (M2_179.1 40))))]) rfl ?_
                                        refine z_iinc ZC dX8_plans_254 rfl (by decide) ?_
                                        refine z_goto ZC 125 dX8_plans_257 (by decide) ?_
                                        refine z_ws (ws2 := [(h, .inr (8, [vZ (M2_179.2 0), .ref (a 1), .ref (a 2), vZ (M2_179.2 3), vZ (M2_179.2 4), .ref (a 5), .ref (a 6), .ref (a 7), .ref (a 8), .ref (a 9), .ref (a 10), .ref (a 11), vZ (M2_179.2 12), .ref (a 13), .ref (a 14), .ref (a 15), .ref (a 16), .ref (a 17), .ref (a 18), .ref (a 19), vZ (M2_179.2 20), vZ (M2_179.2 21), .ref (a 22), .ref (a 23), .ref (a 24), .ref (a 25), .ref (a 26), .ref (a 27), .ref (a 28), .ref (a 29), .ref (a 30), .ref (a 31), .ref (a 32), .ref (a 33), vZ (M2_179.2 34), .ref (a 35), vZ (M2_179.2 36), vZ (M2_179.2 37), vZ (M2_179.2 38), .ref (a 39), .ref (a 40), vZ code, vZ (pEw Ne Cr A (cv W.toNat (wlA Cr A).length code)), vZ (M2_179.2 38)])), ((a 1), .inl (K.1, 10, .inl (ar (M2_179.1 1)))), ((a 2), .inl (K.1, 10, .inl (ar (M2_179.1 2)))), ((a 5), .inl (K.1, 16, .inl (ar (M2_179.1 5)))), ((a 6), .inl (K.1, 16, .inl (ar (M2_179.1 6)))), ((a 7), .inl (K.1, 16, .inl (ar (M2_179.1 7)))), ((a 8), .inl (K.1, 16, .inl (ar (M2_179.1 8)))), ((a 9), .inl (K.1, 16, .inl (ar (M2_179.1 9)))), ((a 10), .inl (K.1, 16, .inl (ar (M2_179.1 10)))), ((a 11), .inl (K.1, 100, .inl (ar (M2_179.1 11)))), ((a 13), .inl (K.1, 8, .inl (ar (M2_179.1 13)))), ((a 14), .inl (K.1, 8, .inl (ar (M2_179.1 14)))), ((a 15), .inl (K.1, 8, .inl (ar (M2_179.1 15)))), ((a 16), .inl (K.1, 8, .inl (ar (M2_179.1 16)))), ((a 17), .inl (K.1, 3200, .inl (ar (M2_179.1 17)))), ((a 18), .inl (K.1, 3200, .inl (ar (M2_179.1 18)))), ((a 19), .inl (K.2.1, 3200, .inl (ar (M2_179.1 19)))), ((a 22), .inl (K.1, 3400, .inl (ar (M2_179.1 22)))), ((a 23), .inl (K.1, 3400, .inl (ar (M2_179.1 23)))), ((a 24), .inl (K.1, 3400, .inl (ar (M2_179.1 24)))), ((a 25), .inl (K.1, 3400, .inl (ar (M2_179.1 25)))), ((a 26), .inl (K.1, 32, .inl (ar (M2_179.1 26)))), ((a 27), .inl (K.1, 32, .inl (ar (M2_179.1 27)))), ((a 28), .inl (K.2.1, 8, .inl (ar (M2_179.1 28)))), ((a 29), .inl (K.1, 8, .inl (ar (M2_179.1 29)))), ((a 30), .inl (K.1, 8, .inl (ar (M2_179.1 30)))), ((a 31), .inl (K.1, 10, .inl (ar (M2_179.1 31)))), ((a 32), .inl (K.1, 10, .inl (ar (M2_179.1 32)))), ((a 33), .inl (K.1, 10, .inl (ar (M2_179.1 33)))), ((a 35), .inl (K.1, 13711, .inl (ar (M2_179.1 35)))), ((a 39), .inl (K.1, 4, .inl (ar (M2_179.1 39)))), ((a 40), .inl (K.1, 4, .inl (ar (M2_179.1 40))))]) rfl (z_lv (lv2 := [(0, .ref h), (1, vZ n), (2, vZ W), (3, vZ al), (4, vZ (code + 1))]) ⟨rfl, rfl, rfl, rfl, rfl, trivial⟩ ?_)
                                        refine ih_125 (code + 1) (M2_179.1, (upf (upf (upf M2_179.2 41 code) 42 (pEw Ne Cr A (cv W.toNat (wlA Cr A).length code))) 43 (M2_179.2 38))) ?_ ?_ ?_ ?_ ?_ ?_ ?_ ?_ (by omega)
                                        · skip
                                          omega
                                        · skip
                                          exact ⟨hmx2_179.1, fun _ _ _ => rfl, hmx2_179.2.2⟩
                                        · skip
                                          intro x a b
                                          show M2_179.1 16 x = _ ∨ _
                                          rw [hkp_179.1 16 rfl]
                                          show Lg x = _ ∨ _
                                          by_cases z : ∃ i : Int, 0 ≤ i ∧ i < n ∧ Fe i = x
                                          · exact Or.inr z
                                          · left
                                            rw [b3 x a b (fun i i1 i2 q => z ⟨i, by omega, i2, q⟩)]
                                            rcases c2 x a b with y | y
                                            · exact y
                                            · exact absurd y z
                                        · skip
                                          exact KP.trans c3 (KP.trans (la := [16, 22, 23, 24, 25, 26, 27, 28, 29, 30, 31, 32, 33, 35, 39, 40]) (lz := [20, 21, 34, 36, 37, 38, 41, 42, 43]) (KP.trans (la := [16, 22, 23, 24, 25, 26, 27, 28, 29, 30, 31, 32, 33, 35, 39, 40]) (lz := [20, 21, 34, 36, 37, 38, 41, 42, 43]) (show KP [16, 22, 23, 24, 25, 26, 27, 28, 29, 30, 31, 32, 33, 35, 39, 40] [20, 21, 34, 36, 37, 38, 41, 42, 43] M1 (upf M1.1 16 Lg, M1.2) from ⟨fun k hk => upf_out hk rfl, fun k hk => rfl⟩) hkp_179 rfl rfl rfl rfl) (show KP [16, 22, 23, 24, 25, 26, 27, 28, 29, 30, 31, 32, 33, 35, 39, 40] [20, 21, 34, 36, 37, 38, 41, 42, 43] M2_179 (M2_179.1, (upf (upf (upf M2_179.2 41 code) 42 (pEw Ne Cr A (cv W.toNat (wlA Cr A).length code))) 43 (M2_179.2 38))) from ⟨fun k hk => rfl, fun k hk => (upf_out hk rfl).trans ((upf_out hk rfl).trans (upf_out hk rfl))⟩) rfl rfl rfl rfl) rfl rfl rfl rfl
                                        · skip
                                          exact ⟨(hkp_179.1 39 rfl).trans c4.1, (hkp_179.1 40 rfl).trans c4.2⟩
                                        · skip
                                          exact hli2_179
                                        · skip
                                          right
                                          refine ⟨by omega, ?_⟩
                                          rw [hst, if_pos (by rcases c6 with z | z <;> omega)]
                                          exact ⟨rfl, e38, rfl, c0.1, show code < code + 1 by omega⟩
                                        · skip
                                          exact ⟨⟨show 0 ≤ (pEw Ne Cr A (cv W.toNat (wlA Cr A).length code)) by omega, show (pEw Ne Cr A (cv W.toNat (wlA Cr A).length code)) ≤ 10000 by omega⟩, fun _ => ⟨show -2147483648 ≤ M2_179.2 38 by omega, show M2_179.2 38 < 2147483648 by omega⟩⟩
                                      · skip
                                        refine z_goto ZC 254 dX8_plans_231 (by decide) ?_
                                        refine z_iinc ZC dX8_plans_254 rfl (by decide) ?_
                                        refine z_goto ZC 125 dX8_plans_257 (by decide) ?_
                                        refine z_ws (ws2 := [(h, .inr (8, [vZ (M2_179.2 0), .ref (a 1), .ref (a 2), vZ (M2_179.2 3), vZ (M2_179.2 4), .ref (a 5), .ref (a 6), .ref (a 7), .ref (a 8), .ref (a 9), .ref (a 10), .ref (a 11), vZ (M2_179.2 12), .ref (a 13), .ref (a 14), .ref (a 15), .ref (a 16), .ref (a 17), .ref (a 18), .ref (a 19), vZ (M2_179.2 20), vZ (M2_179.2 21), .ref (a 22), .ref (a 23), .ref (a 24), .ref (a 25), .ref (a 26), .ref (a 27), .ref (a 28), .ref (a 29), .ref (a 30), .ref (a 31), .ref (a 32), .ref (a 33), vZ (M2_179.2 34), .ref (a 35), vZ (M2_179.2 36), vZ (M2_179.2 37), vZ (M2_179.2 38), .ref (a 39), .ref (a 40), vZ (M2_179.2 41), vZ (M2_179.2 42), vZ (M2_179.2 43)])), ((a 1), .inl (K.1, 10, .inl (ar (M2_179.1 1)))), ((a 2), .inl (K.1, 10, .inl (ar (M2_179.1 2)))), ((a 5), .inl (K.1, 16, .inl (ar (M2_179.1 5)))), ((a 6), .inl (K.1, 16, .inl (ar (M2_179.1 6)))), ((a 7), .inl (K.1, 16, .inl (ar (M2_179.1 7)))), ((a 8), .inl (K.1, 16, .inl (ar (M2_179.1 8)))), ((a 9), .inl (K.1, 16, .inl (ar (M2_179.1 9)))), ((a 10), .inl (K.1, 16, .inl (ar (M2_179.1 10)))), ((a 11), .inl (K.1, 100, .inl (ar (M2_179.1 11)))), ((a 13), .inl (K.1, 8, .inl (ar (M2_179.1 13)))), ((a 14), .inl (K.1, 8, .inl (ar (M2_179.1 14)))), ((a 15), .inl (K.1, 8, .inl (ar (M2_179.1 15)))), ((a 16), .inl (K.1, 8, .inl (ar (M2_179.1 16)))), ((a 17), .inl (K.1, 3200, .inl (ar (M2_179.1 17)))), ((a 18), .inl (K.1, 3200, .inl (ar (M2_179.1 18)))), ((a 19), .inl (K.2.1, 3200, .inl (ar (M2_179.1 19)))), ((a 22), .inl (K.1, 3400, .inl (ar (M2_179.1 22)))), ((a 23), .inl (K.1, 3400, .inl (ar (M2_179.1 23)))), ((a 24), .inl (K.1, 3400, .inl (ar (M2_179.1 24)))), ((a 25), .inl (K.1, 3400, .inl (ar (M2_179.1 25)))), ((a 26), .inl (K.1, 32, .inl (ar (M2_179.1 26)))), ((a 27), .inl (K.1, 32, .inl (ar (M2_179.1 27)))), ((a 28), .inl (K.2.1, 8, .inl (ar (M2_179.1 28)))), ((a 29), .inl (K.1, 8, .inl (ar (M2_179.1 29)))), ((a 30), .inl (K.1, 8, .inl (ar (M2_179.1 30)))), ((a 31), .inl (K.1, 10, .inl (ar (M2_179.1 31)))), ((a 32), .inl (K.1, 10, .inl (ar (M2_179.1 32)))), ((a 33), .inl (K.1, 10, .inl (ar (M2_179.1 33)))), ((a 35), .inl (K.1, 13711, .inl (ar (M2_179.1 35)))), ((a 39), .inl (K.1, 4, .inl (ar (M2_179.1 39)))), ((a 40), .inl (K.1, 4, .inl (ar (M2_179.1 40))))]) rfl (z_lv (lv2 := [(0, .ref h), (1, vZ n), (2, vZ W), (3, vZ al), (4, vZ (code + 1))]) ⟨rfl, rfl, rfl, rfl, rfl, trivial⟩ ?_)
                                        refine ih_125 (code + 1) M2_179 ?_ ?_ ?_ ?_ ?_ ?_ ?_ ?_ (by omega)
                                        · skip
                                          omega
                                        · skip
                                          exact ⟨hmx2_179.1, fun _ _ _ => rfl, hmx2_179.2.2⟩
                                        · skip
                                          intro x a b
                                          show M2_179.1 16 x = _ ∨ _
                                          rw [hkp_179.1 16 rfl]
                                          show Lg x = _ ∨ _
                                          by_cases z : ∃ i : Int, 0 ≤ i ∧ i < n ∧ Fe i = x
                                          · exact Or.inr z
                                          · left
                                            rw [b3 x a b (fun i i1 i2 q => z ⟨i, by omega, i2, q⟩)]
                                            rcases c2 x a b with y | y
                                            · exact y
                                            · exact absurd y z
                                        · skip
                                          exact KP.trans c3 (KP.trans (la := [16, 22, 23, 24, 25, 26, 27, 28, 29, 30, 31, 32, 33, 35, 39, 40]) (lz := [20, 21, 34, 36, 37, 38, 41, 42, 43]) (show KP [16, 22, 23, 24, 25, 26, 27, 28, 29, 30, 31, 32, 33, 35, 39, 40] [20, 21, 34, 36, 37, 38, 41, 42, 43] M1 (upf M1.1 16 Lg, M1.2) from ⟨fun k hk => upf_out hk rfl, fun k hk => rfl⟩) hkp_179 rfl rfl rfl rfl) rfl rfl rfl rfl
                                        · skip
                                          exact ⟨(hkp_179.1 39 rfl).trans c4.1, (hkp_179.1 40 rfl).trans c4.2⟩
                                        · skip
                                          exact hli2_179
                                        · skip
                                          right
                                          rcases c6 with z | z
                                          · exact absurd z.2 (by omega)
                                          · refine ⟨by omega, ?_⟩
                                            rw [hst, if_neg (by omega), e42, e43, e41]
                                            exact ⟨z.2.1, z.2.2.1, z.2.2.2.1, z.2.2.2.2.1, by omega⟩
                                        · skip
                                          rw [e42, e43]
                                          refine ⟨c7.1, fun _ => c7.2 ?_⟩
                                          rcases c6 with z | z
                                          · exact absurd z.2 (by omega)
                                          · exact z.1
                                · skip
                                  refine z_sipush ZC dX8_plans_190 (by decide) ?_
                                  refine z_goto ZC 200 dX8_plans_193 (by decide) ?_
                                  refine z_top (y := (pEw Ne Cr A (cv W.toNat (wlA Cr A).length code))) (by omega) ?_
                                  refine z_istore ZC dX8_plans_200 (by decide) ?_
                                  refine z_iload ZC dX8_plans_202 rfl ?_
                                  refine z_aload_n ZC 0 dX8_plans_204 rfl rfl ?_
                                  refine z_get ZC inUX8 0 rfl rfl 42 (by decide) uF_X8_209 rfl dX8_plans_205 ?_
                                  refine z_icmp_gt ZC 254 dX8_plans_208 (by decide) (by omega) (by omega) (fun c_208 => ?_) (fun c_208 => ?_)
                                  · skip
                                    refine z_iinc ZC dX8_plans_254 rfl (by decide) ?_
                                    refine z_goto ZC 125 dX8_plans_257 (by decide) ?_
                                    refine z_ws (ws2 := [(h, .inr (8, [vZ (M2_179.2 0), .ref (a 1), .ref (a 2), vZ (M2_179.2 3), vZ (M2_179.2 4), .ref (a 5), .ref (a 6), .ref (a 7), .ref (a 8), .ref (a 9), .ref (a 10), .ref (a 11), vZ (M2_179.2 12), .ref (a 13), .ref (a 14), .ref (a 15), .ref (a 16), .ref (a 17), .ref (a 18), .ref (a 19), vZ (M2_179.2 20), vZ (M2_179.2 21), .ref (a 22), .ref (a 23), .ref (a 24), .ref (a 25), .ref (a 26), .ref (a 27), .ref (a 28), .ref (a 29), .ref (a 30), .ref (a 31), .ref (a 32), .ref (a 33), vZ (M2_179.2 34), .ref (a 35), vZ (M2_179.2 36), vZ (M2_179.2 37), vZ (M2_179.2 38), .ref (a 39), .ref (a 40), vZ (M2_179.2 41), vZ (M2_179.2 42), vZ (M2_179.2 43)])), ((a 1), .inl (K.1, 10, .inl (ar (M2_179.1 1)))), ((a 2), .inl (K.1, 10, .inl (ar (M2_179.1 2)))), ((a 5), .inl (K.1, 16, .inl (ar (M2_179.1 5)))), ((a 6), .inl (K.1, 16, .inl (ar (M2_179.1 6)))), ((a 7), .inl (K.1, 16, .inl (ar (M2_179.1 7)))), ((a 8), .inl (K.1, 16, .inl (ar (M2_179.1 8)))), ((a 9), .inl (K.1, 16, .inl (ar (M2_179.1 9)))), ((a 10), .inl (K.1, 16, .inl (ar (M2_179.1 10)))), ((a 11), .inl (K.1, 100, .inl (ar (M2_179.1 11)))), ((a 13), .inl (K.1, 8, .inl (ar (M2_179.1 13)))), ((a 14), .inl (K.1, 8, .inl (ar (M2_179.1 14)))), ((a 15), .inl (K.1, 8, .inl (ar (M2_179.1 15)))), ((a 16), .inl (K.1, 8, .inl (ar (M2_179.1 16)))), ((a 17), .inl (K.1, 3200, .inl (ar (M2_179.1 17)))), ((a 18), .inl (K.1, 3200, .inl (ar (M2_179.1 18)))), ((a 19), .inl (K.2.1, 3200, .inl (ar (M2_179.1 19)))), ((a 22), .inl (K.1, 3400, .inl (ar (M2_179.1 22)))), ((a 23), .inl (K.1, 3400, .inl (ar (M2_179.1 23)))), ((a 24), .inl (K.1, 3400, .inl (ar (M2_179.1 24)))), ((a 25), .inl (K.1, 3400, .inl (ar (M2_179.1 25)))), ((a 26), .inl (K.1, 32, .inl (ar (M2_179.1 26)))), ((a 27), .inl (K.1, 32, .inl (ar (M2_179.1 27)))), ((a 28), .inl (K.2.1, 8, .inl (ar (M2_179.1 28)))), ((a 29), .inl (K.1, 8, .inl (ar (M2_179.1 29)))), ((a 30), .inl (K.1, 8, .inl (ar (M2_179.1 30)))), ((a 31), .inl (K.1, 10, .inl (ar (M2_179.1 31)))), ((a 32), .inl (K.1, 10, .inl (ar (M2_179.1 32)))), ((a 33), .inl (K.1, 10, .inl (ar (M2_179.1 33)))), ((a 35), .inl (K.1, 13711, .inl (ar (M2_179.1 35)))), ((a 39), .inl (K.1, 4, .inl (ar (M2_179.1 39)))), ((a 40), .inl (K.1, 4, .inl (ar (M2_179.1 40))))]) rfl (z_lv (lv2 := [(0, .ref h), (1, vZ n), (2, vZ W), (3, vZ al), (4, vZ (code + 1))]) ⟨rfl, rfl, rfl, rfl, rfl, trivial⟩ ?_)
                                    refine ih_125 (code + 1) M2_179 ?_ ?_ ?_ ?_ ?_ ?_ ?_ ?_ (by omega)
                                    · skip
                                      omega
                                    · skip
                                      exact ⟨hmx2_179.1, fun _ _ _ => rfl, hmx2_179.2.2⟩
                                    · skip
                                      intro x a b
                                      show M2_179.1 16 x = _ ∨ _
                                      rw [hkp_179.1 16 rfl]
                                      show Lg x = _ ∨ _
                                      by_cases z : ∃ i : Int, 0 ≤ i ∧ i < n ∧ Fe i = x
                                      · exact Or.inr z
                                      · left
                                        rw [b3 x a b (fun i i1 i2 q => z ⟨i, by omega, i2, q⟩)]
                                        rcases c2 x a b with y | y
                                        · exact y
                                        · exact absurd y z
                                    · skip
                                      exact KP.trans c3 (KP.trans (la := [16, 22, 23, 24, 25, 26, 27, 28, 29, 30, 31, 32, 33, 35, 39, 40]) (lz := [20, 21, 34, 36, 37, 38, 41, 42, 43]) (show KP [16, 22, 23, 24, 25, 26, 27, 28, 29, 30, 31, 32, 33, 35, 39, 40] [20, 21, 34, 36, 37, 38, 41, 42, 43] M1 (upf M1.1 16 Lg, M1.2) from ⟨fun k hk => upf_out hk rfl, fun k hk => rfl⟩) hkp_179 rfl rfl rfl rfl) rfl rfl rfl rfl
                                    · skip
                                      exact ⟨(hkp_179.1 39 rfl).trans c4.1, (hkp_179.1 40 rfl).trans c4.2⟩
                                    · skip
                                      exact hli2_179
                                    · skip
                                      right
                                      rcases c6 with z | z
                                      · exact absurd z.2 (by omega)
                                      · refine ⟨by omega, ?_⟩
                                        rw [hst, if_neg (by omega), e42, e43, e41]
                                        exact ⟨z.2.1, z.2.2.1, z.2.2.2.1, z.2.2.2.2.1, by omega⟩
                                    · skip
                                      rw [e42, e43]
                                      refine ⟨c7.1, fun _ => c7.2 ?_⟩
                                      rcases c6 with z | z
                                      · exact absurd z.2 (by omega)
                                      · exact z.1
                                  · skip
                                    refine z_iload ZC dX8_plans_211 rfl ?_
                                    refine z_aload_n ZC 0 dX8_plans_213 rfl rfl ?_
                                    refine z_get ZC inUX8 0 rfl rfl 42 (by decide) uF_X8_209 rfl dX8_plans_214 ?_
                                    refine z_icmp_ne ZC 234 dX8_plans_217 (by decide) (by omega) (by omega) (fun c_217 => ?_) (fun c_217 => ?_)
                                    · skip
                                      refine z_aload_n ZC 0 dX8_plans_234 rfl rfl ?_
                                      refine z_iload ZC dX8_plans_235 rfl ?_
                                      refine z_put ZC inUX8 tyX8_ok nmX8 0 rfl rfl 42 (by decide) uF_X8_209 rfl (rfl) (rfl) (Nat.le_of_ble_eq_true rfl) dX8_plans_237 ?_
                                      refine z_aload_n ZC 0 dX8_plans_240 rfl rfl ?_
                                      refine z_aload_n ZC 0 dX8_plans_241 rfl rfl ?_
                                      refine z_get ZC inUX8 0 rfl rfl 38 (by decide) uF_X8_200 rfl dX8_plans_242 ?_
                                      refine z_put ZC inUX8 tyX8_ok nmX8 0 rfl rfl 43 (by decide) uF_X8_212 rfl (rfl) (rfl) (Nat.le_of_ble_eq_true rfl) dX8_plans_245 ?_
                                      refine z_aload_n ZC 0 dX8_plans_248 rfl rfl ?_
                                      refine z_iload ZC dX8_plans_249 rfl ?_
                                      refine z_put ZC inUX8 tyX8_ok nmX8 0 rfl rfl 41 (by decide) uF_X8_215 rfl (rfl) (rfl) (Nat.le_of_ble_eq_true rfl) dX8_plans_251 ?_
                                      refine z_ws (ws2 := [(h, .inr (8, [vZ (M2_179.2 0), .ref (a 1), .ref (a 2), vZ (M2_179.2 3), vZ (M2_179.2 4), .ref (a 5), .ref (a 6), .ref (a 7), .ref (a 8), .ref (a 9), .ref (a 10), .ref (a 11), vZ (M2_179.2 12), .ref (a 13), .ref (a 14), .ref (a 15), .ref (a 16), .ref (a 17), .ref (a 18), .ref (a 19), vZ (M2_179.2 20), vZ (M2_179.2 21), .ref (a 22), .ref (a 23), .ref (a 24), .ref (a 25), .ref (a 26), .ref (a 27), .ref (a 28), .ref (a 29), .ref (a 30), .ref (a 31), .ref (a 32), .ref (a 33), vZ (M2_179.2 34), .ref (a 35), vZ (M2_179.2 36), vZ (M2_179.2 37), vZ (M2_179.2 38), .ref (a 39), .ref (a 40), vZ code, vZ (pEw Ne Cr A (cv W.toNat (wlA Cr A).length code)), vZ (M2_179.2 38)])), ((a 1), .inl (K.1, 10, .inl (ar (M2_179.1 1)))), ((a 2), .inl (K.1, 10, .inl (ar (M2_179.1 2)))), ((a 5), .inl (K.1, 16, .inl (ar (M2_179.1 5)))), ((a 6), .inl (K.1, 16, .inl (ar (M2_179.1 6)))), ((a 7), .inl (K.1, 16, .inl (ar (M2_179.1 7)))), ((a 8), .inl (K.1, 16, .inl (ar (M2_179.1 8)))), ((a 9), .inl (K.1, 16, .inl (ar (M2_179.1 9)))), ((a 10), .inl (K.1, 16, .inl (ar (M2_179.1 10)))), ((a 11), .inl (K.1, 100, .inl (ar (M2_179.1 11)))), ((a 13), .inl (K.1, 8, .inl (ar (M2_179.1 13)))), ((a 14), .inl (K.1, 8, .inl (ar (M2_179.1 14)))), ((a 15), .inl (K.1, 8, .inl (ar (M2_179.1 15)))), ((a 16), .inl (K.1, 8, .inl (ar (M2_179.1 16)))), ((a 17), .inl (K.1, 3200, .inl (ar (M2_179.1 17)))), ((a 18), .inl (K.1, 3200, .inl (ar (M2_179.1 18)))), ((a 19), .inl (K.2.1, 3200, .inl (ar (M2_179.1 19)))), ((a 22), .inl (K.1, 3400, .inl (ar (M2_179.1 22)))), ((a 23), .inl (K.1, 3400, .inl (ar (M2_179.1 23)))), ((a 24), .inl (K.1, 3400, .inl (ar (M2_179.1 24)))), ((a 25), .inl (K.1, 3400, .inl (ar (M2_179.1 25)))), ((a 26), .inl (K.1, 32, .inl (ar (M2_179.1 26)))), ((a 27), .inl (K.1, 32, .inl (ar (M2_179.1 27)))), ((a 28), .inl (K.2.1, 8, .inl (ar (M2_179.1 28)))), ((a 29), .inl (K.1, 8, .inl (ar (M2_179.1 29)))), ((a 30), .inl (K.1, 8, .inl (ar (M2_179.1 30)))), ((a 31), .inl (K.1, 10, .inl (ar (M2_179.1 31)))), ((a 32), .inl (K.1, 10, .inl (ar (M2_179.1 32)))), ((a 33), .inl (K.1, 10, .inl (ar (M2_179.1 33)))), ((a 35), .inl (K.1, 13711, .inl (ar (M2_179.1 35)))), ((a 39), .inl (K.1, 4, .inl (ar (M2_179.1 39)))), ((a 40), .inl (K.1, 4, .inl (ar (M2_179.1 40))))]) rfl ?_
                                      refine z_iinc ZC dX8_plans_254 rfl (by decide) ?_
                                      refine z_goto ZC 125 dX8_plans_257 (by decide) ?_
                                      refine z_ws (ws2 := [(h, .inr (8, [vZ (M2_179.2 0), .ref (a 1), .ref (a 2), vZ (M2_179.2 3), vZ (M2_179.2 4), .ref (a 5), .ref (a 6), .ref (a 7), .ref (a 8), .ref (a 9), .ref (a 10), .ref (a 11), vZ (M2_179.2 12), .ref (a 13), .ref (a 14), .ref (a 15), .ref (a 16), .ref (a 17), .ref (a 18), .ref (a 19), vZ (M2_179.2 20), vZ (M2_179.2 21), .ref (a 22), .ref (a 23), .ref (a 24), .ref (a 25), .ref (a 26), .ref (a 27), .ref (a 28), .ref (a 29), .ref (a 30), .ref (a 31), .ref (a 32), .ref (a 33), vZ (M2_179.2 34), .ref (a 35), vZ (M2_179.2 36), vZ (M2_179.2 37), vZ (M2_179.2 38), .ref (a 39), .ref (a 40), vZ code, vZ (pEw Ne Cr A (cv W.toNat (wlA Cr A).length code)), vZ (M2_179.2 38)])), ((a 1), .inl (K.1, 10, .inl (ar (M2_179.1 1)))), ((a 2), .inl (K.1, 10, .inl (ar (M2_179.1 2)))), ((a 5), .inl (K.1, 16, .inl (ar (M2_179.1 5)))), ((a 6), .inl (K.1, 16, .inl (ar (M2_179.1 6)))), ((a 7), .inl (K.1, 16, .inl (ar (M2_179.1 7)))), ((a 8), .inl (K.1, 16, .inl (ar (M2_179.1 8)))), ((a 9), .inl (K.1, 16, .inl (ar (M2_179.1 9)))), ((a 10), .inl (K.1, 16, .inl (ar (M2_179.1 10)))), ((a 11), .inl (K.1, 100, .inl (ar (M2_179.1 11)))), ((a 13), .inl (K.1, 8, .inl (ar (M2_179.1 13)))), ((a 14), .inl (K.1, 8, .inl (ar (M2_179.1 14)))), ((a 15), .inl (K.1, 8, .inl (ar (M2_179.1 15)))), ((a 16), .inl (K.1, 8, .inl (ar (M2_179.1 16)))), ((a 17), .inl (K.1, 3200, .inl (ar (M2_179.1 17)))), ((a 18), .inl (K.1, 3200, .inl (ar (M2_179.1 18)))), ((a 19), .inl (K.2.1, 3200, .inl (ar (M2_179.1 19)))), ((a 22), .inl (K.1, 3400, .inl (ar (M2_179.1 22)))), ((a 23), .inl (K.1, 3400, .inl (ar (M2_179.1 23)))), ((a 24), .inl (K.1, 3400, .inl (ar (M2_179.1 24)))), ((a 25), .inl (K.1, 3400, .inl (ar (M2_179.1 25)))), ((a 26), .inl (K.1, 32, .inl (ar (M2_179.1 26)))), ((a 27), .inl (K.1, 32, .inl (ar (M2_179.1 27)))), ((a 28), .inl (K.2.1, 8, .inl (ar (M2_179.1 28)))), ((a 29), .inl (K.1, 8, .inl (ar (M2_179.1 29)))), ((a 30), .inl (K.1, 8, .inl (ar (M2_179.1 30)))), ((a 31), .inl (K.1, 10, .inl (ar (M2_179.1 31)))), ((a 32), .inl (K.1, 10, .inl (ar (M2_179.1 32)))), ((a 33), .inl (K.1, 10, .inl (ar (M2_179.1 33)))), ((a 35), .inl (K.1, 13711, .inl (ar (M2_179.1 35)))), ((a 39), .inl (K.1, 4, .inl (ar (M2_179.1 39)))), ((a 40), .inl (K.1, 4, .inl (ar (M2_179.1 40))))]) rfl (z_lv (lv2 := [(0, .ref h), (1, vZ n), (2, vZ W), (3, vZ al), (4, vZ (code + 1))]) ⟨rfl, rfl, rfl, rfl, rfl, trivial⟩ ?_)
                                      refine ih_125 (code + 1) (M2_179.1, (upf (upf (upf M2_179.2 41 code) 42 (pEw Ne Cr A (cv W.toNat (wlA Cr A).length code))) 43 (M2_179.2 38))) ?_ ?_ ?_ ?_ ?_ ?_ ?_ ?_ (by omega)
                                      · skip
                                        omega
                                      · skip
                                        exact ⟨hmx2_179.1, fun _ _ _ => rfl, hmx2_179.2.2⟩
                                      · skip
                                        intro x a b
                                        show M2_179.1 16 x = _ ∨ _
                                        rw [hkp_179.1 16 rfl]
                                        show Lg x = _ ∨ _
                                        by_cases z : ∃ i : Int, 0 ≤ i ∧ i < n ∧ Fe i = x
                                        · exact Or.inr z
                                        · left
                                          rw [b3 x a b (fun i i1 i2 q => z ⟨i, by omega, i2, q⟩)]
                                          rcases c2 x a b with y | y
                                          · exact y
                                          · exact absurd y z
                                      · skip
                                        exact KP.trans c3 (KP.trans (la := [16, 22, 23, 24, 25, 26, 27, 28, 29, 30, 31, 32, 33, 35, 39, 40]) (lz := [20, 21, 34, 36, 37, 38, 41, 42, 43]) (KP.trans (la := [16, 22, 23, 24, 25, 26, 27, 28, 29, 30, 31, 32, 33, 35, 39, 40]) (lz := [20, 21, 34, 36, 37, 38, 41, 42, 43]) (show KP [16, 22, 23, 24, 25, 26, 27, 28, 29, 30, 31, 32, 33, 35, 39, 40] [20, 21, 34, 36, 37, 38, 41, 42, 43] M1 (upf M1.1 16 Lg, M1.2) from ⟨fun k hk => upf_out hk rfl, fun k hk => rfl⟩) hkp_179 rfl rfl rfl rfl) (show KP [16, 22, 23, 24, 25, 26, 27, 28, 29, 30, 31, 32, 33, 35, 39, 40] [20, 21, 34, 36, 37, 38, 41, 42, 43] M2_179 (M2_179.1, (upf (upf (upf M2_179.2 41 code) 42 (pEw Ne Cr A (cv W.toNat (wlA Cr A).length code))) 43 (M2_179.2 38))) from ⟨fun k hk => rfl, fun k hk => (upf_out hk rfl).trans ((upf_out hk rfl).trans (upf_out hk rfl))⟩) rfl rfl rfl rfl) rfl rfl rfl rfl
                                      · skip
                                        exact ⟨(hkp_179.1 39 rfl).trans c4.1, (hkp_179.1 40 rfl).trans c4.2⟩
                                      · skip
                                        exact hli2_179
                                      · skip
                                        right
                                        refine ⟨by omega, ?_⟩
                                        rw [hst, if_pos (by rcases c6 with z | z <;> omega)]
                                        exact ⟨rfl, e38, rfl, c0.1, show code < code + 1 by omega⟩
                                      · skip
                                        exact ⟨⟨show 0 ≤ (pEw Ne Cr A (cv W.toNat (wlA Cr A).length code)) by omega, show (pEw Ne Cr A (cv W.toNat (wlA Cr A).length code)) ≤ 10000 by omega⟩, fun _ => ⟨show -2147483648 ≤ M2_179.2 38 by omega, show M2_179.2 38 < 2147483648 by omega⟩⟩
                                    · skip
                                      have hc0 : 0 < code := by
                                        rcases c6 with z | z
                                        · omega
                                        · exact z.1
                                      have hc7 := c7.2 hc0
                                      refine z_aload_n ZC 0 dX8_plans_220 rfl rfl ?_
                                      refine z_get ZC inUX8 0 rfl rfl 38 (by decide) uF_X8_200 rfl dX8_plans_221 ?_
                                      refine z_aload_n ZC 0 dX8_plans_224 rfl rfl ?_
                                      refine z_get ZC inUX8 0 rfl rfl 43 (by decide) uF_X8_212 rfl dX8_plans_225 ?_
                                      refine z_icmp_lt ZC 234 dX8_plans_228 (by decide) (by omega) (by omega) (fun c_228 => ?_) (fun c_228 => ?_)
                                      · skip
                                        refine z_aload_n ZC 0 dX8_plans_234 rfl rfl ?_
                                        refine z_iload ZC dX8_plans_235 rfl ?_
                                        refine z_put ZC inUX8 tyX8_ok nmX8 0 rfl rfl 42 (by decide) uF_X8_209 rfl (rfl) (rfl) (Nat.le_of_ble_eq_true rfl) dX8_plans_237 ?_
                                        refine z_aload_n ZC 0 dX8_plans_240 rfl rfl ?_
                                        refine z_aload_n ZC 0 dX8_plans_241 rfl rfl ?_
                                        refine z_get ZC inUX8 0 rfl rfl 38 (by decide) uF_X8_200 rfl dX8_plans_242 ?_
                                        refine z_put ZC inUX8 tyX8_ok nmX8 0 rfl rfl 43 (by decide) uF_X8_212 rfl (rfl) (rfl) (Nat.le_of_ble_eq_true rfl) dX8_plans_245 ?_
                                        refine z_aload_n ZC 0 dX8_plans_248 rfl rfl ?_
                                        refine z_iload ZC dX8_plans_249 rfl ?_
                                        refine z_put ZC inUX8 tyX8_ok nmX8 0 rfl rfl 41 (by decide) uF_X8_215 rfl (rfl) (rfl) (Nat.le_of_ble_eq_true rfl) dX8_plans_251 ?_
                                        refine z_ws (ws2 := [(h, .inr (8, [vZ (M2_179.2 0), .ref (a 1), .ref (a 2), vZ (M2_179.2 3), vZ (M2_179.2 4), .ref (a 5), .ref (a 6), .ref (a 7), .ref (a 8), .ref (a 9), .ref (a 10), .ref (a 11), vZ (M2_179.2 12), .ref (a 13), .ref (a 14), .ref (a 15), .ref (a 16), .ref (a 17), .ref (a 18), .ref (a 19), vZ (M2_179.2 20), vZ (M2_179.2 21), .ref (a 22), .ref (a 23), .ref (a 24), .ref (a 25), .ref (a 26), .ref (a 27), .ref (a 28), .ref (a 29), .ref (a 30), .ref (a 31), .ref (a 32), .ref (a 33), vZ (M2_179.2 34), .ref (a 35), vZ (M2_179.2 36), vZ (M2_179.2 37), vZ (M2_179.2 38), .ref (a 39), .ref (a 40), vZ code, vZ (pEw Ne Cr A (cv W.toNat (wlA Cr A).length code)), vZ (M2_179.2 38)])), ((a 1), .inl (K.1, 10, .inl (ar (M2_179.1 1)))), ((a 2), .inl (K.1, 10, .inl (ar (M2_179.1 2)))), ((a 5), .inl (K.1, 16, .inl (ar (M2_179.1 5)))), ((a 6), .inl (K.1, 16, .inl (ar (M2_179.1 6)))), ((a 7), .inl (K.1, 16, .inl (ar (M2_179.1 7)))), ((a 8), .inl (K.1, 16, .inl (ar (M2_179.1 8)))), ((a 9), .inl (K.1, 16, .inl (ar (M2_179.1 9)))), ((a 10), .inl (K.1, 16, .inl (ar (M2_179.1 10)))), ((a 11), .inl (K.1, 100, .inl (ar (M2_179.1 11)))), ((a 13), .inl (K.1, 8, .inl (ar (M2_179.1 13)))), ((a 14), .inl (K.1, 8, .inl (ar (M2_179.1 14)))), ((a 15), .inl (K.1, 8, .inl (ar (M2_179.1 15)))), ((a 16), .inl (K.1, 8, .inl (ar (M2_179.1 16)))), ((a 17), .inl (K.1, 3200, .inl (ar (M2_179.1 17)))), ((a 18), .inl (K.1, 3200, .inl (ar (M2_179.1 18)))), ((a 19), .inl (K.2.1, 3200, .inl (ar (M2_179.1 19)))), ((a 22), .inl (K.1, 3400, .inl (ar (M2_179.1 22)))), ((a 23), .inl (K.1, 3400, .inl (ar (M2_179.1 23)))), ((a 24), .inl (K.1, 3400, .inl (ar (M2_179.1 24)))), ((a 25), .inl (K.1, 3400, .inl (ar (M2_179.1 25)))), ((a 26), .inl (K.1, 32, .inl (ar (M2_179.1 26)))), ((a 27), .inl (K.1, 32, .inl (ar (M2_179.1 27)))), ((a 28), .inl (K.2.1, 8, .inl (ar (M2_179.1 28)))), ((a 29), .inl (K.1, 8, .inl (ar (M2_179.1 29)))), ((a 30), .inl (K.1, 8, .inl (ar (M2_179.1 30)))), ((a 31), .inl (K.1, 10, .inl (ar (M2_179.1 31)))), ((a 32), .inl (K.1, 10, .inl (ar (M2_179.1 32)))), ((a 33), .inl (K.1, 10, .inl (ar (M2_179.1 33)))), ((a 35), .inl (K.1, 13711, .inl (ar (M2_179.1 35)))), ((a 39), .inl (K.1, 4, .inl (ar (M2_179.1 39)))), ((a 40), .inl (K.1, 4, .inl (ar (M2_179.1 40))))]) rfl ?_
                                        refine z_iinc ZC dX8_plans_254 rfl (by decide) ?_
                                        refine z_goto ZC 125 dX8_plans_257 (by decide) ?_
                                        refine z_ws (ws2 := [(h, .inr (8, [vZ (M2_179.2 0), .ref (a 1), .ref (a 2), vZ (M2_179.2 3), vZ (M2_179.2 4), .ref (a 5), .ref (a 6), .ref (a 7), .ref (a 8), .ref (a 9), .ref (a 10), .ref (a 11), vZ (M2_179.2 12), .ref (a 13), .ref (a 14), .ref (a 15), .ref (a 16), .ref (a 17), .ref (a 18), .ref (a 19), vZ (M2_179.2 20), vZ (M2_179.2 21), .ref (a 22), .ref (a 23), .ref (a 24), .ref (a 25), .ref (a 26), .ref (a 27), .ref (a 28), .ref (a 29), .ref (a 30), .ref (a 31), .ref (a 32), .ref (a 33), vZ (M2_179.2 34), .ref (a 35), vZ (M2_179.2 36), vZ (M2_179.2 37), vZ (M2_179.2 38), .ref (a 39), .ref (a 40), vZ code, vZ (pEw Ne Cr A (cv W.toNat (wlA Cr A).length code)), vZ (M2_179.2 38)])), ((a 1), .inl (K.1, 10, .inl (ar (M2_179.1 1)))), ((a 2), .inl (K.1, 10, .inl (ar (M2_179.1 2)))), ((a 5), .inl (K.1, 16, .inl (ar (M2_179.1 5)))), ((a 6), .inl (K.1, 16, .inl (ar (M2_179.1 6)))), ((a 7), .inl (K.1, 16, .inl (ar (M2_179.1 7)))), ((a 8), .inl (K.1, 16, .inl (ar (M2_179.1 8)))), ((a 9), .inl (K.1, 16, .inl (ar (M2_179.1 9)))), ((a 10), .inl (K.1, 16, .inl (ar (M2_179.1 10)))), ((a 11), .inl (K.1, 100, .inl (ar (M2_179.1 11)))), ((a 13), .inl (K.1, 8, .inl (ar (M2_179.1 13)))), ((a 14), .inl (K.1, 8, .inl (ar (M2_179.1 14)))), ((a 15), .inl (K.1, 8, .inl (ar (M2_179.1 15)))), ((a 16), .inl (K.1, 8, .inl (ar (M2_179.1 16)))), ((a 17), .inl (K.1, 3200, .inl (ar (M2_179.1 17)))), ((a 18), .inl (K.1, 3200, .inl (ar (M2_179.1 18)))), ((a 19), .inl (K.2.1, 3200, .inl (ar (M2_179.1 19)))), ((a 22), .inl (K.1, 3400, .inl (ar (M2_179.1 22)))), ((a 23), .inl (K.1, 3400, .inl (ar (M2_179.1 23)))), ((a 24), .inl (K.1, 3400, .inl (ar (M2_179.1 24)))), ((a 25), .inl (K.1, 3400, .inl (ar (M2_179.1 25)))), ((a 26), .inl (K.1, 32, .inl (ar (M2_179.1 26)))), ((a 27), .inl (K.1, 32, .inl (ar (M2_179.1 27)))), ((a 28), .inl (K.2.1, 8, .inl (ar (M2_179.1 28)))), ((a 29), .inl (K.1, 8, .inl (ar (M2_179.1 29)))), ((a 30), .inl (K.1, 8, .inl (ar (M2_179.1 30)))), ((a 31), .inl (K.1, 10, .inl (ar (M2_179.1 31)))), ((a 32), .inl (K.1, 10, .inl (ar (M2_179.1 32)))), ((a 33), .inl (K.1, 10, .inl (ar (M2_179.1 33)))), ((a 35), .inl (K.1, 13711, .inl (ar (M2_179.1 35)))), ((a 39), .inl (K.1, 4, .inl (ar (M2_179.1 39)))), ((a 40), .inl (K.1, 4, .inl (ar (M2_179.1 40))))]) rfl (z_lv (lv2 := [(0, .ref h), (1, vZ n), (2, vZ W), (3, vZ al), (4, vZ (code + 1))]) ⟨rfl, rfl, rfl, rfl, rfl, trivial⟩ ?_)
                                        refine ih_125 (code + 1) (M2_179.1, (upf (upf (upf M2_179.2 41 code) 42 (pEw Ne Cr A (cv W.toNat (wlA Cr A).length code))) 43 (M2_179.2 38))) ?_ ?_ ?_ ?_ ?_ ?_ ?_ ?_ (by omega)
                                        · skip
                                          omega
                                        · skip
                                          exact ⟨hmx2_179.1, fun _ _ _ => rfl, hmx2_179.2.2⟩
                                        · skip
                                          intro x a b
                                          show M2_179.1 16 x = _ ∨ _
                                          rw [hkp_179.1 16 rfl]
                                          show Lg x = _ ∨ _
                                          by_cases z : ∃ i : Int, 0 ≤ i ∧ i < n ∧ Fe i = x
                                          · exact Or.inr z
                                          · left
                                            rw [b3 x a b (fun i i1 i2 q => z ⟨i, by omega, i2, q⟩)]
                                            rcases c2 x a b with y | y
                                            · exact y
                                            · exact absurd y z
                                        · skip
                                          exact KP.trans c3 (KP.trans (la := [16, 22, 23, 24, 25, 26, 27, 28, 29, 30, 31, 32, 33, 35, 39, 40]) (lz := [20, 21, 34, 36, 37, 38, 41, 42, 43]) (KP.trans (la := [16, 22, 23, 24, 25, 26, 27, 28, 29, 30, 31, 32, 33, 35, 39, 40]) (lz := [20, 21, 34, 36, 37, 38, 41, 42, 43]) (show KP [16, 22, 23, 24, 25, 26, 27, 28, 29, 30, 31, 32, 33, 35, 39, 40] [20, 21, 34, 36, 37, 38, 41, 42, 43] M1 (upf M1.1 16 Lg, M1.2) from ⟨fun k hk => upf_out hk rfl, fun k hk => rfl⟩) hkp_179 rfl rfl rfl rfl) (show KP [16, 22, 23, 24, 25, 26, 27, 28, 29, 30, 31, 32, 33, 35, 39, 40] [20, 21, 34, 36, 37, 38, 41, 42, 43] M2_179 (M2_179.1, (upf (upf (upf M2_179.2 41 code) 42 (pEw Ne Cr A (cv W.toNat (wlA Cr A).length code))) 43 (M2_179.2 38))) from ⟨fun k hk => rfl, fun k hk => (upf_out hk rfl).trans ((upf_out hk rfl).trans (upf_out hk rfl))⟩) rfl rfl rfl rfl) rfl rfl rfl rfl
                                        · skip
                                          exact ⟨(hkp_179.1 39 rfl).trans c4.1, (hkp_179.1 40 rfl).trans c4.2⟩
                                        · skip
                                          exact hli2_179
                                        · skip
                                          right
                                          refine ⟨by omega, ?_⟩
                                          rw [hst, if_pos (by rcases c6 with z | z <;> omega)]
                                          exact ⟨rfl, e38, rfl, c0.1, show code < code + 1 by omega⟩
                                        · skip
                                          exact ⟨⟨show 0 ≤ (pEw Ne Cr A (cv W.toNat (wlA Cr A).length code)) by omega, show (pEw Ne Cr A (cv W.toNat (wlA Cr A).length code)) ≤ 10000 by omega⟩, fun _ => ⟨show -2147483648 ≤ M2_179.2 38 by omega, show M2_179.2 38 < 2147483648 by omega⟩⟩
                                      · skip
                                        refine z_goto ZC 254 dX8_plans_231 (by decide) ?_
                                        refine z_iinc ZC dX8_plans_254 rfl (by decide) ?_
                                        refine z_goto ZC 125 dX8_plans_257 (by decide) ?_
                                        refine z_ws (ws2 := [(h, .inr (8, [vZ (M2_179.2 0), .ref (a 1), .ref (a 2), vZ (M2_179.2 3), vZ (M2_179.2 4), .ref (a 5), .ref (a 6), .ref (a 7), .ref (a 8), .ref (a 9), .ref (a 10), .ref (a 11), vZ (M2_179.2 12), .ref (a 13), .ref (a 14), .ref (a 15), .ref (a 16), .ref (a 17), .ref (a 18), .ref (a 19), vZ (M2_179.2 20), vZ (M2_179.2 21), .ref (a 22), .ref (a 23), .ref (a 24), .ref (a 25), .ref (a 26), .ref (a 27), .ref (a 28), .ref (a 29), .ref (a 30), .ref (a 31), .ref (a 32), .ref (a 33), vZ (M2_179.2 34), .ref (a 35), vZ (M2_179.2 36), vZ (M2_179.2 37), vZ (M2_179.2 38), .ref (a 39), .ref (a 40), vZ (M2_179.2 41), vZ (M2_179.2 42), vZ (M2_179.2 43)])), ((a 1), .inl (K.1, 10, .inl (ar (M2_179.1 1)))), ((a 2), .inl (K.1, 10, .inl (ar (M2_179.1 2)))), ((a 5), .inl (K.1, 16, .inl (ar (M2_179.1 5)))), ((a 6), .inl (K.1, 16, .inl (ar (M2_179.1 6)))), ((a 7), .inl (K.1, 16, .inl (ar (M2_179.1 7)))), ((a 8), .inl (K.1, 16, .inl (ar (M2_179.1 8)))), ((a 9), .inl (K.1, 16, .inl (ar (M2_179.1 9)))), ((a 10), .inl (K.1, 16, .inl (ar (M2_179.1 10)))), ((a 11), .inl (K.1, 100, .inl (ar (M2_179.1 11)))), ((a 13), .inl (K.1, 8, .inl (ar (M2_179.1 13)))), ((a 14), .inl (K.1, 8, .inl (ar (M2_179.1 14)))), ((a 15), .inl (K.1, 8, .inl (ar (M2_179.1 15)))), ((a 16), .inl (K.1, 8, .inl (ar (M2_179.1 16)))), ((a 17), .inl (K.1, 3200, .inl (ar (M2_179.1 17)))), ((a 18), .inl (K.1, 3200, .inl (ar (M2_179.1 18)))), ((a 19), .inl (K.2.1, 3200, .inl (ar (M2_179.1 19)))), ((a 22), .inl (K.1, 3400, .inl (ar (M2_179.1 22)))), ((a 23), .inl (K.1, 3400, .inl (ar (M2_179.1 23)))), ((a 24), .inl (K.1, 3400, .inl (ar (M2_179.1 24)))), ((a 25), .inl (K.1, 3400, .inl (ar (M2_179.1 25)))), ((a 26), .inl (K.1, 32, .inl (ar (M2_179.1 26)))), ((a 27), .inl (K.1, 32, .inl (ar (M2_179.1 27)))), ((a 28), .inl (K.2.1, 8, .inl (ar (M2_179.1 28)))), ((a 29), .inl (K.1, 8, .inl (ar (M2_179.1 29)))), ((a 30), .inl (K.1, 8, .inl (ar (M2_179.1 30)))), ((a 31), .inl (K.1, 10, .inl (ar (M2_179.1 31)))), ((a 32), .inl (K.1, 10, .inl (ar (M2_179.1 32)))), ((a 33), .inl (K.1, 10, .inl (ar (M2_179.1 33)))), ((a 35), .inl (K.1, 13711, .inl (ar (M2_179.1 35)))), ((a 39), .inl (K.1, 4, .inl (ar (M2_179.1 39)))), ((a 40), .inl (K.1, 4, .inl (ar (M2_179.1 40))))]) rfl (z_lv (lv2 := [(0, .ref h), (1, vZ n), (2, vZ W), (3, vZ al), (4, vZ (code + 1))]) ⟨rfl, rfl, rfl, rfl, rfl, trivial⟩ ?_)
                                        refine ih_125 (code + 1) M2_179 ?_ ?_ ?_ ?_ ?_ ?_ ?_ ?_ (by omega)
                                        · skip
                                          omega
                                        · skip
                                          exact ⟨hmx2_179.1, fun _ _ _ => rfl, hmx2_179.2.2⟩
                                        · skip
                                          intro x a b
                                          show M2_179.1 16 x = _ ∨ _
                                          rw [hkp_179.1 16 rfl]
                                          show Lg x = _ ∨ _
                                          by_cases z : ∃ i : Int, 0 ≤ i ∧ i < n ∧ Fe i = x
                                          · exact Or.inr z
                                          · left
                                            rw [b3 x a b (fun i i1 i2 q => z ⟨i, by omega, i2, q⟩)]
                                            rcases c2 x a b with y | y
                                            · exact y
                                            · exact absurd y z
                                        · skip
                                          exact KP.trans c3 (KP.trans (la := [16, 22, 23, 24, 25, 26, 27, 28, 29, 30, 31, 32, 33, 35, 39, 40]) (lz := [20, 21, 34, 36, 37, 38, 41, 42, 43]) (show KP [16, 22, 23, 24, 25, 26, 27, 28, 29, 30, 31, 32, 33, 35, 39, 40] [20, 21, 34, 36, 37, 38, 41, 42, 43] M1 (upf M1.1 16 Lg, M1.2) from ⟨fun k hk => upf_out hk rfl, fun k hk => rfl⟩) hkp_179 rfl rfl rfl rfl) rfl rfl rfl rfl
                                        · skip
                                          exact ⟨(hkp_179.1 39 rfl).trans c4.1, (hkp_179.1 40 rfl).trans c4.2⟩
                                        · skip
                                          exact hli2_179
                                        · skip
                                          right
                                          rcases c6 with z | z
                                          · exact absurd z.2 (by omega)
                                          · refine ⟨by omega, ?_⟩
                                            rw [hst, if_neg (by omega), e42, e43, e41]
                                            exact ⟨z.2.1, z.2.2.1, z.2.2.2.1, z.2.2.2.2.1, by omega⟩
                                        · skip
                                          rw [e42, e43]
                                          refine ⟨c7.1, fun _ => c7.2 ?_⟩
                                          rcases c6 with z | z
                                          · exact absurd z.2 (by omega)
                                          · exact z.1
                              · skip
                                have hfk := hfe k (by omega) b0.2
                                have hmr := mod_rng (x := left) (W := W) (by omega)
                                refine z_aload_n ZC 0 dX8_plans_145 rfl rfl ?_
                                refine z_get ZC inUX8 0 rfl rfl 16 (by decide) uF_X8_50 rfl dX8_plans_146 ?_
                                refine z_aload_n ZC 0 dX8_plans_149 rfl rfl ?_
                                refine z_get ZC inUX8 0 rfl rfl 39 (by decide) uF_X8_102 rfl dX8_plans_150 ?_
                                refine z_iload ZC dX8_plans_153 rfl ?_
                                refine z_iald ZC 30 rfl dX8_plans_155 (by omega) ?_
                                refine z_top (y := (Fe k)) (by rw [c4.1]) ?_
                                refine z_aload_n ZC 0 dX8_plans_156 rfl rfl ?_
                                refine z_get ZC inUX8 0 rfl rfl 20 (by decide) uF_X8_129 rfl dX8_plans_157 ?_
                                refine z_iload ZC dX8_plans_160 rfl ?_
                                refine z_iload_n ZC 2 dX8_plans_162 rfl rfl ?_
                                refine z_irem ZC dX8_plans_163 (by omega) (by omega) ?_
                                refine z_iadd ZC dX8_plans_164 ?_
                                refine z_top (y := (A.2.1 0 + left % W)) (by omega) ?_
                                refine z_iast ZC 13 rfl dX8_plans_165 (by omega) ?_
                                refine z_iload ZC dX8_plans_166 rfl ?_
                                refine z_iload_n ZC 2 dX8_plans_168 rfl rfl ?_
                                refine z_idiv ZC dX8_plans_169 (by omega) (by omega) ?_
                                refine z_istore ZC dX8_plans_170 (by decide) ?_
                                refine z_iinc ZC dX8_plans_172 rfl (by decide) ?_
                                refine z_goto ZC 140 dX8_plans_175 (by decide) ?_
                                refine z_ws (ws2 := [(h, .inr (8, [vZ (M1.2 0), .ref (a 1), .ref (a 2), vZ (M1.2 3), vZ (M1.2 4), .ref (a 5), .ref (a 6), .ref (a 7), .ref (a 8), .ref (a 9), .ref (a 10), .ref (a 11), vZ (M1.2 12), .ref (a 13), .ref (a 14), .ref (a 15), .ref (a 16), .ref (a 17), .ref (a 18), .ref (a 19), vZ (M1.2 20), vZ (M1.2 21), .ref (a 22), .ref (a 23), .ref (a 24), .ref (a 25), .ref (a 26), .ref (a 27), .ref (a 28), .ref (a 29), .ref (a 30), .ref (a 31), .ref (a 32), .ref (a 33), vZ (M1.2 34), .ref (a 35), vZ (M1.2 36), vZ (M1.2 37), vZ (M1.2 38), .ref (a 39), .ref (a 40), vZ (M1.2 41), vZ (M1.2 42), vZ (M1.2 43)])), ((a 1), .inl (K.1, 10, .inl (ar (M1.1 1)))), ((a 2), .inl (K.1, 10, .inl (ar (M1.1 2)))), ((a 5), .inl (K.1, 16, .inl (ar (M1.1 5)))), ((a 6), .inl (K.1, 16, .inl (ar (M1.1 6)))), ((a 7), .inl (K.1, 16, .inl (ar (M1.1 7)))), ((a 8), .inl (K.1, 16, .inl (ar (M1.1 8)))), ((a 9), .inl (K.1, 16, .inl (ar (M1.1 9)))), ((a 10), .inl (K.1, 16, .inl (ar (M1.1 10)))), ((a 11), .inl (K.1, 100, .inl (ar (M1.1 11)))), ((a 13), .inl (K.1, 8, .inl (ar (M1.1 13)))), ((a 14), .inl (K.1, 8, .inl (ar (M1.1 14)))), ((a 15), .inl (K.1, 8, .inl (ar (M1.1 15)))), ((a 16), .inl (K.1, 8, .inl (ar (upz Lg (Fe k) (A.2.1 0 + left % W))))), ((a 17), .inl (K.1, 3200, .inl (ar (M1.1 17)))), ((a 18), .inl (K.1, 3200, .inl (ar (M1.1 18)))), ((a 19), .inl (K.2.1, 3200, .inl (ar (M1.1 19)))), ((a 22), .inl (K.1, 3400, .inl (ar (M1.1 22)))), ((a 23), .inl (K.1, 3400, .inl (ar (M1.1 23)))), ((a 24), .inl (K.1, 3400, .inl (ar (M1.1 24)))), ((a 25), .inl (K.1, 3400, .inl (ar (M1.1 25)))), ((a 26), .inl (K.1, 32, .inl (ar (M1.1 26)))), ((a 27), .inl (K.1, 32, .inl (ar (M1.1 27)))), ((a 28), .inl (K.2.1, 8, .inl (ar (M1.1 28)))), ((a 29), .inl (K.1, 8, .inl (ar (M1.1 29)))), ((a 30), .inl (K.1, 8, .inl (ar (M1.1 30)))), ((a 31), .inl (K.1, 10, .inl (ar (M1.1 31)))), ((a 32), .inl (K.1, 10, .inl (ar (M1.1 32)))), ((a 33), .inl (K.1, 10, .inl (ar (M1.1 33)))), ((a 35), .inl (K.1, 13711, .inl (ar (M1.1 35)))), ((a 39), .inl (K.1, 4, .inl (ar (M1.1 39)))), ((a 40), .inl (K.1, 4, .inl (ar (M1.1 40))))]) rfl (z_lv (lv2 := [(0, .ref h), (1, vZ n), (2, vZ W), (3, vZ al), (4, vZ code), (5, vZ (left / W)), (6, vZ (k + (-1)))]) ⟨rfl, rfl, rfl, rfl, rfl, rfl, rfl, trivial⟩ ?_)
                                refine ih_140 (left / W) (k + (-1)) (upz Lg (Fe k) (A.2.1 0 + left % W)) ?_ ?_ ?_ ?_ (by omega)
                                · skip
                                  omega
                                · skip
                                  have q := div_step (c := code) (W := W) (m := (n - 1 - k).toNat) c0.1 hW1
                                  have q2 := div_rng (c := code) (W := W) (m := (n - 1 - k).toNat + 1) (by omega) hW1
                                  rw [show (n - 1 - (k + (-1))).toNat = (n - 1 - k).toNat + 1 by omega, b1.1, q]
                                  exact ⟨rfl, q2⟩
                                · skip
                                  intro i a b
                                  by_cases z : i = k
                                  · rw [z, upz_self, b1.1, show (n - 1 - k).toNat = (wlA Cr A).length - 1 - k.toNat by omega]
                                  · rw [upz_ne _ _ (fun q => z (hinj i k (by omega) b (by omega) b0.2 q))]
                                    exact b2 i (by omega) b
                                · skip
                                  intro x a b c
                                  rw [upz_ne _ _ (fun q => c k (by omega) b0.2 q.symm)]
                                  exact b3 x a b (fun i i1 i2 => c i (by omega) i2)
                          refine z_ws (ws2 := [(h, .inr (8, [vZ (M1.2 0), .ref (a 1), .ref (a 2), vZ (M1.2 3), vZ (M1.2 4), .ref (a 5), .ref (a 6), .ref (a 7), .ref (a 8), .ref (a 9), .ref (a 10), .ref (a 11), vZ (M1.2 12), .ref (a 13), .ref (a 14), .ref (a 15), .ref (a 16), .ref (a 17), .ref (a 18), .ref (a 19), vZ (M1.2 20), vZ (M1.2 21), .ref (a 22), .ref (a 23), .ref (a 24), .ref (a 25), .ref (a 26), .ref (a 27), .ref (a 28), .ref (a 29), .ref (a 30), .ref (a 31), .ref (a 32), .ref (a 33), vZ (M1.2 34), .ref (a 35), vZ (M1.2 36), vZ (M1.2 37), vZ (M1.2 38), .ref (a 39), .ref (a 40), vZ (M1.2 41), vZ (M1.2 42), vZ (M1.2 43)])), ((a 1), .inl (K.1, 10, .inl (ar (M1.1 1)))), ((a 2), .inl (K.1, 10, .inl (ar (M1.1 2)))), ((a 5), .inl (K.1, 16, .inl (ar (M1.1 5)))), ((a 6), .inl (K.1, 16, .inl (ar (M1.1 6)))), ((a 7), .inl (K.1, 16, .inl (ar (M1.1 7)))), ((a 8), .inl (K.1, 16, .inl (ar (M1.1 8)))), ((a 9), .inl (K.1, 16, .inl (ar (M1.1 9)))), ((a 10), .inl (K.1, 16, .inl (ar (M1.1 10)))), ((a 11), .inl (K.1, 100, .inl (ar (M1.1 11)))), ((a 13), .inl (K.1, 8, .inl (ar (M1.1 13)))), ((a 14), .inl (K.1, 8, .inl (ar (M1.1 14)))), ((a 15), .inl (K.1, 8, .inl (ar (M1.1 15)))), ((a 16), .inl (K.1, 8, .inl (ar (M1.1 16)))), ((a 17), .inl (K.1, 3200, .inl (ar (M1.1 17)))), ((a 18), .inl (K.1, 3200, .inl (ar (M1.1 18)))), ((a 19), .inl (K.2.1, 3200, .inl (ar (M1.1 19)))), ((a 22), .inl (K.1, 3400, .inl (ar (M1.1 22)))), ((a 23), .inl (K.1, 3400, .inl (ar (M1.1 23)))), ((a 24), .inl (K.1, 3400, .inl (ar (M1.1 24)))), ((a 25), .inl (K.1, 3400, .inl (ar (M1.1 25)))), ((a 26), .inl (K.1, 32, .inl (ar (M1.1 26)))), ((a 27), .inl (K.1, 32, .inl (ar (M1.1 27)))), ((a 28), .inl (K.2.1, 8, .inl (ar (M1.1 28)))), ((a 29), .inl (K.1, 8, .inl (ar (M1.1 29)))), ((a 30), .inl (K.1, 8, .inl (ar (M1.1 30)))), ((a 31), .inl (K.1, 10, .inl (ar (M1.1 31)))), ((a 32), .inl (K.1, 10, .inl (ar (M1.1 32)))), ((a 33), .inl (K.1, 10, .inl (ar (M1.1 33)))), ((a 35), .inl (K.1, 13711, .inl (ar (M1.1 35)))), ((a 39), .inl (K.1, 4, .inl (ar (M1.1 39)))), ((a 40), .inl (K.1, 4, .inl (ar (M1.1 40))))]) rfl (z_lv (lv2 := [(0, .ref h), (1, vZ n), (2, vZ W), (3, vZ al), (4, vZ code), (5, vZ code), (6, vZ (n - 1))]) ⟨rfl, rfl, rfl, rfl, rfl, rfl, rfl, trivial⟩ ?_)
                          refine lp_140 _ code (n - 1) (M1.1 16) ?_ ?_ ?_ ?_ (Nat.lt_succ_self _)
                          · skip
                            omega
                          · skip
                            rw [show (n - 1 - (n - 1)).toNat = 0 by omega, Int.pow_zero, Int.ediv_one]
                            omega
                          · skip
                            intro i a b; omega
                          · skip
                            intro x a b c; rfl
                    refine z_ws (ws2 := [(h, .inr (8, [vZ (M.2 0), .ref (a 1), .ref (a 2), vZ (M.2 3), vZ (M.2 4), .ref (a 5), .ref (a 6), .ref (a 7), .ref (a 8), .ref (a 9), .ref (a 10), .ref (a 11), vZ (M.2 12), .ref (a 13), .ref (a 14), .ref (a 15), .ref (a 16), .ref (a 17), .ref (a 18), .ref (a 19), vZ (M.2 20), vZ (M.2 21), .ref (a 22), .ref (a 23), .ref (a 24), .ref (a 25), .ref (a 26), .ref (a 27), .ref (a 28), .ref (a 29), .ref (a 30), .ref (a 31), .ref (a 32), .ref (a 33), vZ (M.2 34), .ref (a 35), vZ (M.2 36), vZ (M.2 37), vZ (M.2 38), .ref (a 39), .ref (a 40), vZ (M.2 41), vZ 10000, vZ (M.2 43)])), ((a 1), .inl (K.1, 10, .inl (ar (M.1 1)))), ((a 2), .inl (K.1, 10, .inl (ar (M.1 2)))), ((a 5), .inl (K.1, 16, .inl (ar (M.1 5)))), ((a 6), .inl (K.1, 16, .inl (ar (M.1 6)))), ((a 7), .inl (K.1, 16, .inl (ar (M.1 7)))), ((a 8), .inl (K.1, 16, .inl (ar (M.1 8)))), ((a 9), .inl (K.1, 16, .inl (ar (M.1 9)))), ((a 10), .inl (K.1, 16, .inl (ar (M.1 10)))), ((a 11), .inl (K.1, 100, .inl (ar (M.1 11)))), ((a 13), .inl (K.1, 8, .inl (ar (M.1 13)))), ((a 14), .inl (K.1, 8, .inl (ar (M.1 14)))), ((a 15), .inl (K.1, 8, .inl (ar (M.1 15)))), ((a 16), .inl (K.1, 8, .inl (ar (M.1 16)))), ((a 17), .inl (K.1, 3200, .inl (ar (M.1 17)))), ((a 18), .inl (K.1, 3200, .inl (ar (M.1 18)))), ((a 19), .inl (K.2.1, 3200, .inl (ar (M.1 19)))), ((a 22), .inl (K.1, 3400, .inl (ar (M.1 22)))), ((a 23), .inl (K.1, 3400, .inl (ar (M.1 23)))), ((a 24), .inl (K.1, 3400, .inl (ar (M.1 24)))), ((a 25), .inl (K.1, 3400, .inl (ar (M.1 25)))), ((a 26), .inl (K.1, 32, .inl (ar (M.1 26)))), ((a 27), .inl (K.1, 32, .inl (ar (M.1 27)))), ((a 28), .inl (K.2.1, 8, .inl (ar (M.1 28)))), ((a 29), .inl (K.1, 8, .inl (ar (M.1 29)))), ((a 30), .inl (K.1, 8, .inl (ar (M.1 30)))), ((a 31), .inl (K.1, 10, .inl (ar (M.1 31)))), ((a 32), .inl (K.1, 10, .inl (ar (M.1 32)))), ((a 33), .inl (K.1, 10, .inl (ar (M.1 33)))), ((a 35), .inl (K.1, 13711, .inl (ar (M.1 35)))), ((a 39), .inl (K.1, 4, .inl (ar Fe))), ((a 40), .inl (K.1, 4, .inl (ar Ws)))]) rfl (z_lv (lv2 := [(0, .ref h), (1, vZ n), (2, vZ W), (3, vZ al), (4, vZ 0)]) ⟨rfl, rfl, rfl, rfl, rfl, trivial⟩ ?_)
                    refine lp_125 _ 0 ((upf (upf M.1 39 Fe) 40 Ws), (upf M.2 42 10000)) ?_ ?_ ?_ ?_ ?_ ?_ ?_ ?_ (Nat.lt_succ_self _)
                    · skip
                      omega
                    · skip
                      exact ⟨hmx.1, fun _ _ _ => rfl, hmx.2.2⟩
                    · skip
                      intro x a b
                      left
                      exact hmx.2.1 x a b
                    · skip
                      exact ⟨fun k hk => (upf_out hk rfl).trans (upf_out hk rfl), fun k hk => upf_out hk rfl⟩
                    · skip
                      exact ⟨rfl, rfl⟩
                    · skip
                      exact hli
                    · skip
                      left; exact ⟨rfl, rfl⟩
                    · skip
                      exact ⟨⟨show (0 : Int) ≤ 10000 by omega, show (10000 : Int) ≤ 10000 by omega⟩, fun q => by omega⟩
                  · skip
                    refine z_iload_n ZC 3 dX8_plans_105 rfl rfl ?_
                    refine z_iload_n ZC 2 dX8_plans_106 rfl rfl ?_
                    refine z_imul ZC dX8_plans_107 ?_
                    refine z_istore_n ZC 3 dX8_plans_108 rfl (by decide) ?_
                    refine z_iinc ZC dX8_plans_109 rfl (by decide) ?_
                    refine z_goto ZC 99 dX8_plans_112 (by decide) ?_
                    refine z_ws (ws2 := [(h, .inr (8, [vZ (M.2 0), .ref (a 1), .ref (a 2), vZ (M.2 3), vZ (M.2 4), .ref (a 5), .ref (a 6), .ref (a 7), .ref (a 8), .ref (a 9), .ref (a 10), .ref (a 11), vZ (M.2 12), .ref (a 13), .ref (a 14), .ref (a 15), .ref (a 16), .ref (a 17), .ref (a 18), .ref (a 19), vZ (M.2 20), vZ (M.2 21), .ref (a 22), .ref (a 23), .ref (a 24), .ref (a 25), .ref (a 26), .ref (a 27), .ref (a 28), .ref (a 29), .ref (a 30), .ref (a 31), .ref (a 32), .ref (a 33), vZ (M.2 34), .ref (a 35), vZ (M.2 36), vZ (M.2 37), vZ (M.2 38), .ref (a 39), .ref (a 40), vZ (M.2 41), vZ (M.2 42), vZ (M.2 43)])), ((a 1), .inl (K.1, 10, .inl (ar (M.1 1)))), ((a 2), .inl (K.1, 10, .inl (ar (M.1 2)))), ((a 5), .inl (K.1, 16, .inl (ar (M.1 5)))), ((a 6), .inl (K.1, 16, .inl (ar (M.1 6)))), ((a 7), .inl (K.1, 16, .inl (ar (M.1 7)))), ((a 8), .inl (K.1, 16, .inl (ar (M.1 8)))), ((a 9), .inl (K.1, 16, .inl (ar (M.1 9)))), ((a 10), .inl (K.1, 16, .inl (ar (M.1 10)))), ((a 11), .inl (K.1, 100, .inl (ar (M.1 11)))), ((a 13), .inl (K.1, 8, .inl (ar (M.1 13)))), ((a 14), .inl (K.1, 8, .inl (ar (M.1 14)))), ((a 15), .inl (K.1, 8, .inl (ar (M.1 15)))), ((a 16), .inl (K.1, 8, .inl (ar (M.1 16)))), ((a 17), .inl (K.1, 3200, .inl (ar (M.1 17)))), ((a 18), .inl (K.1, 3200, .inl (ar (M.1 18)))), ((a 19), .inl (K.2.1, 3200, .inl (ar (M.1 19)))), ((a 22), .inl (K.1, 3400, .inl (ar (M.1 22)))), ((a 23), .inl (K.1, 3400, .inl (ar (M.1 23)))), ((a 24), .inl (K.1, 3400, .inl (ar (M.1 24)))), ((a 25), .inl (K.1, 3400, .inl (ar (M.1 25)))), ((a 26), .inl (K.1, 32, .inl (ar (M.1 26)))), ((a 27), .inl (K.1, 32, .inl (ar (M.1 27)))), ((a 28), .inl (K.2.1, 8, .inl (ar (M.1 28)))), ((a 29), .inl (K.1, 8, .inl (ar (M.1 29)))), ((a 30), .inl (K.1, 8, .inl (ar (M.1 30)))), ((a 31), .inl (K.1, 10, .inl (ar (M.1 31)))), ((a 32), .inl (K.1, 10, .inl (ar (M.1 32)))), ((a 33), .inl (K.1, 10, .inl (ar (M.1 33)))), ((a 35), .inl (K.1, 13711, .inl (ar (M.1 35)))), ((a 39), .inl (K.1, 4, .inl (ar Fe))), ((a 40), .inl (K.1, 4, .inl (ar Ws)))]) rfl (z_lv (lv2 := [(0, .ref h), (1, vZ n), (2, vZ W), (3, vZ (al * W)), (4, vZ (k + 1))]) ⟨rfl, rfl, rfl, rfl, rfl, trivial⟩ ?_)
                    refine ih_99 (al * W) (k + 1) ?_ ?_ (by omega)
                    · skip
                      omega
                    · skip
                      rw [show (k + 1).toNat = k.toNat + 1 by omega, Int.pow_succ, ← hal]
              refine z_ws (ws2 := [(h, .inr (8, [vZ (M.2 0), .ref (a 1), .ref (a 2), vZ (M.2 3), vZ (M.2 4), .ref (a 5), .ref (a 6), .ref (a 7), .ref (a 8), .ref (a 9), .ref (a 10), .ref (a 11), vZ (M.2 12), .ref (a 13), .ref (a 14), .ref (a 15), .ref (a 16), .ref (a 17), .ref (a 18), .ref (a 19), vZ (M.2 20), vZ (M.2 21), .ref (a 22), .ref (a 23), .ref (a 24), .ref (a 25), .ref (a 26), .ref (a 27), .ref (a 28), .ref (a 29), .ref (a 30), .ref (a 31), .ref (a 32), .ref (a 33), vZ (M.2 34), .ref (a 35), vZ (M.2 36), vZ (M.2 37), vZ (M.2 38), .ref (a 39), .ref (a 40), vZ (M.2 41), vZ (M.2 42), vZ (M.2 43)])), ((a 1), .inl (K.1, 10, .inl (ar (M.1 1)))), ((a 2), .inl (K.1, 10, .inl (ar (M.1 2)))), ((a 5), .inl (K.1, 16, .inl (ar (M.1 5)))), ((a 6), .inl (K.1, 16, .inl (ar (M.1 6)))), ((a 7), .inl (K.1, 16, .inl (ar (M.1 7)))), ((a 8), .inl (K.1, 16, .inl (ar (M.1 8)))), ((a 9), .inl (K.1, 16, .inl (ar (M.1 9)))), ((a 10), .inl (K.1, 16, .inl (ar (M.1 10)))), ((a 11), .inl (K.1, 100, .inl (ar (M.1 11)))), ((a 13), .inl (K.1, 8, .inl (ar (M.1 13)))), ((a 14), .inl (K.1, 8, .inl (ar (M.1 14)))), ((a 15), .inl (K.1, 8, .inl (ar (M.1 15)))), ((a 16), .inl (K.1, 8, .inl (ar (M.1 16)))), ((a 17), .inl (K.1, 3200, .inl (ar (M.1 17)))), ((a 18), .inl (K.1, 3200, .inl (ar (M.1 18)))), ((a 19), .inl (K.2.1, 3200, .inl (ar (M.1 19)))), ((a 22), .inl (K.1, 3400, .inl (ar (M.1 22)))), ((a 23), .inl (K.1, 3400, .inl (ar (M.1 23)))), ((a 24), .inl (K.1, 3400, .inl (ar (M.1 24)))), ((a 25), .inl (K.1, 3400, .inl (ar (M.1 25)))), ((a 26), .inl (K.1, 32, .inl (ar (M.1 26)))), ((a 27), .inl (K.1, 32, .inl (ar (M.1 27)))), ((a 28), .inl (K.2.1, 8, .inl (ar (M.1 28)))), ((a 29), .inl (K.1, 8, .inl (ar (M.1 29)))), ((a 30), .inl (K.1, 8, .inl (ar (M.1 30)))), ((a 31), .inl (K.1, 10, .inl (ar (M.1 31)))), ((a 32), .inl (K.1, 10, .inl (ar (M.1 32)))), ((a 33), .inl (K.1, 10, .inl (ar (M.1 33)))), ((a 35), .inl (K.1, 13711, .inl (ar (M.1 35)))), ((a 39), .inl (K.1, 4, .inl (ar Fe))), ((a 40), .inl (K.1, 4, .inl (ar Ws)))]) rfl (z_lv (lv2 := [(0, .ref h), (1, vZ n), (2, vZ W), (3, vZ 1), (4, vZ 0)]) ⟨rfl, rfl, rfl, rfl, rfl, trivial⟩ ?_)
              refine lp_99 _ 1 0 ?_ ?_ (Nat.lt_succ_self _)
              · skip
                omega
              · skip
                exact (Int.pow_zero W).symm
            · skip
              omega
        refine z_sipush ZC dX8_plans_59 (by decide) ?_
        refine z_aload_n ZC 0 dX8_plans_62 rfl rfl ?_
        refine z_get ZC inUX8 0 rfl rfl 20 (by decide) uF_X8_129 rfl dX8_plans_63 ?_
        refine z_isub ZC dX8_plans_66 ?_
        refine z_iconst ZC dX8_plans_67 ?_
        refine z_icmp_ge ZC 82 dX8_plans_68 (by decide) (by omega) (by omega) (fun c_68 => ?_) (fun c_68 => ?_)
        · skip
          refine z_iconst ZC dX8_plans_82 ?_
          refine z_istore_n ZC 2 dX8_plans_83 rfl (by decide) ?_
          refine z_ws (ws2 := [(h, .inr (8, [vZ (M.2 0), .ref (a 1), .ref (a 2), vZ (M.2 3), vZ (M.2 4), .ref (a 5), .ref (a 6), .ref (a 7), .ref (a 8), .ref (a 9), .ref (a 10), .ref (a 11), vZ (M.2 12), .ref (a 13), .ref (a 14), .ref (a 15), .ref (a 16), .ref (a 17), .ref (a 18), .ref (a 19), vZ (M.2 20), vZ (M.2 21), .ref (a 22), .ref (a 23), .ref (a 24), .ref (a 25), .ref (a 26), .ref (a 27), .ref (a 28), .ref (a 29), .ref (a 30), .ref (a 31), .ref (a 32), .ref (a 33), vZ (M.2 34), .ref (a 35), vZ (M.2 36), vZ (M.2 37), vZ (M.2 38), .ref (a 39), .ref (a 40), vZ (M.2 41), vZ (M.2 42), vZ (M.2 43)])), ((a 1), .inl (K.1, 10, .inl (ar (M.1 1)))), ((a 2), .inl (K.1, 10, .inl (ar (M.1 2)))), ((a 5), .inl (K.1, 16, .inl (ar (M.1 5)))), ((a 6), .inl (K.1, 16, .inl (ar (M.1 6)))), ((a 7), .inl (K.1, 16, .inl (ar (M.1 7)))), ((a 8), .inl (K.1, 16, .inl (ar (M.1 8)))), ((a 9), .inl (K.1, 16, .inl (ar (M.1 9)))), ((a 10), .inl (K.1, 16, .inl (ar (M.1 10)))), ((a 11), .inl (K.1, 100, .inl (ar (M.1 11)))), ((a 13), .inl (K.1, 8, .inl (ar (M.1 13)))), ((a 14), .inl (K.1, 8, .inl (ar (M.1 14)))), ((a 15), .inl (K.1, 8, .inl (ar (M.1 15)))), ((a 16), .inl (K.1, 8, .inl (ar (M.1 16)))), ((a 17), .inl (K.1, 3200, .inl (ar (M.1 17)))), ((a 18), .inl (K.1, 3200, .inl (ar (M.1 18)))), ((a 19), .inl (K.2.1, 3200, .inl (ar (M.1 19)))), ((a 22), .inl (K.1, 3400, .inl (ar (M.1 22)))), ((a 23), .inl (K.1, 3400, .inl (ar (M.1 23)))), ((a 24), .inl (K.1, 3400, .inl (ar (M.1 24)))), ((a 25), .inl (K.1, 3400, .inl (ar (M.1 25)))), ((a 26), .inl (K.1, 32, .inl (ar (M.1 26)))), ((a 27), .inl (K.1, 32, .inl (ar (M.1 27)))), ((a 28), .inl (K.2.1, 8, .inl (ar (M.1 28)))), ((a 29), .inl (K.1, 8, .inl (ar (M.1 29)))), ((a 30), .inl (K.1, 8, .inl (ar (M.1 30)))), ((a 31), .inl (K.1, 10, .inl (ar (M.1 31)))), ((a 32), .inl (K.1, 10, .inl (ar (M.1 32)))), ((a 33), .inl (K.1, 10, .inl (ar (M.1 33)))), ((a 35), .inl (K.1, 13711, .inl (ar (M.1 35)))), ((a 39), .inl (K.1, 4, .inl (ar Fe))), ((a 40), .inl (K.1, 4, .inl (ar Ws)))]) rfl (z_lv (lv2 := [(0, .ref h), (1, vZ n), (2, vZ 4)]) ⟨rfl, rfl, rfl, trivial⟩ ?_)
          refine jn_84 4 ?_
          · skip
            omega
        · skip
          refine z_sipush ZC dX8_plans_71 (by decide) ?_
          refine z_aload_n ZC 0 dX8_plans_74 rfl rfl ?_
          refine z_get ZC inUX8 0 rfl rfl 20 (by decide) uF_X8_129 rfl dX8_plans_75 ?_
          refine z_isub ZC dX8_plans_78 ?_
          refine z_goto ZC 83 dX8_plans_79 (by decide) ?_
          refine z_istore_n ZC 2 dX8_plans_83 rfl (by decide) ?_
          refine z_ws (ws2 := [(h, .inr (8, [vZ (M.2 0), .ref (a 1), .ref (a 2), vZ (M.2 3), vZ (M.2 4), .ref (a 5), .ref (a 6), .ref (a 7), .ref (a 8), .ref (a 9), .ref (a 10), .ref (a 11), vZ (M.2 12), .ref (a 13), .ref (a 14), .ref (a 15), .ref (a 16), .ref (a 17), .ref (a 18), .ref (a 19), vZ (M.2 20), vZ (M.2 21), .ref (a 22), .ref (a 23), .ref (a 24), .ref (a 25), .ref (a 26), .ref (a 27), .ref (a 28), .ref (a 29), .ref (a 30), .ref (a 31), .ref (a 32), .ref (a 33), vZ (M.2 34), .ref (a 35), vZ (M.2 36), vZ (M.2 37), vZ (M.2 38), .ref (a 39), .ref (a 40), vZ (M.2 41), vZ (M.2 42), vZ (M.2 43)])), ((a 1), .inl (K.1, 10, .inl (ar (M.1 1)))), ((a 2), .inl (K.1, 10, .inl (ar (M.1 2)))), ((a 5), .inl (K.1, 16, .inl (ar (M.1 5)))), ((a 6), .inl (K.1, 16, .inl (ar (M.1 6)))), ((a 7), .inl (K.1, 16, .inl (ar (M.1 7)))), ((a 8), .inl (K.1, 16, .inl (ar (M.1 8)))), ((a 9), .inl (K.1, 16, .inl (ar (M.1 9)))), ((a 10), .inl (K.1, 16, .inl (ar (M.1 10)))), ((a 11), .inl (K.1, 100, .inl (ar (M.1 11)))), ((a 13), .inl (K.1, 8, .inl (ar (M.1 13)))), ((a 14), .inl (K.1, 8, .inl (ar (M.1 14)))), ((a 15), .inl (K.1, 8, .inl (ar (M.1 15)))), ((a 16), .inl (K.1, 8, .inl (ar (M.1 16)))), ((a 17), .inl (K.1, 3200, .inl (ar (M.1 17)))), ((a 18), .inl (K.1, 3200, .inl (ar (M.1 18)))), ((a 19), .inl (K.2.1, 3200, .inl (ar (M.1 19)))), ((a 22), .inl (K.1, 3400, .inl (ar (M.1 22)))), ((a 23), .inl (K.1, 3400, .inl (ar (M.1 23)))), ((a 24), .inl (K.1, 3400, .inl (ar (M.1 24)))), ((a 25), .inl (K.1, 3400, .inl (ar (M.1 25)))), ((a 26), .inl (K.1, 32, .inl (ar (M.1 26)))), ((a 27), .inl (K.1, 32, .inl (ar (M.1 27)))), ((a 28), .inl (K.2.1, 8, .inl (ar (M.1 28)))), ((a 29), .inl (K.1, 8, .inl (ar (M.1 29)))), ((a 30), .inl (K.1, 8, .inl (ar (M.1 30)))), ((a 31), .inl (K.1, 10, .inl (ar (M.1 31)))), ((a 32), .inl (K.1, 10, .inl (ar (M.1 32)))), ((a 33), .inl (K.1, 10, .inl (ar (M.1 33)))), ((a 35), .inl (K.1, 13711, .inl (ar (M.1 35)))), ((a 39), .inl (K.1, 4, .inl (ar Fe))), ((a 40), .inl (K.1, 4, .inl (ar Ws)))]) rfl (z_lv (lv2 := [(0, .ref h), (1, vZ n), (2, vZ (200 - (M.2 20)))]) ⟨rfl, rfl, rfl, trivial⟩ ?_)
          refine jn_84 (200 - (M.2 20)) ?_
          · skip
            omega
      · skip
        have hof := (hmx.1.2.2.1 c h0.1 (by omega)).1
        have ho2 := hao c h0.1 (by omega)
        have hiff := (hab.2.2.1 c h0.1 (by omega)).2
        have h16 := hmx.2.1 c h0.1 (by omega)
        refine z_aload_n ZC 0 dX8_plans_12 rfl rfl ?_
        refine z_get ZC inUX8 0 rfl rfl 28 (by decide) uF_X8_81 rfl dX8_plans_13 ?_
        refine z_iload_n ZC 2 dX8_plans_16 rfl rfl ?_
        refine z_zald ZC 23 rfl dX8_plans_17 (by omega) ?_
        refine z_if_eq ZC 24 dX8_plans_18 (by decide) (by omega) (fun c_18 => ?_) (fun c_18 => ?_)
        · skip
          refine z_iload_n ZC 1 dX8_plans_24 rfl rfl ?_
          refine z_iconst ZC dX8_plans_25 ?_
          refine z_icmp_ne ZC 31 dX8_plans_26 (by decide) (by omega) (by omega) (fun c_26 => ?_) (fun c_26 => ?_)
          · skip
            refine z_aload_n ZC 0 dX8_plans_31 rfl rfl ?_
            refine z_get ZC inUX8 0 rfl rfl 39 (by decide) uF_X8_102 rfl dX8_plans_32 ?_
            refine z_iload_n ZC 1 dX8_plans_35 rfl rfl ?_
            refine z_iload_n ZC 2 dX8_plans_36 rfl rfl ?_
            refine z_iast ZC 30 rfl dX8_plans_37 (by omega) ?_
            refine z_aload_n ZC 0 dX8_plans_38 rfl rfl ?_
            refine z_get ZC inUX8 0 rfl rfl 40 (by decide) uF_X8_105 rfl dX8_plans_39 ?_
            refine z_iload_n ZC 1 dX8_plans_42 rfl rfl ?_
            refine z_aload_n ZC 0 dX8_plans_43 rfl rfl ?_
            refine z_get ZC inUX8 0 rfl rfl 16 (by decide) uF_X8_50 rfl dX8_plans_44 ?_
            refine z_iload_n ZC 2 dX8_plans_47 rfl rfl ?_
            refine z_iald ZC 13 rfl dX8_plans_48 (by omega) ?_
            refine z_iast ZC 31 rfl dX8_plans_49 (by omega) ?_
            refine z_iinc ZC dX8_plans_50 rfl (by decide) ?_
            refine z_iinc ZC dX8_plans_53 rfl (by decide) ?_
            refine z_goto ZC 4 dX8_plans_56 (by decide) ?_
            refine z_ws (ws2 := [(h, .inr (8, [vZ (M.2 0), .ref (a 1), .ref (a 2), vZ (M.2 3), vZ (M.2 4), .ref (a 5), .ref (a 6), .ref (a 7), .ref (a 8), .ref (a 9), .ref (a 10), .ref (a 11), vZ (M.2 12), .ref (a 13), .ref (a 14), .ref (a 15), .ref (a 16), .ref (a 17), .ref (a 18), .ref (a 19), vZ (M.2 20), vZ (M.2 21), .ref (a 22), .ref (a 23), .ref (a 24), .ref (a 25), .ref (a 26), .ref (a 27), .ref (a 28), .ref (a 29), .ref (a 30), .ref (a 31), .ref (a 32), .ref (a 33), vZ (M.2 34), .ref (a 35), vZ (M.2 36), vZ (M.2 37), vZ (M.2 38), .ref (a 39), .ref (a 40), vZ (M.2 41), vZ (M.2 42), vZ (M.2 43)])), ((a 1), .inl (K.1, 10, .inl (ar (M.1 1)))), ((a 2), .inl (K.1, 10, .inl (ar (M.1 2)))), ((a 5), .inl (K.1, 16, .inl (ar (M.1 5)))), ((a 6), .inl (K.1, 16, .inl (ar (M.1 6)))), ((a 7), .inl (K.1, 16, .inl (ar (M.1 7)))), ((a 8), .inl (K.1, 16, .inl (ar (M.1 8)))), ((a 9), .inl (K.1, 16, .inl (ar (M.1 9)))), ((a 10), .inl (K.1, 16, .inl (ar (M.1 10)))), ((a 11), .inl (K.1, 100, .inl (ar (M.1 11)))), ((a 13), .inl (K.1, 8, .inl (ar (M.1 13)))), ((a 14), .inl (K.1, 8, .inl (ar (M.1 14)))), ((a 15), .inl (K.1, 8, .inl (ar (M.1 15)))), ((a 16), .inl (K.1, 8, .inl (ar (M.1 16)))), ((a 17), .inl (K.1, 3200, .inl (ar (M.1 17)))), ((a 18), .inl (K.1, 3200, .inl (ar (M.1 18)))), ((a 19), .inl (K.2.1, 3200, .inl (ar (M.1 19)))), ((a 22), .inl (K.1, 3400, .inl (ar (M.1 22)))), ((a 23), .inl (K.1, 3400, .inl (ar (M.1 23)))), ((a 24), .inl (K.1, 3400, .inl (ar (M.1 24)))), ((a 25), .inl (K.1, 3400, .inl (ar (M.1 25)))), ((a 26), .inl (K.1, 32, .inl (ar (M.1 26)))), ((a 27), .inl (K.1, 32, .inl (ar (M.1 27)))), ((a 28), .inl (K.2.1, 8, .inl (ar (M.1 28)))), ((a 29), .inl (K.1, 8, .inl (ar (M.1 29)))), ((a 30), .inl (K.1, 8, .inl (ar (M.1 30)))), ((a 31), .inl (K.1, 10, .inl (ar (M.1 31)))), ((a 32), .inl (K.1, 10, .inl (ar (M.1 32)))), ((a 33), .inl (K.1, 10, .inl (ar (M.1 33)))), ((a 35), .inl (K.1, 13711, .inl (ar (M.1 35)))), ((a 39), .inl (K.1, 4, .inl (ar (upz Fe n c)))), ((a 40), .inl (K.1, 4, .inl (ar (upz Ws n ((M.1 16) c)))))]) rfl (z_lv (lv2 := [(0, .ref h), (1, vZ (n + 1)), (2, vZ (c + 1))]) ⟨rfl, rfl, rfl, trivial⟩ ?_)
            refine ih_4 (n + 1) (c + 1) (upz Fe n c) (upz Ws n ((M.1 16) c)) ?_ ?_ (dec_lt hm_4 (by omega))
            · skip
              omega
            · skip
              rw [wl_next h0.1, if_neg (by omega), List.length_append]
              have hl := h1.1
              have he := h1.2.1
              refine ⟨by simp only [List.length_cons, List.length_nil]; omega, by simp only [List.length_cons, List.length_nil]; omega, fun i a b => ?_⟩
              rw [getD_app a (by omega)]
              unfold upz
              by_cases z : i = n
              · rw [if_pos z, if_pos z, if_pos (by omega)]
                exact ⟨rfl, h16⟩
              · rw [if_neg z, if_neg z, if_neg (by omega)]
                exact h1.2.2 i a (by omega)
          · skip
            refine z_iconst ZC dX8_plans_29 ?_
            refine z_iret ZC ZE dX8_plans_30 (by omega) (by omega) (Nat.le_of_ble_eq_true rfl) ⟨((upf (upf M.1 39 Fe) 40 Ws), M.2), (-1), rfl, rfl, by omega, by omega, ?_, ?_, ?_, ?_⟩
            · skip
              exact hmx
            · skip
              exact ⟨fun k hk => (upf_out hk rfl).trans (upf_out hk rfl), fun k hk => rfl⟩
            · skip
              exact hli
            · skip
              left
              refine ⟨Or.inr ?_, rfl⟩
              have m := wl_mono (f := A.1 0) (now := A.2.1 0) (m := (c + 1).toNat) (n := (Cr.2 3).toNat) (by omega)
              rw [wl_next h0.1, if_neg (by omega), List.length_append] at m
              simp only [List.length_cons, List.length_nil] at m
              unfold wlA
              omega
        · skip
          refine z_goto ZC 53 dX8_plans_21 (by decide) ?_
          refine z_iinc ZC dX8_plans_53 rfl (by decide) ?_
          refine z_goto ZC 4 dX8_plans_56 (by decide) ?_
          refine z_ws (ws2 := [(h, .inr (8, [vZ (M.2 0), .ref (a 1), .ref (a 2), vZ (M.2 3), vZ (M.2 4), .ref (a 5), .ref (a 6), .ref (a 7), .ref (a 8), .ref (a 9), .ref (a 10), .ref (a 11), vZ (M.2 12), .ref (a 13), .ref (a 14), .ref (a 15), .ref (a 16), .ref (a 17), .ref (a 18), .ref (a 19), vZ (M.2 20), vZ (M.2 21), .ref (a 22), .ref (a 23), .ref (a 24), .ref (a 25), .ref (a 26), .ref (a 27), .ref (a 28), .ref (a 29), .ref (a 30), .ref (a 31), .ref (a 32), .ref (a 33), vZ (M.2 34), .ref (a 35), vZ (M.2 36), vZ (M.2 37), vZ (M.2 38), .ref (a 39), .ref (a 40), vZ (M.2 41), vZ (M.2 42), vZ (M.2 43)])), ((a 1), .inl (K.1, 10, .inl (ar (M.1 1)))), ((a 2), .inl (K.1, 10, .inl (ar (M.1 2)))), ((a 5), .inl (K.1, 16, .inl (ar (M.1 5)))), ((a 6), .inl (K.1, 16, .inl (ar (M.1 6)))), ((a 7), .inl (K.1, 16, .inl (ar (M.1 7)))), ((a 8), .inl (K.1, 16, .inl (ar (M.1 8)))), ((a 9), .inl (K.1, 16, .inl (ar (M.1 9)))), ((a 10), .inl (K.1, 16, .inl (ar (M.1 10)))), ((a 11), .inl (K.1, 100, .inl (ar (M.1 11)))), ((a 13), .inl (K.1, 8, .inl (ar (M.1 13)))), ((a 14), .inl (K.1, 8, .inl (ar (M.1 14)))), ((a 15), .inl (K.1, 8, .inl (ar (M.1 15)))), ((a 16), .inl (K.1, 8, .inl (ar (M.1 16)))), ((a 17), .inl (K.1, 3200, .inl (ar (M.1 17)))), ((a 18), .inl (K.1, 3200, .inl (ar (M.1 18)))), ((a 19), .inl (K.2.1, 3200, .inl (ar (M.1 19)))), ((a 22), .inl (K.1, 3400, .inl (ar (M.1 22)))), ((a 23), .inl (K.1, 3400, .inl (ar (M.1 23)))), ((a 24), .inl (K.1, 3400, .inl (ar (M.1 24)))), ((a 25), .inl (K.1, 3400, .inl (ar (M.1 25)))), ((a 26), .inl (K.1, 32, .inl (ar (M.1 26)))), ((a 27), .inl (K.1, 32, .inl (ar (M.1 27)))), ((a 28), .inl (K.2.1, 8, .inl (ar (M.1 28)))), ((a 29), .inl (K.1, 8, .inl (ar (M.1 29)))), ((a 30), .inl (K.1, 8, .inl (ar (M.1 30)))), ((a 31), .inl (K.1, 10, .inl (ar (M.1 31)))), ((a 32), .inl (K.1, 10, .inl (ar (M.1 32)))), ((a 33), .inl (K.1, 10, .inl (ar (M.1 33)))), ((a 35), .inl (K.1, 13711, .inl (ar (M.1 35)))), ((a 39), .inl (K.1, 4, .inl (ar Fe))), ((a 40), .inl (K.1, 4, .inl (ar Ws)))]) rfl (z_lv (lv2 := [(0, .ref h), (1, vZ n), (2, vZ (c + 1))]) ⟨rfl, rfl, rfl, trivial⟩ ?_)
          refine ih_4 n (c + 1) Fe Ws ?_ ?_ (dec_lt hm_4 (by omega))
          · skip
            omega
          · skip
            rw [wl_next h0.1, if_pos (by omega), List.append_nil]
            exact h1
  refine z_ws (ws2 := [(h, .inr (8, [vZ (M.2 0), .ref (a 1), .ref (a 2), vZ (M.2 3), vZ (M.2 4), .ref (a 5), .ref (a 6), .ref (a 7), .ref (a 8), .ref (a 9), .ref (a 10), .ref (a 11), vZ (M.2 12), .ref (a 13), .ref (a 14), .ref (a 15), .ref (a 16), .ref (a 17), .ref (a 18), .ref (a 19), vZ (M.2 20), vZ (M.2 21), .ref (a 22), .ref (a 23), .ref (a 24), .ref (a 25), .ref (a 26), .ref (a 27), .ref (a 28), .ref (a 29), .ref (a 30), .ref (a 31), .ref (a 32), .ref (a 33), vZ (M.2 34), .ref (a 35), vZ (M.2 36), vZ (M.2 37), vZ (M.2 38), .ref (a 39), .ref (a 40), vZ (M.2 41), vZ (M.2 42), vZ (M.2 43)])), ((a 1), .inl (K.1, 10, .inl (ar (M.1 1)))), ((a 2), .inl (K.1, 10, .inl (ar (M.1 2)))), ((a 5), .inl (K.1, 16, .inl (ar (M.1 5)))), ((a 6), .inl (K.1, 16, .inl (ar (M.1 6)))), ((a 7), .inl (K.1, 16, .inl (ar (M.1 7)))), ((a 8), .inl (K.1, 16, .inl (ar (M.1 8)))), ((a 9), .inl (K.1, 16, .inl (ar (M.1 9)))), ((a 10), .inl (K.1, 16, .inl (ar (M.1 10)))), ((a 11), .inl (K.1, 100, .inl (ar (M.1 11)))), ((a 13), .inl (K.1, 8, .inl (ar (M.1 13)))), ((a 14), .inl (K.1, 8, .inl (ar (M.1 14)))), ((a 15), .inl (K.1, 8, .inl (ar (M.1 15)))), ((a 16), .inl (K.1, 8, .inl (ar (M.1 16)))), ((a 17), .inl (K.1, 3200, .inl (ar (M.1 17)))), ((a 18), .inl (K.1, 3200, .inl (ar (M.1 18)))), ((a 19), .inl (K.2.1, 3200, .inl (ar (M.1 19)))), ((a 22), .inl (K.1, 3400, .inl (ar (M.1 22)))), ((a 23), .inl (K.1, 3400, .inl (ar (M.1 23)))), ((a 24), .inl (K.1, 3400, .inl (ar (M.1 24)))), ((a 25), .inl (K.1, 3400, .inl (ar (M.1 25)))), ((a 26), .inl (K.1, 32, .inl (ar (M.1 26)))), ((a 27), .inl (K.1, 32, .inl (ar (M.1 27)))), ((a 28), .inl (K.2.1, 8, .inl (ar (M.1 28)))), ((a 29), .inl (K.1, 8, .inl (ar (M.1 29)))), ((a 30), .inl (K.1, 8, .inl (ar (M.1 30)))), ((a 31), .inl (K.1, 10, .inl (ar (M.1 31)))), ((a 32), .inl (K.1, 10, .inl (ar (M.1 32)))), ((a 33), .inl (K.1, 10, .inl (ar (M.1 33)))), ((a 35), .inl (K.1, 13711, .inl (ar (M.1 35)))), ((a 39), .inl (K.1, 4, .inl (ar (M.1 39)))), ((a 40), .inl (K.1, 4, .inl (ar (M.1 40))))]) rfl (z_lv (lv2 := [(0, .ref h), (1, vZ 0), (2, vZ 0)]) ⟨rfl, rfl, rfl, trivial⟩ ?_)
  refine lp_4 _ 0 0 (M.1 39) (M.1 40) ?_ ?_ (Nat.lt_succ_self _)
  · skip
    omega
  · skip
    exact ⟨by show 0 ≤ 4; omega, rfl, fun i a b => by omega⟩

set_option maxHeartbeats 4000000 in
set_option maxRecDepth 100000 in
theorem c_X8_plan (zl : Launch) (D : va_G) (K : tyK) (h : Nat) (a : Nat → Nat) (M : Bd) (To : Bd) (Ne : Bd) (Cr : Bd) (A : Ab) (C : Int → List Pt3) (cw : Int) (hz_cw : -2147483648 ≤ cw ∧ cw < 2147483648) (hcf : Cfg Ne Cr) (hnw : NW Ne) (hms : MS To Ne Cr M) (hto : 0 ≤ To.2 3 ∧ To.2 3 ≤ 10) (hab : AB Ne Cr A) (hmx : MX Cr A M C) (har : AR Cr A) (hao : AO A) (hli : ∀ t : Int, 0 ≤ t → t < 10 → -1 ≤ M.1 33 t ∧ M.1 33 t ≤ 1000) (hah : ∀ c : Int, 0 ≤ c → c < Cr.2 3 → A.1 0 c ≤ 199) : Mz zl yX8_plan cX8_plan 6 (some .int) 6 140 0 0 D K [.ref h, vZ cw] (wMo K h a M) (fun r_ w2_ gc gs => ∃ (M2 : Bd), ∃ (v : Int), r_ = some (vZ v) ∧ w2_ = (wMo K h a M2) ∧ gc = 0 ∧ gs = 0 ∧ ((∃ i : Int, (0 ≤ i ∧ i < ((wlA Cr A).length : Int)) ∧ (wlA Cr A).getD i.toNat 0 = cw ∧ (0 < (wlA Cr A).length ∧ (wlA Cr A).length ≤ 4) ∧ v = A.2.1 0 + stp (wlA Cr A).length (pFold Ne Cr A (4 ^ (wlA Cr A).length)).2.2 i) ∨ (v = -1 ∧ (((wlA Cr A).length = 0 ∨ 4 < (wlA Cr A).length) ∨ ∀ i : Int, 0 ≤ i → i < ((wlA Cr A).length : Int) → (wlA Cr A).getD i.toNat 0 ≠ cw))) ∧ (MX Cr A M2 C) ∧ (KP [16, 22, 23, 24, 25, 26, 27, 28, 29, 30, 31, 32, 33, 35, 39, 40] [20, 21, 34, 36, 37, 38, 41, 42, 43] M M2) ∧ (∀ t : Int, 0 ≤ t → t < 10 → -1 ≤ M2.1 33 t ∧ M2.1 33 t ≤ 1000)) := by
  refine Mz.ofZ (by decide) rfl (Nat.le_of_ble_eq_true rfl) ?_
  intro zp ze zR zs zm zargs zbelow zmeth zc zA zQ ZC ZE hRf hRc hRs hRl
  have hnn := hab.2.1
  have hc8 := hcf.2.1
  refine z_aload_n ZC 0 dX8_plan_0 rfl rfl ?_
  refine z_callV ZC 0 (c_X8_plans zl D K h a M To Ne Cr A C (hcf) (hnw) (hms) (hto) (hab) (hmx) (har) (hao) (hli) (hah)) (gdV uM_X8_218 uI_X8_plans uS_X8_plans uN_X8 uC_X8_plans) (by decide +kernel) rfl ⟨by omega, by omega⟩ ⟨by omega, by omega⟩ (Nat.le_of_ble_eq_true rfl) [0, 1, 2, 3, 4, 5, 6, 7, 8, 9, 10, 11, 12, 13, 14, 15, 16, 17, 18, 19, 20, 21, 22, 23, 24, 25, 26, 27, 28, 29, 30, 31] rfl (by decide) rfl rfl rfl rfl dX8_plan_1 (fun r w2 gc_1 gs_1 hp => ?_)
  obtain ⟨M2_1, v_1, rfl, rfl, rfl, rfl, hmx2_1, hkp_1, hli2_1, hres_1⟩ := hp
  refine z_ws (ws2 := [(h, .inr (8, [vZ (M2_1.2 0), .ref (a 1), .ref (a 2), vZ (M2_1.2 3), vZ (M2_1.2 4), .ref (a 5), .ref (a 6), .ref (a 7), .ref (a 8), .ref (a 9), .ref (a 10), .ref (a 11), vZ (M2_1.2 12), .ref (a 13), .ref (a 14), .ref (a 15), .ref (a 16), .ref (a 17), .ref (a 18), .ref (a 19), vZ (M2_1.2 20), vZ (M2_1.2 21), .ref (a 22), .ref (a 23), .ref (a 24), .ref (a 25), .ref (a 26), .ref (a 27), .ref (a 28), .ref (a 29), .ref (a 30), .ref (a 31), .ref (a 32), .ref (a 33), vZ (M2_1.2 34), .ref (a 35), vZ (M2_1.2 36), vZ (M2_1.2 37), vZ (M2_1.2 38), .ref (a 39), .ref (a 40), vZ (M2_1.2 41), vZ (M2_1.2 42), vZ (M2_1.2 43)])), ((a 1), .inl (K.1, 10, .inl (ar (M2_1.1 1)))), ((a 2), .inl (K.1, 10, .inl (ar (M2_1.1 2)))), ((a 5), .inl (K.1, 16, .inl (ar (M2_1.1 5)))), ((a 6), .inl (K.1, 16, .inl (ar (M2_1.1 6)))), ((a 7), .inl (K.1, 16, .inl (ar (M2_1.1 7)))), ((a 8), .inl (K.1, 16, .inl (ar (M2_1.1 8)))), ((a 9), .inl (K.1, 16, .inl (ar (M2_1.1 9)))), ((a 10), .inl (K.1, 16, .inl (ar (M2_1.1 10)))), ((a 11), .inl (K.1, 100, .inl (ar (M2_1.1 11)))), ((a 13), .inl (K.1, 8, .inl (ar (M2_1.1 13)))), ((a 14), .inl (K.1, 8, .inl (ar (M2_1.1 14)))), ((a 15), .inl (K.1, 8, .inl (ar (M2_1.1 15)))), ((a 16), .inl (K.1, 8, .inl (ar (M2_1.1 16)))), ((a 17), .inl (K.1, 3200, .inl (ar (M2_1.1 17)))), ((a 18), .inl (K.1, 3200, .inl (ar (M2_1.1 18)))), ((a 19), .inl (K.2.1, 3200, .inl (ar (M2_1.1 19)))), ((a 22), .inl (K.1, 3400, .inl (ar (M2_1.1 22)))), ((a 23), .inl (K.1, 3400, .inl (ar (M2_1.1 23)))), ((a 24), .inl (K.1, 3400, .inl (ar (M2_1.1 24)))), ((a 25), .inl (K.1, 3400, .inl (ar (M2_1.1 25)))), ((a 26), .inl (K.1, 32, .inl (ar (M2_1.1 26)))), ((a 27), .inl (K.1, 32, .inl (ar (M2_1.1 27)))), ((a 28), .inl (K.2.1, 8, .inl (ar (M2_1.1 28)))), ((a 29), .inl (K.1, 8, .inl (ar (M2_1.1 29)))), ((a 30), .inl (K.1, 8, .inl (ar (M2_1.1 30)))), ((a 31), .inl (K.1, 10, .inl (ar (M2_1.1 31)))), ((a 32), .inl (K.1, 10, .inl (ar (M2_1.1 32)))), ((a 33), .inl (K.1, 10, .inl (ar (M2_1.1 33)))), ((a 35), .inl (K.1, 13711, .inl (ar (M2_1.1 35)))), ((a 39), .inl (K.1, 4, .inl (ar (M2_1.1 39)))), ((a 40), .inl (K.1, 4, .inl (ar (M2_1.1 40))))]) rfl ?_
  refine z_st (st2 := [vZ v_1]) rfl ?_
  refine z_istore_n ZC 2 dX8_plan_4 rfl (by decide) ?_
  have e20 : M2_1.2 20 = A.2.1 0 := hmx2_1.2.2.2.1
  have jn_30 : ∀ (W : Int), (W = min 4 (200 - A.2.1 0)) → Zw zp zl ze zR zs zm zargs zbelow zmeth zc D zA 6 zQ (0 + 0) (0 + 0) ([(h, .inr (8, [vZ (M2_1.2 0), .ref (a 1), .ref (a 2), vZ (M2_1.2 3), vZ (M2_1.2 4), .ref (a 5), .ref (a 6), .ref (a 7), .ref (a 8), .ref (a 9), .ref (a 10), .ref (a 11), vZ (M2_1.2 12), .ref (a 13), .ref (a 14), .ref (a 15), .ref (a 16), .ref (a 17), .ref (a 18), .ref (a 19), vZ (M2_1.2 20), vZ (M2_1.2 21), .ref (a 22), .ref (a 23), .ref (a 24), .ref (a 25), .ref (a 26), .ref (a 27), .ref (a 28), .ref (a 29), .ref (a 30), .ref (a 31), .ref (a 32), .ref (a 33), vZ (M2_1.2 34), .ref (a 35), vZ (M2_1.2 36), vZ (M2_1.2 37), vZ (M2_1.2 38), .ref (a 39), .ref (a 40), vZ (M2_1.2 41), vZ (M2_1.2 42), vZ (M2_1.2 43)])), ((a 1), .inl (K.1, 10, .inl (ar (M2_1.1 1)))), ((a 2), .inl (K.1, 10, .inl (ar (M2_1.1 2)))), ((a 5), .inl (K.1, 16, .inl (ar (M2_1.1 5)))), ((a 6), .inl (K.1, 16, .inl (ar (M2_1.1 6)))), ((a 7), .inl (K.1, 16, .inl (ar (M2_1.1 7)))), ((a 8), .inl (K.1, 16, .inl (ar (M2_1.1 8)))), ((a 9), .inl (K.1, 16, .inl (ar (M2_1.1 9)))), ((a 10), .inl (K.1, 16, .inl (ar (M2_1.1 10)))), ((a 11), .inl (K.1, 100, .inl (ar (M2_1.1 11)))), ((a 13), .inl (K.1, 8, .inl (ar (M2_1.1 13)))), ((a 14), .inl (K.1, 8, .inl (ar (M2_1.1 14)))), ((a 15), .inl (K.1, 8, .inl (ar (M2_1.1 15)))), ((a 16), .inl (K.1, 8, .inl (ar (M2_1.1 16)))), ((a 17), .inl (K.1, 3200, .inl (ar (M2_1.1 17)))), ((a 18), .inl (K.1, 3200, .inl (ar (M2_1.1 18)))), ((a 19), .inl (K.2.1, 3200, .inl (ar (M2_1.1 19)))), ((a 22), .inl (K.1, 3400, .inl (ar (M2_1.1 22)))), ((a 23), .inl (K.1, 3400, .inl (ar (M2_1.1 23)))), ((a 24), .inl (K.1, 3400, .inl (ar (M2_1.1 24)))), ((a 25), .inl (K.1, 3400, .inl (ar (M2_1.1 25)))), ((a 26), .inl (K.1, 32, .inl (ar (M2_1.1 26)))), ((a 27), .inl (K.1, 32, .inl (ar (M2_1.1 27)))), ((a 28), .inl (K.2.1, 8, .inl (ar (M2_1.1 28)))), ((a 29), .inl (K.1, 8, .inl (ar (M2_1.1 29)))), ((a 30), .inl (K.1, 8, .inl (ar (M2_1.1 30)))), ((a 31), .inl (K.1, 10, .inl (ar (M2_1.1 31)))), ((a 32), .inl (K.1, 10, .inl (ar (M2_1.1 32)))), ((a 33), .inl (K.1, 10, .inl (ar (M2_1.1 33)))), ((a 35), .inl (K.1, 13711, .inl (ar (M2_1.1 35)))), ((a 39), .inl (K.1, 4, .inl (ar (M2_1.1 39)))), ((a 40), .inl (K.1, 4, .inl (ar (M2_1.1 40))))]) 30 [(0, .ref h), (1, vZ cw), (2, vZ v_1), (3, vZ W)] [] := by
    intro W hW
    refine z_aload_n ZC 0 dX8_plan_30 rfl rfl ?_
    refine z_get ZC inUX8 0 rfl rfl 41 (by decide) uF_X8_215 rfl dX8_plan_31 ?_
    refine z_istore ZC dX8_plan_34 (by decide) ?_
    refine z_iload_n ZC 2 dX8_plan_36 rfl rfl ?_
    refine z_iconst ZC dX8_plan_37 ?_
    refine z_isub ZC dX8_plan_38 ?_
    refine z_istore ZC dX8_plan_39 (by decide) ?_
    have lp_41 : ∀ (n_41 : Nat) (left : Int) (k : Int), ((((wlA Cr A).length = 0 ∨ 4 < (wlA Cr A).length) ∧ v_1 = -1 ∧ k = -2) ∨ ((0 < (wlA Cr A).length ∧ (wlA Cr A).length ≤ 4) ∧ v_1 = ((wlA Cr A).length : Int) ∧ (-1 ≤ k ∧ k < v_1) ∧ left = M2_1.2 41 / W ^ ((wlA Cr A).length - 1 - k).toNat ∧ ∀ i : Int, k < i → i < v_1 → M2_1.1 39 i ≠ cw)) → (k ≠ -2 → 0 ≤ left ∧ left ≤ 256) → ((k + 1).toNat) < n_41 → Zw zp zl ze zR zs zm zargs zbelow zmeth zc D zA 6 zQ (0 + 0) (0 + 0) ([(h, .inr (8, [vZ (M2_1.2 0), .ref (a 1), .ref (a 2), vZ (M2_1.2 3), vZ (M2_1.2 4), .ref (a 5), .ref (a 6), .ref (a 7), .ref (a 8), .ref (a 9), .ref (a 10), .ref (a 11), vZ (M2_1.2 12), .ref (a 13), .ref (a 14), .ref (a 15), .ref (a 16), .ref (a 17), .ref (a 18), .ref (a 19), vZ (M2_1.2 20), vZ (M2_1.2 21), .ref (a 22), .ref (a 23), .ref (a 24), .ref (a 25), .ref (a 26), .ref (a 27), .ref (a 28), .ref (a 29), .ref (a 30), .ref (a 31), .ref (a 32), .ref (a 33), vZ (M2_1.2 34), .ref (a 35), vZ (M2_1.2 36), vZ (M2_1.2 37), vZ (M2_1.2 38), .ref (a 39), .ref (a 40), vZ (M2_1.2 41), vZ (M2_1.2 42), vZ (M2_1.2 43)])), ((a 1), .inl (K.1, 10, .inl (ar (M2_1.1 1)))), ((a 2), .inl (K.1, 10, .inl (ar (M2_1.1 2)))), ((a 5), .inl (K.1, 16, .inl (ar (M2_1.1 5)))), ((a 6), .inl (K.1, 16, .inl (ar (M2_1.1 6)))), ((a 7), .inl (K.1, 16, .inl (ar (M2_1.1 7)))), ((a 8), .inl (K.1, 16, .inl (ar (M2_1.1 8)))), ((a 9), .inl (K.1, 16, .inl (ar (M2_1.1 9)))), ((a 10), .inl (K.1, 16, .inl (ar (M2_1.1 10)))), ((a 11), .inl (K.1, 100, .inl (ar (M2_1.1 11)))), ((a 13), .inl (K.1, 8, .inl (ar (M2_1.1 13)))), ((a 14), .inl (K.1, 8, .inl (ar (M2_1.1 14)))), ((a 15), .inl (K.1, 8, .inl (ar (M2_1.1 15)))), ((a 16), .inl (K.1, 8, .inl (ar (M2_1.1 16)))), ((a 17), .inl (K.1, 3200, .inl (ar (M2_1.1 17)))), ((a 18), .inl (K.1, 3200, .inl (ar (M2_1.1 18)))), ((a 19), .inl (K.2.1, 3200, .inl (ar (M2_1.1 19)))), ((a 22), .inl (K.1, 3400, .inl (ar (M2_1.1 22)))), ((a 23), .inl (K.1, 3400, .inl (ar (M2_1.1 23)))), ((a 24), .inl (K.1, 3400, .inl (ar (M2_1.1 24)))), ((a 25), .inl (K.1, 3400, .inl (ar (M2_1.1 25)))), ((a 26), .inl (K.1, 32, .inl (ar (M2_1.1 26)))), ((a 27), .inl (K.1, 32, .inl (ar (M2_1.1 27)))), ((a 28), .inl (K.2.1, 8, .inl (ar (M2_1.1 28)))), ((a 29), .inl (K.1, 8, .inl (ar (M2_1.1 29)))), ((a 30), .inl (K.1, 8, .inl (ar (M2_1.1 30)))), ((a 31), .inl (K.1, 10, .inl (ar (M2_1.1 31)))), ((a 32), .inl (K.1, 10, .inl (ar (M2_1.1 32)))), ((a 33), .inl (K.1, 10, .inl (ar (M2_1.1 33)))), ((a 35), .inl (K.1, 13711, .inl (ar (M2_1.1 35)))), ((a 39), .inl (K.1, 4, .inl (ar (M2_1.1 39)))), ((a 40), .inl (K.1, 4, .inl (ar (M2_1.1 40))))]) 41 [(0, .ref h), (1, vZ cw), (2, vZ v_1), (3, vZ W), (4, vZ left), (5, vZ k)] [] := by
      intro n_41
      induction n_41 with
      | zero => intro left k i1 i2 hm_41; exact absurd hm_41 (Nat.not_lt_zero _)
      | succ n_41 ih_41 =>
        intro left k i1 i2 hm_41
        have hvr : -1 ≤ v_1 ∧ v_1 ≤ 4 := by
          rcases hres_1 with z | z
          · omega
          · have := z.1; omega
        refine z_iload ZC dX8_plan_41 rfl ?_
        refine z_if_lt ZC 79 dX8_plan_43 (by decide) (by omega) (fun c_43 => ?_) (fun c_43 => ?_)
        · skip
          refine z_iconst ZC dX8_plan_79 ?_
          refine z_iret ZC ZE dX8_plan_80 (by omega) (by omega) (Nat.le_of_ble_eq_true rfl) ⟨M2_1, (-1), rfl, rfl, by omega, by omega, ?_, ?_, ?_, ?_⟩
          · skip
            right
            refine ⟨rfl, ?_⟩
            rcases i1 with z | z
            · exact Or.inl z.1
            · right
              intro i a b
              have hz := hres_1.resolve_left (by have := z.1; omega)
              rw [← hz.2.2.1 i a (by omega)]
              exact z.2.2.2.2 i (by omega) (by omega)
          · skip
            exact hmx2_1
          · skip
            exact hkp_1
          · skip
            exact hli2_1
        · skip
          have hi := i1.resolve_left (by omega)
          have hz := hres_1.resolve_left (by have := hi.1; omega)
          have hW1 : 1 ≤ W := by
            have q := wlA_mem (Cr := Cr) (A := A) (i := 0) hc8.1 (by omega) (by omega)
            have q2 := hah _ q.1 q.2.1
            omega
          have hmem := wlA_mem (Cr := Cr) (A := A) (i := k) hc8.1 (by omega) (by omega)
          have hfk := hz.2.2.1 k (by omega) hi.2.2.1.2
          have hmr := mod_rng (x := left) (W := W) (by omega)
          have hl0 : 0 ≤ left ∧ left ≤ 256 := i2 (by omega)
          refine z_aload_n ZC 0 dX8_plan_46 rfl rfl ?_
          refine z_get ZC inUX8 0 rfl rfl 39 (by decide) uF_X8_102 rfl dX8_plan_47 ?_
          refine z_iload ZC dX8_plan_50 rfl ?_
          refine z_iald ZC 30 rfl dX8_plan_52 (by omega) ?_
          refine z_iload_n ZC 1 dX8_plan_53 rfl rfl ?_
          refine z_icmp_ne ZC 67 dX8_plan_54 (by decide) (by omega) (by omega) (fun c_54 => ?_) (fun c_54 => ?_)
          · skip
            refine z_iload ZC dX8_plan_67 rfl ?_
            refine z_iload_n ZC 3 dX8_plan_69 rfl rfl ?_
            refine z_idiv ZC dX8_plan_70 (by omega) (by omega) ?_
            refine z_istore ZC dX8_plan_71 (by decide) ?_
            refine z_iinc ZC dX8_plan_73 rfl (by decide) ?_
            refine z_goto ZC 41 dX8_plan_76 (by decide) ?_
            refine z_ws (ws2 := [(h, .inr (8, [vZ (M2_1.2 0), .ref (a 1), .ref (a 2), vZ (M2_1.2 3), vZ (M2_1.2 4), .ref (a 5), .ref (a 6), .ref (a 7), .ref (a 8), .ref (a 9), .ref (a 10), .ref (a 11), vZ (M2_1.2 12), .ref (a 13), .ref (a 14), .ref (a 15), .ref (a 16), .ref (a 17), .ref (a 18), .ref (a 19), vZ (M2_1.2 20), vZ (M2_1.2 21), .ref (a 22), .ref (a 23), .ref (a 24), .ref (a 25), .ref (a 26), .ref (a 27), .ref (a 28), .ref (a 29), .ref (a 30), .ref (a 31), .ref (a 32), .ref (a 33), vZ (M2_1.2 34), .ref (a 35), vZ (M2_1.2 36), vZ (M2_1.2 37), vZ (M2_1.2 38), .ref (a 39), .ref (a 40), vZ (M2_1.2 41), vZ (M2_1.2 42), vZ (M2_1.2 43)])), ((a 1), .inl (K.1, 10, .inl (ar (M2_1.1 1)))), ((a 2), .inl (K.1, 10, .inl (ar (M2_1.1 2)))), ((a 5), .inl (K.1, 16, .inl (ar (M2_1.1 5)))), ((a 6), .inl (K.1, 16, .inl (ar (M2_1.1 6)))), ((a 7), .inl (K.1, 16, .inl (ar (M2_1.1 7)))), ((a 8), .inl (K.1, 16, .inl (ar (M2_1.1 8)))), ((a 9), .inl (K.1, 16, .inl (ar (M2_1.1 9)))), ((a 10), .inl (K.1, 16, .inl (ar (M2_1.1 10)))), ((a 11), .inl (K.1, 100, .inl (ar (M2_1.1 11)))), ((a 13), .inl (K.1, 8, .inl (ar (M2_1.1 13)))), ((a 14), .inl (K.1, 8, .inl (ar (M2_1.1 14)))), ((a 15), .inl (K.1, 8, .inl (ar (M2_1.1 15)))), ((a 16), .inl (K.1, 8, .inl (ar (M2_1.1 16)))), ((a 17), .inl (K.1, 3200, .inl (ar (M2_1.1 17)))), ((a 18), .inl (K.1, 3200, .inl (ar (M2_1.1 18)))), ((a 19), .inl (K.2.1, 3200, .inl (ar (M2_1.1 19)))), ((a 22), .inl (K.1, 3400, .inl (ar (M2_1.1 22)))), ((a 23), .inl (K.1, 3400, .inl (ar (M2_1.1 23)))), ((a 24), .inl (K.1, 3400, .inl (ar (M2_1.1 24)))), ((a 25), .inl (K.1, 3400, .inl (ar (M2_1.1 25)))), ((a 26), .inl (K.1, 32, .inl (ar (M2_1.1 26)))), ((a 27), .inl (K.1, 32, .inl (ar (M2_1.1 27)))), ((a 28), .inl (K.2.1, 8, .inl (ar (M2_1.1 28)))), ((a 29), .inl (K.1, 8, .inl (ar (M2_1.1 29)))), ((a 30), .inl (K.1, 8, .inl (ar (M2_1.1 30)))), ((a 31), .inl (K.1, 10, .inl (ar (M2_1.1 31)))), ((a 32), .inl (K.1, 10, .inl (ar (M2_1.1 32)))), ((a 33), .inl (K.1, 10, .inl (ar (M2_1.1 33)))), ((a 35), .inl (K.1, 13711, .inl (ar (M2_1.1 35)))), ((a 39), .inl (K.1, 4, .inl (ar (M2_1.1 39)))), ((a 40), .inl (K.1, 4, .inl (ar (M2_1.1 40))))]) rfl (z_lv (lv2 := [(0, .ref h), (1, vZ cw), (2, vZ v_1), (3, vZ W), (4, vZ (left / W)), (5, vZ (k + (-1)))]) ⟨rfl, rfl, rfl, rfl, rfl, rfl, trivial⟩ ?_)
            refine ih_41 (left / W) (k + (-1)) ?_ ?_ (by omega)
            · skip
              right
              refine ⟨hi.1, hi.2.1, by omega, ?_, fun i a b => ?_⟩
              · rw [hi.2.2.2.1, div_step hz.2.2.2.2.2.1.1 hW1, show (((wlA Cr A).length : Int) - 1 - (k + (-1))).toNat = (((wlA Cr A).length : Int) - 1 - k).toNat + 1 by omega]
              · by_cases z : i = k
                · rw [z]; exact c_54
                · exact hi.2.2.2.2 i (by omega) b
            · skip
              intro _
              exact ⟨Int.ediv_nonneg hl0.1 (by omega), Int.le_trans (Int.ediv_le_self _ hl0.1) hl0.2⟩
          · skip
            refine z_aload_n ZC 0 dX8_plan_57 rfl rfl ?_
            refine z_get ZC inUX8 0 rfl rfl 20 (by decide) uF_X8_129 rfl dX8_plan_58 ?_
            refine z_iload ZC dX8_plan_61 rfl ?_
            refine z_iload_n ZC 3 dX8_plan_63 rfl rfl ?_
            refine z_irem ZC dX8_plan_64 (by omega) (by omega) ?_
            refine z_iadd ZC dX8_plan_65 ?_
            refine z_iret ZC ZE dX8_plan_66 (by omega) (by omega) (Nat.le_of_ble_eq_true rfl) ⟨M2_1, ((M2_1.2 20) + (left % W)), rfl, rfl, by omega, by omega, ?_, ?_, ?_, ?_⟩
            · skip
              left
              refine ⟨k, by omega, by rw [← hfk]; exact c_54, hi.1, ?_⟩
              rw [e20, ← hz.2.2.2.2.2.2, stp_cv (by omega) hz.2.2.2.2.2.1.1 (by omega), hi.2.2.2.1, ← hW, show ((W.toNat : Nat) : Int) = W by omega, show (((wlA Cr A).length : Int) - 1 - k).toNat = (wlA Cr A).length - 1 - k.toNat by omega]
            · skip
              exact hmx2_1
            · skip
              exact hkp_1
            · skip
              exact hli2_1
    refine z_ws (ws2 := [(h, .inr (8, [vZ (M2_1.2 0), .ref (a 1), .ref (a 2), vZ (M2_1.2 3), vZ (M2_1.2 4), .ref (a 5), .ref (a 6), .ref (a 7), .ref (a 8), .ref (a 9), .ref (a 10), .ref (a 11), vZ (M2_1.2 12), .ref (a 13), .ref (a 14), .ref (a 15), .ref (a 16), .ref (a 17), .ref (a 18), .ref (a 19), vZ (M2_1.2 20), vZ (M2_1.2 21), .ref (a 22), .ref (a 23), .ref (a 24), .ref (a 25), .ref (a 26), .ref (a 27), .ref (a 28), .ref (a 29), .ref (a 30), .ref (a 31), .ref (a 32), .ref (a 33), vZ (M2_1.2 34), .ref (a 35), vZ (M2_1.2 36), vZ (M2_1.2 37), vZ (M2_1.2 38), .ref (a 39), .ref (a 40), vZ (M2_1.2 41), vZ (M2_1.2 42), vZ (M2_1.2 43)])), ((a 1), .inl (K.1, 10, .inl (ar (M2_1.1 1)))), ((a 2), .inl (K.1, 10, .inl (ar (M2_1.1 2)))), ((a 5), .inl (K.1, 16, .inl (ar (M2_1.1 5)))), ((a 6), .inl (K.1, 16, .inl (ar (M2_1.1 6)))), ((a 7), .inl (K.1, 16, .inl (ar (M2_1.1 7)))), ((a 8), .inl (K.1, 16, .inl (ar (M2_1.1 8)))), ((a 9), .inl (K.1, 16, .inl (ar (M2_1.1 9)))), ((a 10), .inl (K.1, 16, .inl (ar (M2_1.1 10)))), ((a 11), .inl (K.1, 100, .inl (ar (M2_1.1 11)))), ((a 13), .inl (K.1, 8, .inl (ar (M2_1.1 13)))), ((a 14), .inl (K.1, 8, .inl (ar (M2_1.1 14)))), ((a 15), .inl (K.1, 8, .inl (ar (M2_1.1 15)))), ((a 16), .inl (K.1, 8, .inl (ar (M2_1.1 16)))), ((a 17), .inl (K.1, 3200, .inl (ar (M2_1.1 17)))), ((a 18), .inl (K.1, 3200, .inl (ar (M2_1.1 18)))), ((a 19), .inl (K.2.1, 3200, .inl (ar (M2_1.1 19)))), ((a 22), .inl (K.1, 3400, .inl (ar (M2_1.1 22)))), ((a 23), .inl (K.1, 3400, .inl (ar (M2_1.1 23)))), ((a 24), .inl (K.1, 3400, .inl (ar (M2_1.1 24)))), ((a 25), .inl (K.1, 3400, .inl (ar (M2_1.1 25)))), ((a 26), .inl (K.1, 32, .inl (ar (M2_1.1 26)))), ((a 27), .inl (K.1, 32, .inl (ar (M2_1.1 27)))), ((a 28), .inl (K.2.1, 8, .inl (ar (M2_1.1 28)))), ((a 29), .inl (K.1, 8, .inl (ar (M2_1.1 29)))), ((a 30), .inl (K.1, 8, .inl (ar (M2_1.1 30)))), ((a 31), .inl (K.1, 10, .inl (ar (M2_1.1 31)))), ((a 32), .inl (K.1, 10, .inl (ar (M2_1.1 32)))), ((a 33), .inl (K.1, 10, .inl (ar (M2_1.1 33)))), ((a 35), .inl (K.1, 13711, .inl (ar (M2_1.1 35)))), ((a 39), .inl (K.1, 4, .inl (ar (M2_1.1 39)))), ((a 40), .inl (K.1, 4, .inl (ar (M2_1.1 40))))]) rfl (z_lv (lv2 := [(0, .ref h), (1, vZ cw), (2, vZ v_1), (3, vZ W), (4, vZ (M2_1.2 41)), (5, vZ (v_1 - 1))]) ⟨rfl, rfl, rfl, rfl, rfl, rfl, trivial⟩ ?_)
    refine lp_41 _ (M2_1.2 41) (v_1 - 1) ?_ ?_ (Nat.lt_succ_self _)
    · skip
      rcases hres_1 with z | z
      · exact Or.inl ⟨z.1, z.2, by omega⟩
      · right
        refine ⟨z.1, z.2.1, by omega, ?_, fun i a b => by omega⟩
        rw [show (((wlA Cr A).length : Int) - 1 - (v_1 - 1)).toNat = 0 by omega, Int.pow_zero, Int.ediv_one]
    · skip
      intro q
      rcases hres_1 with z | z
      · omega
      · exact z.2.2.2.2.2.1
  refine z_sipush ZC dX8_plan_5 (by decide) ?_
  refine z_aload_n ZC 0 dX8_plan_8 rfl rfl ?_
  refine z_get ZC inUX8 0 rfl rfl 20 (by decide) uF_X8_129 rfl dX8_plan_9 ?_
  refine z_isub ZC dX8_plan_12 ?_
  refine z_iconst ZC dX8_plan_13 ?_
  refine z_icmp_ge ZC 28 dX8_plan_14 (by decide) (by omega) (by omega) (fun c_14 => ?_) (fun c_14 => ?_)
  · skip
    refine z_iconst ZC dX8_plan_28 ?_
    refine z_istore_n ZC 3 dX8_plan_29 rfl (by decide) ?_
    refine z_ws (ws2 := [(h, .inr (8, [vZ (M2_1.2 0), .ref (a 1), .ref (a 2), vZ (M2_1.2 3), vZ (M2_1.2 4), .ref (a 5), .ref (a 6), .ref (a 7), .ref (a 8), .ref (a 9), .ref (a 10), .ref (a 11), vZ (M2_1.2 12), .ref (a 13), .ref (a 14), .ref (a 15), .ref (a 16), .ref (a 17), .ref (a 18), .ref (a 19), vZ (M2_1.2 20), vZ (M2_1.2 21), .ref (a 22), .ref (a 23), .ref (a 24), .ref (a 25), .ref (a 26), .ref (a 27), .ref (a 28), .ref (a 29), .ref (a 30), .ref (a 31), .ref (a 32), .ref (a 33), vZ (M2_1.2 34), .ref (a 35), vZ (M2_1.2 36), vZ (M2_1.2 37), vZ (M2_1.2 38), .ref (a 39), .ref (a 40), vZ (M2_1.2 41), vZ (M2_1.2 42), vZ (M2_1.2 43)])), ((a 1), .inl (K.1, 10, .inl (ar (M2_1.1 1)))), ((a 2), .inl (K.1, 10, .inl (ar (M2_1.1 2)))), ((a 5), .inl (K.1, 16, .inl (ar (M2_1.1 5)))), ((a 6), .inl (K.1, 16, .inl (ar (M2_1.1 6)))), ((a 7), .inl (K.1, 16, .inl (ar (M2_1.1 7)))), ((a 8), .inl (K.1, 16, .inl (ar (M2_1.1 8)))), ((a 9), .inl (K.1, 16, .inl (ar (M2_1.1 9)))), ((a 10), .inl (K.1, 16, .inl (ar (M2_1.1 10)))), ((a 11), .inl (K.1, 100, .inl (ar (M2_1.1 11)))), ((a 13), .inl (K.1, 8, .inl (ar (M2_1.1 13)))), ((a 14), .inl (K.1, 8, .inl (ar (M2_1.1 14)))), ((a 15), .inl (K.1, 8, .inl (ar (M2_1.1 15)))), ((a 16), .inl (K.1, 8, .inl (ar (M2_1.1 16)))), ((a 17), .inl (K.1, 3200, .inl (ar (M2_1.1 17)))), ((a 18), .inl (K.1, 3200, .inl (ar (M2_1.1 18)))), ((a 19), .inl (K.2.1, 3200, .inl (ar (M2_1.1 19)))), ((a 22), .inl (K.1, 3400, .inl (ar (M2_1.1 22)))), ((a 23), .inl (K.1, 3400, .inl (ar (M2_1.1 23)))), ((a 24), .inl (K.1, 3400, .inl (ar (M2_1.1 24)))), ((a 25), .inl (K.1, 3400, .inl (ar (M2_1.1 25)))), ((a 26), .inl (K.1, 32, .inl (ar (M2_1.1 26)))), ((a 27), .inl (K.1, 32, .inl (ar (M2_1.1 27)))), ((a 28), .inl (K.2.1, 8, .inl (ar (M2_1.1 28)))), ((a 29), .inl (K.1, 8, .inl (ar (M2_1.1 29)))), ((a 30), .inl (K.1, 8, .inl (ar (M2_1.1 30)))), ((a 31), .inl (K.1, 10, .inl (ar (M2_1.1 31)))), ((a 32), .inl (K.1, 10, .inl (ar (M2_1.1 32)))), ((a 33), .inl (K.1, 10, .inl (ar (M2_1.1 33)))), ((a 35), .inl (K.1, 13711, .inl (ar (M2_1.1 35)))), ((a 39), .inl (K.1, 4, .inl (ar (M2_1.1 39)))), ((a 40), .inl (K.1, 4, .inl (ar (M2_1.1 40))))]) rfl (z_lv (lv2 := [(0, .ref h), (1, vZ cw), (2, vZ v_1), (3, vZ 4)]) ⟨rfl, rfl, rfl, rfl, trivial⟩ ?_)
    refine jn_30 4 ?_
    · skip
      omega
  · skip
    refine z_sipush ZC dX8_plan_17 (by decide) ?_
    refine z_aload_n ZC 0 dX8_plan_20 rfl rfl ?_
    refine z_get ZC inUX8 0 rfl rfl 20 (by decide) uF_X8_129 rfl dX8_plan_21 ?_
    refine z_isub ZC dX8_plan_24 ?_
    refine z_goto ZC 29 dX8_plan_25 (by decide) ?_
    refine z_istore_n ZC 3 dX8_plan_29 rfl (by decide) ?_
    refine z_ws (ws2 := [(h, .inr (8, [vZ (M2_1.2 0), .ref (a 1), .ref (a 2), vZ (M2_1.2 3), vZ (M2_1.2 4), .ref (a 5), .ref (a 6), .ref (a 7), .ref (a 8), .ref (a 9), .ref (a 10), .ref (a 11), vZ (M2_1.2 12), .ref (a 13), .ref (a 14), .ref (a 15), .ref (a 16), .ref (a 17), .ref (a 18), .ref (a 19), vZ (M2_1.2 20), vZ (M2_1.2 21), .ref (a 22), .ref (a 23), .ref (a 24), .ref (a 25), .ref (a 26), .ref (a 27), .ref (a 28), .ref (a 29), .ref (a 30), .ref (a 31), .ref (a 32), .ref (a 33), vZ (M2_1.2 34), .ref (a 35), vZ (M2_1.2 36), vZ (M2_1.2 37), vZ (M2_1.2 38), .ref (a 39), .ref (a 40), vZ (M2_1.2 41), vZ (M2_1.2 42), vZ (M2_1.2 43)])), ((a 1), .inl (K.1, 10, .inl (ar (M2_1.1 1)))), ((a 2), .inl (K.1, 10, .inl (ar (M2_1.1 2)))), ((a 5), .inl (K.1, 16, .inl (ar (M2_1.1 5)))), ((a 6), .inl (K.1, 16, .inl (ar (M2_1.1 6)))), ((a 7), .inl (K.1, 16, .inl (ar (M2_1.1 7)))), ((a 8), .inl (K.1, 16, .inl (ar (M2_1.1 8)))), ((a 9), .inl (K.1, 16, .inl (ar (M2_1.1 9)))), ((a 10), .inl (K.1, 16, .inl (ar (M2_1.1 10)))), ((a 11), .inl (K.1, 100, .inl (ar (M2_1.1 11)))), ((a 13), .inl (K.1, 8, .inl (ar (M2_1.1 13)))), ((a 14), .inl (K.1, 8, .inl (ar (M2_1.1 14)))), ((a 15), .inl (K.1, 8, .inl (ar (M2_1.1 15)))), ((a 16), .inl (K.1, 8, .inl (ar (M2_1.1 16)))), ((a 17), .inl (K.1, 3200, .inl (ar (M2_1.1 17)))), ((a 18), .inl (K.1, 3200, .inl (ar (M2_1.1 18)))), ((a 19), .inl (K.2.1, 3200, .inl (ar (M2_1.1 19)))), ((a 22), .inl (K.1, 3400, .inl (ar (M2_1.1 22)))), ((a 23), .inl (K.1, 3400, .inl (ar (M2_1.1 23)))), ((a 24), .inl (K.1, 3400, .inl (ar (M2_1.1 24)))), ((a 25), .inl (K.1, 3400, .inl (ar (M2_1.1 25)))), ((a 26), .inl (K.1, 32, .inl (ar (M2_1.1 26)))), ((a 27), .inl (K.1, 32, .inl (ar (M2_1.1 27)))), ((a 28), .inl (K.2.1, 8, .inl (ar (M2_1.1 28)))), ((a 29), .inl (K.1, 8, .inl (ar (M2_1.1 29)))), ((a 30), .inl (K.1, 8, .inl (ar (M2_1.1 30)))), ((a 31), .inl (K.1, 10, .inl (ar (M2_1.1 31)))), ((a 32), .inl (K.1, 10, .inl (ar (M2_1.1 32)))), ((a 33), .inl (K.1, 10, .inl (ar (M2_1.1 33)))), ((a 35), .inl (K.1, 13711, .inl (ar (M2_1.1 35)))), ((a 39), .inl (K.1, 4, .inl (ar (M2_1.1 39)))), ((a 40), .inl (K.1, 4, .inl (ar (M2_1.1 40))))]) rfl (z_lv (lv2 := [(0, .ref h), (1, vZ cw), (2, vZ v_1), (3, vZ (200 - (M2_1.2 20)))]) ⟨rfl, rfl, rfl, rfl, trivial⟩ ?_)
    refine jn_30 (200 - (M2_1.2 20)) ?_
    · skip
      omega

set_option maxHeartbeats 4000000 in
set_option maxRecDepth 100000 in
theorem c_X8_planned (zl : Launch) (D : va_G) (K : tyK) (h : Nat) (a : Nat → Nat) (M : Bd) (To : Bd) (Ne : Bd) (Cr : Bd) (A : Ab) (C : Int → List Pt3) (what : Int) (hz_what : -2147483648 ≤ what ∧ what < 2147483648) (hcf : Cfg Ne Cr) (hnw : NW Ne) (hms : MS To Ne Cr M) (hto : 0 ≤ To.2 3 ∧ To.2 3 ≤ 10) (hab : AB Ne Cr A) (hmx : MX Cr A M C) (har : AR Cr A) (hao : AO A) (hli : ∀ t : Int, 0 ≤ t → t < 10 → -1 ≤ M.1 33 t ∧ M.1 33 t ≤ 1000) (hah : ∀ c : Int, 0 ≤ c → c < Cr.2 3 → A.1 0 c ≤ 199) : Mz zl yX8_planned cX8_planned 2 (some .int) 6 140 0 0 D K [.ref h, vZ what] (wMo K h a M) (fun r_ w2_ gc gs => ∃ (M2 : Bd), ∃ (v : Int), r_ = some (vZ v) ∧ w2_ = (wMo K h a M2) ∧ gc = 0 ∧ gs = 0 ∧ (((what = 0 ∨ what = 1) ∧ ((((wlA Cr A).length = 0 ∨ 4 < (wlA Cr A).length) ∧ v = -1) ∨ ((0 < (wlA Cr A).length ∧ (wlA Cr A).length ≤ 4) ∧ v = if what = 0 then (pFold Ne Cr A (4 ^ (wlA Cr A).length)).1 else (pFold Ne Cr A (4 ^ (wlA Cr A).length)).2.1))) ∨ (¬ (what = 0 ∨ what = 1) ∧ v = -1)) ∧ (MX Cr A M2 C) ∧ (KP [16, 22, 23, 24, 25, 26, 27, 28, 29, 30, 31, 32, 33, 35, 39, 40] [20, 21, 34, 36, 37, 38, 41, 42, 43] M M2) ∧ (∀ t : Int, 0 ≤ t → t < 10 → -1 ≤ M2.1 33 t ∧ M2.1 33 t ≤ 1000)) := by
  refine Mz.ofZ (by decide) rfl (Nat.le_of_ble_eq_true rfl) ?_
  intro zp ze zR zs zm zargs zbelow zmeth zc zA zQ ZC ZE hRf hRc hRs hRl
  refine z_iload_n ZC 1 dX8_planned_0 rfl rfl ?_
  refine z_iconst ZC dX8_planned_1 ?_
  refine z_iconst ZC dX8_planned_2 ?_
  refine z_callS ZC 3 (c_X8_in zl D K what 0 1 (by omega) (by omega) (by omega)) (gdS uM_X8_114 uZ_X8_in uN_X8 uC_X8_in) (by decide +kernel) rfl ⟨by omega, by omega⟩ ⟨by omega, by omega⟩ (Nat.le_of_ble_eq_true rfl) [] rfl (by decide) rfl dX8_planned_3 (fun r w2 gc_3 gs_3 hp => ?_)
  obtain ⟨b_3, rfl, rfl, rfl, rfl, hb_3⟩ := hp
  refine z_st (st2 := [vZ b_3]) rfl ?_
  refine z_if_eq ZC 17 dX8_planned_6 (by decide) (by omega) (fun c_6 => ?_) (fun c_6 => ?_)
  · skip
    refine z_iconst ZC dX8_planned_17 ?_
    refine z_iret ZC ZE dX8_planned_18 (by omega) (by omega) (Nat.le_of_ble_eq_true rfl) ⟨M, (-1), rfl, rfl, by omega, by omega, ?_, ?_, ?_, ?_⟩
    · skip
      right; exact ⟨by omega, rfl⟩
    · skip
      exact hmx
    · skip
      exact KP.refl _ _ _
    · skip
      exact hli
  · skip
    refine z_aload_n ZC 0 dX8_planned_9 rfl rfl ?_
    refine z_callV ZC 0 (c_X8_plans zl D K h a M To Ne Cr A C (hcf) (hnw) (hms) (hto) (hab) (hmx) (har) (hao) (hli) (hah)) (gdV uM_X8_218 uI_X8_plans uS_X8_plans uN_X8 uC_X8_plans) (by decide +kernel) rfl ⟨by omega, by omega⟩ ⟨by omega, by omega⟩ (Nat.le_of_ble_eq_true rfl) [0, 1, 2, 3, 4, 5, 6, 7, 8, 9, 10, 11, 12, 13, 14, 15, 16, 17, 18, 19, 20, 21, 22, 23, 24, 25, 26, 27, 28, 29, 30, 31] rfl (by decide) rfl rfl rfl rfl dX8_planned_10 (fun r w2 gc_10 gs_10 hp => ?_)
    obtain ⟨M2_10, v_10, rfl, rfl, rfl, rfl, hmx2_10, hkp_10, hli2_10, hres_10⟩ := hp
    refine z_ws (ws2 := [(h, .inr (8, [vZ (M2_10.2 0), .ref (a 1), .ref (a 2), vZ (M2_10.2 3), vZ (M2_10.2 4), .ref (a 5), .ref (a 6), .ref (a 7), .ref (a 8), .ref (a 9), .ref (a 10), .ref (a 11), vZ (M2_10.2 12), .ref (a 13), .ref (a 14), .ref (a 15), .ref (a 16), .ref (a 17), .ref (a 18), .ref (a 19), vZ (M2_10.2 20), vZ (M2_10.2 21), .ref (a 22), .ref (a 23), .ref (a 24), .ref (a 25), .ref (a 26), .ref (a 27), .ref (a 28), .ref (a 29), .ref (a 30), .ref (a 31), .ref (a 32), .ref (a 33), vZ (M2_10.2 34), .ref (a 35), vZ (M2_10.2 36), vZ (M2_10.2 37), vZ (M2_10.2 38), .ref (a 39), .ref (a 40), vZ (M2_10.2 41), vZ (M2_10.2 42), vZ (M2_10.2 43)])), ((a 1), .inl (K.1, 10, .inl (ar (M2_10.1 1)))), ((a 2), .inl (K.1, 10, .inl (ar (M2_10.1 2)))), ((a 5), .inl (K.1, 16, .inl (ar (M2_10.1 5)))), ((a 6), .inl (K.1, 16, .inl (ar (M2_10.1 6)))), ((a 7), .inl (K.1, 16, .inl (ar (M2_10.1 7)))), ((a 8), .inl (K.1, 16, .inl (ar (M2_10.1 8)))), ((a 9), .inl (K.1, 16, .inl (ar (M2_10.1 9)))), ((a 10), .inl (K.1, 16, .inl (ar (M2_10.1 10)))), ((a 11), .inl (K.1, 100, .inl (ar (M2_10.1 11)))), ((a 13), .inl (K.1, 8, .inl (ar (M2_10.1 13)))), ((a 14), .inl (K.1, 8, .inl (ar (M2_10.1 14)))), ((a 15), .inl (K.1, 8, .inl (ar (M2_10.1 15)))), ((a 16), .inl (K.1, 8, .inl (ar (M2_10.1 16)))), ((a 17), .inl (K.1, 3200, .inl (ar (M2_10.1 17)))), ((a 18), .inl (K.1, 3200, .inl (ar (M2_10.1 18)))), ((a 19), .inl (K.2.1, 3200, .inl (ar (M2_10.1 19)))), ((a 22), .inl (K.1, 3400, .inl (ar (M2_10.1 22)))), ((a 23), .inl (K.1, 3400, .inl (ar (M2_10.1 23)))), ((a 24), .inl (K.1, 3400, .inl (ar (M2_10.1 24)))), ((a 25), .inl (K.1, 3400, .inl (ar (M2_10.1 25)))), ((a 26), .inl (K.1, 32, .inl (ar (M2_10.1 26)))), ((a 27), .inl (K.1, 32, .inl (ar (M2_10.1 27)))), ((a 28), .inl (K.2.1, 8, .inl (ar (M2_10.1 28)))), ((a 29), .inl (K.1, 8, .inl (ar (M2_10.1 29)))), ((a 30), .inl (K.1, 8, .inl (ar (M2_10.1 30)))), ((a 31), .inl (K.1, 10, .inl (ar (M2_10.1 31)))), ((a 32), .inl (K.1, 10, .inl (ar (M2_10.1 32)))), ((a 33), .inl (K.1, 10, .inl (ar (M2_10.1 33)))), ((a 35), .inl (K.1, 13711, .inl (ar (M2_10.1 35)))), ((a 39), .inl (K.1, 4, .inl (ar (M2_10.1 39)))), ((a 40), .inl (K.1, 4, .inl (ar (M2_10.1 40))))]) rfl ?_
    refine z_st (st2 := [vZ v_10]) rfl ?_
    have hvr : -1 ≤ v_10 ∧ v_10 ≤ 4 := by
      rcases hres_10 with z | z
      · omega
      · have := z.1; omega
    refine z_iconst ZC dX8_planned_13 ?_
    refine z_icmp_ne ZC 19 dX8_planned_14 (by decide) (by omega) (by omega) (fun c_14 => ?_) (fun c_14 => ?_)
    · skip
      refine z_iload_n ZC 1 dX8_planned_19 rfl rfl ?_
      refine z_if_ne ZC 30 dX8_planned_20 (by decide) (by omega) (fun c_20 => ?_) (fun c_20 => ?_)
      · skip
        refine z_aload_n ZC 0 dX8_planned_30 rfl rfl ?_
        refine z_get ZC inUX8 0 rfl rfl 43 (by decide) uF_X8_212 rfl dX8_planned_31 ?_
        refine z_iret ZC ZE dX8_planned_34 (by omega) (by omega) (Nat.le_of_ble_eq_true rfl) ⟨M2_10, (M2_10.2 43), rfl, rfl, by omega, by omega, ?_, ?_, ?_, ?_⟩
        · skip
          left
          have hz := hres_10.resolve_left (by omega)
          refine ⟨by omega, Or.inr ⟨hz.1, ?_⟩⟩
          rw [if_neg (by omega)]
          exact hz.2.2.2.2.1
        · skip
          exact hmx2_10
        · skip
          exact hkp_10
        · skip
          exact hli2_10
      · skip
        refine z_aload_n ZC 0 dX8_planned_23 rfl rfl ?_
        refine z_get ZC inUX8 0 rfl rfl 42 (by decide) uF_X8_209 rfl dX8_planned_24 ?_
        refine z_goto ZC 34 dX8_planned_27 (by decide) ?_
        refine z_iret ZC ZE dX8_planned_34 (by omega) (by omega) (Nat.le_of_ble_eq_true rfl) ⟨M2_10, (M2_10.2 42), rfl, rfl, by omega, by omega, ?_, ?_, ?_, ?_⟩
        · skip
          left
          have hz := hres_10.resolve_left (by omega)
          refine ⟨by omega, Or.inr ⟨hz.1, ?_⟩⟩
          rw [if_pos (by omega)]
          exact hz.2.2.2.1
        · skip
          exact hmx2_10
        · skip
          exact hkp_10
        · skip
          exact hli2_10
    · skip
      refine z_iconst ZC dX8_planned_17 ?_
      refine z_iret ZC ZE dX8_planned_18 (by omega) (by omega) (Nat.le_of_ble_eq_true rfl) ⟨M2_10, (-1), rfl, rfl, by omega, by omega, ?_, ?_, ?_, ?_⟩
      · skip
        left
        refine ⟨by omega, Or.inl ⟨?_, rfl⟩⟩
        rcases hres_10 with z | z
        · exact z.1
        · omega
      · skip
        exact hmx2_10
      · skip
        exact hkp_10
      · skip
        exact hli2_10

