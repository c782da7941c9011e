/-! ===== the reference: its small methods ===== -/
section ZDiv
variable {p : Program} {l : Launch} {e : Env} {R : Room} {s : State} {m : MethodId} {args : Array Value} {below : List Frame} {meth : Method} {c : Code} {D : va_G} {K : tyK} {A : Nat → Prop} {nL : Nat} {Q : State → Prop} {cells slots : Nat} {ws : va_W} {pc : Nat} {lv : List (Nat × Value)} {st : List Value} {cc : ByteArray} {own : String}
theorem iI_ne0 {y : Int} (hy : 0 < y ∧ y < 2147483648) : ¬ iI y = 0 := by
  rw [← iI_0, iI_eq (by omega) (by omega)]; omega
theorem z_idiv (C : Zc p s m args c D K A nL cc own) {x y : Int} (hdg : decode cc pc = .ok (.idiv, 1)) (hx : 0 ≤ x ∧ x < 2147483648) (hy : 0 < y ∧ y < 2147483648) (kk : Zw p l e R s m args below meth c D A nL Q cells slots ws (pc + 1) lv (vZ (x / y) :: st)) : Zw p l e R s m args below meth c D A nL Q cells slots ws pc lv (vZ y :: vZ x :: st) := fun H locs ls hP hD hS h => by
  refine lv_idiv C.1 C.2.1 hdg (iI_ne0 hy) ?_
  obtain ⟨n, rfl⟩ : ∃ n : Nat, x = (n : Int) := ⟨x.toNat, by omega⟩
  obtain ⟨d, rfl⟩ : ∃ d : Nat, y = (d : Int) := ⟨y.toNat, by omega⟩
  have e : iI (n : Int) / iI (d : Int) = iI ((n : Int) / (d : Int)) := by
    rw [iI_nI, iI_nI, pk_div (by omega) (by omega) (by omega), ← iI_nI, Int.natCast_ediv]
  rw [e]
  exact kk H locs ls hP hD hS h
theorem z_irem (C : Zc p s m args c D K A nL cc own) {x y : Int} (hdg : decode cc pc = .ok (.irem, 1)) (hx : 0 ≤ x ∧ x < 2147483648) (hy : 0 < y ∧ y < 2147483648) (kk : Zw p l e R s m args below meth c D A nL Q cells slots ws (pc + 1) lv (vZ (x % y) :: st)) : Zw p l e R s m args below meth c D A nL Q cells slots ws pc lv (vZ y :: vZ x :: st) := fun H locs ls hP hD hS h => by
  refine lv_irem C.1 C.2.1 hdg (iI_ne0 hy) ?_
  obtain ⟨n, rfl⟩ : ∃ n : Nat, x = (n : Int) := ⟨x.toNat, by omega⟩
  obtain ⟨d, rfl⟩ : ∃ d : Nat, y = (d : Int) := ⟨y.toNat, by omega⟩
  have e : iI (n : Int) - iI (n : Int) / iI (d : Int) * iI (d : Int) = iI ((n : Int) % (d : Int)) := by
    rw [iI_nI, iI_nI, pk_rem (by omega) (by omega) (by omega), ← iI_nI, Int.natCast_emod]
  rw [e]
  exact kk H locs ls hP hD hS h
end ZDiv
theorem isq_is {v : Int} {n : Nat} (h1 : n = 0 ∨ (n : Int) * (n : Int) ≤ v) (h2 : v < ((n : Int) + 1) * ((n : Int) + 1)) (h3 : n ≤ 100) : isq 100 v = (n : Int) := by
  rw [isq_drop h2 h3]
  cases n with
  | zero => rfl
  | succ k =>
    show (if ((k : Int) + 1) * ((k : Int) + 1) ≤ v then (k : Int) + 1 else isq k v) = _
    have e : ((k + 1 : Nat) : Int) = (k : Int) + 1 := by omega
    rw [e] at h1 ⊢
    exact if_pos (h1.elim (fun q => by omega) id)
/-- the static part: towns, roads, crowds -/
def MS (To Ne Cr M : Bd) : Prop := MSt To M ∧ MSn Ne M ∧ MSc Cr M

set_option maxHeartbeats 4000000 in
set_option maxRecDepth 100000 in
theorem c_X8_in (zl : Launch) (D : va_G) (K : tyK) (v : Int) (lo : Int) (hi : Int) (h1 : -2147483648 ≤ v ∧ v < 2147483648) (h2 : -2147483648 ≤ lo ∧ lo < 2147483648) (h3 : -2147483648 ≤ hi ∧ hi < 2147483648) : Mz zl yX8_in cX8_in 3 (some .boolean) 0 0 0 0 D K [vZ v, vZ lo, vZ hi] [] (fun r_ w2_ gc gs => ∃ (b : Int), r_ = some (vZ b) ∧ w2_ = ([] : va_W) ∧ gc = 0 ∧ gs = 0 ∧ ((b = 1 ∧ (lo ≤ v ∧ v ≤ hi)) ∨ (b = 0 ∧ ¬ (lo ≤ v ∧ v ≤ hi)))) := by
  refine Mz.ofZ (by decide) rfl (Nat.le_of_ble_eq_true rfl) ?_
  intro zp ze zR zs zm zargs zbelow zmeth zc zA zQ ZC ZE hRf hRc hRs hRl
  refine z_iload_n ZC 0 dX8_in_0 rfl rfl ?_
  refine z_iload_n ZC 1 dX8_in_1 rfl rfl ?_
  refine z_icmp_lt ZC 14 dX8_in_2 (by decide) (by omega) (by omega) (fun c_2 => ?_) (fun c_2 => ?_)
  · skip
    refine z_iconst ZC dX8_in_14 ?_
    refine z_zret ZC ZE dX8_in_15 (by omega) (by omega) (by omega) (Nat.le_of_ble_eq_true rfl) ⟨0, rfl, rfl, by omega, by omega, ?_⟩
    · skip
      omega
  · skip
    refine z_iload_n ZC 0 dX8_in_5 rfl rfl ?_
    refine z_iload_n ZC 2 dX8_in_6 rfl rfl ?_
    refine z_icmp_gt ZC 14 dX8_in_7 (by decide) (by omega) (by omega) (fun c_7 => ?_) (fun c_7 => ?_)
    · skip
      refine z_iconst ZC dX8_in_14 ?_
      refine z_zret ZC ZE dX8_in_15 (by omega) (by omega) (by omega) (Nat.le_of_ble_eq_true rfl) ⟨0, rfl, rfl, by omega, by omega, ?_⟩
      · skip
        omega
    · skip
      refine z_iconst ZC dX8_in_10 ?_
      refine z_goto ZC 15 dX8_in_11 (by decide) ?_
      refine z_zret ZC ZE dX8_in_15 (by omega) (by omega) (by omega) (Nat.le_of_ble_eq_true rfl) ⟨1, rfl, rfl, by omega, by omega, ?_⟩
      · skip
        omega

set_option maxHeartbeats 4000000 in
set_option maxRecDepth 100000 in
theorem c_X8_isTown (zl : Launch) (D : va_G) (K : tyK) (h : Nat) (a : Nat → Nat) (M : Bd) (t : Int) (hz_t : -2147483648 ≤ t ∧ t < 2147483648) (ht8 : 0 ≤ M.2 0 ∧ M.2 0 ≤ 10) : Mz zl yX8_isTown cX8_isTown 2 (some .boolean) 1 22 0 0 D K [.ref h, vZ t] (wMo K h a M) (fun r_ w2_ gc gs => ∃ (v : Int), r_ = some (vZ v) ∧ w2_ = (wMo K h a M) ∧ gc = 0 ∧ gs = 0 ∧ ((v = 1 ∧ (0 ≤ t ∧ t < M.2 0)) ∨ (v = 0 ∧ ¬ (0 ≤ t ∧ t < M.2 0)))) := by
  refine Mz.ofZ (by decide) rfl (Nat.le_of_ble_eq_true rfl) ?_
  intro zp ze zR zs zm zargs zbelow zmeth zc zA zQ ZC ZE hRf hRc hRs hRl
  refine z_iload_n ZC 1 dX8_isTown_0 rfl rfl ?_
  refine z_iconst ZC dX8_isTown_1 ?_
  refine z_aload_n ZC 0 dX8_isTown_2 rfl rfl ?_
  refine z_get ZC inUX8 0 rfl rfl 0 (by decide) uF_X8_111 rfl dX8_isTown_3 ?_
  refine z_iconst ZC dX8_isTown_6 ?_
  refine z_isub ZC dX8_isTown_7 ?_
  refine z_callS ZC 3 (c_X8_in zl D K t 0 ((M.2 0) - 1) (by omega) (by omega) (by omega)) (gdS uM_X8_114 uZ_X8_in uN_X8 uC_X8_in) (by decide +kernel) rfl ⟨by omega, by omega⟩ ⟨by omega, by omega⟩ (Nat.le_of_ble_eq_true rfl) [] rfl (by decide) rfl dX8_isTown_8 (fun r w2 gc_8 gs_8 hp => ?_)
  obtain ⟨b_8, rfl, rfl, rfl, rfl, hb_8⟩ := hp
  refine z_st (st2 := [vZ b_8]) rfl ?_
  refine z_zret ZC ZE dX8_isTown_11 (by omega) (by omega) (by omega) (Nat.le_of_ble_eq_true rfl) ⟨b_8, rfl, rfl, by omega, by omega, ?_⟩
  · skip
    omega

set_option maxHeartbeats 4000000 in
set_option maxRecDepth 100000 in
theorem c_X8_isRoad (zl : Launch) (D : va_G) (K : tyK) (h : Nat) (a : Nat → Nat) (M : Bd) (t : Int) (hz_t : -2147483648 ≤ t ∧ t < 2147483648) (hr8 : 0 ≤ M.2 4 ∧ M.2 4 ≤ 16) : Mz zl yX8_isRoad cX8_isRoad 2 (some .boolean) 1 22 0 0 D K [.ref h, vZ t] (wMo K h a M) (fun r_ w2_ gc gs => ∃ (v : Int), r_ = some (vZ v) ∧ w2_ = (wMo K h a M) ∧ gc = 0 ∧ gs = 0 ∧ ((v = 1 ∧ (0 ≤ t ∧ t < M.2 4)) ∨ (v = 0 ∧ ¬ (0 ≤ t ∧ t < M.2 4)))) := by
  refine Mz.ofZ (by decide) rfl (Nat.le_of_ble_eq_true rfl) ?_
  intro zp ze zR zs zm zargs zbelow zmeth zc zA zQ ZC ZE hRf hRc hRs hRl
  refine z_iload_n ZC 1 dX8_isRoad_0 rfl rfl ?_
  refine z_iconst ZC dX8_isRoad_1 ?_
  refine z_aload_n ZC 0 dX8_isRoad_2 rfl rfl ?_
  refine z_get ZC inUX8 0 rfl rfl 4 (by decide) uF_X8_118 rfl dX8_isRoad_3 ?_
  refine z_iconst ZC dX8_isRoad_6 ?_
  refine z_isub ZC dX8_isRoad_7 ?_
  refine z_callS ZC 3 (c_X8_in zl D K t 0 ((M.2 4) - 1) (by omega) (by omega) (by omega)) (gdS uM_X8_114 uZ_X8_in uN_X8 uC_X8_in) (by decide +kernel) rfl ⟨by omega, by omega⟩ ⟨by omega, by omega⟩ (Nat.le_of_ble_eq_true rfl) [] rfl (by decide) rfl dX8_isRoad_8 (fun r w2 gc_8 gs_8 hp => ?_)
  obtain ⟨b_8, rfl, rfl, rfl, rfl, hb_8⟩ := hp
  refine z_st (st2 := [vZ b_8]) rfl ?_
  refine z_zret ZC ZE dX8_isRoad_11 (by omega) (by omega) (by omega) (Nat.le_of_ble_eq_true rfl) ⟨b_8, rfl, rfl, by omega, by omega, ?_⟩
  · skip
    omega

set_option maxHeartbeats 4000000 in
set_option maxRecDepth 100000 in
theorem c_X8_isCrowd (zl : Launch) (D : va_G) (K : tyK) (h : Nat) (a : Nat → Nat) (M : Bd) (t : Int) (hz_t : -2147483648 ≤ t ∧ t < 2147483648) (hc8 : 0 ≤ M.2 12 ∧ M.2 12 ≤ 8) : Mz zl yX8_isCrowd cX8_isCrowd 2 (some .boolean) 1 22 0 0 D K [.ref h, vZ t] (wMo K h a M) (fun r_ w2_ gc gs => ∃ (v : Int), r_ = some (vZ v) ∧ w2_ = (wMo K h a M) ∧ gc = 0 ∧ gs = 0 ∧ ((v = 1 ∧ (0 ≤ t ∧ t < M.2 12)) ∨ (v = 0 ∧ ¬ (0 ≤ t ∧ t < M.2 12)))) := by
  refine Mz.ofZ (by decide) rfl (Nat.le_of_ble_eq_true rfl) ?_
  intro zp ze zR zs zm zargs zbelow zmeth zc zA zQ ZC ZE hRf hRc hRs hRl
  refine z_iload_n ZC 1 dX8_isCrowd_0 rfl rfl ?_
  refine z_iconst ZC dX8_isCrowd_1 ?_
  refine z_aload_n ZC 0 dX8_isCrowd_2 rfl rfl ?_
  refine z_get ZC inUX8 0 rfl rfl 12 (by decide) uF_X8_121 rfl dX8_isCrowd_3 ?_
  refine z_iconst ZC dX8_isCrowd_6 ?_
  refine z_isub ZC dX8_isCrowd_7 ?_
  refine z_callS ZC 3 (c_X8_in zl D K t 0 ((M.2 12) - 1) (by omega) (by omega) (by omega)) (gdS uM_X8_114 uZ_X8_in uN_X8 uC_X8_in) (by decide +kernel) rfl ⟨by omega, by omega⟩ ⟨by omega, by omega⟩ (Nat.le_of_ble_eq_true rfl) [] rfl (by decide) rfl dX8_isCrowd_8 (fun r w2 gc_8 gs_8 hp => ?_)
  obtain ⟨b_8, rfl, rfl, rfl, rfl, hb_8⟩ := hp
  refine z_st (st2 := [vZ b_8]) rfl ?_
  refine z_zret ZC ZE dX8_isCrowd_11 (by omega) (by omega) (by omega) (Nat.le_of_ble_eq_true rfl) ⟨b_8, rfl, rfl, by omega, by omega, ?_⟩
  · skip
    omega

set_option maxHeartbeats 4000000 in
set_option maxRecDepth 100000 in
theorem c_X8_isOver (zl : Launch) (D : va_G) (K : tyK) (h : Nat) (a : Nat → Nat) (M : Bd) (t : Int) (hz_t : -2147483648 ≤ t ∧ t < 2147483648) (hn8 : 0 ≤ M.2 20 ∧ M.2 20 ≤ 200) : Mz zl yX8_isOver cX8_isOver 2 (some .boolean) 1 22 0 0 D K [.ref h, vZ t] (wMo K h a M) (fun r_ w2_ gc gs => ∃ (v : Int), r_ = some (vZ v) ∧ w2_ = (wMo K h a M) ∧ gc = 0 ∧ gs = 0 ∧ ((v = 1 ∧ (0 ≤ t ∧ t < M.2 20)) ∨ (v = 0 ∧ ¬ (0 ≤ t ∧ t < M.2 20)))) := by
  refine Mz.ofZ (by decide) rfl (Nat.le_of_ble_eq_true rfl) ?_
  intro zp ze zR zs zm zargs zbelow zmeth zc zA zQ ZC ZE hRf hRc hRs hRl
  refine z_iload_n ZC 1 dX8_isOver_0 rfl rfl ?_
  refine z_iconst ZC dX8_isOver_1 ?_
  refine z_aload_n ZC 0 dX8_isOver_2 rfl rfl ?_
  refine z_get ZC inUX8 0 rfl rfl 20 (by decide) uF_X8_129 rfl dX8_isOver_3 ?_
  refine z_iconst ZC dX8_isOver_6 ?_
  refine z_isub ZC dX8_isOver_7 ?_
  refine z_callS ZC 3 (c_X8_in zl D K t 0 ((M.2 20) - 1) (by omega) (by omega) (by omega)) (gdS uM_X8_114 uZ_X8_in uN_X8 uC_X8_in) (by decide +kernel) rfl ⟨by omega, by omega⟩ ⟨by omega, by omega⟩ (Nat.le_of_ble_eq_true rfl) [] rfl (by decide) rfl dX8_isOver_8 (fun r w2 gc_8 gs_8 hp => ?_)
  obtain ⟨b_8, rfl, rfl, rfl, rfl, hb_8⟩ := hp
  refine z_st (st2 := [vZ b_8]) rfl ?_
  refine z_zret ZC ZE dX8_isOver_11 (by omega) (by omega) (by omega) (Nat.le_of_ble_eq_true rfl) ⟨b_8, rfl, rfl, by omega, by omega, ?_⟩
  · skip
    omega

set_option maxHeartbeats 4000000 in
set_option maxRecDepth 100000 in
theorem c_X8_town (zl : Launch) (D : va_G) (K : tyK) (h : Nat) (a : Nat → Nat) (M : Bd) (far : Int) (wat : Int) (hz_far : -2147483648 ≤ far ∧ far < 2147483648) (hz_wat : -2147483648 ≤ wat ∧ wat < 2147483648) (ht8 : 0 ≤ M.2 0 ∧ M.2 0 ≤ 10) : Mz zl yX8_town cX8_town 3 (some .int) 1 22 0 0 D K [.ref h, vZ far, vZ wat] (wMo K h a M) (fun r_ w2_ gc gs => ∃ (M2 : Bd), ∃ (v : Int), r_ = some (vZ v) ∧ w2_ = (wMo K h a M2) ∧ gc = 0 ∧ gs = 0 ∧ ((((0 ≤ far ∧ far ≤ 99) ∧ (0 ≤ wat ∧ wat ≤ 1000000) ∧ M.2 0 < 10) ∧ v = M.2 0 ∧ M2 = ((upf (upf M.1 1 (upz (M.1 1) (M.2 0) far)) 31 (upz (M.1 31) (M.2 0) wat)), (upf M.2 0 (M.2 0 + 1)))) ∨ (¬ ((0 ≤ far ∧ far ≤ 99) ∧ (0 ≤ wat ∧ wat ≤ 1000000) ∧ M.2 0 < 10) ∧ v = -1 ∧ M2 = M))) := by
  refine Mz.ofZ (by decide) rfl (Nat.le_of_ble_eq_true rfl) ?_
  intro zp ze zR zs zm zargs zbelow zmeth zc zA zQ ZC ZE hRf hRc hRs hRl
  refine z_iload_n ZC 1 dX8_town_0 rfl rfl ?_
  refine z_iconst ZC dX8_town_1 ?_
  refine z_bipush ZC dX8_town_2 (by decide) ?_
  refine z_callS ZC 3 (c_X8_in zl D K far 0 99 (by omega) (by omega) (by omega)) (gdS uM_X8_114 uZ_X8_in uN_X8 uC_X8_in) (by decide +kernel) rfl ⟨by omega, by omega⟩ ⟨by omega, by omega⟩ (Nat.le_of_ble_eq_true rfl) [] rfl (by decide) rfl dX8_town_4 (fun r w2 gc_4 gs_4 hp => ?_)
  obtain ⟨b_4, rfl, rfl, rfl, rfl, hb_4⟩ := hp
  refine z_st (st2 := [vZ b_4]) rfl ?_
  refine z_if_eq ZC 29 dX8_town_7 (by decide) (by omega) (fun c_7 => ?_) (fun c_7 => ?_)
  · skip
    refine z_iconst ZC dX8_town_29 ?_
    refine z_iret ZC ZE dX8_town_30 (by omega) (by omega) (Nat.le_of_ble_eq_true rfl) ⟨M, (-1), rfl, rfl, by omega, by omega, ?_⟩
    · skip
      first | (left; exact ⟨by omega, by omega, rfl⟩) | (right; exact ⟨by omega, by omega, rfl⟩)
  · skip
    refine z_iload_n ZC 2 dX8_town_10 rfl rfl ?_
    refine z_iconst ZC dX8_town_11 ?_
    refine z_ldc ZC (n := 1000000) dX8_town_12 uJ_X8_124 (by decide) ?_
    refine z_callS ZC 3 (c_X8_in zl D K wat 0 1000000 (by omega) (by omega) (by omega)) (gdS uM_X8_114 uZ_X8_in uN_X8 uC_X8_in) (by decide +kernel) rfl ⟨by omega, by omega⟩ ⟨by omega, by omega⟩ (Nat.le_of_ble_eq_true rfl) [] rfl (by decide) rfl dX8_town_14 (fun r w2 gc_14 gs_14 hp => ?_)
    obtain ⟨b_14, rfl, rfl, rfl, rfl, hb_14⟩ := hp
    refine z_st (st2 := [vZ b_14]) rfl ?_
    refine z_if_eq ZC 29 dX8_town_17 (by decide) (by omega) (fun c_17 => ?_) (fun c_17 => ?_)
    · skip
      refine z_iconst ZC dX8_town_29 ?_
      refine z_iret ZC ZE dX8_town_30 (by omega) (by omega) (Nat.le_of_ble_eq_true rfl) ⟨M, (-1), rfl, rfl, by omega, by omega, ?_⟩
      · skip
        first | (left; exact ⟨by omega, by omega, rfl⟩) | (right; exact ⟨by omega, by omega, rfl⟩)
    · skip
      refine z_aload_n ZC 0 dX8_town_20 rfl rfl ?_
      refine z_get ZC inUX8 0 rfl rfl 0 (by decide) uF_X8_111 rfl dX8_town_21 ?_
      refine z_bipush ZC dX8_town_24 (by decide) ?_
      refine z_icmp_ne ZC 31 dX8_town_26 (by decide) (by omega) (by omega) (fun c_26 => ?_) (fun c_26 => ?_)
      · skip
        refine z_aload_n ZC 0 dX8_town_31 rfl rfl ?_
        refine z_get ZC inUX8 0 rfl rfl 1 (by decide) uF_X8_9 rfl dX8_town_32 ?_
        refine z_aload_n ZC 0 dX8_town_35 rfl rfl ?_
        refine z_get ZC inUX8 0 rfl rfl 0 (by decide) uF_X8_111 rfl dX8_town_36 ?_
        refine z_iload_n ZC 1 dX8_town_39 rfl rfl ?_
        refine z_iast ZC 1 rfl dX8_town_40 (by omega) ?_
        refine z_aload_n ZC 0 dX8_town_41 rfl rfl ?_
        refine z_get ZC inUX8 0 rfl rfl 31 (by decide) uF_X8_90 rfl dX8_town_42 ?_
        refine z_aload_n ZC 0 dX8_town_45 rfl rfl ?_
        refine z_get ZC inUX8 0 rfl rfl 0 (by decide) uF_X8_111 rfl dX8_town_46 ?_
        refine z_iload_n ZC 2 dX8_town_49 rfl rfl ?_
        refine z_iast ZC 26 rfl dX8_town_50 (by omega) ?_
        refine z_aload_n ZC 0 dX8_town_51 rfl rfl ?_
        refine z_dup ZC dX8_town_52 rfl ?_
        refine z_get ZC inUX8 0 rfl rfl 0 (by decide) uF_X8_111 rfl dX8_town_53 ?_
        refine z_iconst ZC dX8_town_56 ?_
        refine z_iadd ZC dX8_town_57 ?_
        refine z_put ZC inUX8 tyX8_ok nmX8 0 rfl rfl 0 (by decide) uF_X8_111 rfl (rfl) (rfl) (Nat.le_of_ble_eq_true rfl) dX8_town_58 ?_
        refine z_ws (ws2 := [(h, .inr (8, [vZ ((M.2 0) + 1), .ref (a 1), .ref (a 2), vZ (M.2 3), vZ (M.2 4), .ref (a 5), .ref (a 6), .ref (a 7), .ref (a 8), .ref (a 9), .ref (a 10), .ref (a 11), vZ (M.2 12), .ref (a 13), .ref (a 14), .ref (a 15), .ref (a 16), .ref (a 17), .ref (a 18), .ref (a 19), vZ (M.2 20), vZ (M.2 21), .ref (a 22), .ref (a 23), .ref (a 24), .ref (a 25), .ref (a 26), .ref (a 27), .ref (a 28), .ref (a 29), .ref (a 30), .ref (a 31), .ref (a 32), .ref (a 33), vZ (M.2 34), .ref (a 35), vZ (M.2 36), vZ (M.2 37), vZ (M.2 38), .ref (a 39), .ref (a 40), vZ (M.2 41), vZ (M.2 42), vZ (M.2 43)])), ((a 1), .inl (K.1, 10, .inl (ar (upz (M.1 1) (M.2 0) far)))), ((a 2), .inl (K.1, 10, .inl (ar (M.1 2)))), ((a 5), .inl (K.1, 16, .inl (ar (M.1 5)))), ((a 6), .inl (K.1, 16, .inl (ar (M.1 6)))), ((a 7), .inl (K.1, 16, .inl (ar (M.1 7)))), ((a 8), .inl (K.1, 16, .inl (ar (M.1 8)))), ((a 9), .inl (K.1, 16, .inl (ar (M.1 9)))), ((a 10), .inl (K.1, 16, .inl (ar (M.1 10)))), ((a 11), .inl (K.1, 100, .inl (ar (M.1 11)))), ((a 13), .inl (K.1, 8, .inl (ar (M.1 13)))), ((a 14), .inl (K.1, 8, .inl (ar (M.1 14)))), ((a 15), .inl (K.1, 8, .inl (ar (M.1 15)))), ((a 16), .inl (K.1, 8, .inl (ar (M.1 16)))), ((a 17), .inl (K.1, 3200, .inl (ar (M.1 17)))), ((a 18), .inl (K.1, 3200, .inl (ar (M.1 18)))), ((a 19), .inl (K.2.1, 3200, .inl (ar (M.1 19)))), ((a 22), .inl (K.1, 3400, .inl (ar (M.1 22)))), ((a 23), .inl (K.1, 3400, .inl (ar (M.1 23)))), ((a 24), .inl (K.1, 3400, .inl (ar (M.1 24)))), ((a 25), .inl (K.1, 3400, .inl (ar (M.1 25)))), ((a 26), .inl (K.1, 32, .inl (ar (M.1 26)))), ((a 27), .inl (K.1, 32, .inl (ar (M.1 27)))), ((a 28), .inl (K.2.1, 8, .inl (ar (M.1 28)))), ((a 29), .inl (K.1, 8, .inl (ar (M.1 29)))), ((a 30), .inl (K.1, 8, .inl (ar (M.1 30)))), ((a 31), .inl (K.1, 10, .inl (ar (upz (M.1 31) (M.2 0) wat)))), ((a 32), .inl (K.1, 10, .inl (ar (M.1 32)))), ((a 33), .inl (K.1, 10, .inl (ar (M.1 33)))), ((a 35), .inl (K.1, 13711, .inl (ar (M.1 35)))), ((a 39), .inl (K.1, 4, .inl (ar (M.1 39)))), ((a 40), .inl (K.1, 4, .inl (ar (M.1 40))))]) rfl ?_
        refine z_aload_n ZC 0 dX8_town_61 rfl rfl ?_
        refine z_get ZC inUX8 0 rfl rfl 0 (by decide) uF_X8_111 rfl dX8_town_62 ?_
        refine z_iconst ZC dX8_town_65 ?_
        refine z_isub ZC dX8_town_66 ?_
        refine z_iret ZC ZE dX8_town_67 (by omega) (by omega) (Nat.le_of_ble_eq_true rfl) ⟨((upf (upf M.1 1 (upz (M.1 1) (M.2 0) far)) 31 (upz (M.1 31) (M.2 0) wat)), (upf M.2 0 ((M.2 0) + 1))), (((M.2 0) + 1) - 1), rfl, rfl, by omega, by omega, ?_⟩
        · skip
          first | (left; exact ⟨by omega, by omega, rfl⟩) | (right; exact ⟨by omega, by omega, rfl⟩)
      · skip
        refine z_iconst ZC dX8_town_29 ?_
        refine z_iret ZC ZE dX8_town_30 (by omega) (by omega) (Nat.le_of_ble_eq_true rfl) ⟨M, (-1), rfl, rfl, by omega, by omega, ?_⟩
        · skip
          first | (left; exact ⟨by omega, by omega, rfl⟩) | (right; exact ⟨by omega, by omega, rfl⟩)

set_option maxHeartbeats 4000000 in
set_option maxRecDepth 100000 in
theorem c_X8_path (zl : Launch) (D : va_G) (K : tyK) (h : Nat) (a : Nat → Nat) (M : Bd) (w : Int) (hz_w : -2147483648 ≤ w ∧ w < 2147483648) : Mz zl yX8_path cX8_path 2 (some .boolean) 1 22 0 0 D K [.ref h, vZ w] (wMo K h a M) (fun r_ w2_ gc gs => ∃ (M2 : Bd), ∃ (v : Int), r_ = some (vZ v) ∧ w2_ = (wMo K h a M2) ∧ gc = 0 ∧ gs = 0 ∧ (((1 ≤ w ∧ w ≤ 100) ∧ v = 1 ∧ M2 = (M.1, (upf M.2 3 w))) ∨ (¬ (1 ≤ w ∧ w ≤ 100) ∧ v = 0 ∧ M2 = M))) := by
  refine Mz.ofZ (by decide) rfl (Nat.le_of_ble_eq_true rfl) ?_
  intro zp ze zR zs zm zargs zbelow zmeth zc zA zQ ZC ZE hRf hRc hRs hRl
  refine z_iload_n ZC 1 dX8_path_0 rfl rfl ?_
  refine z_iconst ZC dX8_path_1 ?_
  refine z_bipush ZC dX8_path_2 (by decide) ?_
  refine z_callS ZC 3 (c_X8_in zl D K w 1 100 (by omega) (by omega) (by omega)) (gdS uM_X8_114 uZ_X8_in uN_X8 uC_X8_in) (by decide +kernel) rfl ⟨by omega, by omega⟩ ⟨by omega, by omega⟩ (Nat.le_of_ble_eq_true rfl) [] rfl (by decide) rfl dX8_path_4 (fun r w2 gc_4 gs_4 hp => ?_)
  obtain ⟨b_4, rfl, rfl, rfl, rfl, hb_4⟩ := hp
  refine z_st (st2 := [vZ b_4]) rfl ?_
  refine z_if_ne ZC 12 dX8_path_7 (by decide) (by omega) (fun c_7 => ?_) (fun c_7 => ?_)
  · skip
    refine z_aload_n ZC 0 dX8_path_12 rfl rfl ?_
    refine z_iload_n ZC 1 dX8_path_13 rfl rfl ?_
    refine z_put ZC inUX8 tyX8_ok nmX8 0 rfl rfl 3 (by decide) uF_X8_16 rfl (rfl) (rfl) (Nat.le_of_ble_eq_true rfl) dX8_path_14 ?_
    refine z_iconst ZC dX8_path_17 ?_
    refine z_zret ZC ZE dX8_path_18 (by omega) (by omega) (by omega) (Nat.le_of_ble_eq_true rfl) ⟨(M.1, (upf M.2 3 w)), 1, rfl, rfl, by omega, by omega, ?_⟩
    · skip
      first | (left; exact ⟨by omega, by omega, rfl⟩) | (right; exact ⟨by omega, by omega, rfl⟩)
  · skip
    refine z_iconst ZC dX8_path_10 ?_
    refine z_zret ZC ZE dX8_path_11 (by omega) (by omega) (by omega) (Nat.le_of_ble_eq_true rfl) ⟨M, 0, rfl, rfl, by omega, by omega, ?_⟩
    · skip
      first | (left; exact ⟨by omega, by omega, rfl⟩) | (right; exact ⟨by omega, by omega, rfl⟩)

set_option maxHeartbeats 4000000 in
set_option maxRecDepth 100000 in
theorem c_X8_seconds (zl : Launch) (D : va_G) (K : tyK) (h : Nat) (a : Nat → Nat) (M : Bd) (t : Int) (hz_t : -2147483648 ≤ t ∧ t < 2147483648) (ht8 : 0 ≤ M.2 0 ∧ M.2 0 ≤ 10) (hw8 : (1 ≤ M.2 3 ∧ M.2 3 ≤ 100) ∧ ∀ t : Int, 0 ≤ t → t < M.2 0 → 0 ≤ M.1 1 t ∧ M.1 1 t ≤ 99) : Mz zl yX8_seconds cX8_seconds 4 (some .int) 2 43 0 0 D K [.ref h, vZ t] (wMo K h a M) (fun r_ w2_ gc gs => ∃ (v : Int), r_ = some (vZ v) ∧ w2_ = (wMo K h a M) ∧ gc = 0 ∧ gs = 0 ∧ (((0 ≤ t ∧ t < M.2 0) ∧ v = drk (M.2 3) (M.1 1 t) ∧ True) ∨ (¬ (0 ≤ t ∧ t < M.2 0) ∧ v = -1 ∧ True))) := by
  refine Mz.ofZ (by decide) rfl (Nat.le_of_ble_eq_true rfl) ?_
  intro zp ze zR zs zm zargs zbelow zmeth zc zA zQ ZC ZE hRf hRc hRs hRl
  refine z_aload_n ZC 0 dX8_seconds_0 rfl rfl ?_
  refine z_iload_n ZC 1 dX8_seconds_1 rfl rfl ?_
  refine z_callV ZC 1 (c_X8_isTown zl D K h a M t (by omega) (by omega)) (gdV uM_X8_125 uI_X8_isTown uS_X8_isTown uN_X8 uC_X8_isTown) (by decide +kernel) rfl ⟨by omega, by omega⟩ ⟨by omega, by omega⟩ (Nat.le_of_ble_eq_true rfl) [0, 1, 2, 3, 4, 5, 6, 7, 8, 9, 10, 11, 12, 13, 14, 15, 16, 17, 18, 19, 20, 21, 22, 23, 24, 25, 26, 27, 28, 29, 30, 31] rfl (by decide) rfl rfl rfl rfl dX8_seconds_2 (fun r w2 gc_2 gs_2 hp => ?_)
  obtain ⟨v_2, rfl, rfl, rfl, rfl, hb_2⟩ := hp
  refine z_ws (ws2 := [(h, .inr (8, [vZ (M.2 0), .ref (a 1), .ref (a 2), vZ (M.2 3), vZ (M.2 4), .ref (a 5), .ref (a 6), .ref (a 7), .ref (a 8), .ref (a 9), .ref (a 10), .ref (a 11), vZ (M.2 12), .ref (a 13), .ref (a 14), .ref (a 15), .ref (a 16), .ref (a 17), .ref (a 18), .ref (a 19), vZ (M.2 20), vZ (M.2 21), .ref (a 22), .ref (a 23), .ref (a 24), .ref (a 25), .ref (a 26), .ref (a 27), .ref (a 28), .ref (a 29), .ref (a 30), .ref (a 31), .ref (a 32), .ref (a 33), vZ (M.2 34), .ref (a 35), vZ (M.2 36), vZ (M.2 37), vZ (M.2 38), .ref (a 39), .ref (a 40), vZ (M.2 41), vZ (M.2 42), vZ (M.2 43)])), ((a 1), .inl (K.1, 10, .inl (ar (M.1 1)))), ((a 2), .inl (K.1, 10, .inl (ar (M.1 2)))), ((a 5), .inl (K.1, 16, .inl (ar (M.1 5)))), ((a 6), .inl (K.1, 16, .inl (ar (M.1 6)))), ((a 7), .inl (K.1, 16, .inl (ar (M.1 7)))), ((a 8), .inl (K.1, 16, .inl (ar (M.1 8)))), ((a 9), .inl (K.1, 16, .inl (ar (M.1 9)))), ((a 10), .inl (K.1, 16, .inl (ar (M.1 10)))), ((a 11), .inl (K.1, 100, .inl (ar (M.1 11)))), ((a 13), .inl (K.1, 8, .inl (ar (M.1 13)))), ((a 14), .inl (K.1, 8, .inl (ar (M.1 14)))), ((a 15), .inl (K.1, 8, .inl (ar (M.1 15)))), ((a 16), .inl (K.1, 8, .inl (ar (M.1 16)))), ((a 17), .inl (K.1, 3200, .inl (ar (M.1 17)))), ((a 18), .inl (K.1, 3200, .inl (ar (M.1 18)))), ((a 19), .inl (K.2.1, 3200, .inl (ar (M.1 19)))), ((a 22), .inl (K.1, 3400, .inl (ar (M.1 22)))), ((a 23), .inl (K.1, 3400, .inl (ar (M.1 23)))), ((a 24), .inl (K.1, 3400, .inl (ar (M.1 24)))), ((a 25), .inl (K.1, 3400, .inl (ar (M.1 25)))), ((a 26), .inl (K.1, 32, .inl (ar (M.1 26)))), ((a 27), .inl (K.1, 32, .inl (ar (M.1 27)))), ((a 28), .inl (K.2.1, 8, .inl (ar (M.1 28)))), ((a 29), .inl (K.1, 8, .inl (ar (M.1 29)))), ((a 30), .inl (K.1, 8, .inl (ar (M.1 30)))), ((a 31), .inl (K.1, 10, .inl (ar (M.1 31)))), ((a 32), .inl (K.1, 10, .inl (ar (M.1 32)))), ((a 33), .inl (K.1, 10, .inl (ar (M.1 33)))), ((a 35), .inl (K.1, 13711, .inl (ar (M.1 35)))), ((a 39), .inl (K.1, 4, .inl (ar (M.1 39)))), ((a 40), .inl (K.1, 4, .inl (ar (M.1 40))))]) rfl ?_
  refine z_st (st2 := [vZ v_2]) rfl ?_
  refine z_if_ne ZC 10 dX8_seconds_5 (by decide) (by omega) (fun c_5 => ?_) (fun c_5 => ?_)
  · skip
    have hf8 := hw8.2 t (by omega) (by omega)
    have hb1 := sq_le (i := M.1 1 t) (k := 99) (by omega) (by omega)
    have hb2 := sq_le (i := M.2 3) (k := 100) (by omega) (by omega)
    have hb3 := sq_nn (M.1 1 t)
    have hb4 := sq_nn (M.2 3)
    refine z_aload_n ZC 0 dX8_seconds_10 rfl rfl ?_
    refine z_get ZC inUX8 0 rfl rfl 3 (by decide) uF_X8_16 rfl dX8_seconds_11 ?_
    refine z_aload_n ZC 0 dX8_seconds_14 rfl rfl ?_
    refine z_get ZC inUX8 0 rfl rfl 3 (by decide) uF_X8_16 rfl dX8_seconds_15 ?_
    refine z_imul ZC dX8_seconds_18 ?_
    refine z_aload_n ZC 0 dX8_seconds_19 rfl rfl ?_
    refine z_get ZC inUX8 0 rfl rfl 1 (by decide) uF_X8_9 rfl dX8_seconds_20 ?_
    refine z_iload_n ZC 1 dX8_seconds_23 rfl rfl ?_
    refine z_iald ZC 1 rfl dX8_seconds_24 (by omega) ?_
    refine z_aload_n ZC 0 dX8_seconds_25 rfl rfl ?_
    refine z_get ZC inUX8 0 rfl rfl 1 (by decide) uF_X8_9 rfl dX8_seconds_26 ?_
    refine z_iload_n ZC 1 dX8_seconds_29 rfl rfl ?_
    refine z_iald ZC 1 rfl dX8_seconds_30 (by omega) ?_
    refine z_imul ZC dX8_seconds_31 ?_
    refine z_isub ZC dX8_seconds_32 ?_
    refine z_nm (fun vv evv => ?_)
    refine z_istore_n ZC 2 dX8_seconds_33 rfl (by decide) ?_
    refine z_iconst ZC dX8_seconds_34 ?_
    refine z_istore_n ZC 3 dX8_seconds_35 rfl (by decide) ?_
    have lp_36 : ∀ (n_36 : Nat) (n : Int), (0 ≤ n ∧ n ≤ 100) → (n = 0 ∨ n * n ≤ vv) → ((101 - n).toNat) < n_36 → Zw zp zl ze zR zs zm zargs zbelow zmeth zc D zA 4 zQ (0 + 0) (0 + 0) ([(h, .inr (8, [vZ (M.2 0), .ref (a 1), .ref (a 2), vZ (M.2 3), vZ (M.2 4), .ref (a 5), .ref (a 6), .ref (a 7), .ref (a 8), .ref (a 9), .ref (a 10), .ref (a 11), vZ (M.2 12), .ref (a 13), .ref (a 14), .ref (a 15), .ref (a 16), .ref (a 17), .ref (a 18), .ref (a 19), vZ (M.2 20), vZ (M.2 21), .ref (a 22), .ref (a 23), .ref (a 24), .ref (a 25), .ref (a 26), .ref (a 27), .ref (a 28), .ref (a 29), .ref (a 30), .ref (a 31), .ref (a 32), .ref (a 33), vZ (M.2 34), .ref (a 35), vZ (M.2 36), vZ (M.2 37), vZ (M.2 38), .ref (a 39), .ref (a 40), vZ (M.2 41), vZ (M.2 42), vZ (M.2 43)])), ((a 1), .inl (K.1, 10, .inl (ar (M.1 1)))), ((a 2), .inl (K.1, 10, .inl (ar (M.1 2)))), ((a 5), .inl (K.1, 16, .inl (ar (M.1 5)))), ((a 6), .inl (K.1, 16, .inl (ar (M.1 6)))), ((a 7), .inl (K.1, 16, .inl (ar (M.1 7)))), ((a 8), .inl (K.1, 16, .inl (ar (M.1 8)))), ((a 9), .inl (K.1, 16, .inl (ar (M.1 9)))), ((a 10), .inl (K.1, 16, .inl (ar (M.1 10)))), ((a 11), .inl (K.1, 100, .inl (ar (M.1 11)))), ((a 13), .inl (K.1, 8, .inl (ar (M.1 13)))), ((a 14), .inl (K.1, 8, .inl (ar (M.1 14)))), ((a 15), .inl (K.1, 8, .inl (ar (M.1 15)))), ((a 16), .inl (K.1, 8, .inl (ar (M.1 16)))), ((a 17), .inl (K.1, 3200, .inl (ar (M.1 17)))), ((a 18), .inl (K.1, 3200, .inl (ar (M.1 18)))), ((a 19), .inl (K.2.1, 3200, .inl (ar (M.1 19)))), ((a 22), .inl (K.1, 3400, .inl (ar (M.1 22)))), ((a 23), .inl (K.1, 3400, .inl (ar (M.1 23)))), ((a 24), .inl (K.1, 3400, .inl (ar (M.1 24)))), ((a 25), .inl (K.1, 3400, .inl (ar (M.1 25)))), ((a 26), .inl (K.1, 32, .inl (ar (M.1 26)))), ((a 27), .inl (K.1, 32, .inl (ar (M.1 27)))), ((a 28), .inl (K.2.1, 8, .inl (ar (M.1 28)))), ((a 29), .inl (K.1, 8, .inl (ar (M.1 29)))), ((a 30), .inl (K.1, 8, .inl (ar (M.1 30)))), ((a 31), .inl (K.1, 10, .inl (ar (M.1 31)))), ((a 32), .inl (K.1, 10, .inl (ar (M.1 32)))), ((a 33), .inl (K.1, 10, .inl (ar (M.1 33)))), ((a 35), .inl (K.1, 13711, .inl (ar (M.1 35)))), ((a 39), .inl (K.1, 4, .inl (ar (M.1 39)))), ((a 40), .inl (K.1, 4, .inl (ar (M.1 40))))]) 36 [(0, .ref h), (1, vZ t), (2, vZ vv), (3, vZ n)] [] := by
      intro n_36
      induction n_36 with
      | zero => intro n hn hsq hm_36; exact absurd hm_36 (Nat.not_lt_zero _)
      | succ n_36 ih_36 =>
        intro n hn hsq hm_36
        refine z_iload_n ZC 2 dX8_seconds_36 rfl rfl ?_
        refine z_if_le ZC 57 dX8_seconds_37 (by decide) (by omega) (fun c_37 => ?_) (fun c_37 => ?_)
        · skip
          refine z_iconst ZC dX8_seconds_57 ?_
          refine z_iload_n ZC 3 dX8_seconds_58 rfl rfl ?_
          refine z_imul ZC dX8_seconds_59 ?_
          refine z_iret ZC ZE dX8_seconds_60 (by omega) (by omega) (Nat.le_of_ble_eq_true rfl) ⟨(3 * n), rfl, rfl, by omega, by omega, ?_⟩
          · skip
            left
            refine ⟨by omega, ?_, trivial⟩
            unfold drk
            obtain ⟨k, rfl⟩ : ∃ k : Nat, n = (k : Int) := ⟨n.toNat, by omega⟩
            rw [← evv, isq_is (n := k) ?_ ?_ (by omega)]
            · rcases hsq with q | q
              · left; omega
              · exact Or.inr q
            · have hk1 := sq_le (i := 1) (k := (k : Int) + 1) (by omega) (by omega)
              omega
        · skip
          have hb5 := sq_le (i := n + 1) (k := 101) (by omega) (by omega)
          have hb6 := sq_nn (n + 1)
          refine z_iload_n ZC 3 dX8_seconds_40 rfl rfl ?_
          refine z_iconst ZC dX8_seconds_41 ?_
          refine z_iadd ZC dX8_seconds_42 ?_
          refine z_iload_n ZC 3 dX8_seconds_43 rfl rfl ?_
          refine z_iconst ZC dX8_seconds_44 ?_
          refine z_iadd ZC dX8_seconds_45 ?_
          refine z_imul ZC dX8_seconds_46 ?_
          refine z_iload_n ZC 2 dX8_seconds_47 rfl rfl ?_
          refine z_icmp_gt ZC 57 dX8_seconds_48 (by decide) (by omega) (by omega) (fun c_48 => ?_) (fun c_48 => ?_)
          · skip
            refine z_iconst ZC dX8_seconds_57 ?_
            refine z_iload_n ZC 3 dX8_seconds_58 rfl rfl ?_
            refine z_imul ZC dX8_seconds_59 ?_
            refine z_iret ZC ZE dX8_seconds_60 (by omega) (by omega) (Nat.le_of_ble_eq_true rfl) ⟨(3 * n), rfl, rfl, by omega, by omega, ?_⟩
            · skip
              left
              refine ⟨by omega, ?_, trivial⟩
              unfold drk
              obtain ⟨k, rfl⟩ : ∃ k : Nat, n = (k : Int) := ⟨n.toNat, by omega⟩
              rw [← evv, isq_is (n := k) ?_ ?_ (by omega)]
              · rcases hsq with q | q
                · left; omega
                · exact Or.inr q
              · have hk1 := sq_le (i := 1) (k := (k : Int) + 1) (by omega) (by omega)
                omega
          · skip
            have hn100 : n < 100 := by
              apply Classical.byContradiction
              intro q
              have hq := sq_le (i := 101) (k := n + 1) (by omega) (by omega)
              omega
            refine z_iinc ZC dX8_seconds_51 rfl (by decide) ?_
            refine z_goto ZC 36 dX8_seconds_54 (by decide) ?_
            refine z_ws (ws2 := [(h, .inr (8, [vZ (M.2 0), .ref (a 1), .ref (a 2), vZ (M.2 3), vZ (M.2 4), .ref (a 5), .ref (a 6), .ref (a 7), .ref (a 8), .ref (a 9), .ref (a 10), .ref (a 11), vZ (M.2 12), .ref (a 13), .ref (a 14), .ref (a 15), .ref (a 16), .ref (a 17), .ref (a 18), .ref (a 19), vZ (M.2 20), vZ (M.2 21), .ref (a 22), .ref (a 23), .ref (a 24), .ref (a 25), .ref (a 26), .ref (a 27), .ref (a 28), .ref (a 29), .ref (a 30), .ref (a 31), .ref (a 32), .ref (a 33), vZ (M.2 34), .ref (a 35), vZ (M.2 36), vZ (M.2 37), vZ (M.2 38), .ref (a 39), .ref (a 40), vZ (M.2 41), vZ (M.2 42), vZ (M.2 43)])), ((a 1), .inl (K.1, 10, .inl (ar (M.1 1)))), ((a 2), .inl (K.1, 10, .inl (ar (M.1 2)))), ((a 5), .inl (K.1, 16, .inl (ar (M.1 5)))), ((a 6), .inl (K.1, 16, .inl (ar (M.1 6)))), ((a 7), .inl (K.1, 16, .inl (ar (M.1 7)))), ((a 8), .inl (K.1, 16, .inl (ar (M.1 8)))), ((a 9), .inl (K.1, 16, .inl (ar (M.1 9)))), ((a 10), .inl (K.1, 16, .inl (ar (M.1 10)))), ((a 11), .inl (K.1, 100, .inl (ar (M.1 11)))), ((a 13), .inl (K.1, 8, .inl (ar (M.1 13)))), ((a 14), .inl (K.1, 8, .inl (ar (M.1 14)))), ((a 15), .inl (K.1, 8, .inl (ar (M.1 15)))), ((a 16), .inl (K.1, 8, .inl (ar (M.1 16)))), ((a 17), .inl (K.1, 3200, .inl (ar (M.1 17)))), ((a 18), .inl (K.1, 3200, .inl (ar (M.1 18)))), ((a 19), .inl (K.2.1, 3200, .inl (ar (M.1 19)))), ((a 22), .inl (K.1, 3400, .inl (ar (M.1 22)))), ((a 23), .inl (K.1, 3400, .inl (ar (M.1 23)))), ((a 24), .inl (K.1, 3400, .inl (ar (M.1 24)))), ((a 25), .inl (K.1, 3400, .inl (ar (M.1 25)))), ((a 26), .inl (K.1, 32, .inl (ar (M.1 26)))), ((a 27), .inl (K.1, 32, .inl (ar (M.1 27)))), ((a 28), .inl (K.2.1, 8, .inl (ar (M.1 28)))), ((a 29), .inl (K.1, 8, .inl (ar (M.1 29)))), ((a 30), .inl (K.1, 8, .inl (ar (M.1 30)))), ((a 31), .inl (K.1, 10, .inl (ar (M.1 31)))), ((a 32), .inl (K.1, 10, .inl (ar (M.1 32)))), ((a 33), .inl (K.1, 10, .inl (ar (M.1 33)))), ((a 35), .inl (K.1, 13711, .inl (ar (M.1 35)))), ((a 39), .inl (K.1, 4, .inl (ar (M.1 39)))), ((a 40), .inl (K.1, 4, .inl (ar (M.1 40))))]) rfl (z_lv (lv2 := [(0, .ref h), (1, vZ t), (2, vZ vv), (3, vZ (n + 1))]) ⟨rfl, rfl, rfl, rfl, trivial⟩ ?_)
            refine ih_36 (n + 1) ?_ ?_ (by omega)
            · skip
              omega
            · skip
              right; exact c_48
    refine z_ws (ws2 := [(h, .inr (8, [vZ (M.2 0), .ref (a 1), .ref (a 2), vZ (M.2 3), vZ (M.2 4), .ref (a 5), .ref (a 6), .ref (a 7), .ref (a 8), .ref (a 9), .ref (a 10), .ref (a 11), vZ (M.2 12), .ref (a 13), .ref (a 14), .ref (a 15), .ref (a 16), .ref (a 17), .ref (a 18), .ref (a 19), vZ (M.2 20), vZ (M.2 21), .ref (a 22), .ref (a 23), .ref (a 24), .ref (a 25), .ref (a 26), .ref (a 27), .ref (a 28), .ref (a 29), .ref (a 30), .ref (a 31), .ref (a 32), .ref (a 33), vZ (M.2 34), .ref (a 35), vZ (M.2 36), vZ (M.2 37), vZ (M.2 38), .ref (a 39), .ref (a 40), vZ (M.2 41), vZ (M.2 42), vZ (M.2 43)])), ((a 1), .inl (K.1, 10, .inl (ar (M.1 1)))), ((a 2), .inl (K.1, 10, .inl (ar (M.1 2)))), ((a 5), .inl (K.1, 16, .inl (ar (M.1 5)))), ((a 6), .inl (K.1, 16, .inl (ar (M.1 6)))), ((a 7), .inl (K.1, 16, .inl (ar (M.1 7)))), ((a 8), .inl (K.1, 16, .inl (ar (M.1 8)))), ((a 9), .inl (K.1, 16, .inl (ar (M.1 9)))), ((a 10), .inl (K.1, 16, .inl (ar (M.1 10)))), ((a 11), .inl (K.1, 100, .inl (ar (M.1 11)))), ((a 13), .inl (K.1, 8, .inl (ar (M.1 13)))), ((a 14), .inl (K.1, 8, .inl (ar (M.1 14)))), ((a 15), .inl (K.1, 8, .inl (ar (M.1 15)))), ((a 16), .inl (K.1, 8, .inl (ar (M.1 16)))), ((a 17), .inl (K.1, 3200, .inl (ar (M.1 17)))), ((a 18), .inl (K.1, 3200, .inl (ar (M.1 18)))), ((a 19), .inl (K.2.1, 3200, .inl (ar (M.1 19)))), ((a 22), .inl (K.1, 3400, .inl (ar (M.1 22)))), ((a 23), .inl (K.1, 3400, .inl (ar (M.1 23)))), ((a 24), .inl (K.1, 3400, .inl (ar (M.1 24)))), ((a 25), .inl (K.1, 3400, .inl (ar (M.1 25)))), ((a 26), .inl (K.1, 32, .inl (ar (M.1 26)))), ((a 27), .inl (K.1, 32, .inl (ar (M.1 27)))), ((a 28), .inl (K.2.1, 8, .inl (ar (M.1 28)))), ((a 29), .inl (K.1, 8, .inl (ar (M.1 29)))), ((a 30), .inl (K.1, 8, .inl (ar (M.1 30)))), ((a 31), .inl (K.1, 10, .inl (ar (M.1 31)))), ((a 32), .inl (K.1, 10, .inl (ar (M.1 32)))), ((a 33), .inl (K.1, 10, .inl (ar (M.1 33)))), ((a 35), .inl (K.1, 13711, .inl (ar (M.1 35)))), ((a 39), .inl (K.1, 4, .inl (ar (M.1 39)))), ((a 40), .inl (K.1, 4, .inl (ar (M.1 40))))]) rfl (z_lv (lv2 := [(0, .ref h), (1, vZ t), (2, vZ vv), (3, vZ 0)]) ⟨rfl, rfl, rfl, rfl, trivial⟩ ?_)
    refine lp_36 _ 0 ?_ ?_ (Nat.lt_succ_self _)
    · skip
      omega
    · skip
      left; rfl
  · skip
    refine z_iconst ZC dX8_seconds_8 ?_
    refine z_iret ZC ZE dX8_seconds_9 (by omega) (by omega) (Nat.le_of_ble_eq_true rfl) ⟨(-1), rfl, rfl, by omega, by omega, ?_⟩
    · skip
      right; exact ⟨by omega, rfl, trivial⟩

set_option maxHeartbeats 4000000 in
set_option maxRecDepth 100000 in
theorem c_X8_clouds (zl : Launch) (D : va_G) (K : tyK) (h : Nat) (a : Nat → Nat) (M : Bd) (t : Int) (pa : Int) (hz_t : -2147483648 ≤ t ∧ t < 2147483648) (hz_pa : -2147483648 ≤ pa ∧ pa < 2147483648) (ht8 : 0 ≤ M.2 0 ∧ M.2 0 ≤ 10) : Mz zl yX8_clouds cX8_clouds 3 (some .boolean) 2 43 0 0 D K [.ref h, vZ t, vZ pa] (wMo K h a M) (fun r_ w2_ gc gs => ∃ (M2 : Bd), ∃ (v : Int), r_ = some (vZ v) ∧ w2_ = (wMo K h a M2) ∧ gc = 0 ∧ gs = 0 ∧ ((((0 ≤ t ∧ t < M.2 0) ∧ (0 ≤ pa ∧ pa ≤ 100)) ∧ v = 1 ∧ M2 = ((upf M.1 2 (upz (M.1 2) t pa)), M.2)) ∨ (¬ ((0 ≤ t ∧ t < M.2 0) ∧ (0 ≤ pa ∧ pa ≤ 100)) ∧ v = 0 ∧ M2 = M))) := by
  refine Mz.ofZ (by decide) rfl (Nat.le_of_ble_eq_true rfl) ?_
  intro zp ze zR zs zm zargs zbelow zmeth zc zA zQ ZC ZE hRf hRc hRs hRl
  refine z_aload_n ZC 0 dX8_clouds_0 rfl rfl ?_
  refine z_iload_n ZC 1 dX8_clouds_1 rfl rfl ?_
  refine z_callV ZC 1 (c_X8_isTown zl D K h a M t (by omega) (by omega)) (gdV uM_X8_125 uI_X8_isTown uS_X8_isTown uN_X8 uC_X8_isTown) (by decide +kernel) rfl ⟨by omega, by omega⟩ ⟨by omega, by omega⟩ (Nat.le_of_ble_eq_true rfl) [0, 1, 2, 3, 4, 5, 6, 7, 8, 9, 10, 11, 12, 13, 14, 15, 16, 17, 18, 19, 20, 21, 22, 23, 24, 25, 26, 27, 28, 29, 30, 31] rfl (by decide) rfl rfl rfl rfl dX8_clouds_2 (fun r w2 gc_2 gs_2 hp => ?_)
  obtain ⟨v_2, rfl, rfl, rfl, rfl, hb_2⟩ := hp
  refine z_ws (ws2 := [(h, .inr (8, [vZ (M.2 0), .ref (a 1), .ref (a 2), vZ (M.2 3), vZ (M.2 4), .ref (a 5), .ref (a 6), .ref (a 7), .ref (a 8), .ref (a 9), .ref (a 10), .ref (a 11), vZ (M.2 12), .ref (a 13), .ref (a 14), .ref (a 15), .ref (a 16), .ref (a 17), .ref (a 18), .ref (a 19), vZ (M.2 20), vZ (M.2 21), .ref (a 22), .ref (a 23), .ref (a 24), .ref (a 25), .ref (a 26), .ref (a 27), .ref (a 28), .ref (a 29), .ref (a 30), .ref (a 31), .ref (a 32), .ref (a 33), vZ (M.2 34), .ref (a 35), vZ (M.2 36), vZ (M.2 37), vZ (M.2 38), .ref (a 39), .ref (a 40), vZ (M.2 41), vZ (M.2 42), vZ (M.2 43)])), ((a 1), .inl (K.1, 10, .inl (ar (M.1 1)))), ((a 2), .inl (K.1, 10, .inl (ar (M.1 2)))), ((a 5), .inl (K.1, 16, .inl (ar (M.1 5)))), ((a 6), .inl (K.1, 16, .inl (ar (M.1 6)))), ((a 7), .inl (K.1, 16, .inl (ar (M.1 7)))), ((a 8), .inl (K.1, 16, .inl (ar (M.1 8)))), ((a 9), .inl (K.1, 16, .inl (ar (M.1 9)))), ((a 10), .inl (K.1, 16, .inl (ar (M.1 10)))), ((a 11), .inl (K.1, 100, .inl (ar (M.1 11)))), ((a 13), .inl (K.1, 8, .inl (ar (M.1 13)))), ((a 14), .inl (K.1, 8, .inl (ar (M.1 14)))), ((a 15), .inl (K.1, 8, .inl (ar (M.1 15)))), ((a 16), .inl (K.1, 8, .inl (ar (M.1 16)))), ((a 17), .inl (K.1, 3200, .inl (ar (M.1 17)))), ((a 18), .inl (K.1, 3200, .inl (ar (M.1 18)))), ((a 19), .inl (K.2.1, 3200, .inl (ar (M.1 19)))), ((a 22), .inl (K.1, 3400, .inl (ar (M.1 22)))), ((a 23), .inl (K.1, 3400, .inl (ar (M.1 23)))), ((a 24), .inl (K.1, 3400, .inl (ar (M.1 24)))), ((a 25), .inl (K.1, 3400, .inl (ar (M.1 25)))), ((a 26), .inl (K.1, 32, .inl (ar (M.1 26)))), ((a 27), .inl (K.1, 32, .inl (ar (M.1 27)))), ((a 28), .inl (K.2.1, 8, .inl (ar (M.1 28)))), ((a 29), .inl (K.1, 8, .inl (ar (M.1 29)))), ((a 30), .inl (K.1, 8, .inl (ar (M.1 30)))), ((a 31), .inl (K.1, 10, .inl (ar (M.1 31)))), ((a 32), .inl (K.1, 10, .inl (ar (M.1 32)))), ((a 33), .inl (K.1, 10, .inl (ar (M.1 33)))), ((a 35), .inl (K.1, 13711, .inl (ar (M.1 35)))), ((a 39), .inl (K.1, 4, .inl (ar (M.1 39)))), ((a 40), .inl (K.1, 4, .inl (ar (M.1 40))))]) rfl ?_
  refine z_st (st2 := [vZ v_2]) rfl ?_
  refine z_if_eq ZC 18 dX8_clouds_5 (by decide) (by omega) (fun c_5 => ?_) (fun c_5 => ?_)
  · skip
    refine z_iconst ZC dX8_clouds_18 ?_
    refine z_zret ZC ZE dX8_clouds_19 (by omega) (by omega) (by omega) (Nat.le_of_ble_eq_true rfl) ⟨M, 0, rfl, rfl, by omega, by omega, ?_⟩
    · skip
      first | (left; exact ⟨by omega, by omega, rfl⟩) | (right; exact ⟨by omega, by omega, rfl⟩)
  · skip
    refine z_iload_n ZC 2 dX8_clouds_8 rfl rfl ?_
    refine z_iconst ZC dX8_clouds_9 ?_
    refine z_bipush ZC dX8_clouds_10 (by decide) ?_
    refine z_callS ZC 3 (c_X8_in zl D K pa 0 100 (by omega) (by omega) (by omega)) (gdS uM_X8_114 uZ_X8_in uN_X8 uC_X8_in) (by decide +kernel) rfl ⟨by omega, by omega⟩ ⟨by omega, by omega⟩ (Nat.le_of_ble_eq_true rfl) [] rfl (by decide) rfl dX8_clouds_12 (fun r w2 gc_12 gs_12 hp => ?_)
    obtain ⟨b_12, rfl, rfl, rfl, rfl, hb_12⟩ := hp
    refine z_st (st2 := [vZ b_12]) rfl ?_
    refine z_if_ne ZC 20 dX8_clouds_15 (by decide) (by omega) (fun c_15 => ?_) (fun c_15 => ?_)
    · skip
      refine z_aload_n ZC 0 dX8_clouds_20 rfl rfl ?_
      refine z_get ZC inUX8 0 rfl rfl 2 (by decide) uF_X8_13 rfl dX8_clouds_21 ?_
      refine z_iload_n ZC 1 dX8_clouds_24 rfl rfl ?_
      refine z_iload_n ZC 2 dX8_clouds_25 rfl rfl ?_
      refine z_iast ZC 2 rfl dX8_clouds_26 (by omega) ?_
      refine z_iconst ZC dX8_clouds_27 ?_
      refine z_zret ZC ZE dX8_clouds_28 (by omega) (by omega) (by omega) (Nat.le_of_ble_eq_true rfl) ⟨((upf M.1 2 (upz (M.1 2) t pa)), M.2), 1, rfl, rfl, by omega, by omega, ?_⟩
      · skip
        first | (left; exact ⟨by omega, by omega, rfl⟩) | (right; exact ⟨by omega, by omega, rfl⟩)
    · skip
      refine z_iconst ZC dX8_clouds_18 ?_
      refine z_zret ZC ZE dX8_clouds_19 (by omega) (by omega) (by omega) (Nat.le_of_ble_eq_true rfl) ⟨M, 0, rfl, rfl, by omega, by omega, ?_⟩
      · skip
        first | (left; exact ⟨by omega, by omega, rfl⟩) | (right; exact ⟨by omega, by omega, rfl⟩)

set_option maxHeartbeats 4000000 in
set_option maxRecDepth 100000 in
theorem c_X8_least (zl : Launch) (D : va_G) (K : tyK) (h : Nat) (a : Nat → Nat) (M : Bd) (s1 : Int) (s2 : Int) (hz_s1 : -2147483648 ≤ s1 ∧ s1 < 2147483648) (hz_s2 : -2147483648 ≤ s2 ∧ s2 < 2147483648) (ht8 : 0 ≤ M.2 0 ∧ M.2 0 ≤ 10) (hl8 : ∀ k : Int, 0 ≤ k → k < 100 → 0 ≤ M.1 11 k ∧ M.1 11 k ≤ 10000) : Mz zl yX8_least cX8_least 4 (some .int) 2 43 0 0 D K [.ref h, vZ s1, vZ s2] (wMo K h a M) (fun r_ w2_ gc gs => ∃ (v : Int), r_ = some (vZ v) ∧ w2_ = (wMo K h a M) ∧ gc = 0 ∧ gs = 0 ∧ ((((0 ≤ s1 ∧ s1 < M.2 0) ∧ (0 ≤ s2 ∧ s2 < M.2 0)) ∧ v = (if M.1 11 (10 * s1 + s2) = 10000 then -1 else M.1 11 (10 * s1 + s2)) ∧ True) ∨ (¬ ((0 ≤ s1 ∧ s1 < M.2 0) ∧ (0 ≤ s2 ∧ s2 < M.2 0)) ∧ v = -1 ∧ True))) := by
  refine Mz.ofZ (by decide) rfl (Nat.le_of_ble_eq_true rfl) ?_
  intro zp ze zR zs zm zargs zbelow zmeth zc zA zQ ZC ZE hRf hRc hRs hRl
  refine z_aload_n ZC 0 dX8_least_0 rfl rfl ?_
  refine z_iload_n ZC 1 dX8_least_1 rfl rfl ?_
  refine z_callV ZC 1 (c_X8_isTown zl D K h a M s1 (by omega) (by omega)) (gdV uM_X8_125 uI_X8_isTown uS_X8_isTown uN_X8 uC_X8_isTown) (by decide +kernel) rfl ⟨by omega, by omega⟩ ⟨by omega, by omega⟩ (Nat.le_of_ble_eq_true rfl) [0, 1, 2, 3, 4, 5, 6, 7, 8, 9, 10, 11, 12, 13, 14, 15, 16, 17, 18, 19, 20, 21, 22, 23, 24, 25, 26, 27, 28, 29, 30, 31] rfl (by decide) rfl rfl rfl rfl dX8_least_2 (fun r w2 gc_2 gs_2 hp => ?_)
  obtain ⟨v_2, rfl, rfl, rfl, rfl, hb_2⟩ := hp
  refine z_ws (ws2 := [(h, .inr (8, [vZ (M.2 0), .ref (a 1), .ref (a 2), vZ (M.2 3), vZ (M.2 4), .ref (a 5), .ref (a 6), .ref (a 7), .ref (a 8), .ref (a 9), .ref (a 10), .ref (a 11), vZ (M.2 12), .ref (a 13), .ref (a 14), .ref (a 15), .ref (a 16), .ref (a 17), .ref (a 18), .ref (a 19), vZ (M.2 20), vZ (M.2 21), .ref (a 22), .ref (a 23), .ref (a 24), .ref (a 25), .ref (a 26), .ref (a 27), .ref (a 28), .ref (a 29), .ref (a 30), .ref (a 31), .ref (a 32), .ref (a 33), vZ (M.2 34), .ref (a 35), vZ (M.2 36), vZ (M.2 37), vZ (M.2 38), .ref (a 39), .ref (a 40), vZ (M.2 41), vZ (M.2 42), vZ (M.2 43)])), ((a 1), .inl (K.1, 10, .inl (ar (M.1 1)))), ((a 2), .inl (K.1, 10, .inl (ar (M.1 2)))), ((a 5), .inl (K.1, 16, .inl (ar (M.1 5)))), ((a 6), .inl (K.1, 16, .inl (ar (M.1 6)))), ((a 7), .inl (K.1, 16, .inl (ar (M.1 7)))), ((a 8), .inl (K.1, 16, .inl (ar (M.1 8)))), ((a 9), .inl (K.1, 16, .inl (ar (M.1 9)))), ((a 10), .inl (K.1, 16, .inl (ar (M.1 10)))), ((a 11), .inl (K.1, 100, .inl (ar (M.1 11)))), ((a 13), .inl (K.1, 8, .inl (ar (M.1 13)))), ((a 14), .inl (K.1, 8, .inl (ar (M.1 14)))), ((a 15), .inl (K.1, 8, .inl (ar (M.1 15)))), ((a 16), .inl (K.1, 8, .inl (ar (M.1 16)))), ((a 17), .inl (K.1, 3200, .inl (ar (M.1 17)))), ((a 18), .inl (K.1, 3200, .inl (ar (M.1 18)))), ((a 19), .inl (K.2.1, 3200, .inl (ar (M.1 19)))), ((a 22), .inl (K.1, 3400, .inl (ar (M.1 22)))), ((a 23), .inl (K.1, 3400, .inl (ar (M.1 23)))), ((a 24), .inl (K.1, 3400, .inl (ar (M.1 24)))), ((a 25), .inl (K.1, 3400, .inl (ar (M.1 25)))), ((a 26), .inl (K.1, 32, .inl (ar (M.1 26)))), ((a 27), .inl (K.1, 32, .inl (ar (M.1 27)))), ((a 28), .inl (K.2.1, 8, .inl (ar (M.1 28)))), ((a 29), .inl (K.1, 8, .inl (ar (M.1 29)))), ((a 30), .inl (K.1, 8, .inl (ar (M.1 30)))), ((a 31), .inl (K.1, 10, .inl (ar (M.1 31)))), ((a 32), .inl (K.1, 10, .inl (ar (M.1 32)))), ((a 33), .inl (K.1, 10, .inl (ar (M.1 33)))), ((a 35), .inl (K.1, 13711, .inl (ar (M.1 35)))), ((a 39), .inl (K.1, 4, .inl (ar (M.1 39)))), ((a 40), .inl (K.1, 4, .inl (ar (M.1 40))))]) rfl ?_
  refine z_st (st2 := [vZ v_2]) rfl ?_
  refine z_if_eq ZC 16 dX8_least_5 (by decide) (by omega) (fun c_5 => ?_) (fun c_5 => ?_)
  · skip
    refine z_iconst ZC dX8_least_16 ?_
    refine z_iret ZC ZE dX8_least_17 (by omega) (by omega) (Nat.le_of_ble_eq_true rfl) ⟨(-1), rfl, rfl, by omega, by omega, ?_⟩
    · skip
      right; exact ⟨by omega, rfl, trivial⟩
  · skip
    refine z_aload_n ZC 0 dX8_least_8 rfl rfl ?_
    refine z_iload_n ZC 2 dX8_least_9 rfl rfl ?_
    refine z_callV ZC 1 (c_X8_isTown zl D K h a M s2 (by omega) (by omega)) (gdV uM_X8_125 uI_X8_isTown uS_X8_isTown uN_X8 uC_X8_isTown) (by decide +kernel) rfl ⟨by omega, by omega⟩ ⟨by omega, by omega⟩ (Nat.le_of_ble_eq_true rfl) [0, 1, 2, 3, 4, 5, 6, 7, 8, 9, 10, 11, 12, 13, 14, 15, 16, 17, 18, 19, 20, 21, 22, 23, 24, 25, 26, 27, 28, 29, 30, 31] rfl (by decide) rfl rfl rfl rfl dX8_least_10 (fun r w2 gc_10 gs_10 hp => ?_)
    obtain ⟨v_10, rfl, rfl, rfl, rfl, hb_10⟩ := hp
    refine z_ws (ws2 := [(h, .inr (8, [vZ (M.2 0), .ref (a 1), .ref (a 2), vZ (M.2 3), vZ (M.2 4), .ref (a 5), .ref (a 6), .ref (a 7), .ref (a 8), .ref (a 9), .ref (a 10), .ref (a 11), vZ (M.2 12), .ref (a 13), .ref (a 14), .ref (a 15), .ref (a 16), .ref (a 17), .ref (a 18), .ref (a 19), vZ (M.2 20), vZ (M.2 21), .ref (a 22), .ref (a 23), .ref (a 24), .ref (a 25), .ref (a 26), .ref (a 27), .ref (a 28), .ref (a 29), .ref (a 30), .ref (a 31), .ref (a 32), .ref (a 33), vZ (M.2 34), .ref (a 35), vZ (M.2 36), vZ (M.2 37), vZ (M.2 38), .ref (a 39), .ref (a 40), vZ (M.2 41), vZ (M.2 42), vZ (M.2 43)])), ((a 1), .inl (K.1, 10, .inl (ar (M.1 1)))), ((a 2), .inl (K.1, 10, .inl (ar (M.1 2)))), ((a 5), .inl (K.1, 16, .inl (ar (M.1 5)))), ((a 6), .inl (K.1, 16, .inl (ar (M.1 6)))), ((a 7), .inl (K.1, 16, .inl (ar (M.1 7)))), ((a 8), .inl (K.1, 16, .inl (ar (M.1 8)))), ((a 9), .inl (K.1, 16, .inl (ar (M.1 9)))), ((a 10), .inl (K.1, 16, .inl (ar (M.1 10)))), ((a 11), .inl (K.1, 100, .inl (ar (M.1 11)))), ((a 13), .inl (K.1, 8, .inl (ar (M.1 13)))), ((a 14), .inl (K.1, 8, .inl (ar (M.1 14)))), ((a 15), .inl (K.1, 8, .inl (ar (M.1 15)))), ((a 16), .inl (K.1, 8, .inl (ar (M.1 16)))), ((a 17), .inl (K.1, 3200, .inl (ar (M.1 17)))), ((a 18), .inl (K.1, 3200, .inl (ar (M.1 18)))), ((a 19), .inl (K.2.1, 3200, .inl (ar (M.1 19)))), ((a 22), .inl (K.1, 3400, .inl (ar (M.1 22)))), ((a 23), .inl (K.1, 3400, .inl (ar (M.1 23)))), ((a 24), .inl (K.1, 3400, .inl (ar (M.1 24)))), ((a 25), .inl (K.1, 3400, .inl (ar (M.1 25)))), ((a 26), .inl (K.1, 32, .inl (ar (M.1 26)))), ((a 27), .inl (K.1, 32, .inl (ar (M.1 27)))), ((a 28), .inl (K.2.1, 8, .inl (ar (M.1 28)))), ((a 29), .inl (K.1, 8, .inl (ar (M.1 29)))), ((a 30), .inl (K.1, 8, .inl (ar (M.1 30)))), ((a 31), .inl (K.1, 10, .inl (ar (M.1 31)))), ((a 32), .inl (K.1, 10, .inl (ar (M.1 32)))), ((a 33), .inl (K.1, 10, .inl (ar (M.1 33)))), ((a 35), .inl (K.1, 13711, .inl (ar (M.1 35)))), ((a 39), .inl (K.1, 4, .inl (ar (M.1 39)))), ((a 40), .inl (K.1, 4, .inl (ar (M.1 40))))]) rfl ?_
    refine z_st (st2 := [vZ v_10]) rfl ?_
    refine z_if_ne ZC 18 dX8_least_13 (by decide) (by omega) (fun c_13 => ?_) (fun c_13 => ?_)
    · skip
      refine z_aload_n ZC 0 dX8_least_18 rfl rfl ?_
      refine z_get ZC inUX8 0 rfl rfl 11 (by decide) uF_X8_38 rfl dX8_least_19 ?_
      refine z_bipush ZC dX8_least_22 (by decide) ?_
      refine z_iload_n ZC 1 dX8_least_24 rfl rfl ?_
      refine z_imul ZC dX8_least_25 ?_
      refine z_iload_n ZC 2 dX8_least_26 rfl rfl ?_
      refine z_iadd ZC dX8_least_27 ?_
      refine z_iald ZC 9 rfl dX8_least_28 (by omega) ?_
      refine z_istore_n ZC 3 dX8_least_29 rfl (by decide) ?_
      have hl1 := hl8 (10 * s1 + s2) (by omega) (by omega)
      refine z_iload_n ZC 3 dX8_least_30 rfl rfl ?_
      refine z_sipush ZC dX8_least_31 (by decide) ?_
      refine z_icmp_lt ZC 41 dX8_least_34 (by decide) (by omega) (by omega) (fun c_34 => ?_) (fun c_34 => ?_)
      · skip
        refine z_iload_n ZC 3 dX8_least_41 rfl rfl ?_
        refine z_iret ZC ZE dX8_least_42 (by omega) (by omega) (Nat.le_of_ble_eq_true rfl) ⟨((M.1 11) ((10 * s1) + s2)), rfl, rfl, by omega, by omega, ?_⟩
        · skip
          left
          refine ⟨by omega, ?_, trivial⟩
          split <;> omega
      · skip
        refine z_iconst ZC dX8_least_37 ?_
        refine z_goto ZC 42 dX8_least_38 (by decide) ?_
        refine z_iret ZC ZE dX8_least_42 (by omega) (by omega) (Nat.le_of_ble_eq_true rfl) ⟨(-1), rfl, rfl, by omega, by omega, ?_⟩
        · skip
          left
          refine ⟨by omega, ?_, trivial⟩
          split <;> omega
    · skip
      refine z_iconst ZC dX8_least_16 ?_
      refine z_iret ZC ZE dX8_least_17 (by omega) (by omega) (Nat.le_of_ble_eq_true rfl) ⟨(-1), rfl, rfl, by omega, by omega, ?_⟩
      · skip
        right; exact ⟨by omega, rfl, trivial⟩

set_option maxHeartbeats 4000000 in
set_option maxRecDepth 100000 in
theorem c_X8_crowd (zl : Launch) (D : va_G) (K : tyK) (h : Nat) (a : Nat → Nat) (M : Bd) (s1 : Int) (cs : Int) (s2 : Int) (hz_s1 : -2147483648 ≤ s1 ∧ s1 < 2147483648) (hz_cs : -2147483648 ≤ cs ∧ cs < 2147483648) (hz_s2 : -2147483648 ≤ s2 ∧ s2 < 2147483648) (ht8 : 0 ≤ M.2 0 ∧ M.2 0 ≤ 10) (hc8 : 0 ≤ M.2 12 ∧ M.2 12 ≤ 8) (hn8 : 0 ≤ M.2 20 ∧ M.2 20 ≤ 200) (hl8 : ∀ k : Int, 0 ≤ k → k < 100 → 0 ≤ M.1 11 k ∧ M.1 11 k ≤ 10000) : Mz zl yX8_crowd cX8_crowd 4 (some .int) 3 66 0 0 D K [.ref h, vZ s1, vZ cs, vZ s2] (wMo K h a M) (fun r_ w2_ gc gs => ∃ (M2 : Bd), ∃ (v : Int), r_ = some (vZ v) ∧ w2_ = (wMo K h a M2) ∧ gc = 0 ∧ gs = 0 ∧ ((((0 ≤ s1 ∧ s1 < M.2 0) ∧ (0 ≤ s2 ∧ s2 < M.2 0) ∧ s1 ≠ s2 ∧ M.1 11 (10 * s1 + s2) ≠ 10000 ∧ (1 ≤ cs ∧ cs ≤ 20000) ∧ M.2 12 < 8 ∧ M.2 20 = 0) ∧ v = M.2 12 ∧ M2 = ((upf (upf (upf (upf M.1 13 (upz (M.1 13) (M.2 12) s1)) 14 (upz (M.1 14) (M.2 12) cs)) 15 (upz (M.1 15) (M.2 12) s2)) 30 (upz (M.1 30) (M.2 12) (-1))), (upf M.2 12 (M.2 12 + 1)))) ∨ (¬ ((0 ≤ s1 ∧ s1 < M.2 0) ∧ (0 ≤ s2 ∧ s2 < M.2 0) ∧ s1 ≠ s2 ∧ M.1 11 (10 * s1 + s2) ≠ 10000 ∧ (1 ≤ cs ∧ cs ≤ 20000) ∧ M.2 12 < 8 ∧ M.2 20 = 0) ∧ v = -1 ∧ M2 = M))) := by
  refine Mz.ofZ (by decide) rfl (Nat.le_of_ble_eq_true rfl) ?_
  intro zp ze zR zs zm zargs zbelow zmeth zc zA zQ ZC ZE hRf hRc hRs hRl
  refine z_aload_n ZC 0 dX8_crowd_0 rfl rfl ?_
  refine z_iload_n ZC 1 dX8_crowd_1 rfl rfl ?_
  refine z_callV ZC 1 (c_X8_isTown zl D K h a M s1 (by omega) (by omega)) (gdV uM_X8_125 uI_X8_isTown uS_X8_isTown uN_X8 uC_X8_isTown) (by decide +kernel) rfl ⟨by omega, by omega⟩ ⟨by omega, by omega⟩ (Nat.le_of_ble_eq_true rfl) [0, 1, 2, 3, 4, 5, 6, 7, 8, 9, 10, 11, 12, 13, 14, 15, 16, 17, 18, 19, 20, 21, 22, 23, 24, 25, 26, 27, 28, 29, 30, 31] rfl (by decide) rfl rfl rfl rfl dX8_crowd_2 (fun r w2 gc_2 gs_2 hp => ?_)
  obtain ⟨v_2, rfl, rfl, rfl, rfl, hb_2⟩ := hp
  refine z_ws (ws2 := [(h, .inr (8, [vZ (M.2 0), .ref (a 1), .ref (a 2), vZ (M.2 3), vZ (M.2 4), .ref (a 5), .ref (a 6), .ref (a 7), .ref (a 8), .ref (a 9), .ref (a 10), .ref (a 11), vZ (M.2 12), .ref (a 13), .ref (a 14), .ref (a 15), .ref (a 16), .ref (a 17), .ref (a 18), .ref (a 19), vZ (M.2 20), vZ (M.2 21), .ref (a 22), .ref (a 23), .ref (a 24), .ref (a 25), .ref (a 26), .ref (a 27), .ref (a 28), .ref (a 29), .ref (a 30), .ref (a 31), .ref (a 32), .ref (a 33), vZ (M.2 34), .ref (a 35), vZ (M.2 36), vZ (M.2 37), vZ (M.2 38), .ref (a 39), .ref (a 40), vZ (M.2 41), vZ (M.2 42), vZ (M.2 43)])), ((a 1), .inl (K.1, 10, .inl (ar (M.1 1)))), ((a 2), .inl (K.1, 10, .inl (ar (M.1 2)))), ((a 5), .inl (K.1, 16, .inl (ar (M.1 5)))), ((a 6), .inl (K.1, 16, .inl (ar (M.1 6)))), ((a 7), .inl (K.1, 16, .inl (ar (M.1 7)))), ((a 8), .inl (K.1, 16, .inl (ar (M.1 8)))), ((a 9), .inl (K.1, 16, .inl (ar (M.1 9)))), ((a 10), .inl (K.1, 16, .inl (ar (M.1 10)))), ((a 11), .inl (K.1, 100, .inl (ar (M.1 11)))), ((a 13), .inl (K.1, 8, .inl (ar (M.1 13)))), ((a 14), .inl (K.1, 8, .inl (ar (M.1 14)))), ((a 15), .inl (K.1, 8, .inl (ar (M.1 15)))), ((a 16), .inl (K.1, 8, .inl (ar (M.1 16)))), ((a 17), .inl (K.1, 3200, .inl (ar (M.1 17)))), ((a 18), .inl (K.1, 3200, .inl (ar (M.1 18)))), ((a 19), .inl (K.2.1, 3200, .inl (ar (M.1 19)))), ((a 22), .inl (K.1, 3400, .inl (ar (M.1 22)))), ((a 23), .inl (K.1, 3400, .inl (ar (M.1 23)))), ((a 24), .inl (K.1, 3400, .inl (ar (M.1 24)))), ((a 25), .inl (K.1, 3400, .inl (ar (M.1 25)))), ((a 26), .inl (K.1, 32, .inl (ar (M.1 26)))), ((a 27), .inl (K.1, 32, .inl (ar (M.1 27)))), ((a 28), .inl (K.2.1, 8, .inl (ar (M.1 28)))), ((a 29), .inl (K.1, 8, .inl (ar (M.1 29)))), ((a 30), .inl (K.1, 8, .inl (ar (M.1 30)))), ((a 31), .inl (K.1, 10, .inl (ar (M.1 31)))), ((a 32), .inl (K.1, 10, .inl (ar (M.1 32)))), ((a 33), .inl (K.1, 10, .inl (ar (M.1 33)))), ((a 35), .inl (K.1, 13711, .inl (ar (M.1 35)))), ((a 39), .inl (K.1, 4, .inl (ar (M.1 39)))), ((a 40), .inl (K.1, 4, .inl (ar (M.1 40))))]) rfl ?_
  refine z_st (st2 := [vZ v_2]) rfl ?_
  refine z_if_eq ZC 58 dX8_crowd_5 (by decide) (by omega) (fun c_5 => ?_) (fun c_5 => ?_)
  · skip
    refine z_iconst ZC dX8_crowd_58 ?_
    refine z_iret ZC ZE dX8_crowd_59 (by omega) (by omega) (Nat.le_of_ble_eq_true rfl) ⟨M, (-1), rfl, rfl, by omega, by omega, ?_⟩
    · skip
      first | (left; exact ⟨by omega, by omega, rfl⟩) | (right; exact ⟨by omega, by omega, rfl⟩)
  · skip
    refine z_aload_n ZC 0 dX8_crowd_8 rfl rfl ?_
    refine z_iload_n ZC 3 dX8_crowd_9 rfl rfl ?_
    refine z_callV ZC 1 (c_X8_isTown zl D K h a M s2 (by omega) (by omega)) (gdV uM_X8_125 uI_X8_isTown uS_X8_isTown uN_X8 uC_X8_isTown) (by decide +kernel) rfl ⟨by omega, by omega⟩ ⟨by omega, by omega⟩ (Nat.le_of_ble_eq_true rfl) [0, 1, 2, 3, 4, 5, 6, 7, 8, 9, 10, 11, 12, 13, 14, 15, 16, 17, 18, 19, 20, 21, 22, 23, 24, 25, 26, 27, 28, 29, 30, 31] rfl (by decide) rfl rfl rfl rfl dX8_crowd_10 (fun r w2 gc_10 gs_10 hp => ?_)
    obtain ⟨v_10, rfl, rfl, rfl, rfl, hb_10⟩ := hp
    refine z_ws (ws2 := [(h, .inr (8, [vZ (M.2 0), .ref (a 1), .ref (a 2), vZ (M.2 3), vZ (M.2 4), .ref (a 5), .ref (a 6), .ref (a 7), .ref (a 8), .ref (a 9), .ref (a 10), .ref (a 11), vZ (M.2 12), .ref (a 13), .ref (a 14), .ref (a 15), .ref (a 16), .ref (a 17), .ref (a 18), .ref (a 19), vZ (M.2 20), vZ (M.2 21), .ref (a 22), .ref (a 23), .ref (a 24), .ref (a 25), .ref (a 26), .ref (a 27), .ref (a 28), .ref (a 29), .ref (a 30), .ref (a 31), .ref (a 32), .ref (a 33), vZ (M.2 34), .ref (a 35), vZ (M.2 36), vZ (M.2 37), vZ (M.2 38), .ref (a 39), .ref (a 40), vZ (M.2 41), vZ (M.2 42), vZ (M.2 43)])), ((a 1), .inl (K.1, 10, .inl (ar (M.1 1)))), ((a 2), .inl (K.1, 10, .inl (ar (M.1 2)))), ((a 5), .inl (K.1, 16, .inl (ar (M.1 5)))), ((a 6), .inl (K.1, 16, .inl (ar (M.1 6)))), ((a 7), .inl (K.1, 16, .inl (ar (M.1 7)))), ((a 8), .inl (K.1, 16, .inl (ar (M.1 8)))), ((a 9), .inl (K.1, 16, .inl (ar (M.1 9)))), ((a 10), .inl (K.1, 16, .inl (ar (M.1 10)))), ((a 11), .inl (K.1, 100, .inl (ar (M.1 11)))), ((a 13), .inl (K.1, 8, .inl (ar (M.1 13)))), ((a 14), .inl (K.1, 8, .inl (ar (M.1 14)))), ((a 15), .inl (K.1, 8, .inl (ar (M.1 15)))), ((a 16), .inl (K.1, 8, .inl (ar (M.1 16)))), ((a 17), .inl (K.1, 3200, .inl (ar (M.1 17)))), ((a 18), .inl (K.1, 3200, .inl (ar (M.1 18)))), ((a 19), .inl (K.2.1, 3200, .inl (ar (M.1 19)))), ((a 22), .inl (K.1, 3400, .inl (ar (M.1 22)))), ((a 23), .inl (K.1, 3400, .inl (ar (M.1 23)))), ((a 24), .inl (K.1, 3400, .inl (ar (M.1 24)))), ((a 25), .inl (K.1, 3400, .inl (ar (M.1 25)))), ((a 26), .inl (K.1, 32, .inl (ar (M.1 26)))), ((a 27), .inl (K.1, 32, .inl (ar (M.1 27)))), ((a 28), .inl (K.2.1, 8, .inl (ar (M.1 28)))), ((a 29), .inl (K.1, 8, .inl (ar (M.1 29)))), ((a 30), .inl (K.1, 8, .inl (ar (M.1 30)))), ((a 31), .inl (K.1, 10, .inl (ar (M.1 31)))), ((a 32), .inl (K.1, 10, .inl (ar (M.1 32)))), ((a 33), .inl (K.1, 10, .inl (ar (M.1 33)))), ((a 35), .inl (K.1, 13711, .inl (ar (M.1 35)))), ((a 39), .inl (K.1, 4, .inl (ar (M.1 39)))), ((a 40), .inl (K.1, 4, .inl (ar (M.1 40))))]) rfl ?_
    refine z_st (st2 := [vZ v_10]) rfl ?_
    refine z_if_eq ZC 58 dX8_crowd_13 (by decide) (by omega) (fun c_13 => ?_) (fun c_13 => ?_)
    · skip
      refine z_iconst ZC dX8_crowd_58 ?_
      refine z_iret ZC ZE dX8_crowd_59 (by omega) (by omega) (Nat.le_of_ble_eq_true rfl) ⟨M, (-1), rfl, rfl, by omega, by omega, ?_⟩
      · skip
        first | (left; exact ⟨by omega, by omega, rfl⟩) | (right; exact ⟨by omega, by omega, rfl⟩)
    · skip
      refine z_iload_n ZC 1 dX8_crowd_16 rfl rfl ?_
      refine z_iload_n ZC 3 dX8_crowd_17 rfl rfl ?_
      refine z_icmp_eq ZC 58 dX8_crowd_18 (by decide) (by omega) (by omega) (fun c_18 => ?_) (fun c_18 => ?_)
      · skip
        refine z_iconst ZC dX8_crowd_58 ?_
        refine z_iret ZC ZE dX8_crowd_59 (by omega) (by omega) (Nat.le_of_ble_eq_true rfl) ⟨M, (-1), rfl, rfl, by omega, by omega, ?_⟩
        · skip
          first | (left; exact ⟨by omega, by omega, rfl⟩) | (right; exact ⟨by omega, by omega, rfl⟩)
      · skip
        refine z_aload_n ZC 0 dX8_crowd_21 rfl rfl ?_
        refine z_iload_n ZC 1 dX8_crowd_22 rfl rfl ?_
        refine z_iload_n ZC 3 dX8_crowd_23 rfl rfl ?_
        refine z_callV ZC 2 (c_X8_least zl D K h a M s1 s2 (by omega) (by omega) (by omega) (hl8)) (gdV uM_X8_132 uI_X8_least uS_X8_least uN_X8 uC_X8_least) (by decide +kernel) rfl ⟨by omega, by omega⟩ ⟨by omega, by omega⟩ (Nat.le_of_ble_eq_true rfl) [0, 1, 2, 3, 4, 5, 6, 7, 8, 9, 10, 11, 12, 13, 14, 15, 16, 17, 18, 19, 20, 21, 22, 23, 24, 25, 26, 27, 28, 29, 30, 31] rfl (by decide) rfl rfl rfl rfl dX8_crowd_24 (fun r w2 gc_24 gs_24 hp => ?_)
        obtain ⟨v_24, rfl, rfl, rfl, rfl, hv_24⟩ := hp
        refine z_ws (ws2 := [(h, .inr (8, [vZ (M.2 0), .ref (a 1), .ref (a 2), vZ (M.2 3), vZ (M.2 4), .ref (a 5), .ref (a 6), .ref (a 7), .ref (a 8), .ref (a 9), .ref (a 10), .ref (a 11), vZ (M.2 12), .ref (a 13), .ref (a 14), .ref (a 15), .ref (a 16), .ref (a 17), .ref (a 18), .ref (a 19), vZ (M.2 20), vZ (M.2 21), .ref (a 22), .ref (a 23), .ref (a 24), .ref (a 25), .ref (a 26), .ref (a 27), .ref (a 28), .ref (a 29), .ref (a 30), .ref (a 31), .ref (a 32), .ref (a 33), vZ (M.2 34), .ref (a 35), vZ (M.2 36), vZ (M.2 37), vZ (M.2 38), .ref (a 39), .ref (a 40), vZ (M.2 41), vZ (M.2 42), vZ (M.2 43)])), ((a 1), .inl (K.1, 10, .inl (ar (M.1 1)))), ((a 2), .inl (K.1, 10, .inl (ar (M.1 2)))), ((a 5), .inl (K.1, 16, .inl (ar (M.1 5)))), ((a 6), .inl (K.1, 16, .inl (ar (M.1 6)))), ((a 7), .inl (K.1, 16, .inl (ar (M.1 7)))), ((a 8), .inl (K.1, 16, .inl (ar (M.1 8)))), ((a 9), .inl (K.1, 16, .inl (ar (M.1 9)))), ((a 10), .inl (K.1, 16, .inl (ar (M.1 10)))), ((a 11), .inl (K.1, 100, .inl (ar (M.1 11)))), ((a 13), .inl (K.1, 8, .inl (ar (M.1 13)))), ((a 14), .inl (K.1, 8, .inl (ar (M.1 14)))), ((a 15), .inl (K.1, 8, .inl (ar (M.1 15)))), ((a 16), .inl (K.1, 8, .inl (ar (M.1 16)))), ((a 17), .inl (K.1, 3200, .inl (ar (M.1 17)))), ((a 18), .inl (K.1, 3200, .inl (ar (M.1 18)))), ((a 19), .inl (K.2.1, 3200, .inl (ar (M.1 19)))), ((a 22), .inl (K.1, 3400, .inl (ar (M.1 22)))), ((a 23), .inl (K.1, 3400, .inl (ar (M.1 23)))), ((a 24), .inl (K.1, 3400, .inl (ar (M.1 24)))), ((a 25), .inl (K.1, 3400, .inl (ar (M.1 25)))), ((a 26), .inl (K.1, 32, .inl (ar (M.1 26)))), ((a 27), .inl (K.1, 32, .inl (ar (M.1 27)))), ((a 28), .inl (K.2.1, 8, .inl (ar (M.1 28)))), ((a 29), .inl (K.1, 8, .inl (ar (M.1 29)))), ((a 30), .inl (K.1, 8, .inl (ar (M.1 30)))), ((a 31), .inl (K.1, 10, .inl (ar (M.1 31)))), ((a 32), .inl (K.1, 10, .inl (ar (M.1 32)))), ((a 33), .inl (K.1, 10, .inl (ar (M.1 33)))), ((a 35), .inl (K.1, 13711, .inl (ar (M.1 35)))), ((a 39), .inl (K.1, 4, .inl (ar (M.1 39)))), ((a 40), .inl (K.1, 4, .inl (ar (M.1 40))))]) rfl ?_
        refine z_st (st2 := [vZ v_24]) rfl ?_
        have hl1 := hl8 (10 * s1 + s2) (by omega) (by omega)
        have hv24 : v_24 = if M.1 11 (10 * s1 + s2) = 10000 then -1 else M.1 11 (10 * s1 + s2) := by
          rcases hv_24 with z | z
          · exact z.2.1
          · exact absurd ⟨by omega, by omega⟩ z.1
        have hv24b : (v_24 = -1 ∧ M.1 11 (10 * s1 + s2) = 10000) ∨ (v_24 ≠ -1 ∧ M.1 11 (10 * s1 + s2) ≠ 10000 ∧ v_24 ≤ 10000 ∧ 0 ≤ v_24) := by rw [hv24]; split <;> omega
        clear hv_24 hv24
        refine z_iconst ZC dX8_crowd_27 ?_
        refine z_icmp_eq ZC 58 dX8_crowd_28 (by decide) (by omega) (by omega) (fun c_28 => ?_) (fun c_28 => ?_)
        · skip
          refine z_iconst ZC dX8_crowd_58 ?_
          refine z_iret ZC ZE dX8_crowd_59 (by omega) (by omega) (Nat.le_of_ble_eq_true rfl) ⟨M, (-1), rfl, rfl, by omega, by omega, ?_⟩
          · skip
            first | (left; exact ⟨by omega, by omega, rfl⟩) | (right; exact ⟨by omega, by omega, rfl⟩)
        · skip
          refine z_iload_n ZC 2 dX8_crowd_31 rfl rfl ?_
          refine z_iconst ZC dX8_crowd_32 ?_
          refine z_sipush ZC dX8_crowd_33 (by decide) ?_
          refine z_callS ZC 3 (c_X8_in zl D K cs 1 20000 (by omega) (by omega) (by omega)) (gdS uM_X8_114 uZ_X8_in uN_X8 uC_X8_in) (by decide +kernel) rfl ⟨by omega, by omega⟩ ⟨by omega, by omega⟩ (Nat.le_of_ble_eq_true rfl) [] rfl (by decide) rfl dX8_crowd_36 (fun r w2 gc_36 gs_36 hp => ?_)
          obtain ⟨b_36, rfl, rfl, rfl, rfl, hb_36⟩ := hp
          refine z_st (st2 := [vZ b_36]) rfl ?_
          refine z_if_eq ZC 58 dX8_crowd_39 (by decide) (by omega) (fun c_39 => ?_) (fun c_39 => ?_)
          · skip
            refine z_iconst ZC dX8_crowd_58 ?_
            refine z_iret ZC ZE dX8_crowd_59 (by omega) (by omega) (Nat.le_of_ble_eq_true rfl) ⟨M, (-1), rfl, rfl, by omega, by omega, ?_⟩
            · skip
              first | (left; exact ⟨by omega, by omega, rfl⟩) | (right; exact ⟨by omega, by omega, rfl⟩)
          · skip
            refine z_aload_n ZC 0 dX8_crowd_42 rfl rfl ?_
            refine z_get ZC inUX8 0 rfl rfl 12 (by decide) uF_X8_121 rfl dX8_crowd_43 ?_
            refine z_bipush ZC dX8_crowd_46 (by decide) ?_
            refine z_icmp_eq ZC 58 dX8_crowd_48 (by decide) (by omega) (by omega) (fun c_48 => ?_) (fun c_48 => ?_)
            · skip
              refine z_iconst ZC dX8_crowd_58 ?_
              refine z_iret ZC ZE dX8_crowd_59 (by omega) (by omega) (Nat.le_of_ble_eq_true rfl) ⟨M, (-1), rfl, rfl, by omega, by omega, ?_⟩
              · skip
                first | (left; exact ⟨by omega, by omega, rfl⟩) | (right; exact ⟨by omega, by omega, rfl⟩)
            · skip
              refine z_aload_n ZC 0 dX8_crowd_51 rfl rfl ?_
              refine z_get ZC inUX8 0 rfl rfl 20 (by decide) uF_X8_129 rfl dX8_crowd_52 ?_
              refine z_if_le ZC 60 dX8_crowd_55 (by decide) (by omega) (fun c_55 => ?_) (fun c_55 => ?_)
              · skip
                refine z_aload_n ZC 0 dX8_crowd_60 rfl rfl ?_
                refine z_get ZC inUX8 0 rfl rfl 13 (by decide) uF_X8_41 rfl dX8_crowd_61 ?_
                refine z_aload_n ZC 0 dX8_crowd_64 rfl rfl ?_
                refine z_get ZC inUX8 0 rfl rfl 12 (by decide) uF_X8_121 rfl dX8_crowd_65 ?_
                refine z_iload_n ZC 1 dX8_crowd_68 rfl rfl ?_
                refine z_iast ZC 10 rfl dX8_crowd_69 (by omega) ?_
                refine z_aload_n ZC 0 dX8_crowd_70 rfl rfl ?_
                refine z_get ZC inUX8 0 rfl rfl 14 (by decide) uF_X8_44 rfl dX8_crowd_71 ?_
                refine z_aload_n ZC 0 dX8_crowd_74 rfl rfl ?_
                refine z_get ZC inUX8 0 rfl rfl 12 (by decide) uF_X8_121 rfl dX8_crowd_75 ?_
                refine z_iload_n ZC 2 dX8_crowd_78 rfl rfl ?_
                refine z_iast ZC 11 rfl dX8_crowd_79 (by omega) ?_
                refine z_aload_n ZC 0 dX8_crowd_80 rfl rfl ?_
                refine z_get ZC inUX8 0 rfl rfl 15 (by decide) uF_X8_47 rfl dX8_crowd_81 ?_
                refine z_aload_n ZC 0 dX8_crowd_84 rfl rfl ?_
                refine z_get ZC inUX8 0 rfl rfl 12 (by decide) uF_X8_121 rfl dX8_crowd_85 ?_
                refine z_iload_n ZC 3 dX8_crowd_88 rfl rfl ?_
                refine z_iast ZC 12 rfl dX8_crowd_89 (by omega) ?_
                refine z_ws (ws2 := [(h, .inr (8, [vZ (M.2 0), .ref (a 1), .ref (a 2), vZ (M.2 3), vZ (M.2 4), .ref (a 5), .ref (a 6), .ref (a 7), .ref (a 8), .ref (a 9), .ref (a 10), .ref (a 11), vZ (M.2 12), .ref (a 13), .ref (a 14), .ref (a 15), .ref (a 16), .ref (a 17), .ref (a 18), .ref (a 19), vZ (M.2 20), vZ (M.2 21), .ref (a 22), .ref (a 23), .ref (a 24), .ref (a 25), .ref (a 26), .ref (a 27), .ref (a 28), .ref (a 29), .ref (a 30), .ref (a 31), .ref (a 32), .ref (a 33), vZ (M.2 34), .ref (a 35), vZ (M.2 36), vZ (M.2 37), vZ (M.2 38), .ref (a 39), .ref (a 40), vZ (M.2 41), vZ (M.2 42), vZ (M.2 43)])), ((a 1), .inl (K.1, 10, .inl (ar (M.1 1)))), ((a 2), .inl (K.1, 10, .inl (ar (M.1 2)))), ((a 5), .inl (K.1, 16, .inl (ar (M.1 5)))), ((a 6), .inl (K.1, 16, .inl (ar (M.1 6)))), ((a 7), .inl (K.1, 16, .inl (ar (M.1 7)))), ((a 8), .inl (K.1, 16, .inl (ar (M.1 8)))), ((a 9), .inl (K.1, 16, .inl (ar (M.1 9)))), ((a 10), .inl (K.1, 16, .inl (ar (M.1 10)))), ((a 11), .inl (K.1, 100, .inl (ar (M.1 11)))), ((a 13), .inl (K.1, 8, .inl (ar (upz (M.1 13) (M.2 12) s1)))), ((a 14), .inl (K.1, 8, .inl (ar (upz (M.1 14) (M.2 12) cs)))), ((a 15), .inl (K.1, 8, .inl (ar (upz (M.1 15) (M.2 12) s2)))), ((a 16), .inl (K.1, 8, .inl (ar (M.1 16)))), ((a 17), .inl (K.1, 3200, .inl (ar (M.1 17)))), ((a 18), .inl (K.1, 3200, .inl (ar (M.1 18)))), ((a 19), .inl (K.2.1, 3200, .inl (ar (M.1 19)))), ((a 22), .inl (K.1, 3400, .inl (ar (M.1 22)))), ((a 23), .inl (K.1, 3400, .inl (ar (M.1 23)))), ((a 24), .inl (K.1, 3400, .inl (ar (M.1 24)))), ((a 25), .inl (K.1, 3400, .inl (ar (M.1 25)))), ((a 26), .inl (K.1, 32, .inl (ar (M.1 26)))), ((a 27), .inl (K.1, 32, .inl (ar (M.1 27)))), ((a 28), .inl (K.2.1, 8, .inl (ar (M.1 28)))), ((a 29), .inl (K.1, 8, .inl (ar (M.1 29)))), ((a 30), .inl (K.1, 8, .inl (ar (M.1 30)))), ((a 31), .inl (K.1, 10, .inl (ar (M.1 31)))), ((a 32), .inl (K.1, 10, .inl (ar (M.1 32)))), ((a 33), .inl (K.1, 10, .inl (ar (M.1 33)))), ((a 35), .inl (K.1, 13711, .inl (ar (M.1 35)))), ((a 39), .inl (K.1, 4, .inl (ar (M.1 39)))), ((a 40), .inl (K.1, 4, .inl (ar (M.1 40))))]) rfl ?_
                refine z_aload_n ZC 0 dX8_crowd_90 rfl rfl ?_
                refine z_get ZC inUX8 0 rfl rfl 30 (by decide) uF_X8_87 rfl dX8_crowd_91 ?_
                refine z_aload_n ZC 0 dX8_crowd_94 rfl rfl ?_
                refine z_get ZC inUX8 0 rfl rfl 12 (by decide) uF_X8_121 rfl dX8_crowd_95 ?_
                refine z_iconst ZC dX8_crowd_98 ?_
                refine z_iast ZC 25 rfl dX8_crowd_99 (by omega) ?_
                refine z_aload_n ZC 0 dX8_crowd_100 rfl rfl ?_
                refine z_dup ZC dX8_crowd_101 rfl ?_
                refine z_get ZC inUX8 0 rfl rfl 12 (by decide) uF_X8_121 rfl dX8_crowd_102 ?_
                refine z_iconst ZC dX8_crowd_105 ?_
                refine z_iadd ZC dX8_crowd_106 ?_
                refine z_put ZC inUX8 tyX8_ok nmX8 0 rfl rfl 12 (by decide) uF_X8_121 rfl (rfl) (rfl) (Nat.le_of_ble_eq_true rfl) dX8_crowd_107 ?_
                refine z_aload_n ZC 0 dX8_crowd_110 rfl rfl ?_
                refine z_get ZC inUX8 0 rfl rfl 12 (by decide) uF_X8_121 rfl dX8_crowd_111 ?_
                refine z_iconst ZC dX8_crowd_114 ?_
                refine z_isub ZC dX8_crowd_115 ?_
                refine z_iret ZC ZE dX8_crowd_116 (by omega) (by omega) (Nat.le_of_ble_eq_true rfl) ⟨((upf (upf (upf (upf M.1 13 (upz (M.1 13) (M.2 12) s1)) 14 (upz (M.1 14) (M.2 12) cs)) 15 (upz (M.1 15) (M.2 12) s2)) 30 (upz (M.1 30) (M.2 12) (-1))), (upf M.2 12 ((M.2 12) + 1))), (((M.2 12) + 1) - 1), rfl, rfl, by omega, by omega, ?_⟩
                · skip
                  first | (left; exact ⟨by omega, by omega, rfl⟩) | (right; exact ⟨by omega, by omega, rfl⟩)
              · skip
                refine z_iconst ZC dX8_crowd_58 ?_
                refine z_iret ZC ZE dX8_crowd_59 (by omega) (by omega) (Nat.le_of_ble_eq_true rfl) ⟨M, (-1), rfl, rfl, by omega, by omega, ?_⟩
                · skip
                  first | (left; exact ⟨by omega, by omega, rfl⟩) | (right; exact ⟨by omega, by omega, rfl⟩)

set_option maxHeartbeats 4000000 in
set_option maxRecDepth 100000 in
theorem c_X8_hold (zl : Launch) (D : va_G) (K : tyK) (h : Nat) (a : Nat → Nat) (M : Bd) (cw : Int) (hr : Int) (hz_cw : -2147483648 ≤ cw ∧ cw < 2147483648) (hz_hr : -2147483648 ≤ hr ∧ hr < 2147483648) (hc8 : 0 ≤ M.2 12 ∧ M.2 12 ≤ 8) (hn8 : 0 ≤ M.2 20 ∧ M.2 20 ≤ 200) (ho8 : ∀ c : Int, 0 ≤ c → c < M.2 12 → 0 ≤ M.1 28 c ∧ M.1 28 c ≤ 1) : Mz zl yX8_hold cX8_hold 3 (some .boolean) 2 43 0 0 D K [.ref h, vZ cw, vZ hr] (wMo K h a M) (fun r_ w2_ gc gs => ∃ (M2 : Bd), ∃ (v : Int), r_ = some (vZ v) ∧ w2_ = (wMo K h a M2) ∧ gc = 0 ∧ gs = 0 ∧ ((((0 ≤ cw ∧ cw < M.2 12) ∧ M.1 28 cw = 0 ∧ (M.2 20 ≤ hr ∧ hr ≤ 199)) ∧ v = 1 ∧ M2 = ((upf M.1 16 (upz (M.1 16) cw hr)), M.2)) ∨ (¬ ((0 ≤ cw ∧ cw < M.2 12) ∧ M.1 28 cw = 0 ∧ (M.2 20 ≤ hr ∧ hr ≤ 199)) ∧ v = 0 ∧ M2 = M))) := by
  refine Mz.ofZ (by decide) rfl (Nat.le_of_ble_eq_true rfl) ?_
  intro zp ze zR zs zm zargs zbelow zmeth zc zA zQ ZC ZE hRf hRc hRs hRl
  refine z_aload_n ZC 0 dX8_hold_0 rfl rfl ?_
  refine z_iload_n ZC 1 dX8_hold_1 rfl rfl ?_
  refine z_callV ZC 1 (c_X8_isCrowd zl D K h a M cw (by omega) (by omega)) (gdV uM_X8_142 uI_X8_isCrowd uS_X8_isCrowd uN_X8 uC_X8_isCrowd) (by decide +kernel) rfl ⟨by omega, by omega⟩ ⟨by omega, by omega⟩ (Nat.le_of_ble_eq_true rfl) [0, 1, 2, 3, 4, 5, 6, 7, 8, 9, 10, 11, 12, 13, 14, 15, 16, 17, 18, 19, 20, 21, 22, 23, 24, 25, 26, 27, 28, 29, 30, 31] rfl (by decide) rfl rfl rfl rfl dX8_hold_2 (fun r w2 gc_2 gs_2 hp => ?_)
  obtain ⟨v_2, rfl, rfl, rfl, rfl, hb_2⟩ := hp
  refine z_ws (ws2 := [(h, .inr (8, [vZ (M.2 0), .ref (a 1), .ref (a 2), vZ (M.2 3), vZ (M.2 4), .ref (a 5), .ref (a 6), .ref (a 7), .ref (a 8), .ref (a 9), .ref (a 10), .ref (a 11), vZ (M.2 12), .ref (a 13), .ref (a 14), .ref (a 15), .ref (a 16), .ref (a 17), .ref (a 18), .ref (a 19), vZ (M.2 20), vZ (M.2 21), .ref (a 22), .ref (a 23), .ref (a 24), .ref (a 25), .ref (a 26), .ref (a 27), .ref (a 28), .ref (a 29), .ref (a 30), .ref (a 31), .ref (a 32), .ref (a 33), vZ (M.2 34), .ref (a 35), vZ (M.2 36), vZ (M.2 37), vZ (M.2 38), .ref (a 39), .ref (a 40), vZ (M.2 41), vZ (M.2 42), vZ (M.2 43)])), ((a 1), .inl (K.1, 10, .inl (ar (M.1 1)))), ((a 2), .inl (K.1, 10, .inl (ar (M.1 2)))), ((a 5), .inl (K.1, 16, .inl (ar (M.1 5)))), ((a 6), .inl (K.1, 16, .inl (ar (M.1 6)))), ((a 7), .inl (K.1, 16, .inl (ar (M.1 7)))), ((a 8), .inl (K.1, 16, .inl (ar (M.1 8)))), ((a 9), .inl (K.1, 16, .inl (ar (M.1 9)))), ((a 10), .inl (K.1, 16, .inl (ar (M.1 10)))), ((a 11), .inl (K.1, 100, .inl (ar (M.1 11)))), ((a 13), .inl (K.1, 8, .inl (ar (M.1 13)))), ((a 14), .inl (K.1, 8, .inl (ar (M.1 14)))), ((a 15), .inl (K.1, 8, .inl (ar (M.1 15)))), ((a 16), .inl (K.1, 8, .inl (ar (M.1 16)))), ((a 17), .inl (K.1, 3200, .inl (ar (M.1 17)))), ((a 18), .inl (K.1, 3200, .inl (ar (M.1 18)))), ((a 19), .inl (K.2.1, 3200, .inl (ar (M.1 19)))), ((a 22), .inl (K.1, 3400, .inl (ar (M.1 22)))), ((a 23), .inl (K.1, 3400, .inl (ar (M.1 23)))), ((a 24), .inl (K.1, 3400, .inl (ar (M.1 24)))), ((a 25), .inl (K.1, 3400, .inl (ar (M.1 25)))), ((a 26), .inl (K.1, 32, .inl (ar (M.1 26)))), ((a 27), .inl (K.1, 32, .inl (ar (M.1 27)))), ((a 28), .inl (K.2.1, 8, .inl (ar (M.1 28)))), ((a 29), .inl (K.1, 8, .inl (ar (M.1 29)))), ((a 30), .inl (K.1, 8, .inl (ar (M.1 30)))), ((a 31), .inl (K.1, 10, .inl (ar (M.1 31)))), ((a 32), .inl (K.1, 10, .inl (ar (M.1 32)))), ((a 33), .inl (K.1, 10, .inl (ar (M.1 33)))), ((a 35), .inl (K.1, 13711, .inl (ar (M.1 35)))), ((a 39), .inl (K.1, 4, .inl (ar (M.1 39)))), ((a 40), .inl (K.1, 4, .inl (ar (M.1 40))))]) rfl ?_
  refine z_st (st2 := [vZ v_2]) rfl ?_
  refine z_if_eq ZC 31 dX8_hold_5 (by decide) (by omega) (fun c_5 => ?_) (fun c_5 => ?_)
  · skip
    refine z_iconst ZC dX8_hold_31 ?_
    refine z_zret ZC ZE dX8_hold_32 (by omega) (by omega) (by omega) (Nat.le_of_ble_eq_true rfl) ⟨M, 0, rfl, rfl, by omega, by omega, ?_⟩
    · skip
      first | (left; exact ⟨by omega, by omega, rfl⟩) | (right; exact ⟨by omega, by omega, rfl⟩)
  · skip
    have ho := ho8 cw (by omega) (by omega)
    refine z_aload_n ZC 0 dX8_hold_8 rfl rfl ?_
    refine z_get ZC inUX8 0 rfl rfl 28 (by decide) uF_X8_81 rfl dX8_hold_9 ?_
    refine z_iload_n ZC 1 dX8_hold_12 rfl rfl ?_
    refine z_zald ZC 23 rfl dX8_hold_13 (by omega) ?_
    refine z_if_ne ZC 31 dX8_hold_14 (by decide) (by omega) (fun c_14 => ?_) (fun c_14 => ?_)
    · skip
      refine z_iconst ZC dX8_hold_31 ?_
      refine z_zret ZC ZE dX8_hold_32 (by omega) (by omega) (by omega) (Nat.le_of_ble_eq_true rfl) ⟨M, 0, rfl, rfl, by omega, by omega, ?_⟩
      · skip
        first | (left; exact ⟨by omega, by omega, rfl⟩) | (right; exact ⟨by omega, by omega, rfl⟩)
    · skip
      refine z_iload_n ZC 2 dX8_hold_17 rfl rfl ?_
      refine z_aload_n ZC 0 dX8_hold_18 rfl rfl ?_
      refine z_get ZC inUX8 0 rfl rfl 20 (by decide) uF_X8_129 rfl dX8_hold_19 ?_
      refine z_sipush ZC dX8_hold_22 (by decide) ?_
      refine z_callS ZC 3 (c_X8_in zl D K hr (M.2 20) 199 (by omega) (by omega) (by omega)) (gdS uM_X8_114 uZ_X8_in uN_X8 uC_X8_in) (by decide +kernel) rfl ⟨by omega, by omega⟩ ⟨by omega, by omega⟩ (Nat.le_of_ble_eq_true rfl) [] rfl (by decide) rfl dX8_hold_25 (fun r w2 gc_25 gs_25 hp => ?_)
      obtain ⟨b_25, rfl, rfl, rfl, rfl, hb_25⟩ := hp
      refine z_st (st2 := [vZ b_25]) rfl ?_
      refine z_if_ne ZC 33 dX8_hold_28 (by decide) (by omega) (fun c_28 => ?_) (fun c_28 => ?_)
      · skip
        refine z_aload_n ZC 0 dX8_hold_33 rfl rfl ?_
        refine z_get ZC inUX8 0 rfl rfl 16 (by decide) uF_X8_50 rfl dX8_hold_34 ?_
        refine z_iload_n ZC 1 dX8_hold_37 rfl rfl ?_
        refine z_iload_n ZC 2 dX8_hold_38 rfl rfl ?_
        refine z_iast ZC 13 rfl dX8_hold_39 (by omega) ?_
        refine z_iconst ZC dX8_hold_40 ?_
        refine z_zret ZC ZE dX8_hold_41 (by omega) (by omega) (by omega) (Nat.le_of_ble_eq_true rfl) ⟨((upf M.1 16 (upz (M.1 16) cw hr)), M.2), 1, rfl, rfl, by omega, by omega, ?_⟩
        · skip
          first | (left; exact ⟨by omega, by omega, rfl⟩) | (right; exact ⟨by omega, by omega, rfl⟩)
      · skip
        refine z_iconst ZC dX8_hold_31 ?_
        refine z_zret ZC ZE dX8_hold_32 (by omega) (by omega) (by omega) (Nat.le_of_ble_eq_true rfl) ⟨M, 0, rfl, rfl, by omega, by omega, ?_⟩
        · skip
          first | (left; exact ⟨by omega, by omega, rfl⟩) | (right; exact ⟨by omega, by omega, rfl⟩)

set_option maxHeartbeats 4000000 in
set_option maxRecDepth 100000 in
theorem c_X8_shut (zl : Launch) (D : va_G) (K : tyK) (h : Nat) (a : Nat → Nat) (M : Bd) (rd : Int) (fr : Int) (tt : Int) (hz_rd : -2147483648 ≤ rd ∧ rd < 2147483648) (hz_fr : -2147483648 ≤ fr ∧ fr < 2147483648) (hz_tt : -2147483648 ≤ tt ∧ tt < 2147483648) (hr8 : 0 ≤ M.2 4 ∧ M.2 4 ≤ 16) (hn8 : 0 ≤ M.2 20 ∧ M.2 20 ≤ 200) : Mz zl yX8_shut cX8_shut 4 (some .boolean) 2 43 0 0 D K [.ref h, vZ rd, vZ fr, vZ tt] (wMo K h a M) (fun r_ w2_ gc gs => ∃ (M2 : Bd), ∃ (v : Int), r_ = some (vZ v) ∧ w2_ = (wMo K h a M2) ∧ gc = 0 ∧ gs = 0 ∧ ((((0 ≤ rd ∧ rd < M.2 4) ∧ M.2 20 ≤ fr ∧ fr < tt) ∧ v = 1 ∧ M2 = ((upf (upf M.1 9 (upz (M.1 9) rd fr)) 10 (upz (M.1 10) rd tt)), M.2)) ∨ (¬ ((0 ≤ rd ∧ rd < M.2 4) ∧ M.2 20 ≤ fr ∧ fr < tt) ∧ v = 0 ∧ M2 = M))) := by
  refine Mz.ofZ (by decide) rfl (Nat.le_of_ble_eq_true rfl) ?_
  intro zp ze zR zs zm zargs zbelow zmeth zc zA zQ ZC ZE hRf hRc hRs hRl
  refine z_aload_n ZC 0 dX8_shut_0 rfl rfl ?_
  refine z_iload_n ZC 1 dX8_shut_1 rfl rfl ?_
  refine z_callV ZC 1 (c_X8_isRoad zl D K h a M rd (by omega) (by omega)) (gdV uM_X8_145 uI_X8_isRoad uS_X8_isRoad uN_X8 uC_X8_isRoad) (by decide +kernel) rfl ⟨by omega, by omega⟩ ⟨by omega, by omega⟩ (Nat.le_of_ble_eq_true rfl) [0, 1, 2, 3, 4, 5, 6, 7, 8, 9, 10, 11, 12, 13, 14, 15, 16, 17, 18, 19, 20, 21, 22, 23, 24, 25, 26, 27, 28, 29, 30, 31] rfl (by decide) rfl rfl rfl rfl dX8_shut_2 (fun r w2 gc_2 gs_2 hp => ?_)
  obtain ⟨v_2, rfl, rfl, rfl, rfl, hb_2⟩ := hp
  refine z_ws (ws2 := [(h, .inr (8, [vZ (M.2 0), .ref (a 1), .ref (a 2), vZ (M.2 3), vZ (M.2 4), .ref (a 5), .ref (a 6), .ref (a 7), .ref (a 8), .ref (a 9), .ref (a 10), .ref (a 11), vZ (M.2 12), .ref (a 13), .ref (a 14), .ref (a 15), .ref (a 16), .ref (a 17), .ref (a 18), .ref (a 19), vZ (M.2 20), vZ (M.2 21), .ref (a 22), .ref (a 23), .ref (a 24), .ref (a 25), .ref (a 26), .ref (a 27), .ref (a 28), .ref (a 29), .ref (a 30), .ref (a 31), .ref (a 32), .ref (a 33), vZ (M.2 34), .ref (a 35), vZ (M.2 36), vZ (M.2 37), vZ (M.2 38), .ref (a 39), .ref (a 40), vZ (M.2 41), vZ (M.2 42), vZ (M.2 43)])), ((a 1), .inl (K.1, 10, .inl (ar (M.1 1)))), ((a 2), .inl (K.1, 10, .inl (ar (M.1 2)))), ((a 5), .inl (K.1, 16, .inl (ar (M.1 5)))), ((a 6), .inl (K.1, 16, .inl (ar (M.1 6)))), ((a 7), .inl (K.1, 16, .inl (ar (M.1 7)))), ((a 8), .inl (K.1, 16, .inl (ar (M.1 8)))), ((a 9), .inl (K.1, 16, .inl (ar (M.1 9)))), ((a 10), .inl (K.1, 16, .inl (ar (M.1 10)))), ((a 11), .inl (K.1, 100, .inl (ar (M.1 11)))), ((a 13), .inl (K.1, 8, .inl (ar (M.1 13)))), ((a 14), .inl (K.1, 8, .inl (ar (M.1 14)))), ((a 15), .inl (K.1, 8, .inl (ar (M.1 15)))), ((a 16), .inl (K.1, 8, .inl (ar (M.1 16)))), ((a 17), .inl (K.1, 3200, .inl (ar (M.1 17)))), ((a 18), .inl (K.1, 3200, .inl (ar (M.1 18)))), ((a 19), .inl (K.2.1, 3200, .inl (ar (M.1 19)))), ((a 22), .inl (K.1, 3400, .inl (ar (M.1 22)))), ((a 23), .inl (K.1, 3400, .inl (ar (M.1 23)))), ((a 24), .inl (K.1, 3400, .inl (ar (M.1 24)))), ((a 25), .inl (K.1, 3400, .inl (ar (M.1 25)))), ((a 26), .inl (K.1, 32, .inl (ar (M.1 26)))), ((a 27), .inl (K.1, 32, .inl (ar (M.1 27)))), ((a 28), .inl (K.2.1, 8, .inl (ar (M.1 28)))), ((a 29), .inl (K.1, 8, .inl (ar (M.1 29)))), ((a 30), .inl (K.1, 8, .inl (ar (M.1 30)))), ((a 31), .inl (K.1, 10, .inl (ar (M.1 31)))), ((a 32), .inl (K.1, 10, .inl (ar (M.1 32)))), ((a 33), .inl (K.1, 10, .inl (ar (M.1 33)))), ((a 35), .inl (K.1, 13711, .inl (ar (M.1 35)))), ((a 39), .inl (K.1, 4, .inl (ar (M.1 39)))), ((a 40), .inl (K.1, 4, .inl (ar (M.1 40))))]) rfl ?_
  refine z_st (st2 := [vZ v_2]) rfl ?_
  refine z_if_eq ZC 21 dX8_shut_5 (by decide) (by omega) (fun c_5 => ?_) (fun c_5 => ?_)
  · skip
    refine z_iconst ZC dX8_shut_21 ?_
    refine z_zret ZC ZE dX8_shut_22 (by omega) (by omega) (by omega) (Nat.le_of_ble_eq_true rfl) ⟨M, 0, rfl, rfl, by omega, by omega, ?_⟩
    · skip
      first | (left; exact ⟨by omega, by omega, rfl⟩) | (right; exact ⟨by omega, by omega, rfl⟩)
  · skip
    refine z_iload_n ZC 2 dX8_shut_8 rfl rfl ?_
    refine z_aload_n ZC 0 dX8_shut_9 rfl rfl ?_
    refine z_get ZC inUX8 0 rfl rfl 20 (by decide) uF_X8_129 rfl dX8_shut_10 ?_
    refine z_icmp_lt ZC 21 dX8_shut_13 (by decide) (by omega) (by omega) (fun c_13 => ?_) (fun c_13 => ?_)
    · skip
      refine z_iconst ZC dX8_shut_21 ?_
      refine z_zret ZC ZE dX8_shut_22 (by omega) (by omega) (by omega) (Nat.le_of_ble_eq_true rfl) ⟨M, 0, rfl, rfl, by omega, by omega, ?_⟩
      · skip
        first | (left; exact ⟨by omega, by omega, rfl⟩) | (right; exact ⟨by omega, by omega, rfl⟩)
    · skip
      refine z_iload_n ZC 3 dX8_shut_16 rfl rfl ?_
      refine z_iload_n ZC 2 dX8_shut_17 rfl rfl ?_
      refine z_icmp_gt ZC 23 dX8_shut_18 (by decide) (by omega) (by omega) (fun c_18 => ?_) (fun c_18 => ?_)
      · skip
        refine z_aload_n ZC 0 dX8_shut_23 rfl rfl ?_
        refine z_get ZC inUX8 0 rfl rfl 9 (by decide) uF_X8_32 rfl dX8_shut_24 ?_
        refine z_iload_n ZC 1 dX8_shut_27 rfl rfl ?_
        refine z_iload_n ZC 2 dX8_shut_28 rfl rfl ?_
        refine z_iast ZC 7 rfl dX8_shut_29 (by omega) ?_
        refine z_aload_n ZC 0 dX8_shut_30 rfl rfl ?_
        refine z_get ZC inUX8 0 rfl rfl 10 (by decide) uF_X8_35 rfl dX8_shut_31 ?_
        refine z_iload_n ZC 1 dX8_shut_34 rfl rfl ?_
        refine z_iload_n ZC 3 dX8_shut_35 rfl rfl ?_
        refine z_iast ZC 8 rfl dX8_shut_36 (by omega) ?_
        refine z_iconst ZC dX8_shut_37 ?_
        refine z_zret ZC ZE dX8_shut_38 (by omega) (by omega) (by omega) (Nat.le_of_ble_eq_true rfl) ⟨((upf (upf M.1 9 (upz (M.1 9) rd fr)) 10 (upz (M.1 10) rd tt)), M.2), 1, rfl, rfl, by omega, by omega, ?_⟩
        · skip
          first | (left; exact ⟨by omega, by omega, rfl⟩) | (right; exact ⟨by omega, by omega, rfl⟩)
      · skip
        refine z_iconst ZC dX8_shut_21 ?_
        refine z_zret ZC ZE dX8_shut_22 (by omega) (by omega) (by omega) (Nat.le_of_ble_eq_true rfl) ⟨M, 0, rfl, rfl, by omega, by omega, ?_⟩
        · skip
          first | (left; exact ⟨by omega, by omega, rfl⟩) | (right; exact ⟨by omega, by omega, rfl⟩)

set_option maxHeartbeats 4000000 in
set_option maxRecDepth 100000 in
theorem c_X8_isShut (zl : Launch) (D : va_G) (K : tyK) (h : Nat) (a : Nat → Nat) (M : Bd) (r : Int) (hz_r : -2147483648 ≤ r ∧ r < 2147483648) (hn8 : 0 ≤ M.2 20 ∧ M.2 20 ≤ 200) (hr16 : 0 ≤ r ∧ r < 16) (hsh : (0 ≤ M.1 9 r ∧ M.1 9 r < 2147483648) ∧ (0 ≤ M.1 10 r ∧ M.1 10 r < 2147483648)) : Mz zl yX8_isShut cX8_isShut 2 (some .boolean) 1 22 0 0 D K [.ref h, vZ r] (wMo K h a M) (fun r_ w2_ gc gs => ∃ (v : Int), r_ = some (vZ v) ∧ w2_ = (wMo K h a M) ∧ gc = 0 ∧ gs = 0 ∧ ((v = 1 ∧ (M.1 9 r ≤ M.2 20 ∧ M.2 20 < M.1 10 r)) ∨ (v = 0 ∧ ¬ (M.1 9 r ≤ M.2 20 ∧ M.2 20 < M.1 10 r)))) := by
  refine Mz.ofZ (by decide) rfl (Nat.le_of_ble_eq_true rfl) ?_
  intro zp ze zR zs zm zargs zbelow zmeth zc zA zQ ZC ZE hRf hRc hRs hRl
  refine z_aload_n ZC 0 dX8_isShut_0 rfl rfl ?_
  refine z_get ZC inUX8 0 rfl rfl 20 (by decide) uF_X8_129 rfl dX8_isShut_1 ?_
  refine z_aload_n ZC 0 dX8_isShut_4 rfl rfl ?_
  refine z_get ZC inUX8 0 rfl rfl 9 (by decide) uF_X8_32 rfl dX8_isShut_5 ?_
  refine z_iload_n ZC 1 dX8_isShut_8 rfl rfl ?_
  refine z_iald ZC 7 rfl dX8_isShut_9 (by omega) ?_
  refine z_aload_n ZC 0 dX8_isShut_10 rfl rfl ?_
  refine z_get ZC inUX8 0 rfl rfl 10 (by decide) uF_X8_35 rfl dX8_isShut_11 ?_
  refine z_iload_n ZC 1 dX8_isShut_14 rfl rfl ?_
  refine z_iald ZC 8 rfl dX8_isShut_15 (by omega) ?_
  refine z_iconst ZC dX8_isShut_16 ?_
  refine z_isub ZC dX8_isShut_17 ?_
  refine z_callS ZC 3 (c_X8_in zl D K (M.2 20) ((M.1 9) r) (((M.1 10) r) - 1) (by omega) (by omega) (by omega)) (gdS uM_X8_114 uZ_X8_in uN_X8 uC_X8_in) (by decide +kernel) rfl ⟨by omega, by omega⟩ ⟨by omega, by omega⟩ (Nat.le_of_ble_eq_true rfl) [] rfl (by decide) rfl dX8_isShut_18 (fun r w2 gc_18 gs_18 hp => ?_)
  obtain ⟨b_18, rfl, rfl, rfl, rfl, hb_18⟩ := hp
  refine z_st (st2 := [vZ b_18]) rfl ?_
  refine z_zret ZC ZE dX8_isShut_21 (by omega) (by omega) (by omega) (Nat.le_of_ble_eq_true rfl) ⟨b_18, rfl, rfl, by omega, by omega, ?_⟩
  · skip
    omega

set_option maxHeartbeats 4000000 in
set_option maxRecDepth 100000 in
theorem c_X8_counted (zl : Launch) (D : va_G) (K : tyK) (h : Nat) (a : Nat → Nat) (M : Bd) (rd : Int) (ho : Int) (cs : Int) (hz_rd : -2147483648 ≤ rd ∧ rd < 2147483648) (hz_ho : -2147483648 ≤ ho ∧ ho < 2147483648) (hz_cs : -2147483648 ≤ cs ∧ cs < 2147483648) (hr8 : 0 ≤ M.2 4 ∧ M.2 4 ≤ 16) (hn8 : 0 ≤ M.2 20 ∧ M.2 20 ≤ 200) : Mz zl yX8_counted cX8_counted 4 (some .boolean) 2 43 0 0 D K [.ref h, vZ rd, vZ ho, vZ cs] (wMo K h a M) (fun r_ w2_ gc gs => ∃ (M2 : Bd), ∃ (v : Int), r_ = some (vZ v) ∧ w2_ = (wMo K h a M2) ∧ gc = 0 ∧ gs = 0 ∧ ((((0 ≤ rd ∧ rd < M.2 4) ∧ (0 ≤ ho ∧ ho < M.2 20) ∧ (-1 ≤ cs ∧ cs ≤ 5000)) ∧ v = 1 ∧ M2 = ((upf M.1 17 (upz (M.1 17) (200 * rd + ho) cs)), M.2)) ∨ (¬ ((0 ≤ rd ∧ rd < M.2 4) ∧ (0 ≤ ho ∧ ho < M.2 20) ∧ (-1 ≤ cs ∧ cs ≤ 5000)) ∧ v = 0 ∧ M2 = M))) := by
  refine Mz.ofZ (by decide) rfl (Nat.le_of_ble_eq_true rfl) ?_
  intro zp ze zR zs zm zargs zbelow zmeth zc zA zQ ZC ZE hRf hRc hRs hRl
  refine z_aload_n ZC 0 dX8_counted_0 rfl rfl ?_
  refine z_iload_n ZC 1 dX8_counted_1 rfl rfl ?_
  refine z_callV ZC 1 (c_X8_isRoad zl D K h a M rd (by omega) (by omega)) (gdV uM_X8_145 uI_X8_isRoad uS_X8_isRoad uN_X8 uC_X8_isRoad) (by decide +kernel) rfl ⟨by omega, by omega⟩ ⟨by omega, by omega⟩ (Nat.le_of_ble_eq_true rfl) [0, 1, 2, 3, 4, 5, 6, 7, 8, 9, 10, 11, 12, 13, 14, 15, 16, 17, 18, 19, 20, 21, 22, 23, 24, 25, 26, 27, 28, 29, 30, 31] rfl (by decide) rfl rfl rfl rfl dX8_counted_2 (fun r w2 gc_2 gs_2 hp => ?_)
  obtain ⟨v_2, rfl, rfl, rfl, rfl, hb_2⟩ := hp
  refine z_ws (ws2 := [(h, .inr (8, [vZ (M.2 0), .ref (a 1), .ref (a 2), vZ (M.2 3), vZ (M.2 4), .ref (a 5), .ref (a 6), .ref (a 7), .ref (a 8), .ref (a 9), .ref (a 10), .ref (a 11), vZ (M.2 12), .ref (a 13), .ref (a 14), .ref (a 15), .ref (a 16), .ref (a 17), .ref (a 18), .ref (a 19), vZ (M.2 20), vZ (M.2 21), .ref (a 22), .ref (a 23), .ref (a 24), .ref (a 25), .ref (a 26), .ref (a 27), .ref (a 28), .ref (a 29), .ref (a 30), .ref (a 31), .ref (a 32), .ref (a 33), vZ (M.2 34), .ref (a 35), vZ (M.2 36), vZ (M.2 37), vZ (M.2 38), .ref (a 39), .ref (a 40), vZ (M.2 41), vZ (M.2 42), vZ (M.2 43)])), ((a 1), .inl (K.1, 10, .inl (ar (M.1 1)))), ((a 2), .inl (K.1, 10, .inl (ar (M.1 2)))), ((a 5), .inl (K.1, 16, .inl (ar (M.1 5)))), ((a 6), .inl (K.1, 16, .inl (ar (M.1 6)))), ((a 7), .inl (K.1, 16, .inl (ar (M.1 7)))), ((a 8), .inl (K.1, 16, .inl (ar (M.1 8)))), ((a 9), .inl (K.1, 16, .inl (ar (M.1 9)))), ((a 10), .inl (K.1, 16, .inl (ar (M.1 10)))), ((a 11), .inl (K.1, 100, .inl (ar (M.1 11)))), ((a 13), .inl (K.1, 8, .inl (ar (M.1 13)))), ((a 14), .inl (K.1, 8, .inl (ar (M.1 14)))), ((a 15), .inl (K.1, 8, .inl (ar (M.1 15)))), ((a 16), .inl (K.1, 8, .inl (ar (M.1 16)))), ((a 17), .inl (K.1, 3200, .inl (ar (M.1 17)))), ((a 18), .inl (K.1, 3200, .inl (ar (M.1 18)))), ((a 19), .inl (K.2.1, 3200, .inl (ar (M.1 19)))), ((a 22), .inl (K.1, 3400, .inl (ar (M.1 22)))), ((a 23), .inl (K.1, 3400, .inl (ar (M.1 23)))), ((a 24), .inl (K.1, 3400, .inl (ar (M.1 24)))), ((a 25), .inl (K.1, 3400, .inl (ar (M.1 25)))), ((a 26), .inl (K.1, 32, .inl (ar (M.1 26)))), ((a 27), .inl (K.1, 32, .inl (ar (M.1 27)))), ((a 28), .inl (K.2.1, 8, .inl (ar (M.1 28)))), ((a 29), .inl (K.1, 8, .inl (ar (M.1 29)))), ((a 30), .inl (K.1, 8, .inl (ar (M.1 30)))), ((a 31), .inl (K.1, 10, .inl (ar (M.1 31)))), ((a 32), .inl (K.1, 10, .inl (ar (M.1 32)))), ((a 33), .inl (K.1, 10, .inl (ar (M.1 33)))), ((a 35), .inl (K.1, 13711, .inl (ar (M.1 35)))), ((a 39), .inl (K.1, 4, .inl (ar (M.1 39)))), ((a 40), .inl (K.1, 4, .inl (ar (M.1 40))))]) rfl ?_
  refine z_st (st2 := [vZ v_2]) rfl ?_
  refine z_if_eq ZC 27 dX8_counted_5 (by decide) (by omega) (fun c_5 => ?_) (fun c_5 => ?_)
  · skip
    refine z_iconst ZC dX8_counted_27 ?_
    refine z_zret ZC ZE dX8_counted_28 (by omega) (by omega) (by omega) (Nat.le_of_ble_eq_true rfl) ⟨M, 0, rfl, rfl, by omega, by omega, ?_⟩
    · skip
      first | (left; exact ⟨by omega, by omega, rfl⟩) | (right; exact ⟨by omega, by omega, rfl⟩)
  · skip
    refine z_aload_n ZC 0 dX8_counted_8 rfl rfl ?_
    refine z_iload_n ZC 2 dX8_counted_9 rfl rfl ?_
    refine z_callV ZC 1 (c_X8_isOver zl D K h a M ho (by omega) (by omega)) (gdV uM_X8_222 uI_X8_isOver uS_X8_isOver uN_X8 uC_X8_isOver) (by decide +kernel) rfl ⟨by omega, by omega⟩ ⟨by omega, by omega⟩ (Nat.le_of_ble_eq_true rfl) [0, 1, 2, 3, 4, 5, 6, 7, 8, 9, 10, 11, 12, 13, 14, 15, 16, 17, 18, 19, 20, 21, 22, 23, 24, 25, 26, 27, 28, 29, 30, 31] rfl (by decide) rfl rfl rfl rfl dX8_counted_10 (fun r w2 gc_10 gs_10 hp => ?_)
    obtain ⟨v_10, rfl, rfl, rfl, rfl, hb_10⟩ := hp
    refine z_ws (ws2 := [(h, .inr (8, [vZ (M.2 0), .ref (a 1), .ref (a 2), vZ (M.2 3), vZ (M.2 4), .ref (a 5), .ref (a 6), .ref (a 7), .ref (a 8), .ref (a 9), .ref (a 10), .ref (a 11), vZ (M.2 12), .ref (a 13), .ref (a 14), .ref (a 15), .ref (a 16), .ref (a 17), .ref (a 18), .ref (a 19), vZ (M.2 20), vZ (M.2 21), .ref (a 22), .ref (a 23), .ref (a 24), .ref (a 25), .ref (a 26), .ref (a 27), .ref (a 28), .ref (a 29), .ref (a 30), .ref (a 31), .ref (a 32), .ref (a 33), vZ (M.2 34), .ref (a 35), vZ (M.2 36), vZ (M.2 37), vZ (M.2 38), .ref (a 39), .ref (a 40), vZ (M.2 41), vZ (M.2 42), vZ (M.2 43)])), ((a 1), .inl (K.1, 10, .inl (ar (M.1 1)))), ((a 2), .inl (K.1, 10, .inl (ar (M.1 2)))), ((a 5), .inl (K.1, 16, .inl (ar (M.1 5)))), ((a 6), .inl (K.1, 16, .inl (ar (M.1 6)))), ((a 7), .inl (K.1, 16, .inl (ar (M.1 7)))), ((a 8), .inl (K.1, 16, .inl (ar (M.1 8)))), ((a 9), .inl (K.1, 16, .inl (ar (M.1 9)))), ((a 10), .inl (K.1, 16, .inl (ar (M.1 10)))), ((a 11), .inl (K.1, 100, .inl (ar (M.1 11)))), ((a 13), .inl (K.1, 8, .inl (ar (M.1 13)))), ((a 14), .inl (K.1, 8, .inl (ar (M.1 14)))), ((a 15), .inl (K.1, 8, .inl (ar (M.1 15)))), ((a 16), .inl (K.1, 8, .inl (ar (M.1 16)))), ((a 17), .inl (K.1, 3200, .inl (ar (M.1 17)))), ((a 18), .inl (K.1, 3200, .inl (ar (M.1 18)))), ((a 19), .inl (K.2.1, 3200, .inl (ar (M.1 19)))), ((a 22), .inl (K.1, 3400, .inl (ar (M.1 22)))), ((a 23), .inl (K.1, 3400, .inl (ar (M.1 23)))), ((a 24), .inl (K.1, 3400, .inl (ar (M.1 24)))), ((a 25), .inl (K.1, 3400, .inl (ar (M.1 25)))), ((a 26), .inl (K.1, 32, .inl (ar (M.1 26)))), ((a 27), .inl (K.1, 32, .inl (ar (M.1 27)))), ((a 28), .inl (K.2.1, 8, .inl (ar (M.1 28)))), ((a 29), .inl (K.1, 8, .inl (ar (M.1 29)))), ((a 30), .inl (K.1, 8, .inl (ar (M.1 30)))), ((a 31), .inl (K.1, 10, .inl (ar (M.1 31)))), ((a 32), .inl (K.1, 10, .inl (ar (M.1 32)))), ((a 33), .inl (K.1, 10, .inl (ar (M.1 33)))), ((a 35), .inl (K.1, 13711, .inl (ar (M.1 35)))), ((a 39), .inl (K.1, 4, .inl (ar (M.1 39)))), ((a 40), .inl (K.1, 4, .inl (ar (M.1 40))))]) rfl ?_
    refine z_st (st2 := [vZ v_10]) rfl ?_
    refine z_if_eq ZC 27 dX8_counted_13 (by decide) (by omega) (fun c_13 => ?_) (fun c_13 => ?_)
    · skip
      refine z_iconst ZC dX8_counted_27 ?_
      refine z_zret ZC ZE dX8_counted_28 (by omega) (by omega) (by omega) (Nat.le_of_ble_eq_true rfl) ⟨M, 0, rfl, rfl, by omega, by omega, ?_⟩
      · skip
        first | (left; exact ⟨by omega, by omega, rfl⟩) | (right; exact ⟨by omega, by omega, rfl⟩)
    · skip
      refine z_iload_n ZC 3 dX8_counted_16 rfl rfl ?_
      refine z_iconst ZC dX8_counted_17 ?_
      refine z_sipush ZC dX8_counted_18 (by decide) ?_
      refine z_callS ZC 3 (c_X8_in zl D K cs (-1) 5000 (by omega) (by omega) (by omega)) (gdS uM_X8_114 uZ_X8_in uN_X8 uC_X8_in) (by decide +kernel) rfl ⟨by omega, by omega⟩ ⟨by omega, by omega⟩ (Nat.le_of_ble_eq_true rfl) [] rfl (by decide) rfl dX8_counted_21 (fun r w2 gc_21 gs_21 hp => ?_)
      obtain ⟨b_21, rfl, rfl, rfl, rfl, hb_21⟩ := hp
      refine z_st (st2 := [vZ b_21]) rfl ?_
      refine z_if_ne ZC 29 dX8_counted_24 (by decide) (by omega) (fun c_24 => ?_) (fun c_24 => ?_)
      · skip
        refine z_aload_n ZC 0 dX8_counted_29 rfl rfl ?_
        refine z_get ZC inUX8 0 rfl rfl 17 (by decide) uF_X8_53 rfl dX8_counted_30 ?_
        refine z_sipush ZC dX8_counted_33 (by decide) ?_
        refine z_iload_n ZC 1 dX8_counted_36 rfl rfl ?_
        refine z_imul ZC dX8_counted_37 ?_
        refine z_iload_n ZC 2 dX8_counted_38 rfl rfl ?_
        refine z_iadd ZC dX8_counted_39 ?_
        refine z_iload_n ZC 3 dX8_counted_40 rfl rfl ?_
        refine z_iast ZC 14 rfl dX8_counted_41 (by omega) ?_
        refine z_iconst ZC dX8_counted_42 ?_
        refine z_zret ZC ZE dX8_counted_43 (by omega) (by omega) (by omega) (Nat.le_of_ble_eq_true rfl) ⟨((upf M.1 17 (upz (M.1 17) ((200 * rd) + ho) cs)), M.2), 1, rfl, rfl, by omega, by omega, ?_⟩
        · skip
          first | (left; exact ⟨by omega, by omega, rfl⟩) | (right; exact ⟨by omega, by omega, rfl⟩)
      · skip
        refine z_iconst ZC dX8_counted_27 ?_
        refine z_zret ZC ZE dX8_counted_28 (by omega) (by omega) (by omega) (Nat.le_of_ble_eq_true rfl) ⟨M, 0, rfl, rfl, by omega, by omega, ?_⟩
        · skip
          first | (left; exact ⟨by omega, by omega, rfl⟩) | (right; exact ⟨by omega, by omega, rfl⟩)

set_option maxHeartbeats 4000000 in
set_option maxRecDepth 100000 in
theorem c_X8_out (zl : Launch) (D : va_G) (K : tyK) (h : Nat) (a : Nat → Nat) (M : Bd) (rd : Int) (ho : Int) (hz_rd : -2147483648 ≤ rd ∧ rd < 2147483648) (hz_ho : -2147483648 ≤ ho ∧ ho < 2147483648) (hr8 : 0 ≤ M.2 4 ∧ M.2 4 ≤ 16) (hn8 : 0 ≤ M.2 20 ∧ M.2 20 ≤ 200) : Mz zl yX8_out cX8_out 3 (some .int) 2 43 0 0 D K [.ref h, vZ rd, vZ ho] (wMo K h a M) (fun r_ w2_ gc gs => ∃ (v : Int), r_ = some (vZ v) ∧ w2_ = (wMo K h a M) ∧ gc = 0 ∧ gs = 0 ∧ ((((0 ≤ rd ∧ rd < M.2 4) ∧ (0 ≤ ho ∧ ho < M.2 20)) ∧ v = M.1 18 (200 * rd + ho) ∧ True) ∨ (¬ ((0 ≤ rd ∧ rd < M.2 4) ∧ (0 ≤ ho ∧ ho < M.2 20)) ∧ v = -1 ∧ True))) := by
  refine Mz.ofZ (by decide) rfl (Nat.le_of_ble_eq_true rfl) ?_
  intro zp ze zR zs zm zargs zbelow zmeth zc zA zQ ZC ZE hRf hRc hRs hRl
  refine z_aload_n ZC 0 dX8_out_0 rfl rfl ?_
  refine z_iload_n ZC 1 dX8_out_1 rfl rfl ?_
  refine z_callV ZC 1 (c_X8_isRoad zl D K h a M rd (by omega) (by omega)) (gdV uM_X8_145 uI_X8_isRoad uS_X8_isRoad uN_X8 uC_X8_isRoad) (by decide +kernel) rfl ⟨by omega, by omega⟩ ⟨by omega, by omega⟩ (Nat.le_of_ble_eq_true rfl) [0, 1, 2, 3, 4, 5, 6, 7, 8, 9, 10, 11, 12, 13, 14, 15, 16, 17, 18, 19, 20, 21, 22, 23, 24, 25, 26, 27, 28, 29, 30, 31] rfl (by decide) rfl rfl rfl rfl dX8_out_2 (fun r w2 gc_2 gs_2 hp => ?_)
  obtain ⟨v_2, rfl, rfl, rfl, rfl, hb_2⟩ := hp
  refine z_ws (ws2 := [(h, .inr (8, [vZ (M.2 0), .ref (a 1), .ref (a 2), vZ (M.2 3), vZ (M.2 4), .ref (a 5), .ref (a 6), .ref (a 7), .ref (a 8), .ref (a 9), .ref (a 10), .ref (a 11), vZ (M.2 12), .ref (a 13), .ref (a 14), .ref (a 15), .ref (a 16), .ref (a 17), .ref (a 18), .ref (a 19), vZ (M.2 20), vZ (M.2 21), .ref (a 22), .ref (a 23), .ref (a 24), .ref (a 25), .ref (a 26), .ref (a 27), .ref (a 28), .ref (a 29), .ref (a 30), .ref (a 31), .ref (a 32), .ref (a 33), vZ (M.2 34), .ref (a 35), vZ (M.2 36), vZ (M.2 37), vZ (M.2 38), .ref (a 39), .ref (a 40), vZ (M.2 41), vZ (M.2 42), vZ (M.2 43)])), ((a 1), .inl (K.1, 10, .inl (ar (M.1 1)))), ((a 2), .inl (K.1, 10, .inl (ar (M.1 2)))), ((a 5), .inl (K.1, 16, .inl (ar (M.1 5)))), ((a 6), .inl (K.1, 16, .inl (ar (M.1 6)))), ((a 7), .inl (K.1, 16, .inl (ar (M.1 7)))), ((a 8), .inl (K.1, 16, .inl (ar (M.1 8)))), ((a 9), .inl (K.1, 16, .inl (ar (M.1 9)))), ((a 10), .inl (K.1, 16, .inl (ar (M.1 10)))), ((a 11), .inl (K.1, 100, .inl (ar (M.1 11)))), ((a 13), .inl (K.1, 8, .inl (ar (M.1 13)))), ((a 14), .inl (K.1, 8, .inl (ar (M.1 14)))), ((a 15), .inl (K.1, 8, .inl (ar (M.1 15)))), ((a 16), .inl (K.1, 8, .inl (ar (M.1 16)))), ((a 17), .inl (K.1, 3200, .inl (ar (M.1 17)))), ((a 18), .inl (K.1, 3200, .inl (ar (M.1 18)))), ((a 19), .inl (K.2.1, 3200, .inl (ar (M.1 19)))), ((a 22), .inl (K.1, 3400, .inl (ar (M.1 22)))), ((a 23), .inl (K.1, 3400, .inl (ar (M.1 23)))), ((a 24), .inl (K.1, 3400, .inl (ar (M.1 24)))), ((a 25), .inl (K.1, 3400, .inl (ar (M.1 25)))), ((a 26), .inl (K.1, 32, .inl (ar (M.1 26)))), ((a 27), .inl (K.1, 32, .inl (ar (M.1 27)))), ((a 28), .inl (K.2.1, 8, .inl (ar (M.1 28)))), ((a 29), .inl (K.1, 8, .inl (ar (M.1 29)))), ((a 30), .inl (K.1, 8, .inl (ar (M.1 30)))), ((a 31), .inl (K.1, 10, .inl (ar (M.1 31)))), ((a 32), .inl (K.1, 10, .inl (ar (M.1 32)))), ((a 33), .inl (K.1, 10, .inl (ar (M.1 33)))), ((a 35), .inl (K.1, 13711, .inl (ar (M.1 35)))), ((a 39), .inl (K.1, 4, .inl (ar (M.1 39)))), ((a 40), .inl (K.1, 4, .inl (ar (M.1 40))))]) rfl ?_
  refine z_st (st2 := [vZ v_2]) rfl ?_
  refine z_if_eq ZC 31 dX8_out_5 (by decide) (by omega) (fun c_5 => ?_) (fun c_5 => ?_)
  · skip
    refine z_iconst ZC dX8_out_31 ?_
    refine z_iret ZC ZE dX8_out_32 (by omega) (by omega) (Nat.le_of_ble_eq_true rfl) ⟨(-1), rfl, rfl, by omega, by omega, ?_⟩
    · skip
      first | (left; exact ⟨by omega, by omega, trivial⟩) | (right; exact ⟨by omega, by omega, trivial⟩)
  · skip
    refine z_aload_n ZC 0 dX8_out_8 rfl rfl ?_
    refine z_iload_n ZC 2 dX8_out_9 rfl rfl ?_
    refine z_callV ZC 1 (c_X8_isOver zl D K h a M ho (by omega) (by omega)) (gdV uM_X8_222 uI_X8_isOver uS_X8_isOver uN_X8 uC_X8_isOver) (by decide +kernel) rfl ⟨by omega, by omega⟩ ⟨by omega, by omega⟩ (Nat.le_of_ble_eq_true rfl) [0, 1, 2, 3, 4, 5, 6, 7, 8, 9, 10, 11, 12, 13, 14, 15, 16, 17, 18, 19, 20, 21, 22, 23, 24, 25, 26, 27, 28, 29, 30, 31] rfl (by decide) rfl rfl rfl rfl dX8_out_10 (fun r w2 gc_10 gs_10 hp => ?_)
    obtain ⟨v_10, rfl, rfl, rfl, rfl, hb_10⟩ := hp
    refine z_ws (ws2 := [(h, .inr (8, [vZ (M.2 0), .ref (a 1), .ref (a 2), vZ (M.2 3), vZ (M.2 4), .ref (a 5), .ref (a 6), .ref (a 7), .ref (a 8), .ref (a 9), .ref (a 10), .ref (a 11), vZ (M.2 12), .ref (a 13), .ref (a 14), .ref (a 15), .ref (a 16), .ref (a 17), .ref (a 18), .ref (a 19), vZ (M.2 20), vZ (M.2 21), .ref (a 22), .ref (a 23), .ref (a 24), .ref (a 25), .ref (a 26), .ref (a 27), .ref (a 28), .ref (a 29), .ref (a 30), .ref (a 31), .ref (a 32), .ref (a 33), vZ (M.2 34), .ref (a 35), vZ (M.2 36), vZ (M.2 37), vZ (M.2 38), .ref (a 39), .ref (a 40), vZ (M.2 41), vZ (M.2 42), vZ (M.2 43)])), ((a 1), .inl (K.1, 10, .inl (ar (M.1 1)))), ((a 2), .inl (K.1, 10, .inl (ar (M.1 2)))), ((a 5), .inl (K.1, 16, .inl (ar (M.1 5)))), ((a 6), .inl (K.1, 16, .inl (ar (M.1 6)))), ((a 7), .inl (K.1, 16, .inl (ar (M.1 7)))), ((a 8), .inl (K.1, 16, .inl (ar (M.1 8)))), ((a 9), .inl (K.1, 16, .inl (ar (M.1 9)))), ((a 10), .inl (K.1, 16, .inl (ar (M.1 10)))), ((a 11), .inl (K.1, 100, .inl (ar (M.1 11)))), ((a 13), .inl (K.1, 8, .inl (ar (M.1 13)))), ((a 14), .inl (K.1, 8, .inl (ar (M.1 14)))), ((a 15), .inl (K.1, 8, .inl (ar (M.1 15)))), ((a 16), .inl (K.1, 8, .inl (ar (M.1 16)))), ((a 17), .inl (K.1, 3200, .inl (ar (M.1 17)))), ((a 18), .inl (K.1, 3200, .inl (ar (M.1 18)))), ((a 19), .inl (K.2.1, 3200, .inl (ar (M.1 19)))), ((a 22), .inl (K.1, 3400, .inl (ar (M.1 22)))), ((a 23), .inl (K.1, 3400, .inl (ar (M.1 23)))), ((a 24), .inl (K.1, 3400, .inl (ar (M.1 24)))), ((a 25), .inl (K.1, 3400, .inl (ar (M.1 25)))), ((a 26), .inl (K.1, 32, .inl (ar (M.1 26)))), ((a 27), .inl (K.1, 32, .inl (ar (M.1 27)))), ((a 28), .inl (K.2.1, 8, .inl (ar (M.1 28)))), ((a 29), .inl (K.1, 8, .inl (ar (M.1 29)))), ((a 30), .inl (K.1, 8, .inl (ar (M.1 30)))), ((a 31), .inl (K.1, 10, .inl (ar (M.1 31)))), ((a 32), .inl (K.1, 10, .inl (ar (M.1 32)))), ((a 33), .inl (K.1, 10, .inl (ar (M.1 33)))), ((a 35), .inl (K.1, 13711, .inl (ar (M.1 35)))), ((a 39), .inl (K.1, 4, .inl (ar (M.1 39)))), ((a 40), .inl (K.1, 4, .inl (ar (M.1 40))))]) rfl ?_
    refine z_st (st2 := [vZ v_10]) rfl ?_
    refine z_if_eq ZC 31 dX8_out_13 (by decide) (by omega) (fun c_13 => ?_) (fun c_13 => ?_)
    · skip
      refine z_iconst ZC dX8_out_31 ?_
      refine z_iret ZC ZE dX8_out_32 (by omega) (by omega) (Nat.le_of_ble_eq_true rfl) ⟨(-1), rfl, rfl, by omega, by omega, ?_⟩
      · skip
        first | (left; exact ⟨by omega, by omega, trivial⟩) | (right; exact ⟨by omega, by omega, trivial⟩)
    · skip
      refine z_aload_n ZC 0 dX8_out_16 rfl rfl ?_
      refine z_get ZC inUX8 0 rfl rfl 18 (by decide) uF_X8_56 rfl dX8_out_17 ?_
      refine z_sipush ZC dX8_out_20 (by decide) ?_
      refine z_iload_n ZC 1 dX8_out_23 rfl rfl ?_
      refine z_imul ZC dX8_out_24 ?_
      refine z_iload_n ZC 2 dX8_out_25 rfl rfl ?_
      refine z_iadd ZC dX8_out_26 ?_
      refine z_iald ZC 15 rfl dX8_out_27 (by omega) ?_
      refine z_goto ZC 32 dX8_out_28 (by decide) ?_
      refine z_iret ZC ZE dX8_out_32 (by omega) (by omega) (Nat.le_of_ble_eq_true rfl) ⟨((M.1 18) ((200 * rd) + ho)), rfl, rfl, by omega, by omega, ?_⟩
      · skip
        first | (left; exact ⟨by omega, by omega, trivial⟩) | (right; exact ⟨by omega, by omega, trivial⟩)

set_option maxHeartbeats 4000000 in
set_option maxRecDepth 100000 in
theorem c_X8_came (zl : Launch) (D : va_G) (K : tyK) (h : Nat) (a : Nat → Nat) (M : Bd) (rd : Int) (fr : Int) (tt : Int) (what : Int) (hz_rd : -2147483648 ≤ rd ∧ rd < 2147483648) (hz_fr : -2147483648 ≤ fr ∧ fr < 2147483648) (hz_tt : -2147483648 ≤ tt ∧ tt < 2147483648) (hz_what : -2147483648 ≤ what ∧ what < 2147483648) (hr8 : 0 ≤ M.2 4 ∧ M.2 4 ≤ 16) (hn8 : 0 ≤ M.2 20 ∧ M.2 20 ≤ 200) (hc17 : ∀ k : Int, 0 ≤ k → k < 3200 → (-1 ≤ M.1 17 k ∧ M.1 17 k ≤ 5000) ∧ (0 ≤ M.1 19 k ∧ M.1 19 k ≤ 1)) : Mz zl yX8_came cX8_came 8 (some .int) 2 43 0 0 D K [.ref h, vZ rd, vZ fr, vZ tt, vZ what] (wMo K h a M) (fun r_ w2_ gc gs => ∃ (v : Int), r_ = some (vZ v) ∧ w2_ = (wMo K h a M) ∧ gc = 0 ∧ gs = 0 ∧ ((((0 ≤ rd ∧ rd < M.2 4) ∧ (0 ≤ fr ∧ fr < M.2 20) ∧ (0 ≤ tt ∧ tt < M.2 20) ∧ fr ≤ tt ∧ (0 ≤ what ∧ what ≤ 1)) ∧ v = smI (fun j => if M.1 17 (200 * rd + j) ≠ -1 then M.1 17 (200 * rd + j) else if what = 1 ∧ M.1 19 (200 * rd + j) = 0 then M.1 7 rd else 0) fr (tt + 1 - fr).toNat ∧ True) ∨ (¬ ((0 ≤ rd ∧ rd < M.2 4) ∧ (0 ≤ fr ∧ fr < M.2 20) ∧ (0 ≤ tt ∧ tt < M.2 20) ∧ fr ≤ tt ∧ (0 ≤ what ∧ what ≤ 1)) ∧ v = -1 ∧ True))) := by
  refine Mz.ofZ (by decide) rfl (Nat.le_of_ble_eq_true rfl) ?_
  intro zp ze zR zs zm zargs zbelow zmeth zc zA zQ ZC ZE hRf hRc hRs hRl
  refine z_aload_n ZC 0 dX8_came_0 rfl rfl ?_
  refine z_iload_n ZC 1 dX8_came_1 rfl rfl ?_
  refine z_callV ZC 1 (c_X8_isRoad zl D K h a M rd (by omega) (by omega)) (gdV uM_X8_145 uI_X8_isRoad uS_X8_isRoad uN_X8 uC_X8_isRoad) (by decide +kernel) rfl ⟨by omega, by omega⟩ ⟨by omega, by omega⟩ (Nat.le_of_ble_eq_true rfl) [0, 1, 2, 3, 4, 5, 6, 7, 8, 9, 10, 11, 12, 13, 14, 15, 16, 17, 18, 19, 20, 21, 22, 23, 24, 25, 26, 27, 28, 29, 30, 31] rfl (by decide) rfl rfl rfl rfl dX8_came_2 (fun r w2 gc_2 gs_2 hp => ?_)
  obtain ⟨v_2, rfl, rfl, rfl, rfl, hb_2⟩ := hp
  refine z_ws (ws2 := [(h, .inr (8, [vZ (M.2 0), .ref (a 1), .ref (a 2), vZ (M.2 3), vZ (M.2 4), .ref (a 5), .ref (a 6), .ref (a 7), .ref (a 8), .ref (a 9), .ref (a 10), .ref (a 11), vZ (M.2 12), .ref (a 13), .ref (a 14), .ref (a 15), .ref (a 16), .ref (a 17), .ref (a 18), .ref (a 19), vZ (M.2 20), vZ (M.2 21), .ref (a 22), .ref (a 23), .ref (a 24), .ref (a 25), .ref (a 26), .ref (a 27), .ref (a 28), .ref (a 29), .ref (a 30), .ref (a 31), .ref (a 32), .ref (a 33), vZ (M.2 34), .ref (a 35), vZ (M.2 36), vZ (M.2 37), vZ (M.2 38), .ref (a 39), .ref (a 40), vZ (M.2 41), vZ (M.2 42), vZ (M.2 43)])), ((a 1), .inl (K.1, 10, .inl (ar (M.1 1)))), ((a 2), .inl (K.1, 10, .inl (ar (M.1 2)))), ((a 5), .inl (K.1, 16, .inl (ar (M.1 5)))), ((a 6), .inl (K.1, 16, .inl (ar (M.1 6)))), ((a 7), .inl (K.1, 16, .inl (ar (M.1 7)))), ((a 8), .inl (K.1, 16, .inl (ar (M.1 8)))), ((a 9), .inl (K.1, 16, .inl (ar (M.1 9)))), ((a 10), .inl (K.1, 16, .inl (ar (M.1 10)))), ((a 11), .inl (K.1, 100, .inl (ar (M.1 11)))), ((a 13), .inl (K.1, 8, .inl (ar (M.1 13)))), ((a 14), .inl (K.1, 8, .inl (ar (M.1 14)))), ((a 15), .inl (K.1, 8, .inl (ar (M.1 15)))), ((a 16), .inl (K.1, 8, .inl (ar (M.1 16)))), ((a 17), .inl (K.1, 3200, .inl (ar (M.1 17)))), ((a 18), .inl (K.1, 3200, .inl (ar (M.1 18)))), ((a 19), .inl (K.2.1, 3200, .inl (ar (M.1 19)))), ((a 22), .inl (K.1, 3400, .inl (ar (M.1 22)))), ((a 23), .inl (K.1, 3400, .inl (ar (M.1 23)))), ((a 24), .inl (K.1, 3400, .inl (ar (M.1 24)))), ((a 25), .inl (K.1, 3400, .inl (ar (M.1 25)))), ((a 26), .inl (K.1, 32, .inl (ar (M.1 26)))), ((a 27), .inl (K.1, 32, .inl (ar (M.1 27)))), ((a 28), .inl (K.2.1, 8, .inl (ar (M.1 28)))), ((a 29), .inl (K.1, 8, .inl (ar (M.1 29)))), ((a 30), .inl (K.1, 8, .inl (ar (M.1 30)))), ((a 31), .inl (K.1, 10, .inl (ar (M.1 31)))), ((a 32), .inl (K.1, 10, .inl (ar (M.1 32)))), ((a 33), .inl (K.1, 10, .inl (ar (M.1 33)))), ((a 35), .inl (K.1, 13711, .inl (ar (M.1 35)))), ((a 39), .inl (K.1, 4, .inl (ar (M.1 39)))), ((a 40), .inl (K.1, 4, .inl (ar (M.1 40))))]) rfl ?_
  refine z_st (st2 := [vZ v_2]) rfl ?_
  refine z_if_eq ZC 39 dX8_came_5 (by decide) (by omega) (fun c_5 => ?_) (fun c_5 => ?_)
  · skip
    refine z_iconst ZC dX8_came_39 ?_
    refine z_iret ZC ZE dX8_came_40 (by omega) (by omega) (Nat.le_of_ble_eq_true rfl) ⟨(-1), rfl, rfl, by omega, by omega, ?_⟩
    · skip
      right; exact ⟨by omega, rfl, trivial⟩
  · skip
    refine z_aload_n ZC 0 dX8_came_8 rfl rfl ?_
    refine z_iload_n ZC 2 dX8_came_9 rfl rfl ?_
    refine z_callV ZC 1 (c_X8_isOver zl D K h a M fr (by omega) (by omega)) (gdV uM_X8_222 uI_X8_isOver uS_X8_isOver uN_X8 uC_X8_isOver) (by decide +kernel) rfl ⟨by omega, by omega⟩ ⟨by omega, by omega⟩ (Nat.le_of_ble_eq_true rfl) [0, 1, 2, 3, 4, 5, 6, 7, 8, 9, 10, 11, 12, 13, 14, 15, 16, 17, 18, 19, 20, 21, 22, 23, 24, 25, 26, 27, 28, 29, 30, 31] rfl (by decide) rfl rfl rfl rfl dX8_came_10 (fun r w2 gc_10 gs_10 hp => ?_)
    obtain ⟨v_10, rfl, rfl, rfl, rfl, hb_10⟩ := hp
    refine z_ws (ws2 := [(h, .inr (8, [vZ (M.2 0), .ref (a 1), .ref (a 2), vZ (M.2 3), vZ (M.2 4), .ref (a 5), .ref (a 6), .ref (a 7), .ref (a 8), .ref (a 9), .ref (a 10), .ref (a 11), vZ (M.2 12), .ref (a 13), .ref (a 14), .ref (a 15), .ref (a 16), .ref (a 17), .ref (a 18), .ref (a 19), vZ (M.2 20), vZ (M.2 21), .ref (a 22), .ref (a 23), .ref (a 24), .ref (a 25), .ref (a 26), .ref (a 27), .ref (a 28), .ref (a 29), .ref (a 30), .ref (a 31), .ref (a 32), .ref (a 33), vZ (M.2 34), .ref (a 35), vZ (M.2 36), vZ (M.2 37), vZ (M.2 38), .ref (a 39), .ref (a 40), vZ (M.2 41), vZ (M.2 42), vZ (M.2 43)])), ((a 1), .inl (K.1, 10, .inl (ar (M.1 1)))), ((a 2), .inl (K.1, 10, .inl (ar (M.1 2)))), ((a 5), .inl (K.1, 16, .inl (ar (M.1 5)))), ((a 6), .inl (K.1, 16, .inl (ar (M.1 6)))), ((a 7), .inl (K.1, 16, .inl (ar (M.1 7)))), ((a 8), .inl (K.1, 16, .inl (ar (M.1 8)))), ((a 9), .inl (K.1, 16, .inl (ar (M.1 9)))), ((a 10), .inl (K.1, 16, .inl (ar (M.1 10)))), ((a 11), .inl (K.1, 100, .inl (ar (M.1 11)))), ((a 13), .inl (K.1, 8, .inl (ar (M.1 13)))), ((a 14), .inl (K.1, 8, .inl (ar (M.1 14)))), ((a 15), .inl (K.1, 8, .inl (ar (M.1 15)))), ((a 16), .inl (K.1, 8, .inl (ar (M.1 16)))), ((a 17), .inl (K.1, 3200, .inl (ar (M.1 17)))), ((a 18), .inl (K.1, 3200, .inl (ar (M.1 18)))), ((a 19), .inl (K.2.1, 3200, .inl (ar (M.1 19)))), ((a 22), .inl (K.1, 3400, .inl (ar (M.1 22)))), ((a 23), .inl (K.1, 3400, .inl (ar (M.1 23)))), ((a 24), .inl (K.1, 3400, .inl (ar (M.1 24)))), ((a 25), .inl (K.1, 3400, .inl (ar (M.1 25)))), ((a 26), .inl (K.1, 32, .inl (ar (M.1 26)))), ((a 27), .inl (K.1, 32, .inl (ar (M.1 27)))), ((a 28), .inl (K.2.1, 8, .inl (ar (M.1 28)))), ((a 29), .inl (K.1, 8, .inl (ar (M.1 29)))), ((a 30), .inl (K.1, 8, .inl (ar (M.1 30)))), ((a 31), .inl (K.1, 10, .inl (ar (M.1 31)))), ((a 32), .inl (K.1, 10, .inl (ar (M.1 32)))), ((a 33), .inl (K.1, 10, .inl (ar (M.1 33)))), ((a 35), .inl (K.1, 13711, .inl (ar (M.1 35)))), ((a 39), .inl (K.1, 4, .inl (ar (M.1 39)))), ((a 40), .inl (K.1, 4, .inl (ar (M.1 40))))]) rfl ?_
    refine z_st (st2 := [vZ v_10]) rfl ?_
    refine z_if_eq ZC 39 dX8_came_13 (by decide) (by omega) (fun c_13 => ?_) (fun c_13 => ?_)
    · skip
      refine z_iconst ZC dX8_came_39 ?_
      refine z_iret ZC ZE dX8_came_40 (by omega) (by omega) (Nat.le_of_ble_eq_true rfl) ⟨(-1), rfl, rfl, by omega, by omega, ?_⟩
      · skip
        right; exact ⟨by omega, rfl, trivial⟩
    · skip
      refine z_aload_n ZC 0 dX8_came_16 rfl rfl ?_
      refine z_iload_n ZC 3 dX8_came_17 rfl rfl ?_
      refine z_callV ZC 1 (c_X8_isOver zl D K h a M tt (by omega) (by omega)) (gdV uM_X8_222 uI_X8_isOver uS_X8_isOver uN_X8 uC_X8_isOver) (by decide +kernel) rfl ⟨by omega, by omega⟩ ⟨by omega, by omega⟩ (Nat.le_of_ble_eq_true rfl) [0, 1, 2, 3, 4, 5, 6, 7, 8, 9, 10, 11, 12, 13, 14, 15, 16, 17, 18, 19, 20, 21, 22, 23, 24, 25, 26, 27, 28, 29, 30, 31] rfl (by decide) rfl rfl rfl rfl dX8_came_18 (fun r w2 gc_18 gs_18 hp => ?_)
      obtain ⟨v_18, rfl, rfl, rfl, rfl, hb_18⟩ := hp
      refine z_ws (ws2 := [(h, .inr (8, [vZ (M.2 0), .ref (a 1), .ref (a 2), vZ (M.2 3), vZ (M.2 4), .ref (a 5), .ref (a 6), .ref (a 7), .ref (a 8), .ref (a 9), .ref (a 10), .ref (a 11), vZ (M.2 12), .ref (a 13), .ref (a 14), .ref (a 15), .ref (a 16), .ref (a 17), .ref (a 18), .ref (a 19), vZ (M.2 20), vZ (M.2 21), .ref (a 22), .ref (a 23), .ref (a 24), .ref (a 25), .ref (a 26), .ref (a 27), .ref (a 28), .ref (a 29), .ref (a 30), .ref (a 31), .ref (a 32), .ref (a 33), vZ (M.2 34), .ref (a 35), vZ (M.2 36), vZ (M.2 37), vZ (M.2 38), .ref (a 39), .ref (a 40), vZ (M.2 41), vZ (M.2 42), vZ (M.2 43)])), ((a 1), .inl (K.1, 10, .inl (ar (M.1 1)))), ((a 2), .inl (K.1, 10, .inl (ar (M.1 2)))), ((a 5), .inl (K.1, 16, .inl (ar (M.1 5)))), ((a 6), .inl (K.1, 16, .inl (ar (M.1 6)))), ((a 7), .inl (K.1, 16, .inl (ar (M.1 7)))), ((a 8), .inl (K.1, 16, .inl (ar (M.1 8)))), ((a 9), .inl (K.1, 16, .inl (ar (M.1 9)))), ((a 10), .inl (K.1, 16, .inl (ar (M.1 10)))), ((a 11), .inl (K.1, 100, .inl (ar (M.1 11)))), ((a 13), .inl (K.1, 8, .inl (ar (M.1 13)))), ((a 14), .inl (K.1, 8, .inl (ar (M.1 14)))), ((a 15), .inl (K.1, 8, .inl (ar (M.1 15)))), ((a 16), .inl (K.1, 8, .inl (ar (M.1 16)))), ((a 17), .inl (K.1, 3200, .inl (ar (M.1 17)))), ((a 18), .inl (K.1, 3200, .inl (ar (M.1 18)))), ((a 19), .inl (K.2.1, 3200, .inl (ar (M.1 19)))), ((a 22), .inl (K.1, 3400, .inl (ar (M.1 22)))), ((a 23), .inl (K.1, 3400, .inl (ar (M.1 23)))), ((a 24), .inl (K.1, 3400, .inl (ar (M.1 24)))), ((a 25), .inl (K.1, 3400, .inl (ar (M.1 25)))), ((a 26), .inl (K.1, 32, .inl (ar (M.1 26)))), ((a 27), .inl (K.1, 32, .inl (ar (M.1 27)))), ((a 28), .inl (K.2.1, 8, .inl (ar (M.1 28)))), ((a 29), .inl (K.1, 8, .inl (ar (M.1 29)))), ((a 30), .inl (K.1, 8, .inl (ar (M.1 30)))), ((a 31), .inl (K.1, 10, .inl (ar (M.1 31)))), ((a 32), .inl (K.1, 10, .inl (ar (M.1 32)))), ((a 33), .inl (K.1, 10, .inl (ar (M.1 33)))), ((a 35), .inl (K.1, 13711, .inl (ar (M.1 35)))), ((a 39), .inl (K.1, 4, .inl (ar (M.1 39)))), ((a 40), .inl (K.1, 4, .inl (ar (M.1 40))))]) rfl ?_
      refine z_st (st2 := [vZ v_18]) rfl ?_
      refine z_if_eq ZC 39 dX8_came_21 (by decide) (by omega) (fun c_21 => ?_) (fun c_21 => ?_)
      · skip
        refine z_iconst ZC dX8_came_39 ?_
        refine z_iret ZC ZE dX8_came_40 (by omega) (by omega) (Nat.le_of_ble_eq_true rfl) ⟨(-1), rfl, rfl, by omega, by omega, ?_⟩
        · skip
          right; exact ⟨by omega, rfl, trivial⟩
      · skip
        refine z_iload_n ZC 2 dX8_came_24 rfl rfl ?_
        refine z_iload_n ZC 3 dX8_came_25 rfl rfl ?_
        refine z_icmp_gt ZC 39 dX8_came_26 (by decide) (by omega) (by omega) (fun c_26 => ?_) (fun c_26 => ?_)
        · skip
          refine z_iconst ZC dX8_came_39 ?_
          refine z_iret ZC ZE dX8_came_40 (by omega) (by omega) (Nat.le_of_ble_eq_true rfl) ⟨(-1), rfl, rfl, by omega, by omega, ?_⟩
          · skip
            right; exact ⟨by omega, rfl, trivial⟩
        · skip
          refine z_iload ZC dX8_came_29 rfl ?_
          refine z_iconst ZC dX8_came_31 ?_
          refine z_iconst ZC dX8_came_32 ?_
          refine z_callS ZC 3 (c_X8_in zl D K what 0 1 (by omega) (by omega) (by omega)) (gdS uM_X8_114 uZ_X8_in uN_X8 uC_X8_in) (by decide +kernel) rfl ⟨by omega, by omega⟩ ⟨by omega, by omega⟩ (Nat.le_of_ble_eq_true rfl) [] rfl (by decide) rfl dX8_came_33 (fun r w2 gc_33 gs_33 hp => ?_)
          obtain ⟨b_33, rfl, rfl, rfl, rfl, hb_33⟩ := hp
          refine z_st (st2 := [vZ b_33]) rfl ?_
          refine z_if_ne ZC 41 dX8_came_36 (by decide) (by omega) (fun c_36 => ?_) (fun c_36 => ?_)
          · skip
            refine z_iconst ZC dX8_came_41 ?_
            refine z_istore ZC dX8_came_42 (by decide) ?_
            refine z_iload_n ZC 2 dX8_came_44 rfl rfl ?_
            refine z_istore ZC dX8_came_45 (by decide) ?_
            have lp_47 : ∀ (n_47 : Nat) (n : Int) (j : Int), (fr ≤ j ∧ j ≤ tt + 1) → (n = smI (fun j => if M.1 17 (200 * rd + j) ≠ -1 then M.1 17 (200 * rd + j) else if what = 1 ∧ M.1 19 (200 * rd + j) = 0 then M.1 7 rd else 0) fr (j - fr).toNat) → ((tt + 1 - j).toNat) < n_47 → Zw zp zl ze zR zs zm zargs zbelow zmeth zc D zA 8 zQ (0 + 0 + 0 + 0 + 0) (0 + 0 + 0 + 0 + 0) ([(h, .inr (8, [vZ (M.2 0), .ref (a 1), .ref (a 2), vZ (M.2 3), vZ (M.2 4), .ref (a 5), .ref (a 6), .ref (a 7), .ref (a 8), .ref (a 9), .ref (a 10), .ref (a 11), vZ (M.2 12), .ref (a 13), .ref (a 14), .ref (a 15), .ref (a 16), .ref (a 17), .ref (a 18), .ref (a 19), vZ (M.2 20), vZ (M.2 21), .ref (a 22), .ref (a 23), .ref (a 24), .ref (a 25), .ref (a 26), .ref (a 27), .ref (a 28), .ref (a 29), .ref (a 30), .ref (a 31), .ref (a 32), .ref (a 33), vZ (M.2 34), .ref (a 35), vZ (M.2 36), vZ (M.2 37), vZ (M.2 38), .ref (a 39), .ref (a 40), vZ (M.2 41), vZ (M.2 42), vZ (M.2 43)])), ((a 1), .inl (K.1, 10, .inl (ar (M.1 1)))), ((a 2), .inl (K.1, 10, .inl (ar (M.1 2)))), ((a 5), .inl (K.1, 16, .inl (ar (M.1 5)))), ((a 6), .inl (K.1, 16, .inl (ar (M.1 6)))), ((a 7), .inl (K.1, 16, .inl (ar (M.1 7)))), ((a 8), .inl (K.1, 16, .inl (ar (M.1 8)))), ((a 9), .inl (K.1, 16, .inl (ar (M.1 9)))), ((a 10), .inl (K.1, 16, .inl (ar (M.1 10)))), ((a 11), .inl (K.1, 100, .inl (ar (M.1 11)))), ((a 13), .inl (K.1, 8, .inl (ar (M.1 13)))), ((a 14), .inl (K.1, 8, .inl (ar (M.1 14)))), ((a 15), .inl (K.1, 8, .inl (ar (M.1 15)))), ((a 16), .inl (K.1, 8, .inl (ar (M.1 16)))), ((a 17), .inl (K.1, 3200, .inl (ar (M.1 17)))), ((a 18), .inl (K.1, 3200, .inl (ar (M.1 18)))), ((a 19), .inl (K.2.1, 3200, .inl (ar (M.1 19)))), ((a 22), .inl (K.1, 3400, .inl (ar (M.1 22)))), ((a 23), .inl (K.1, 3400, .inl (ar (M.1 23)))), ((a 24), .inl (K.1, 3400, .inl (ar (M.1 24)))), ((a 25), .inl (K.1, 3400, .inl (ar (M.1 25)))), ((a 26), .inl (K.1, 32, .inl (ar (M.1 26)))), ((a 27), .inl (K.1, 32, .inl (ar (M.1 27)))), ((a 28), .inl (K.2.1, 8, .inl (ar (M.1 28)))), ((a 29), .inl (K.1, 8, .inl (ar (M.1 29)))), ((a 30), .inl (K.1, 8, .inl (ar (M.1 30)))), ((a 31), .inl (K.1, 10, .inl (ar (M.1 31)))), ((a 32), .inl (K.1, 10, .inl (ar (M.1 32)))), ((a 33), .inl (K.1, 10, .inl (ar (M.1 33)))), ((a 35), .inl (K.1, 13711, .inl (ar (M.1 35)))), ((a 39), .inl (K.1, 4, .inl (ar (M.1 39)))), ((a 40), .inl (K.1, 4, .inl (ar (M.1 40))))]) 47 [(0, .ref h), (1, vZ rd), (2, vZ fr), (3, vZ tt), (4, vZ what), (5, vZ n), (6, vZ j)] [] := by
              intro n_47
              induction n_47 with
              | zero => intro n j hj hn hm_47; exact absurd hm_47 (Nat.not_lt_zero _)
              | succ n_47 ih_47 =>
                intro n j hj hn hm_47
                refine z_iload ZC dX8_came_47 rfl ?_
                refine z_iload_n ZC 3 dX8_came_49 rfl rfl ?_
                refine z_icmp_gt ZC 121 dX8_came_50 (by decide) (by omega) (by omega) (fun c_50 => ?_) (fun c_50 => ?_)
                · skip
                  refine z_iload ZC dX8_came_121 rfl ?_
                  refine z_iret ZC ZE dX8_came_123 (by omega) (by omega) (Nat.le_of_ble_eq_true rfl) ⟨n, rfl, rfl, by omega, by omega, ?_⟩
                  · skip
                    left
                    refine ⟨by omega, ?_, trivial⟩
                    rw [hn, show j = tt + 1 by omega]
                · skip
                  have hcc := hc17 (200 * rd + j) (by omega) (by omega)
                  refine z_sipush ZC dX8_came_53 (by decide) ?_
                  refine z_iload_n ZC 1 dX8_came_56 rfl rfl ?_
                  refine z_imul ZC dX8_came_57 ?_
                  refine z_iload ZC dX8_came_58 rfl ?_
                  refine z_iadd ZC dX8_came_60 ?_
                  refine z_istore ZC dX8_came_61 (by decide) ?_
                  refine z_iload ZC dX8_came_63 rfl ?_
                  refine z_aload_n ZC 0 dX8_came_65 rfl rfl ?_
                  refine z_get ZC inUX8 0 rfl rfl 17 (by decide) uF_X8_53 rfl dX8_came_66 ?_
                  refine z_iload ZC dX8_came_69 rfl ?_
                  refine z_iald ZC 14 rfl dX8_came_71 (by omega) ?_
                  refine z_iconst ZC dX8_came_72 ?_
                  refine z_icmp_eq ZC 86 dX8_came_73 (by decide) (by omega) (by omega) (fun c_73 => ?_) (fun c_73 => ?_)
                  · skip
                    refine z_iload ZC dX8_came_86 rfl ?_
                    refine z_iconst ZC dX8_came_88 ?_
                    refine z_icmp_ne ZC 111 dX8_came_89 (by decide) (by omega) (by omega) (fun c_89 => ?_) (fun c_89 => ?_)
                    · skip
                      refine z_iconst ZC dX8_came_111 ?_
                      refine z_iadd ZC dX8_came_112 ?_
                      refine z_istore ZC dX8_came_113 (by decide) ?_
                      refine z_iinc ZC dX8_came_115 rfl (by decide) ?_
                      refine z_goto ZC 47 dX8_came_118 (by decide) ?_
                      refine z_ws (ws2 := [(h, .inr (8, [vZ (M.2 0), .ref (a 1), .ref (a 2), vZ (M.2 3), vZ (M.2 4), .ref (a 5), .ref (a 6), .ref (a 7), .ref (a 8), .ref (a 9), .ref (a 10), .ref (a 11), vZ (M.2 12), .ref (a 13), .ref (a 14), .ref (a 15), .ref (a 16), .ref (a 17), .ref (a 18), .ref (a 19), vZ (M.2 20), vZ (M.2 21), .ref (a 22), .ref (a 23), .ref (a 24), .ref (a 25), .ref (a 26), .ref (a 27), .ref (a 28), .ref (a 29), .ref (a 30), .ref (a 31), .ref (a 32), .ref (a 33), vZ (M.2 34), .ref (a 35), vZ (M.2 36), vZ (M.2 37), vZ (M.2 38), .ref (a 39), .ref (a 40), vZ (M.2 41), vZ (M.2 42), vZ (M.2 43)])), ((a 1), .inl (K.1, 10, .inl (ar (M.1 1)))), ((a 2), .inl (K.1, 10, .inl (ar (M.1 2)))), ((a 5), .inl (K.1, 16, .inl (ar (M.1 5)))), ((a 6), .inl (K.1, 16, .inl (ar (M.1 6)))), ((a 7), .inl (K.1, 16, .inl (ar (M.1 7)))), ((a 8), .inl (K.1, 16, .inl (ar (M.1 8)))), ((a 9), .inl (K.1, 16, .inl (ar (M.1 9)))), ((a 10), .inl (K.1, 16, .inl (ar (M.1 10)))), ((a 11), .inl (K.1, 100, .inl (ar (M.1 11)))), ((a 13), .inl (K.1, 8, .inl (ar (M.1 13)))), ((a 14), .inl (K.1, 8, .inl (ar (M.1 14)))), ((a 15), .inl (K.1, 8, .inl (ar (M.1 15)))), ((a 16), .inl (K.1, 8, .inl (ar (M.1 16)))), ((a 17), .inl (K.1, 3200, .inl (ar (M.1 17)))), ((a 18), .inl (K.1, 3200, .inl (ar (M.1 18)))), ((a 19), .inl (K.2.1, 3200, .inl (ar (M.1 19)))), ((a 22), .inl (K.1, 3400, .inl (ar (M.1 22)))), ((a 23), .inl (K.1, 3400, .inl (ar (M.1 23)))), ((a 24), .inl (K.1, 3400, .inl (ar (M.1 24)))), ((a 25), .inl (K.1, 3400, .inl (ar (M.1 25)))), ((a 26), .inl (K.1, 32, .inl (ar (M.1 26)))), ((a 27), .inl (K.1, 32, .inl (ar (M.1 27)))), ((a 28), .inl (K.2.1, 8, .inl (ar (M.1 28)))), ((a 29), .inl (K.1, 8, .inl (ar (M.1 29)))), ((a 30), .inl (K.1, 8, .inl (ar (M.1 30)))), ((a 31), .inl (K.1, 10, .inl (ar (M.1 31)))), ((a 32), .inl (K.1, 10, .inl (ar (M.1 32)))), ((a 33), .inl (K.1, 10, .inl (ar (M.1 33)))), ((a 35), .inl (K.1, 13711, .inl (ar (M.1 35)))), ((a 39), .inl (K.1, 4, .inl (ar (M.1 39)))), ((a 40), .inl (K.1, 4, .inl (ar (M.1 40))))]) rfl (z_lv (lv2 := [(0, .ref h), (1, vZ rd), (2, vZ fr), (3, vZ tt), (4, vZ what), (5, vZ (n + 0)), (6, vZ (j + 1))]) ⟨rfl, rfl, rfl, rfl, rfl, rfl, rfl, trivial⟩ ?_)
                      refine ih_47 (n + 0) (j + 1) ?_ ?_ (by omega)
                      · skip
                        omega
                      · skip
                        rw [smI_next hj.1, ← hn]
                        show _ = n + (if M.1 17 (200 * rd + j) ≠ -1 then M.1 17 (200 * rd + j) else if what = 1 ∧ M.1 19 (200 * rd + j) = 0 then M.1 7 rd else 0)
                        split <;> first | omega | (split <;> omega)
                    · skip
                      refine z_aload_n ZC 0 dX8_came_92 rfl rfl ?_
                      refine z_get ZC inUX8 0 rfl rfl 19 (by decide) uF_X8_59 rfl dX8_came_93 ?_
                      refine z_iload ZC dX8_came_96 rfl ?_
                      refine z_zald ZC 16 rfl dX8_came_98 (by omega) ?_
                      refine z_if_ne ZC 111 dX8_came_99 (by decide) (by omega) (fun c_99 => ?_) (fun c_99 => ?_)
                      · skip
                        refine z_iconst ZC dX8_came_111 ?_
                        refine z_iadd ZC dX8_came_112 ?_
                        refine z_istore ZC dX8_came_113 (by decide) ?_
                        refine z_iinc ZC dX8_came_115 rfl (by decide) ?_
                        refine z_goto ZC 47 dX8_came_118 (by decide) ?_
                        refine z_ws (ws2 := [(h, .inr (8, [vZ (M.2 0), .ref (a 1), .ref (a 2), vZ (M.2 3), vZ (M.2 4), .ref (a 5), .ref (a 6), .ref (a 7), .ref (a 8), .ref (a 9), .ref (a 10), .ref (a 11), vZ (M.2 12), .ref (a 13), .ref (a 14), .ref (a 15), .ref (a 16), .ref (a 17), .ref (a 18), .ref (a 19), vZ (M.2 20), vZ (M.2 21), .ref (a 22), .ref (a 23), .ref (a 24), .ref (a 25), .ref (a 26), .ref (a 27), .ref (a 28), .ref (a 29), .ref (a 30), .ref (a 31), .ref (a 32), .ref (a 33), vZ (M.2 34), .ref (a 35), vZ (M.2 36), vZ (M.2 37), vZ (M.2 38), .ref (a 39), .ref (a 40), vZ (M.2 41), vZ (M.2 42), vZ (M.2 43)])), ((a 1), .inl (K.1, 10, .inl (ar (M.1 1)))), ((a 2), .inl (K.1, 10, .inl (ar (M.1 2)))), ((a 5), .inl (K.1, 16, .inl (ar (M.1 5)))), ((a 6), .inl (K.1, 16, .inl (ar (M.1 6)))), ((a 7), .inl (K.1, 16, .inl (ar (M.1 7)))), ((a 8), .inl (K.1, 16, .inl (ar (M.1 8)))), ((a 9), .inl (K.1, 16, .inl (ar (M.1 9)))), ((a 10), .inl (K.1, 16, .inl (ar (M.1 10)))), ((a 11), .inl (K.1, 100, .inl (ar (M.1 11)))), ((a 13), .inl (K.1, 8, .inl (ar (M.1 13)))), ((a 14), .inl (K.1, 8, .inl (ar (M.1 14)))), ((a 15), .inl (K.1, 8, .inl (ar (M.1 15)))), ((a 16), .inl (K.1, 8, .inl (ar (M.1 16)))), ((a 17), .inl (K.1, 3200, .inl (ar (M.1 17)))), ((a 18), .inl (K.1, 3200, .inl (ar (M.1 18)))), ((a 19), .inl (K.2.1, 3200, .inl (ar (M.1 19)))), ((a 22), .inl (K.1, 3400, .inl (ar (M.1 22)))), ((a 23), .inl (K.1, 3400, .inl (ar (M.1 23)))), ((a 24), .inl (K.1, 3400, .inl (ar (M.1 24)))), ((a 25), .inl (K.1, 3400, .inl (ar (M.1 25)))), ((a 26), .inl (K.1, 32, .inl (ar (M.1 26)))), ((a 27), .inl (K.1, 32, .inl (ar (M.1 27)))), ((a 28), .inl (K.2.1, 8, .inl (ar (M.1 28)))), ((a 29), .inl (K.1, 8, .inl (ar (M.1 29)))), ((a 30), .inl (K.1, 8, .inl (ar (M.1 30)))), ((a 31), .inl (K.1, 10, .inl (ar (M.1 31)))), ((a 32), .inl (K.1, 10, .inl (ar (M.1 32)))), ((a 33), .inl (K.1, 10, .inl (ar (M.1 33)))), ((a 35), .inl (K.1, 13711, .inl (ar (M.1 35)))), ((a 39), .inl (K.1, 4, .inl (ar (M.1 39)))), ((a 40), .inl (K.1, 4, .inl (ar (M.1 40))))]) rfl (z_lv (lv2 := [(0, .ref h), (1, vZ rd), (2, vZ fr), (3, vZ tt), (4, vZ what), (5, vZ (n + 0)), (6, vZ (j + 1))]) ⟨rfl, rfl, rfl, rfl, rfl, rfl, rfl, trivial⟩ ?_)
                        refine ih_47 (n + 0) (j + 1) ?_ ?_ (by omega)
                        · skip
                          omega
                        · skip
                          rw [smI_next hj.1, ← hn]
                          show _ = n + (if M.1 17 (200 * rd + j) ≠ -1 then M.1 17 (200 * rd + j) else if what = 1 ∧ M.1 19 (200 * rd + j) = 0 then M.1 7 rd else 0)
                          split <;> first | omega | (split <;> omega)
                      · skip
                        refine z_aload_n ZC 0 dX8_came_102 rfl rfl ?_
                        refine z_get ZC inUX8 0 rfl rfl 7 (by decide) uF_X8_26 rfl dX8_came_103 ?_
                        refine z_iload_n ZC 1 dX8_came_106 rfl rfl ?_
                        refine z_iald ZC 5 rfl dX8_came_107 (by omega) ?_
                        refine z_goto ZC 112 dX8_came_108 (by decide) ?_
                        refine z_iadd ZC dX8_came_112 ?_
                        refine z_istore ZC dX8_came_113 (by decide) ?_
                        refine z_iinc ZC dX8_came_115 rfl (by decide) ?_
                        refine z_goto ZC 47 dX8_came_118 (by decide) ?_
                        refine z_ws (ws2 := [(h, .inr (8, [vZ (M.2 0), .ref (a 1), .ref (a 2), vZ (M.2 3), vZ (M.2 4), .ref (a 5), .ref (a 6), .ref (a 7), .ref (a 8), .ref (a 9), .ref (a 10), .ref (a 11), vZ (M.2 12), .ref (a 13), .ref (a 14), .ref (a 15), .ref (a 16), .ref (a 17), .ref (a 18), .ref (a 19), vZ (M.2 20), vZ (M.2 21), .ref (a 22), .ref (a 23), .ref (a 24), .ref (a 25), .ref (a 26), .ref (a 27), .ref (a 28), .ref (a 29), .ref (a 30), .ref (a 31), .ref (a 32), .ref (a 33), vZ (M.2 34), .ref (a 35), vZ (M.2 36), vZ (M.2 37), vZ (M.2 38), .ref (a 39), .ref (a 40), vZ (M.2 41), vZ (M.2 42), vZ (M.2 43)])), ((a 1), .inl (K.1, 10, .inl (ar (M.1 1)))), ((a 2), .inl (K.1, 10, .inl (ar (M.1 2)))), ((a 5), .inl (K.1, 16, .inl (ar (M.1 5)))), ((a 6), .inl (K.1, 16, .inl (ar (M.1 6)))), ((a 7), .inl (K.1, 16, .inl (ar (M.1 7)))), ((a 8), .inl (K.1, 16, .inl (ar (M.1 8)))), ((a 9), .inl (K.1, 16, .inl (ar (M.1 9)))), ((a 10), .inl (K.1, 16, .inl (ar (M.1 10)))), ((a 11), .inl (K.1, 100, .inl (ar (M.1 11)))), ((a 13), .inl (K.1, 8, .inl (ar (M.1 13)))), ((a 14), .inl (K.1, 8, .inl (ar (M.1 14)))), ((a 15), .inl (K.1, 8, .inl (ar (M.1 15)))), ((a 16), .inl (K.1, 8, .inl (ar (M.1 16)))), ((a 17), .inl (K.1, 3200, .inl (ar (M.1 17)))), ((a 18), .inl (K.1, 3200, .inl (ar (M.1 18)))), ((a 19), .inl (K.2.1, 3200, .inl (ar (M.1 19)))), ((a 22), .inl (K.1, 3400, .inl (ar (M.1 22)))), ((a 23), .inl (K.1, 3400, .inl (ar (M.1 23)))), ((a 24), .inl (K.1, 3400, .inl (ar (M.1 24)))), ((a 25), .inl (K.1, 3400, .inl (ar (M.1 25)))), ((a 26), .inl (K.1, 32, .inl (ar (M.1 26)))), ((a 27), .inl (K.1, 32, .inl (ar (M.1 27)))), ((a 28), .inl (K.2.1, 8, .inl (ar (M.1 28)))), ((a 29), .inl (K.1, 8, .inl (ar (M.1 29)))), ((a 30), .inl (K.1, 8, .inl (ar (M.1 30)))), ((a 31), .inl (K.1, 10, .inl (ar (M.1 31)))), ((a 32), .inl (K.1, 10, .inl (ar (M.1 32)))), ((a 33), .inl (K.1, 10, .inl (ar (M.1 33)))), ((a 35), .inl (K.1, 13711, .inl (ar (M.1 35)))), ((a 39), .inl (K.1, 4, .inl (ar (M.1 39)))), ((a 40), .inl (K.1, 4, .inl (ar (M.1 40))))]) rfl (z_lv (lv2 := [(0, .ref h), (1, vZ rd), (2, vZ fr), (3, vZ tt), (4, vZ what), (5, vZ (n + ((M.1 7) rd))), (6, vZ (j + 1))]) ⟨rfl, rfl, rfl, rfl, rfl, rfl, rfl, trivial⟩ ?_)
                        refine ih_47 (n + ((M.1 7) rd)) (j + 1) ?_ ?_ (by omega)
                        · skip
                          omega
                        · skip
                          rw [smI_next hj.1, ← hn]
                          show _ = n + (if M.1 17 (200 * rd + j) ≠ -1 then M.1 17 (200 * rd + j) else if what = 1 ∧ M.1 19 (200 * rd + j) = 0 then M.1 7 rd else 0)
                          split <;> first | omega | (split <;> omega)
                  · skip
                    refine z_aload_n ZC 0 dX8_came_76 rfl rfl ?_
                    refine z_get ZC inUX8 0 rfl rfl 17 (by decide) uF_X8_53 rfl dX8_came_77 ?_
                    refine z_iload ZC dX8_came_80 rfl ?_
                    refine z_iald ZC 14 rfl dX8_came_82 (by omega) ?_
                    refine z_goto ZC 112 dX8_came_83 (by decide) ?_
                    refine z_iadd ZC dX8_came_112 ?_
                    refine z_istore ZC dX8_came_113 (by decide) ?_
                    refine z_iinc ZC dX8_came_115 rfl (by decide) ?_
                    refine z_goto ZC 47 dX8_came_118 (by decide) ?_
                    refine z_ws (ws2 := [(h, .inr (8, [vZ (M.2 0), .ref (a 1), .ref (a 2), vZ (M.2 3), vZ (M.2 4), .ref (a 5), .ref (a 6), .ref (a 7), .ref (a 8), .ref (a 9), .ref (a 10), .ref (a 11), vZ (M.2 12), .ref (a 13), .ref (a 14), .ref (a 15), .ref (a 16), .ref (a 17), .ref (a 18), .ref (a 19), vZ (M.2 20), vZ (M.2 21), .ref (a 22), .ref (a 23), .ref (a 24), .ref (a 25), .ref (a 26), .ref (a 27), .ref (a 28), .ref (a 29), .ref (a 30), .ref (a 31), .ref (a 32), .ref (a 33), vZ (M.2 34), .ref (a 35), vZ (M.2 36), vZ (M.2 37), vZ (M.2 38), .ref (a 39), .ref (a 40), vZ (M.2 41), vZ (M.2 42), vZ (M.2 43)])), ((a 1), .inl (K.1, 10, .inl (ar (M.1 1)))), ((a 2), .inl (K.1, 10, .inl (ar (M.1 2)))), ((a 5), .inl (K.1, 16, .inl (ar (M.1 5)))), ((a 6), .inl (K.1, 16, .inl (ar (M.1 6)))), ((a 7), .inl (K.1, 16, .inl (ar (M.1 7)))), ((a 8), .inl (K.1, 16, .inl (ar (M.1 8)))), ((a 9), .inl (K.1, 16, .inl (ar (M.1 9)))), ((a 10), .inl (K.1, 16, .inl (ar (M.1 10)))), ((a 11), .inl (K.1, 100, .inl (ar (M.1 11)))), ((a 13), .inl (K.1, 8, .inl (ar (M.1 13)))), ((a 14), .inl (K.1, 8, .inl (ar (M.1 14)))), ((a 15), .inl (K.1, 8, .inl (ar (M.1 15)))), ((a 16), .inl (K.1, 8, .inl (ar (M.1 16)))), ((a 17), .inl (K.1, 3200, .inl (ar (M.1 17)))), ((a 18), .inl (K.1, 3200, .inl (ar (M.1 18)))), ((a 19), .inl (K.2.1, 3200, .inl (ar (M.1 19)))), ((a 22), .inl (K.1, 3400, .inl (ar (M.1 22)))), ((a 23), .inl (K.1, 3400, .inl (ar (M.1 23)))), ((a 24), .inl (K.1, 3400, .inl (ar (M.1 24)))), ((a 25), .inl (K.1, 3400, .inl (ar (M.1 25)))), ((a 26), .inl (K.1, 32, .inl (ar (M.1 26)))), ((a 27), .inl (K.1, 32, .inl (ar (M.1 27)))), ((a 28), .inl (K.2.1, 8, .inl (ar (M.1 28)))), ((a 29), .inl (K.1, 8, .inl (ar (M.1 29)))), ((a 30), .inl (K.1, 8, .inl (ar (M.1 30)))), ((a 31), .inl (K.1, 10, .inl (ar (M.1 31)))), ((a 32), .inl (K.1, 10, .inl (ar (M.1 32)))), ((a 33), .inl (K.1, 10, .inl (ar (M.1 33)))), ((a 35), .inl (K.1, 13711, .inl (ar (M.1 35)))), ((a 39), .inl (K.1, 4, .inl (ar (M.1 39)))), ((a 40), .inl (K.1, 4, .inl (ar (M.1 40))))]) rfl (z_lv (lv2 := [(0, .ref h), (1, vZ rd), (2, vZ fr), (3, vZ tt), (4, vZ what), (5, vZ (n + ((M.1 17) ((200 * rd) + j)))), (6, vZ (j + 1))]) ⟨rfl, rfl, rfl, rfl, rfl, rfl, rfl, trivial⟩ ?_)
                    refine ih_47 (n + ((M.1 17) ((200 * rd) + j))) (j + 1) ?_ ?_ (by omega)
                    · skip
                      omega
                    · skip
                      rw [smI_next hj.1, ← hn]
                      show _ = n + (if M.1 17 (200 * rd + j) ≠ -1 then M.1 17 (200 * rd + j) else if what = 1 ∧ M.1 19 (200 * rd + j) = 0 then M.1 7 rd else 0)
                      split <;> first | omega | (split <;> omega)
            refine z_ws (ws2 := [(h, .inr (8, [vZ (M.2 0), .ref (a 1), .ref (a 2), vZ (M.2 3), vZ (M.2 4), .ref (a 5), .ref (a 6), .ref (a 7), .ref (a 8), .ref (a 9), .ref (a 10), .ref (a 11), vZ (M.2 12), .ref (a 13), .ref (a 14), .ref (a 15), .ref (a 16), .ref (a 17), .ref (a 18), .ref (a 19), vZ (M.2 20), vZ (M.2 21), .ref (a 22), .ref (a 23), .ref (a 24), .ref (a 25), .ref (a 26), .ref (a 27), .ref (a 28), .ref (a 29), .ref (a 30), .ref (a 31), .ref (a 32), .ref (a 33), vZ (M.2 34), .ref (a 35), vZ (M.2 36), vZ (M.2 37), vZ (M.2 38), .ref (a 39), .ref (a 40), vZ (M.2 41), vZ (M.2 42), vZ (M.2 43)])), ((a 1), .inl (K.1, 10, .inl (ar (M.1 1)))), ((a 2), .inl (K.1, 10, .inl (ar (M.1 2)))), ((a 5), .inl (K.1, 16, .inl (ar (M.1 5)))), ((a 6), .inl (K.1, 16, .inl (ar (M.1 6)))), ((a 7), .inl (K.1, 16, .inl (ar (M.1 7)))), ((a 8), .inl (K.1, 16, .inl (ar (M.1 8)))), ((a 9), .inl (K.1, 16, .inl (ar (M.1 9)))), ((a 10), .inl (K.1, 16, .inl (ar (M.1 10)))), ((a 11), .inl (K.1, 100, .inl (ar (M.1 11)))), ((a 13), .inl (K.1, 8, .inl (ar (M.1 13)))), ((a 14), .inl (K.1, 8, .inl (ar (M.1 14)))), ((a 15), .inl (K.1, 8, .inl (ar (M.1 15)))), ((a 16), .inl (K.1, 8, .inl (ar (M.1 16)))), ((a 17), .inl (K.1, 3200, .inl (ar (M.1 17)))), ((a 18), .inl (K.1, 3200, .inl (ar (M.1 18)))), ((a 19), .inl (K.2.1, 3200, .inl (ar (M.1 19)))), ((a 22), .inl (K.1, 3400, .inl (ar (M.1 22)))), ((a 23), .inl (K.1, 3400, .inl (ar (M.1 23)))), ((a 24), .inl (K.1, 3400, .inl (ar (M.1 24)))), ((a 25), .inl (K.1, 3400, .inl (ar (M.1 25)))), ((a 26), .inl (K.1, 32, .inl (ar (M.1 26)))), ((a 27), .inl (K.1, 32, .inl (ar (M.1 27)))), ((a 28), .inl (K.2.1, 8, .inl (ar (M.1 28)))), ((a 29), .inl (K.1, 8, .inl (ar (M.1 29)))), ((a 30), .inl (K.1, 8, .inl (ar (M.1 30)))), ((a 31), .inl (K.1, 10, .inl (ar (M.1 31)))), ((a 32), .inl (K.1, 10, .inl (ar (M.1 32)))), ((a 33), .inl (K.1, 10, .inl (ar (M.1 33)))), ((a 35), .inl (K.1, 13711, .inl (ar (M.1 35)))), ((a 39), .inl (K.1, 4, .inl (ar (M.1 39)))), ((a 40), .inl (K.1, 4, .inl (ar (M.1 40))))]) rfl (z_lv (lv2 := [(0, .ref h), (1, vZ rd), (2, vZ fr), (3, vZ tt), (4, vZ what), (5, vZ 0), (6, vZ fr)]) ⟨rfl, rfl, rfl, rfl, rfl, rfl, rfl, trivial⟩ ?_)
            refine lp_47 _ 0 fr ?_ ?_ (Nat.lt_succ_self _)
            · skip
              omega
            · skip
              rw [show (fr - fr).toNat = 0 by omega]; rfl
          · skip
            refine z_iconst ZC dX8_came_39 ?_
            refine z_iret ZC ZE dX8_came_40 (by omega) (by omega) (Nat.le_of_ble_eq_true rfl) ⟨(-1), rfl, rfl, by omega, by omega, ?_⟩
            · skip
              right; exact ⟨by omega, rfl, trivial⟩

