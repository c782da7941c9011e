/-! ===== Lines ===== -/
def tk3 (c n d : Int) (l : List Pt3) (many : Int) : List Pt3 := if many < n then (c, n - many, d) :: l else l
/-- cars come to the end of a line -/
def ap3 (l : List Pt3) (who many hour : Int) : List Pt3 := match l.getLast? with
  | some q => if q.1 = who ∧ q.2.2 = hour then l.dropLast ++ [(q.1, q.2.1 + many, q.2.2)] else l ++ [(who, many, hour)]
  | none => [(who, many, hour)]
theorem ap3_nil (who many hour : Int) : ap3 [] who many hour = [(who, many, hour)] := rfl
theorem ap3_snoc (l : List Pt3) (q : Pt3) (who many hour : Int) : ap3 (l ++ [q]) who many hour = if q.1 = who ∧ q.2.2 = hour then l ++ [(q.1, q.2.1 + many, q.2.2)] else l ++ [q] ++ [(who, many, hour)] := by
  unfold ap3
  rw [List.getLast?_append, List.getLast?_singleton]
  simp
theorem lo_frng {N B : Nat} {S : Bd} {C : Int → List Pt3} {X : List Int} (h : LnO N B S C X) {r : Int} (hr : 0 ≤ r ∧ r < 32) : -1 ≤ S.1 0 r ∧ S.1 0 r < 4096 ∧ (S.1 0 r ≠ -1 → 0 ≤ S.1 0 r ∧ S.1 0 r < N) := by
  have := lo_rng h
  rcases lo_first h hr with ⟨-, e⟩ | ⟨l, -, e1, e2, e3, -⟩ <;> omega
theorem lo_lrng {N B : Nat} {S : Bd} {C : Int → List Pt3} {X : List Int} (h : LnO N B S C X) {r : Int} (hr : 0 ≤ r ∧ r < 32) : -1 ≤ S.1 1 r ∧ S.1 1 r < 4096 ∧ (S.1 1 r ≠ -1 → 0 ≤ S.1 1 r ∧ S.1 1 r < N) := by
  have := lo_rng h
  rcases lo_last h hr with ⟨-, e⟩ | ⟨l, -, e1, e2, e3⟩ <;> omega
theorem lo_pw {N B : Nat} {S : Bd} {C : Int → List Pt3} {X : List Int} (h : LnO N B S C X) : pw N := by
  obtain ⟨P, F, ow, hL, hCC⟩ := h
  exact hL.1.1
theorem lo_nxrng {N B : Nat} {S : Bd} {C : Int → List Pt3} {X : List Int} (h : LnO N B S C X) {r : Int} (hr : 0 ≤ r ∧ r < 32) {c n d : Int} {l : List Pt3} (hC : C r = (c, n, d) :: l) : (S.1 6 (S.1 0 r) = -1 ↔ l = []) ∧ -1 ≤ S.1 6 (S.1 0 r) ∧ S.1 6 (S.1 0 r) < 4096 := by
  have hg := lo_rng h
  obtain ⟨P, F, ow, hL, hCC⟩ := h
  have hc := hCC r hr.1 hr.2
  rw [hC] at hc
  obtain ⟨a1, a2, a3, a4, a5⟩ := hL.2.1 r hr.1 hr.2
  cases hP : P r with
  | nil => rw [hP] at hc; cases hc
  | cons x l2 =>
    rw [hP] at hc a1 a5
    rw [a1.1]
    have hc2 : l = cnt3 (S.1 3) (S.1 4) (S.1 5) l2 := (List.cons.inj hc).2
    cases l2 with
    | nil =>
      have e : S.1 6 x = -1 := a1.2
      exact ⟨⟨fun _ => hc2, fun _ => e⟩, by omega, by omega⟩
    | cons y l3 =>
      have e : S.1 6 x = y := a1.2.1
      have b := a5 y (List.mem_cons_of_mem _ List.mem_cons_self)
      refine ⟨⟨fun q => by omega, fun q => by rw [q] at hc2; cases hc2⟩, by omega, by omega⟩

set_option maxHeartbeats 4000000 in
set_option maxRecDepth 100000 in
theorem c_X2_queueOf (zl : Launch) (D : va_G) (K : tyK) (r : Int)  : Mz zl yX2_queueOf cX2_queueOf 1 (some .int) 0 0 0 0 D K [vZ r] [] (fun r_ w2_ gc gs => r_ = some (vZ r) ∧ w2_ = ([] : va_W) ∧ gc = 0 ∧ gs = 0) := by
  refine Mz.ofZ (by decide) rfl (Nat.le_of_ble_eq_true rfl) ?_
  intro zp ze zR zs zm zargs zbelow zmeth zc zA zQ ZC ZE hRf hRc hRs hRl
  refine z_iload_n ZC 0 dX2_queueOf_0 rfl rfl ?_
  exact z_iret ZC ZE dX2_queueOf_1 (by omega) (by omega) (Nat.le_of_ble_eq_true rfl) ⟨rfl, rfl, by omega, by omega⟩

set_option maxHeartbeats 4000000 in
set_option maxRecDepth 100000 in
theorem c_X2_driveOf (zl : Launch) (D : va_G) (K : tyK) (r : Int)  : Mz zl yX2_driveOf cX2_driveOf 1 (some .int) 0 0 0 0 D K [vZ r] [] (fun r_ w2_ gc gs => r_ = some (vZ (16 + r)) ∧ w2_ = ([] : va_W) ∧ gc = 0 ∧ gs = 0) := by
  refine Mz.ofZ (by decide) rfl (Nat.le_of_ble_eq_true rfl) ?_
  intro zp ze zR zs zm zargs zbelow zmeth zc zA zQ ZC ZE hRf hRc hRs hRl
  refine z_bipush ZC dX2_driveOf_0 (by decide) ?_
  refine z_iload_n ZC 0 dX2_driveOf_2 rfl rfl ?_
  refine z_iadd ZC dX2_driveOf_3 ?_
  exact z_iret ZC ZE dX2_driveOf_4 (by omega) (by omega) (Nat.le_of_ble_eq_true rfl) ⟨rfl, rfl, by omega, by omega⟩

set_option maxHeartbeats 4000000 in
set_option maxRecDepth 100000 in
theorem c_X2_isEmpty (zl : Launch) (D : va_G) (K : tyK) (h : Nat) (a : Nat → Nat) (N : Nat) (S : Bd) (B : Nat) (C : Int → List Pt3) (line : Int) (hO : LnO N B S C []) (hr : 0 ≤ line ∧ line < 32) : Mz zl yX2_isEmpty cX2_isEmpty 2 (some .boolean) 0 0 0 0 D K [.ref h, vZ line] (wLn K h a N S) (fun r_ w2_ gc gs => ∃ (b : Int), r_ = some (vZ b) ∧ w2_ = (wLn K h a N S) ∧ gc = 0 ∧ gs = 0 ∧ ((b = 1 ∧ C line = []) ∨ (b = 0 ∧ C line ≠ []))) := by
  refine Mz.ofZ (by decide) rfl (Nat.le_of_ble_eq_true rfl) ?_
  intro zp ze zR zs zm zargs zbelow zmeth zc zA zQ ZC ZE hRf hRc hRs hRl
  have hG := lo_rng hO
  have hF := lo_first hO hr
  have hFr := lo_frng hO hr
  refine z_aload_n ZC 0 dX2_isEmpty_0 rfl rfl ?_
  refine z_get ZC inUX2 0 rfl rfl 0 (by decide) uF_X2_9 rfl dX2_isEmpty_1 ?_
  refine z_iload_n ZC 1 dX2_isEmpty_4 rfl rfl ?_
  refine z_iald ZC 1 rfl dX2_isEmpty_5 (by omega) ?_
  refine z_iconst ZC dX2_isEmpty_6 ?_
  refine z_icmp_ne ZC 14 dX2_isEmpty_7 (by decide) (by omega) (by omega) (fun c_7 => ?_) (fun c_7 => ?_)
  · skip
    refine z_iconst ZC dX2_isEmpty_14 ?_
    refine z_zret ZC ZE dX2_isEmpty_15 (by omega) (by omega) (by omega) (Nat.le_of_ble_eq_true rfl) ⟨0, rfl, rfl, by omega, by omega, ?_⟩
    · skip
      rcases hF with ⟨e, e2⟩ | ⟨l, e, e2, -⟩
      · first | exact Or.inl ⟨rfl, e⟩ | omega
      · first | exact Or.inr ⟨rfl, by rw [e]; exact List.cons_ne_nil _ _⟩ | omega
  · skip
    refine z_iconst ZC dX2_isEmpty_10 ?_
    refine z_goto ZC 15 dX2_isEmpty_11 (by decide) ?_
    refine z_zret ZC ZE dX2_isEmpty_15 (by omega) (by omega) (by omega) (Nat.le_of_ble_eq_true rfl) ⟨1, rfl, rfl, by omega, by omega, ?_⟩
    · skip
      rcases hF with ⟨e, e2⟩ | ⟨l, e, e2, -⟩
      · first | exact Or.inl ⟨rfl, e⟩ | omega
      · first | exact Or.inr ⟨rfl, by rw [e]; exact List.cons_ne_nil _ _⟩ | omega

set_option maxHeartbeats 4000000 in
set_option maxRecDepth 100000 in
theorem c_X2_isDue (zl : Launch) (D : va_G) (K : tyK) (h : Nat) (a : Nat → Nat) (N : Nat) (S : Bd) (B : Nat) (C : Int → List Pt3) (line : Int) (hour : Int) (hO : LnO N B S C []) (hr : 0 ≤ line ∧ line < 32) (hh : -2147483648 ≤ hour ∧ hour < 2147483648) (hv : ∀ q ∈ C line, -1 ≤ q.2.2 ∧ q.2.2 ≤ 10000) : Mz zl yX2_isDue cX2_isDue 4 (some .boolean) 0 0 0 0 D K [.ref h, vZ line, vZ hour] (wLn K h a N S) (fun r_ w2_ gc gs => ∃ (b : Int), r_ = some (vZ b) ∧ w2_ = (wLn K h a N S) ∧ gc = 0 ∧ gs = 0 ∧ ((b = 1 ∧ ∃ (q : Pt3) (l : List Pt3), C line = q :: l ∧ q.2.2 = hour) ∨ (b = 0 ∧ ¬ ∃ (q : Pt3) (l : List Pt3), C line = q :: l ∧ q.2.2 = hour))) := by
  refine Mz.ofZ (by decide) rfl (Nat.le_of_ble_eq_true rfl) ?_
  intro zp ze zR zs zm zargs zbelow zmeth zc zA zQ ZC ZE hRf hRc hRs hRl
  have hG := lo_rng hO
  have hF := lo_first hO hr
  have hFr := lo_frng hO hr
  refine z_aload_n ZC 0 dX2_isDue_0 rfl rfl ?_
  refine z_get ZC inUX2 0 rfl rfl 0 (by decide) uF_X2_9 rfl dX2_isDue_1 ?_
  refine z_iload_n ZC 1 dX2_isDue_4 rfl rfl ?_
  refine z_iald ZC 1 rfl dX2_isDue_5 (by omega) ?_
  refine z_nm (fun p ep => ?_)
  refine z_istore_n ZC 3 dX2_isDue_6 rfl (by decide) ?_
  refine z_iload_n ZC 3 dX2_isDue_7 rfl rfl ?_
  refine z_iconst ZC dX2_isDue_8 ?_
  refine z_icmp_eq ZC 26 dX2_isDue_9 (by decide) (by subst ep; omega) (by omega) (fun c_9 => ?_) (fun c_9 => ?_)
  · skip
    refine z_iconst ZC dX2_isDue_26 ?_
    refine z_zret ZC ZE dX2_isDue_27 (by omega) (by omega) (by omega) (Nat.le_of_ble_eq_true rfl) ⟨0, rfl, rfl, by omega, by omega, ?_⟩
    · skip
      right
      refine ⟨rfl, ?_⟩
      rintro ⟨q, l, e, -⟩
      rcases hF with ⟨e2, -⟩ | ⟨l2, e2, e3, -⟩
      · rw [e2] at e; cases e
      · omega
  · skip
    refine z_aload_n ZC 0 dX2_isDue_12 rfl rfl ?_
    refine z_get ZC inUX2 0 rfl rfl 5 (by decide) uF_X2_27 rfl dX2_isDue_13 ?_
    refine z_iload_n ZC 3 dX2_isDue_16 rfl rfl ?_
    refine z_iald ZC 6 rfl dX2_isDue_17 (by subst ep; omega) ?_
    refine z_iload_n ZC 2 dX2_isDue_18 rfl rfl ?_
    obtain ⟨l, e, e2, -⟩ := hF.resolve_left (fun q => c_9 (ep.trans q.2))
    have hv2 : -1 ≤ S.1 5 (S.1 0 line) ∧ S.1 5 (S.1 0 line) ≤ 10000 := hv _ (by rw [e]; exact List.mem_cons_self)
    refine z_icmp_ne ZC 26 dX2_isDue_19 (by decide) (by subst ep; omega) (by omega) (fun c_19 => ?_) (fun c_19 => ?_)
    · skip
      refine z_iconst ZC dX2_isDue_26 ?_
      refine z_zret ZC ZE dX2_isDue_27 (by omega) (by omega) (by omega) (Nat.le_of_ble_eq_true rfl) ⟨0, rfl, rfl, by omega, by omega, ?_⟩
      · skip
        right
        refine ⟨rfl, ?_⟩
        rintro ⟨q, l3, e4, e5⟩
        rw [e] at e4
        have e6 := (List.cons.inj e4).1
        subst e6
        subst ep
        exact c_19 e5
    · skip
      refine z_iconst ZC dX2_isDue_22 ?_
      refine z_goto ZC 27 dX2_isDue_23 (by decide) ?_
      refine z_zret ZC ZE dX2_isDue_27 (by omega) (by omega) (by omega) (Nat.le_of_ble_eq_true rfl) ⟨1, rfl, rfl, by omega, by omega, ?_⟩
      · skip
        left
        subst ep
        exact ⟨rfl, _, _, e, c_19⟩

set_option maxHeartbeats 4000000 in
set_option maxRecDepth 100000 in
theorem c_X2_firstCrowd (zl : Launch) (D : va_G) (K : tyK) (h : Nat) (a : Nat → Nat) (N : Nat) (S : Bd) (B : Nat) (C : Int → List Pt3) (line : Int) (c : Int) (n : Int) (d : Int) (l_ : List Pt3) (hO : LnO N B S C []) (hr : 0 ≤ line ∧ line < 32) (hC : C line = (c, n, d) :: l_) : Mz zl yX2_firstCrowd cX2_firstCrowd 3 (some .int) 0 0 0 0 D K [.ref h, vZ line] (wLn K h a N S) (fun r_ w2_ gc gs => r_ = some (vZ c) ∧ w2_ = (wLn K h a N S) ∧ gc = 0 ∧ gs = 0) := by
  refine Mz.ofZ (by decide) rfl (Nat.le_of_ble_eq_true rfl) ?_
  intro zp ze zR zs zm zargs zbelow zmeth zc zA zQ ZC ZE hRf hRc hRs hRl
  have hG := lo_rng hO
  have hF := lo_first hO hr
  have hFr := lo_frng hO hr
  rcases hF with ⟨e, -⟩ | ⟨l, e, e2, -⟩
  · rw [e] at hC; cases hC
  rw [hC] at e
  have e7 := (List.cons.inj e).1
  refine z_aload_n ZC 0 dX2_firstCrowd_0 rfl rfl ?_
  refine z_get ZC inUX2 0 rfl rfl 0 (by decide) uF_X2_9 rfl dX2_firstCrowd_1 ?_
  refine z_iload_n ZC 1 dX2_firstCrowd_4 rfl rfl ?_
  refine z_iald ZC 1 rfl dX2_firstCrowd_5 (by omega) ?_
  refine z_istore_n ZC 2 dX2_firstCrowd_6 rfl (by decide) ?_
  refine z_iload_n ZC 2 dX2_firstCrowd_7 rfl rfl ?_
  refine z_iconst ZC dX2_firstCrowd_8 ?_
  refine z_icmp_ne ZC 16 dX2_firstCrowd_9 (by decide) (by omega) (by omega) (fun c_9 => ?_) (fun c_9 => ?_)
  · skip
    refine z_aload_n ZC 0 dX2_firstCrowd_16 rfl rfl ?_
    refine z_get ZC inUX2 0 rfl rfl 3 (by decide) uF_X2_21 rfl dX2_firstCrowd_17 ?_
    refine z_iload_n ZC 2 dX2_firstCrowd_20 rfl rfl ?_
    refine z_iald ZC 4 rfl dX2_firstCrowd_21 (by omega) ?_
    refine z_top (y := c) (congrArg (fun q : Pt3 => q.1) e7).symm ?_
    exact z_iret ZC ZE dX2_firstCrowd_22 (by omega) (by omega) (Nat.le_of_ble_eq_true rfl) ⟨rfl, rfl, by omega, by omega⟩
  · skip
    omega

set_option maxHeartbeats 4000000 in
set_option maxRecDepth 100000 in
theorem c_X2_firstCars (zl : Launch) (D : va_G) (K : tyK) (h : Nat) (a : Nat → Nat) (N : Nat) (S : Bd) (B : Nat) (C : Int → List Pt3) (line : Int) (c : Int) (n : Int) (d : Int) (l_ : List Pt3) (hO : LnO N B S C []) (hr : 0 ≤ line ∧ line < 32) (hC : C line = (c, n, d) :: l_) : Mz zl yX2_firstCars cX2_firstCars 3 (some .int) 0 0 0 0 D K [.ref h, vZ line] (wLn K h a N S) (fun r_ w2_ gc gs => r_ = some (vZ n) ∧ w2_ = (wLn K h a N S) ∧ gc = 0 ∧ gs = 0) := by
  refine Mz.ofZ (by decide) rfl (Nat.le_of_ble_eq_true rfl) ?_
  intro zp ze zR zs zm zargs zbelow zmeth zc zA zQ ZC ZE hRf hRc hRs hRl
  have hG := lo_rng hO
  have hF := lo_first hO hr
  have hFr := lo_frng hO hr
  rcases hF with ⟨e, -⟩ | ⟨l, e, e2, -⟩
  · rw [e] at hC; cases hC
  rw [hC] at e
  have e7 := (List.cons.inj e).1
  refine z_aload_n ZC 0 dX2_firstCars_0 rfl rfl ?_
  refine z_get ZC inUX2 0 rfl rfl 0 (by decide) uF_X2_9 rfl dX2_firstCars_1 ?_
  refine z_iload_n ZC 1 dX2_firstCars_4 rfl rfl ?_
  refine z_iald ZC 1 rfl dX2_firstCars_5 (by omega) ?_
  refine z_istore_n ZC 2 dX2_firstCars_6 rfl (by decide) ?_
  refine z_iload_n ZC 2 dX2_firstCars_7 rfl rfl ?_
  refine z_iconst ZC dX2_firstCars_8 ?_
  refine z_icmp_ne ZC 16 dX2_firstCars_9 (by decide) (by omega) (by omega) (fun c_9 => ?_) (fun c_9 => ?_)
  · skip
    refine z_aload_n ZC 0 dX2_firstCars_16 rfl rfl ?_
    refine z_get ZC inUX2 0 rfl rfl 4 (by decide) uF_X2_24 rfl dX2_firstCars_17 ?_
    refine z_iload_n ZC 2 dX2_firstCars_20 rfl rfl ?_
    refine z_iald ZC 5 rfl dX2_firstCars_21 (by omega) ?_
    refine z_top (y := n) (congrArg (fun q : Pt3 => q.2.1) e7).symm ?_
    exact z_iret ZC ZE dX2_firstCars_22 (by omega) (by omega) (Nat.le_of_ble_eq_true rfl) ⟨rfl, rfl, by omega, by omega⟩
  · skip
    omega

set_option maxHeartbeats 4000000 in
set_option maxRecDepth 100000 in
theorem c_X2_take (zl : Launch) (D : va_G) (K : tyK) (h : Nat) (a : Nat → Nat) (N : Nat) (S : Bd) (B : Nat) (C : Int → List Pt3) (line : Int) (many : Int) (c : Int) (n : Int) (d : Int) (l_ : List Pt3) (hO : LnO N B S C []) (hr : 0 ≤ line ∧ line < 32) (hC : C line = (c, n, d) :: l_) (hm : 1 ≤ many ∧ many ≤ n ∧ n ≤ 1000000000) : Mz zl yX2_take cX2_take 4 (none) 0 0 0 0 D K [.ref h, vZ line, vZ many] (wLn K h a N S) (fun r_ w2_ gc gs => ∃ (S2 : Bd), r_ = none ∧ w2_ = (wLn K h a N S2) ∧ gc = 0 ∧ gs = 0 ∧ (LnO N B S2 (upL C line (tk3 c n d l_ many)) [])) := by
  refine Mz.ofZ (by decide) rfl (Nat.le_of_ble_eq_true rfl) ?_
  intro zp ze zR zs zm zargs zbelow zmeth zc zA zQ ZC ZE hRf hRc hRs hRl
  have hG := lo_rng hO
  have hF := lo_first hO hr
  have hFr := lo_frng hO hr
  rcases hF with ⟨e, -⟩ | ⟨l, e, e2, -⟩
  · rw [e] at hC; cases hC
  rw [hC] at e
  have e7 := (List.cons.inj e).1
  have e8 : n = S.1 4 (S.1 0 line) := congrArg (fun q : Pt3 => q.2.1) e7
  have hnx := lo_nxrng hO hr hC
  refine z_aload_n ZC 0 dX2_take_0 rfl rfl ?_
  refine z_get ZC inUX2 0 rfl rfl 0 (by decide) uF_X2_9 rfl dX2_take_1 ?_
  refine z_iload_n ZC 1 dX2_take_4 rfl rfl ?_
  refine z_iald ZC 1 rfl dX2_take_5 (by omega) ?_
  refine z_nm (fun p ep => ?_)
  refine z_istore_n ZC 3 dX2_take_6 rfl (by decide) ?_
  refine z_iload_n ZC 3 dX2_take_7 rfl rfl ?_
  refine z_iconst ZC dX2_take_8 ?_
  refine z_icmp_ne ZC 13 dX2_take_9 (by decide) (by subst ep; omega) (by omega) (fun c_9 => ?_) (fun c_9 => ?_)
  · skip
    refine z_aload_n ZC 0 dX2_take_13 rfl rfl ?_
    refine z_get ZC inUX2 0 rfl rfl 2 (by decide) uF_X2_18 rfl dX2_take_14 ?_
    refine z_iload_n ZC 1 dX2_take_17 rfl rfl ?_
    refine z_dup2 ZC dX2_take_18 rfl rfl ?_
    refine z_iald ZC 3 rfl dX2_take_19 (by omega) ?_
    refine z_iload_n ZC 2 dX2_take_20 rfl rfl ?_
    refine z_isub ZC dX2_take_21 ?_
    refine z_iast ZC 3 rfl dX2_take_22 (by omega) ?_
    refine z_aload_n ZC 0 dX2_take_23 rfl rfl ?_
    refine z_get ZC inUX2 0 rfl rfl 4 (by decide) uF_X2_24 rfl dX2_take_24 ?_
    refine z_iload_n ZC 3 dX2_take_27 rfl rfl ?_
    refine z_dup2 ZC dX2_take_28 rfl rfl ?_
    refine z_iald ZC 5 rfl dX2_take_29 (by subst ep; omega) ?_
    refine z_iload_n ZC 2 dX2_take_30 rfl rfl ?_
    refine z_isub ZC dX2_take_31 ?_
    refine z_iast ZC 5 rfl dX2_take_32 (by subst ep; omega) ?_
    have e9 : upz (S.1 4) p (S.1 4 p - many) p = n - many := by rw [upz_self, e8, ep]
    refine z_aload_n ZC 0 dX2_take_33 rfl rfl ?_
    refine z_get ZC inUX2 0 rfl rfl 4 (by decide) uF_X2_24 rfl dX2_take_34 ?_
    refine z_iload_n ZC 3 dX2_take_37 rfl rfl ?_
    refine z_iald ZC 5 rfl dX2_take_38 (by subst ep; omega) ?_
    refine z_top (y := n - many) e9 ?_
    refine z_if_le ZC 43 dX2_take_39 (by decide) (by omega) (fun c_39 => ?_) (fun c_39 => ?_)
    · skip
      refine z_aload_n ZC 0 dX2_take_43 rfl rfl ?_
      refine z_get ZC inUX2 0 rfl rfl 0 (by decide) uF_X2_9 rfl dX2_take_44 ?_
      refine z_iload_n ZC 1 dX2_take_47 rfl rfl ?_
      refine z_aload_n ZC 0 dX2_take_48 rfl rfl ?_
      refine z_get ZC inUX2 0 rfl rfl 6 (by decide) uF_X2_30 rfl dX2_take_49 ?_
      refine z_iload_n ZC 3 dX2_take_52 rfl rfl ?_
      refine z_iald ZC 7 rfl dX2_take_53 (by subst ep; omega) ?_
      refine z_iast ZC 1 rfl dX2_take_54 (by omega) ?_
      refine z_ws (ws2 := [(h, .inr (2, [.ref (a 0), .ref (a 1), .ref (a 2), .ref (a 3), .ref (a 4), .ref (a 5), .ref (a 6), vZ (S.2 7), vZ (S.2 8)])), ((a 0), .inl (K.1, 32, .inl (ar (upz (S.1 0) line ((S.1 6) p))))), ((a 1), .inl (K.1, 32, .inl (ar (S.1 1)))), ((a 2), .inl (K.1, 32, .inl (ar (upz (S.1 2) line (((S.1 2) line) - many))))), ((a 3), .inl (K.1, N, .inl (ar (S.1 3)))), ((a 4), .inl (K.1, N, .inl (ar (upz (S.1 4) p (((S.1 4) p) - many))))), ((a 5), .inl (K.1, N, .inl (ar (S.1 5)))), ((a 6), .inl (K.1, N, .inl (ar (S.1 6))))]) rfl ?_
      refine z_aload_n ZC 0 dX2_take_55 rfl rfl ?_
      refine z_get ZC inUX2 0 rfl rfl 0 (by decide) uF_X2_9 rfl dX2_take_56 ?_
      refine z_iload_n ZC 1 dX2_take_59 rfl rfl ?_
      refine z_iald ZC 1 rfl dX2_take_60 (by omega) ?_
      refine z_iconst ZC dX2_take_61 ?_
      refine z_icmp_ne ZC 72 dX2_take_62 (by decide) (by rw [upz_self, ep]; omega) (by omega) (fun c_62 => ?_) (fun c_62 => ?_)
      · skip
        refine z_aload_n ZC 0 dX2_take_72 rfl rfl ?_
        refine z_get ZC inUX2 0 rfl rfl 6 (by decide) uF_X2_30 rfl dX2_take_73 ?_
        refine z_iload_n ZC 3 dX2_take_76 rfl rfl ?_
        refine z_aload_n ZC 0 dX2_take_77 rfl rfl ?_
        refine z_get ZC inUX2 0 rfl rfl 8 (by decide) uF_X2_33 rfl dX2_take_78 ?_
        refine z_iast ZC 7 rfl dX2_take_81 (by subst ep; omega) ?_
        refine z_aload_n ZC 0 dX2_take_82 rfl rfl ?_
        refine z_iload_n ZC 3 dX2_take_83 rfl rfl ?_
        refine z_put ZC inUX2 tyX2_ok nmX2 0 rfl rfl 8 (by decide) uF_X2_33 rfl (rfl) (rfl) (Nat.le_of_ble_eq_true rfl) dX2_take_84 ?_
        refine z_vret ZC ZE dX2_take_87 (by omega) (by omega) (Nat.le_of_ble_eq_true rfl) ⟨((upf (upf (upf (upf S.1 0 (upz (S.1 0) line ((S.1 6) p))) 2 (upz (S.1 2) line (((S.1 2) line) - many))) 4 (upz (S.1 4) p (((S.1 4) p) - many))) 6 (upz (S.1 6) p (S.2 8))), (upf S.2 8 p)), rfl, rfl, by omega, by omega, ?_⟩
        · skip
          rw [show tk3 c n d l_ many = l_ from if_neg (by omega)]
          rw [upz_self, ep] at c_62
          exact lo_take2 hO hr hC ep (by omega) (fun j => by rw [if_neg (fun q => c_62 (hnx.1.mpr q.2))])
      · skip
        refine z_aload_n ZC 0 dX2_take_65 rfl rfl ?_
        refine z_get ZC inUX2 0 rfl rfl 1 (by decide) uF_X2_15 rfl dX2_take_66 ?_
        refine z_iload_n ZC 1 dX2_take_69 rfl rfl ?_
        refine z_iconst ZC dX2_take_70 ?_
        refine z_iast ZC 2 rfl dX2_take_71 (by omega) ?_
        refine z_aload_n ZC 0 dX2_take_72 rfl rfl ?_
        refine z_get ZC inUX2 0 rfl rfl 6 (by decide) uF_X2_30 rfl dX2_take_73 ?_
        refine z_iload_n ZC 3 dX2_take_76 rfl rfl ?_
        refine z_aload_n ZC 0 dX2_take_77 rfl rfl ?_
        refine z_get ZC inUX2 0 rfl rfl 8 (by decide) uF_X2_33 rfl dX2_take_78 ?_
        refine z_iast ZC 7 rfl dX2_take_81 (by subst ep; omega) ?_
        refine z_aload_n ZC 0 dX2_take_82 rfl rfl ?_
        refine z_iload_n ZC 3 dX2_take_83 rfl rfl ?_
        refine z_put ZC inUX2 tyX2_ok nmX2 0 rfl rfl 8 (by decide) uF_X2_33 rfl (rfl) (rfl) (Nat.le_of_ble_eq_true rfl) dX2_take_84 ?_
        refine z_ws (ws2 := [(h, .inr (2, [.ref (a 0), .ref (a 1), .ref (a 2), .ref (a 3), .ref (a 4), .ref (a 5), .ref (a 6), vZ (S.2 7), vZ p])), ((a 0), .inl (K.1, 32, .inl (ar (upz (S.1 0) line ((S.1 6) p))))), ((a 1), .inl (K.1, 32, .inl (ar (upz (S.1 1) line (-1))))), ((a 2), .inl (K.1, 32, .inl (ar (upz (S.1 2) line (((S.1 2) line) - many))))), ((a 3), .inl (K.1, N, .inl (ar (S.1 3)))), ((a 4), .inl (K.1, N, .inl (ar (upz (S.1 4) p (((S.1 4) p) - many))))), ((a 5), .inl (K.1, N, .inl (ar (S.1 5)))), ((a 6), .inl (K.1, N, .inl (ar (upz (S.1 6) p (S.2 8)))))]) rfl ?_
        refine z_vret ZC ZE dX2_take_87 (by omega) (by omega) (Nat.le_of_ble_eq_true rfl) ⟨((upf (upf (upf (upf (upf S.1 0 (upz (S.1 0) line ((S.1 6) p))) 1 (upz (S.1 1) line (-1))) 2 (upz (S.1 2) line (((S.1 2) line) - many))) 4 (upz (S.1 4) p (((S.1 4) p) - many))) 6 (upz (S.1 6) p (S.2 8))), (upf S.2 8 p)), rfl, rfl, by omega, by omega, ?_⟩
        · skip
          rw [show tk3 c n d l_ many = l_ from if_neg (by omega)]
          rw [upz_self, ep] at c_62
          refine lo_take2 hO hr hC ep (by omega) (fun j => ?_)
          show upz (S.1 1) line (-1) j = _
          unfold upz
          by_cases z : j = line
          · rw [if_pos z, if_pos ⟨z, hnx.1.mp c_62⟩]
          · rw [if_neg z, if_neg (fun q => z q.1)]
    · skip
      refine z_vret ZC ZE dX2_take_42 (by omega) (by omega) (Nat.le_of_ble_eq_true rfl) ⟨((upf (upf S.1 2 (upz (S.1 2) line (((S.1 2) line) - many))) 4 (upz (S.1 4) p (((S.1 4) p) - many))), S.2), rfl, rfl, by omega, by omega, ?_⟩
      · skip
        rw [show tk3 c n d l_ many = (c, n - many, d) :: l_ from if_pos (by omega)]
        exact lo_take1 hO hr hC ep (by omega)
  · skip
    subst ep; omega

