/-! ===== Traffic: crowds are let go ===== -/
def oc (Cr : Bd) (A : Ab) : Int := smI (A.1 1) 0 (Cr.2 3).toNat
theorem smI_const (v : Int) : ∀ n : Nat, smI (fun _ => v) 0 n = v * n
  | 0 => by show (0 : Int) = v * 0; omega
  | n + 1 => by
    show smI (fun _ => v) 0 n + v = v * ((n + 1 : Nat) : Int)
    rw [smI_const v n, show ((n + 1 : Nat) : Int) = (n : Int) + 1 by omega, Int.mul_add]; omega
theorem oc_rng {Ne Cr : Bd} {A : Ab} (hc : Cfg Ne Cr) (h : AOK Ne Cr A) : 0 ≤ oc Cr A ∧ oc Cr A ≤ 8 := by
  have h8 := hc.2.1
  refine ⟨smI_nn (fun j a b => ?_), ?_⟩
  · have := (h.2 j a (by omega)).2.2.1; omega
  · have := smI_mono (f := A.1 1) (g := fun _ => 1) (n := (Cr.2 3).toNat) (fun j a b => by have := (h.2 j a (by omega)).2.2.1; omega)
    rw [smI_const] at this
    unfold oc
    omega
theorem oc_let {Ne Cr : Bd} {A : Ab} {c : Int} (h1 : 0 ≤ c) (h2 : c < Cr.2 3) (hz : A.1 1 c = 0 ∧ A.1 0 c = A.2.1 0) : oc Cr (aLet1 Ne Cr A c) = oc Cr A + 1 := by
  have e0 : aLet1 Ne Cr A c = aQ (aI A 1 (upz (A.1 1) c 1)) (aWay Ne Cr (Cr.1 0 c) c) (A.2.2.1 (aWay Ne Cr (Cr.1 0 c) c) ++ List.replicate (Cr.1 1 c).toNat c) := if_pos hz
  rw [e0]
  show smI (upz (A.1 1) c 1) 0 _ = smI (A.1 1) 0 _ + 1
  exact smI_pt2 (k := c) h1 (by omega) (fun j _ _ e => upz_ne _ _ e) (by rw [upz_self]; omega)

set_option maxHeartbeats 4000000 in
set_option maxRecDepth 100000 in
theorem c_X6_letCrowdsGo (zl : Launch) (D : va_G) (K : tyK) (h : Nat) (a : Nat → Nat) (T : Bd) (aq : Nat → Nat) (Nq : Nat) (Sq : Bd) (an : Nat → Nat) (Ne : Bd) (ac : Nat → Nat) (Cr : Bd) (B : Nat) (mp : Nat) (Cq : Int → List Pt3) (A : Ab) (hcf : Cfg Ne Cr) (hok : AOK Ne Cr A) (hT : TrR Ne Cr B T Nq Sq Cq A) (hnow : 0 ≤ A.2.1 0 ∧ A.2.1 0 ≤ 200) (hmp : lns Cq 32 ≤ mp ∧ mp + 9 ≤ B ∧ mp + 9 ≤ Nq ∧ B ≤ 4000) (hoff : ∀ c : Int, 0 ≤ c → c < Cr.2 3 → A.1 0 c = A.2.1 0 → A.1 1 c = 0) (hlg : ∀ c : Int, 0 ≤ c → c < Cr.2 3 → 0 ≤ A.1 0 c ∧ A.1 0 c ≤ 300) : Mz zl yX6_letCrowdsGo cX6_letCrowdsGo 2 (none) 3 71 0 0 D K [.ref h] ((wTr K h a T) ++ (wLn K (a 3) aq Nq Sq) ++ (wNe K (a 1) an Ne) ++ (wCr K (a 2) ac Cr)) (fun r_ w2_ gc gs => ∃ (Sq2 : Bd), ∃ (Cq2 : Int → List Pt3), r_ = none ∧ w2_ = ((wTr K h a T) ++ (wLn K (a 3) aq Nq Sq2) ++ (wNe K (a 1) an Ne) ++ (wCr K (a 2) ac Cr)) ∧ gc = 0 ∧ gs = 0 ∧ (TrR Ne Cr B T Nq Sq2 Cq2 (aLet Ne Cr A (Cr.2 3).toNat)) ∧ (AOK Ne Cr (aLet Ne Cr A (Cr.2 3).toNat)) ∧ (((lns Cq2 32 : Nat) : Int) ≤ mp + (oc Cr (aLet Ne Cr A (Cr.2 3).toNat) - oc Cr A))) := by
  refine Mz.ofZ (by decide) rfl (Nat.le_of_ble_eq_true rfl) ?_
  intro zp ze zR zs zm zargs zbelow zmeth zc zA zQ ZC ZE hRf hRc hRs hRl
  have hc1 := hcf.2.1
  refine z_iconst ZC dX6_letCrowdsGo_0 ?_
  refine z_istore_n ZC 1 dX6_letCrowdsGo_1 rfl (by decide) ?_
  have lp_2 : ∀ (n_2 : Nat) (c : Int) (Sq1 : Bd) (Cq1 : Int → List Pt3) (A1 : Ab), (0 ≤ c ∧ c ≤ Cr.2 3) → (TrR Ne Cr B T Nq Sq1 Cq1 A1) → (AOK Ne Cr A1) → (((lns Cq1 32 : Nat) : Int) ≤ mp + (oc Cr A1 - oc Cr A)) → (A1 = aLet Ne Cr A c.toNat) → ((Cr.2 3 - c).toNat) < n_2 → Zw zp zl ze zR zs zm zargs zbelow zmeth zc D zA 2 zQ 0 0 ([(h, .inr (6, [.ref (a 0), .ref (a 1), .ref (a 2), .ref (a 3), .ref (a 5), .ref (a 6), .ref (a 7), .ref (a 8), .ref (a 9), .ref (a 10), .ref (a 11), vZ (T.2 12), vZ (T.2 13), vZ (T.2 14), vZ (T.2 15)])), ((a 5), .inl (K.1, 8, .inl (ar (T.1 5)))), ((a 6), .inl (K.1, 8, .inl (ar (T.1 6)))), ((a 7), .inl (K.1, 8, .inl (ar (T.1 7)))), ((a 8), .inl (K.1, 10, .inl (ar (T.1 8)))), ((a 9), .inl (K.1, 10, .inl (ar (T.1 9)))), ((a 10), .inl (K.1, 10, .inl (ar (T.1 10)))), ((a 11), .inl (K.1, 16, .inl (ar (T.1 11)))), ((a 3), .inr (2, [.ref (aq 0), .ref (aq 1), .ref (aq 2), .ref (aq 3), .ref (aq 4), .ref (aq 5), .ref (aq 6), vZ (Sq1.2 7), vZ (Sq1.2 8)])), ((aq 0), .inl (K.1, 32, .inl (ar (Sq1.1 0)))), ((aq 1), .inl (K.1, 32, .inl (ar (Sq1.1 1)))), ((aq 2), .inl (K.1, 32, .inl (ar (Sq1.1 2)))), ((aq 3), .inl (K.1, Nq, .inl (ar (Sq1.1 3)))), ((aq 4), .inl (K.1, Nq, .inl (ar (Sq1.1 4)))), ((aq 5), .inl (K.1, Nq, .inl (ar (Sq1.1 5)))), ((aq 6), .inl (K.1, Nq, .inl (ar (Sq1.1 6)))), ((a 1), .inr (4, [.ref (an 0), .ref (an 1), .ref (an 2), .ref (an 3), .ref (an 4), .ref (an 5), .ref (an 6), .ref (an 7), vZ (Ne.2 8)])), ((an 0), .inl (K.1, 16, .inl (ar (Ne.1 0)))), ((an 1), .inl (K.1, 16, .inl (ar (Ne.1 1)))), ((an 2), .inl (K.1, 16, .inl (ar (Ne.1 2)))), ((an 3), .inl (K.1, 16, .inl (ar (Ne.1 3)))), ((an 4), .inl (K.1, 16, .inl (ar (Ne.1 4)))), ((an 5), .inl (K.1, 16, .inl (ar (Ne.1 5)))), ((an 6), .inl (K.1, 100, .inl (ar (Ne.1 6)))), ((an 7), .inl (K.1, 100, .inl (ar (Ne.1 7)))), ((a 2), .inr (0, [.ref (ac 0), .ref (ac 1), .ref (ac 2), vZ (Cr.2 3), vZ (Cr.2 4)])), ((ac 0), .inl (K.1, 8, .inl (ar (Cr.1 0)))), ((ac 1), .inl (K.1, 8, .inl (ar (Cr.1 1)))), ((ac 2), .inl (K.1, 8, .inl (ar (Cr.1 2))))]) 2 [(0, .ref h), (1, vZ c)] [] := by
    intro n_2
    induction n_2 with
    | zero => intro c Sq1 Cq1 A1 hc i1 i2 i4 i5 hm_2; exact absurd hm_2 (Nat.not_lt_zero _)
    | succ n_2 ih_2 =>
      intro c Sq1 Cq1 A1 hc i1 i2 i4 i5 hm_2
      refine z_iload_n ZC 1 dX6_letCrowdsGo_2 rfl rfl ?_
      refine z_aload_n ZC 0 dX6_letCrowdsGo_3 rfl rfl ?_
      refine z_get ZC inUX6 0 rfl rfl 2 (by decide) uF_X6_52 rfl dX6_letCrowdsGo_4 ?_
      refine z_get ZC inUX0 25 rfl rfl 3 (by decide) uF_X6_160 rfl dX6_letCrowdsGo_7 ?_
      refine z_icmp_ge ZC 55 dX6_letCrowdsGo_10 (by decide) (by omega) (by omega) (fun c_10 => ?_) (fun c_10 => ?_)
      · skip
        have hre : c = Cr.2 3 := by omega
        subst i5
        rw [hre] at i1 i2 i4
        refine z_vret ZC ZE dX6_letCrowdsGo_55 (by omega) (by omega) (Nat.le_of_ble_eq_true rfl) ⟨Sq1, Cq1, rfl, rfl, by omega, by omega, ?_, ?_, ?_⟩
        · skip
          exact i1
        · skip
          exact i2
        · skip
          exact i4
      · skip
        have hG1 := lo_rng i1.1
        have hoc := oc_rng hcf hok
        have hoc1 := oc_rng hcf i2
        obtain ⟨kp1, kp2, kp3, kp4, kp5⟩ := aLet_keep Ne Cr A c.toNat
        have enow : T.2 12 = A1.2.1 0 := i1.2.2.2.2.1.1
        have ehr : T.1 5 c = A1.1 0 c := (i1.2.2.1 c (by omega) (by omega)).1
        have enow2 : A1.2.1 0 = A.2.1 0 := by rw [i5, kp1]
        have ehr2 : A1.1 0 c = A.1 0 c := by rw [i5, kp2]
        have hlg1 := hlg c (by omega) (by omega)
        refine z_aload_n ZC 0 dX6_letCrowdsGo_13 rfl rfl ?_
        refine z_get ZC inUX6 0 rfl rfl 4 (by decide) uF_X6_18 rfl dX6_letCrowdsGo_14 ?_
        refine z_iload_n ZC 1 dX6_letCrowdsGo_17 rfl rfl ?_
        refine z_iald ZC 1 rfl dX6_letCrowdsGo_18 (by omega) ?_
        refine z_aload_n ZC 0 dX6_letCrowdsGo_19 rfl rfl ?_
        refine z_get ZC inUX6 0 rfl rfl 11 (by decide) uF_X6_56 rfl dX6_letCrowdsGo_20 ?_
        refine z_icmp_ne ZC 49 dX6_letCrowdsGo_23 (by decide) (by omega) (by omega) (fun c_23 => ?_) (fun c_23 => ?_)
        · skip
          refine z_iinc ZC dX6_letCrowdsGo_49 rfl (by decide) ?_
          refine z_goto ZC 2 dX6_letCrowdsGo_52 (by decide) ?_
          refine z_ws (ws2 := [(h, .inr (6, [.ref (a 0), .ref (a 1), .ref (a 2), .ref (a 3), .ref (a 5), .ref (a 6), .ref (a 7), .ref (a 8), .ref (a 9), .ref (a 10), .ref (a 11), vZ (T.2 12), vZ (T.2 13), vZ (T.2 14), vZ (T.2 15)])), ((a 5), .inl (K.1, 8, .inl (ar (T.1 5)))), ((a 6), .inl (K.1, 8, .inl (ar (T.1 6)))), ((a 7), .inl (K.1, 8, .inl (ar (T.1 7)))), ((a 8), .inl (K.1, 10, .inl (ar (T.1 8)))), ((a 9), .inl (K.1, 10, .inl (ar (T.1 9)))), ((a 10), .inl (K.1, 10, .inl (ar (T.1 10)))), ((a 11), .inl (K.1, 16, .inl (ar (T.1 11)))), ((a 3), .inr (2, [.ref (aq 0), .ref (aq 1), .ref (aq 2), .ref (aq 3), .ref (aq 4), .ref (aq 5), .ref (aq 6), vZ (Sq1.2 7), vZ (Sq1.2 8)])), ((aq 0), .inl (K.1, 32, .inl (ar (Sq1.1 0)))), ((aq 1), .inl (K.1, 32, .inl (ar (Sq1.1 1)))), ((aq 2), .inl (K.1, 32, .inl (ar (Sq1.1 2)))), ((aq 3), .inl (K.1, Nq, .inl (ar (Sq1.1 3)))), ((aq 4), .inl (K.1, Nq, .inl (ar (Sq1.1 4)))), ((aq 5), .inl (K.1, Nq, .inl (ar (Sq1.1 5)))), ((aq 6), .inl (K.1, Nq, .inl (ar (Sq1.1 6)))), ((a 1), .inr (4, [.ref (an 0), .ref (an 1), .ref (an 2), .ref (an 3), .ref (an 4), .ref (an 5), .ref (an 6), .ref (an 7), vZ (Ne.2 8)])), ((an 0), .inl (K.1, 16, .inl (ar (Ne.1 0)))), ((an 1), .inl (K.1, 16, .inl (ar (Ne.1 1)))), ((an 2), .inl (K.1, 16, .inl (ar (Ne.1 2)))), ((an 3), .inl (K.1, 16, .inl (ar (Ne.1 3)))), ((an 4), .inl (K.1, 16, .inl (ar (Ne.1 4)))), ((an 5), .inl (K.1, 16, .inl (ar (Ne.1 5)))), ((an 6), .inl (K.1, 100, .inl (ar (Ne.1 6)))), ((an 7), .inl (K.1, 100, .inl (ar (Ne.1 7)))), ((a 2), .inr (0, [.ref (ac 0), .ref (ac 1), .ref (ac 2), vZ (Cr.2 3), vZ (Cr.2 4)])), ((ac 0), .inl (K.1, 8, .inl (ar (Cr.1 0)))), ((ac 1), .inl (K.1, 8, .inl (ar (Cr.1 1)))), ((ac 2), .inl (K.1, 8, .inl (ar (Cr.1 2))))]) rfl (z_lv (lv2 := [(0, .ref h), (1, vZ (c + 1))]) ⟨rfl, rfl, trivial⟩ ?_)
          refine ih_2 (c + 1) Sq1 Cq1 A1 ?_ ?_ ?_ ?_ ?_ (dec_lt hm_2 c_10)
          · skip
            omega
          · skip
            exact i1
          · skip
            exact i2
          · skip
            exact i4
          · skip
            rw [aLet_next hc.1, ← i5]
            unfold aLet1
            rw [if_neg]
            rintro ⟨-, z⟩
            exact c_23 (by rw [ehr, enow]; exact z)
        · skip
          have hz : A1.1 1 c = 0 ∧ A1.1 0 c = A1.2.1 0 := by
            refine ⟨?_, by rw [← ehr, ← enow]; exact c_23⟩
            rw [i5, kp5 c (by omega)]
            exact hoff c (by omega) (by omega) (by rw [← ehr2, ← enow2, ← ehr, ← enow]; exact c_23)
          have hcc := hcf.2.2.2.1 c (by omega) (by omega)
          obtain ⟨w1, w2, w3⟩ := cfg_way0 hcf (c := c) (by omega) (by omega)
          refine z_aload_n ZC 0 dX6_letCrowdsGo_26 rfl rfl ?_
          refine z_aload_n ZC 0 dX6_letCrowdsGo_27 rfl rfl ?_
          refine z_get ZC inUX6 0 rfl rfl 2 (by decide) uF_X6_52 rfl dX6_letCrowdsGo_28 ?_
          refine z_get ZC inUX0 25 rfl rfl 0 (by decide) uF_X6_161 rfl dX6_letCrowdsGo_31 ?_
          refine z_iload_n ZC 1 dX6_letCrowdsGo_34 rfl rfl ?_
          refine z_iald ZC 26 rfl dX6_letCrowdsGo_35 (by omega) ?_
          refine z_iload_n ZC 1 dX6_letCrowdsGo_36 rfl rfl ?_
          refine z_aload_n ZC 0 dX6_letCrowdsGo_37 rfl rfl ?_
          refine z_get ZC inUX6 0 rfl rfl 2 (by decide) uF_X6_52 rfl dX6_letCrowdsGo_38 ?_
          refine z_get ZC inUX0 25 rfl rfl 1 (by decide) uF_X6_67 rfl dX6_letCrowdsGo_41 ?_
          refine z_iload_n ZC 1 dX6_letCrowdsGo_44 rfl rfl ?_
          refine z_iald ZC 27 rfl dX6_letCrowdsGo_45 (by omega) ?_
          refine z_callV ZC 3 (c_X6_queueUp zl D K h a T aq Nq Sq1 an Ne ac Cr B Cq1 ((Cr.1 0) c) c ((Cr.1 1) c) (hcc.1) (⟨by omega, by omega⟩) (hcc.2.1) (i1.1) (by omega) (hcc.2.2.2.1.1) (fun j h1 h2 q hq => by have := (tr_dv hcf i2 i1 h1 h2).2 q hq; omega) (⟨w1.1, w1.2.2⟩)) (gdV uM_X6_149 uI_X6_queueUp uS_X6_queueUp uN_X6 uC_X6_queueUp) (by decide +kernel) rfl ⟨by omega, by omega⟩ ⟨by omega, by omega⟩ (Nat.le_of_ble_eq_true rfl) [0, 1, 2, 3, 4, 5, 6, 7, 8, 9, 10, 11, 12, 13, 14, 15, 16, 17, 18, 19, 20, 21, 22, 23, 24, 25, 26, 27, 28] rfl (by decide) rfl rfl rfl rfl dX6_letCrowdsGo_46 (fun r w2 gc_46 gs_46 hp => ?_)
          obtain ⟨Sq2_46, rfl, rfl, rfl, rfl, hO2_46⟩ := hp
          refine z_ws (ws2 := [(h, .inr (6, [.ref (a 0), .ref (a 1), .ref (a 2), .ref (a 3), .ref (a 5), .ref (a 6), .ref (a 7), .ref (a 8), .ref (a 9), .ref (a 10), .ref (a 11), vZ (T.2 12), vZ (T.2 13), vZ (T.2 14), vZ (T.2 15)])), ((a 5), .inl (K.1, 8, .inl (ar (T.1 5)))), ((a 6), .inl (K.1, 8, .inl (ar (T.1 6)))), ((a 7), .inl (K.1, 8, .inl (ar (T.1 7)))), ((a 8), .inl (K.1, 10, .inl (ar (T.1 8)))), ((a 9), .inl (K.1, 10, .inl (ar (T.1 9)))), ((a 10), .inl (K.1, 10, .inl (ar (T.1 10)))), ((a 11), .inl (K.1, 16, .inl (ar (T.1 11)))), ((a 3), .inr (2, [.ref (aq 0), .ref (aq 1), .ref (aq 2), .ref (aq 3), .ref (aq 4), .ref (aq 5), .ref (aq 6), vZ (Sq2_46.2 7), vZ (Sq2_46.2 8)])), ((aq 0), .inl (K.1, 32, .inl (ar (Sq2_46.1 0)))), ((aq 1), .inl (K.1, 32, .inl (ar (Sq2_46.1 1)))), ((aq 2), .inl (K.1, 32, .inl (ar (Sq2_46.1 2)))), ((aq 3), .inl (K.1, Nq, .inl (ar (Sq2_46.1 3)))), ((aq 4), .inl (K.1, Nq, .inl (ar (Sq2_46.1 4)))), ((aq 5), .inl (K.1, Nq, .inl (ar (Sq2_46.1 5)))), ((aq 6), .inl (K.1, Nq, .inl (ar (Sq2_46.1 6)))), ((a 1), .inr (4, [.ref (an 0), .ref (an 1), .ref (an 2), .ref (an 3), .ref (an 4), .ref (an 5), .ref (an 6), .ref (an 7), vZ (Ne.2 8)])), ((an 0), .inl (K.1, 16, .inl (ar (Ne.1 0)))), ((an 1), .inl (K.1, 16, .inl (ar (Ne.1 1)))), ((an 2), .inl (K.1, 16, .inl (ar (Ne.1 2)))), ((an 3), .inl (K.1, 16, .inl (ar (Ne.1 3)))), ((an 4), .inl (K.1, 16, .inl (ar (Ne.1 4)))), ((an 5), .inl (K.1, 16, .inl (ar (Ne.1 5)))), ((an 6), .inl (K.1, 100, .inl (ar (Ne.1 6)))), ((an 7), .inl (K.1, 100, .inl (ar (Ne.1 7)))), ((a 2), .inr (0, [.ref (ac 0), .ref (ac 1), .ref (ac 2), vZ (Cr.2 3), vZ (Cr.2 4)])), ((ac 0), .inl (K.1, 8, .inl (ar (Cr.1 0)))), ((ac 1), .inl (K.1, 8, .inl (ar (Cr.1 1)))), ((ac 2), .inl (K.1, 8, .inl (ar (Cr.1 2))))]) rfl ?_
          refine z_st (st2 := []) rfl ?_
          refine z_iinc ZC dX6_letCrowdsGo_49 rfl (by decide) ?_
          refine z_goto ZC 2 dX6_letCrowdsGo_52 (by decide) ?_
          refine z_ws (ws2 := [(h, .inr (6, [.ref (a 0), .ref (a 1), .ref (a 2), .ref (a 3), .ref (a 5), .ref (a 6), .ref (a 7), .ref (a 8), .ref (a 9), .ref (a 10), .ref (a 11), vZ (T.2 12), vZ (T.2 13), vZ (T.2 14), vZ (T.2 15)])), ((a 5), .inl (K.1, 8, .inl (ar (T.1 5)))), ((a 6), .inl (K.1, 8, .inl (ar (T.1 6)))), ((a 7), .inl (K.1, 8, .inl (ar (T.1 7)))), ((a 8), .inl (K.1, 10, .inl (ar (T.1 8)))), ((a 9), .inl (K.1, 10, .inl (ar (T.1 9)))), ((a 10), .inl (K.1, 10, .inl (ar (T.1 10)))), ((a 11), .inl (K.1, 16, .inl (ar (T.1 11)))), ((a 3), .inr (2, [.ref (aq 0), .ref (aq 1), .ref (aq 2), .ref (aq 3), .ref (aq 4), .ref (aq 5), .ref (aq 6), vZ (Sq2_46.2 7), vZ (Sq2_46.2 8)])), ((aq 0), .inl (K.1, 32, .inl (ar (Sq2_46.1 0)))), ((aq 1), .inl (K.1, 32, .inl (ar (Sq2_46.1 1)))), ((aq 2), .inl (K.1, 32, .inl (ar (Sq2_46.1 2)))), ((aq 3), .inl (K.1, Nq, .inl (ar (Sq2_46.1 3)))), ((aq 4), .inl (K.1, Nq, .inl (ar (Sq2_46.1 4)))), ((aq 5), .inl (K.1, Nq, .inl (ar (Sq2_46.1 5)))), ((aq 6), .inl (K.1, Nq, .inl (ar (Sq2_46.1 6)))), ((a 1), .inr (4, [.ref (an 0), .ref (an 1), .ref (an 2), .ref (an 3), .ref (an 4), .ref (an 5), .ref (an 6), .ref (an 7), vZ (Ne.2 8)])), ((an 0), .inl (K.1, 16, .inl (ar (Ne.1 0)))), ((an 1), .inl (K.1, 16, .inl (ar (Ne.1 1)))), ((an 2), .inl (K.1, 16, .inl (ar (Ne.1 2)))), ((an 3), .inl (K.1, 16, .inl (ar (Ne.1 3)))), ((an 4), .inl (K.1, 16, .inl (ar (Ne.1 4)))), ((an 5), .inl (K.1, 16, .inl (ar (Ne.1 5)))), ((an 6), .inl (K.1, 100, .inl (ar (Ne.1 6)))), ((an 7), .inl (K.1, 100, .inl (ar (Ne.1 7)))), ((a 2), .inr (0, [.ref (ac 0), .ref (ac 1), .ref (ac 2), vZ (Cr.2 3), vZ (Cr.2 4)])), ((ac 0), .inl (K.1, 8, .inl (ar (Cr.1 0)))), ((ac 1), .inl (K.1, 8, .inl (ar (Cr.1 1)))), ((ac 2), .inl (K.1, 8, .inl (ar (Cr.1 2))))]) rfl (z_lv (lv2 := [(0, .ref h), (1, vZ (c + 1))]) ⟨rfl, rfl, trivial⟩ ?_)
          refine ih_2 (c + 1) Sq2_46 (upL Cq1 (aWay Ne Cr (Cr.1 0 c) c) (ap3 (Cq1 (aWay Ne Cr (Cr.1 0 c) c)) c (Cr.1 1 c) 0)) (aLet1 Ne Cr A1 c) ?_ ?_ ?_ ?_ ?_ (dec_lt hm_2 c_10)
          · skip
            omega
          · skip
            exact tr_let hcf i1 (by omega) (by omega) hz hO2_46
          · skip
            exact aok_let hcf i2 (by omega) (by omega)
          · skip
            have u2 := lns_up (P := Cq1) (r := aWay Ne Cr (Cr.1 0 c) c) (l := ap3 (Cq1 (aWay Ne Cr (Cr.1 0 c) c)) c (Cr.1 1 c) 0) (n := 32) w1.1 (by omega)
            have u3 := ap3_len (Cq1 (aWay Ne Cr (Cr.1 0 c) c)) c (Cr.1 1 c) 0
            rw [oc_let (by omega) (by omega) hz]
            omega
          · skip
            rw [aLet_next hc.1, ← i5]
  refine z_ws (ws2 := [(h, .inr (6, [.ref (a 0), .ref (a 1), .ref (a 2), .ref (a 3), .ref (a 5), .ref (a 6), .ref (a 7), .ref (a 8), .ref (a 9), .ref (a 10), .ref (a 11), vZ (T.2 12), vZ (T.2 13), vZ (T.2 14), vZ (T.2 15)])), ((a 5), .inl (K.1, 8, .inl (ar (T.1 5)))), ((a 6), .inl (K.1, 8, .inl (ar (T.1 6)))), ((a 7), .inl (K.1, 8, .inl (ar (T.1 7)))), ((a 8), .inl (K.1, 10, .inl (ar (T.1 8)))), ((a 9), .inl (K.1, 10, .inl (ar (T.1 9)))), ((a 10), .inl (K.1, 10, .inl (ar (T.1 10)))), ((a 11), .inl (K.1, 16, .inl (ar (T.1 11)))), ((a 3), .inr (2, [.ref (aq 0), .ref (aq 1), .ref (aq 2), .ref (aq 3), .ref (aq 4), .ref (aq 5), .ref (aq 6), vZ (Sq.2 7), vZ (Sq.2 8)])), ((aq 0), .inl (K.1, 32, .inl (ar (Sq.1 0)))), ((aq 1), .inl (K.1, 32, .inl (ar (Sq.1 1)))), ((aq 2), .inl (K.1, 32, .inl (ar (Sq.1 2)))), ((aq 3), .inl (K.1, Nq, .inl (ar (Sq.1 3)))), ((aq 4), .inl (K.1, Nq, .inl (ar (Sq.1 4)))), ((aq 5), .inl (K.1, Nq, .inl (ar (Sq.1 5)))), ((aq 6), .inl (K.1, Nq, .inl (ar (Sq.1 6)))), ((a 1), .inr (4, [.ref (an 0), .ref (an 1), .ref (an 2), .ref (an 3), .ref (an 4), .ref (an 5), .ref (an 6), .ref (an 7), vZ (Ne.2 8)])), ((an 0), .inl (K.1, 16, .inl (ar (Ne.1 0)))), ((an 1), .inl (K.1, 16, .inl (ar (Ne.1 1)))), ((an 2), .inl (K.1, 16, .inl (ar (Ne.1 2)))), ((an 3), .inl (K.1, 16, .inl (ar (Ne.1 3)))), ((an 4), .inl (K.1, 16, .inl (ar (Ne.1 4)))), ((an 5), .inl (K.1, 16, .inl (ar (Ne.1 5)))), ((an 6), .inl (K.1, 100, .inl (ar (Ne.1 6)))), ((an 7), .inl (K.1, 100, .inl (ar (Ne.1 7)))), ((a 2), .inr (0, [.ref (ac 0), .ref (ac 1), .ref (ac 2), vZ (Cr.2 3), vZ (Cr.2 4)])), ((ac 0), .inl (K.1, 8, .inl (ar (Cr.1 0)))), ((ac 1), .inl (K.1, 8, .inl (ar (Cr.1 1)))), ((ac 2), .inl (K.1, 8, .inl (ar (Cr.1 2))))]) rfl (z_lv (lv2 := [(0, .ref h), (1, vZ 0)]) ⟨rfl, rfl, trivial⟩ ?_)
  refine lp_2 _ 0 Sq Cq A ?_ ?_ ?_ ?_ ?_ (Nat.lt_succ_self _)
  · skip
    omega
  · skip
    exact hT
  · skip
    exact hok
  · skip
    omega
  · skip
    rfl

