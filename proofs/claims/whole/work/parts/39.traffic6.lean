/-! ===== Traffic: setOut, driveAnHour ===== -/
theorem fq_cnt : ∀ {l : List Pt3} {q : Pt3}, q ∈ l → q.2.1 ≤ ((fq l).count q.1 : Int)
  | p :: l, q, h => by
    show q.2.1 ≤ ((List.replicate p.2.1.toNat p.1 ++ fq l).count q.1 : Int)
    rw [List.count_append]
    rcases List.mem_cons.mp h with e | e
    · subst e
      rw [List.count_replicate_self]; omega
    · have := fq_cnt e
      omega
theorem tr_qn {Ne Cr : Bd} {B : Nat} {T : Bd} {Nq Nd : Nat} {Sq Sd : Bd} {Cq Cd : Int → List Pt3} {A : Ab} (hcf : Cfg Ne Cr) (hok : AOK Ne Cr A) (h : TrR Ne Cr B T Nq Sq Nd Sd Cq Cd A) {r : Int} (h1 : 0 ≤ r) (h2 : r < 16) : ∀ q ∈ Cq r, (0 ≤ q.1 ∧ q.1 < 8) ∧ q.2.2 = 0 ∧ q.2.1 ≤ 1000000 := by
  intro q hq
  have z := (tr_dv hcf hok h h1 h2).2 q hq
  refine ⟨⟨z.1, z.2.1⟩, z.2.2, ?_⟩
  have m := fq_mem hq (lo_pos h.1.1 ⟨h1, h2⟩ q hq)
  rw [(h.2.1 r h1 h2).1] at m
  have k := (hok.1 r h1 h2).2.1 _ m
  have c := fq_cnt hq
  rw [(h.2.1 r h1 h2).1] at c
  have s := smI_le (f := fun r => ((A.2.2.1 r).count q.1 : Int)) (k := r) (n := 16) (fun j _ _ => by omega) h1 (by omega)
  have g := hok.2 q.1 k.1 k.2.1
  have n := cnt_nn id A q.1
  have cc := (hcf.2.2.2.1 q.1 k.1 k.2.1).2.2.2.1
  have e : cqs A q.1 = smI (fun r => ((A.2.2.1 r).count q.1 : Int)) 0 16 := rfl
  have c2 : ((A.2.2.1 r).count q.1 : Int) ≤ cqs A q.1 := by rw [e]; exact s
  by_cases o : A.1 1 q.1 = 0
  · rw [if_pos o] at g; omega
  · rw [if_neg o] at g; omega
theorem aK_keep {Ne : Bd} {A : Ab} {n : Nat} {r : Int} (h : (n : Int) ≤ r) : aK Ne (aOut Ne A n) r = aK Ne A r := by
  obtain ⟨-, h2, h3⟩ := aOut_keep Ne A n
  unfold aK
  rw [h2, (h3 r h).1]
theorem oc_mono {Ne Cr : Bd} {A : Ab} {n : Nat} : 0 ≤ oc Cr (aLet Ne Cr A n) - oc Cr A := by
  induction n with
  | zero => show 0 ≤ oc Cr A - oc Cr A; omega
  | succ n ih =>
    show 0 ≤ oc Cr (aLet1 Ne Cr (aLet Ne Cr A n) (n : Int)) - oc Cr A
    by_cases hz : (aLet Ne Cr A n).1 1 (n : Int) = 0 ∧ (aLet Ne Cr A n).1 0 (n : Int) = (aLet Ne Cr A n).2.1 0
    · by_cases h2 : (n : Int) < Cr.2 3
      · rw [oc_let (by omega) h2 hz]; omega
      · have e : oc Cr (aLet1 Ne Cr (aLet Ne Cr A n) (n : Int)) = oc Cr (aLet Ne Cr A n) := by
          unfold aLet1
          rw [if_pos hz]
          exact smI_congr (fun j a b => upz_ne _ _ (by omega))
        rw [e]; exact ih
    · have e : aLet1 Ne Cr (aLet Ne Cr A n) (n : Int) = aLet Ne Cr A n := if_neg hz
      rw [e]; exact ih
theorem aCome_keep (Ne Cr : Bd) (A : Ab) : ∀ (n : Nat), (aCome Ne Cr A n).2.1 = A.2.1 ∧ (aCome Ne Cr A n).1 0 = A.1 0 ∧ (aCome Ne Cr A n).1 1 = A.1 1 ∧ (aCome Ne Cr A n).1 4 = A.1 4 ∧ (aCome Ne Cr A n).1 5 = A.1 5
  | 0 => ⟨rfl, rfl, rfl, rfl, rfl⟩
  | n + 1 => by
    obtain ⟨h1, h2, h3, h4, h5⟩ := aCome_keep Ne Cr A n
    have k := fold_keep Ne Cr (Ne.1 1 (n : Int)) ((((aCome Ne Cr A n).2.2.2 (n : Int)).takeWhile (fun q => q.2 == (aCome Ne Cr A n).2.1 0)).map (fun q => q.1)) (aD (aCome Ne Cr A n) (n : Int) (((aCome Ne Cr A n).2.2.2 (n : Int)).dropWhile (fun q => q.2 == (aCome Ne Cr A n).2.1 0)))
    exact ⟨k.1.trans h1, k.2.2.1.trans h2, k.2.2.2.1.trans h3, k.2.2.2.2.1.trans h4, k.2.2.2.2.2.trans h5⟩

set_option maxHeartbeats 4000000 in
set_option maxRecDepth 100000 in
theorem c_X6_setOut (zl : Launch) (D : va_G) (K : tyK) (h : Nat) (a : Nat → Nat) (T : Bd) (aq : Nat → Nat) (Nq : Nat) (Sq : Bd) (ad : Nat → Nat) (Nd : Nat) (Sd : Bd) (an : Nat → Nat) (Ne : Bd) (Cr : Bd) (B : Nat) (mp : Nat) (Cq : Int → List Pt3) (Cd : Int → List Pt3) (A : Ab) (hcf : Cfg Ne Cr) (hok : AOK Ne Cr A) (hT : TrR Ne Cr B T Nq Sq Nd Sd Cq Cd A) (hnow : 0 ≤ A.2.1 0 ∧ A.2.1 0 ≤ 200) (hmp : lns Cq 16 + lns Cd 16 ≤ mp ∧ mp + 17 ≤ B ∧ B ≤ 4000) : Mz zl yX6_setOut cX6_setOut 2 (none) 6 142 8200 98400 D K [.ref h] ((wTr K h a T) ++ (wLn K (a 3) aq Nq Sq) ++ (wLn K (a 4) ad Nd Sd) ++ (wNe K (a 1) an Ne)) (fun r_ w2_ gc gs => ∃ (T2 : Bd), ∃ (Sq2 : Bd), ∃ (ad2 : Nat → Nat), ∃ (Nd2 : Nat), ∃ (Sd2 : Bd), ∃ (Cq2 : Int → List Pt3), ∃ (Cd2 : Int → List Pt3), r_ = none ∧ w2_ = ((wTr K h a T2) ++ (wLn K (a 3) aq Nq Sq2) ++ (wLn K (a 4) ad2 Nd2 Sd2) ++ (wNe K (a 1) an Ne)) ∧ (TrR Ne Cr B T2 Nq Sq2 Nd2 Sd2 Cq2 Cd2 (aOut Ne A (Ne.2 8).toNat)) ∧ (AOK Ne Cr (aOut Ne A (Ne.2 8).toNat)) ∧ (∀ j : Int, 0 ≤ j → j < Ne.2 8 → T2.1 11 j = (aK Ne A j : Int)) ∧ (lns Cq2 16 + lns Cd2 16 ≤ mp + 16) ∧ (Nd ≤ Nd2 ∧ Nd2 ≤ 4096) ∧ (Nd + gc ≤ Nd2) ∧ (8 * Nd + gs ≤ 8 * Nd2)) := by
  refine Mz.ofZ (by decide) rfl (Nat.le_of_ble_eq_true rfl) ?_
  intro zp ze zR zs zm zargs zbelow zmeth zc zA zQ ZC ZE hRf hRc hRs hRl
  have hc1 := hcf.1
  refine z_iconst ZC dX6_setOut_0 ?_
  refine z_istore_n ZC 1 dX6_setOut_1 rfl (by decide) ?_
  have lp_2 : ∀ (n_2 : Nat) (r : Int) (T1 : Bd) (Sq1 : Bd) (ad1 : Nat → Nat) (Nd1 : Nat) (Sd1 : Bd) (gv : Nat) (gw : Nat) (Cq1 : Int → List Pt3) (Cd1 : Int → List Pt3) (A1 : Ab), (0 ≤ r ∧ r ≤ Ne.2 8) → (TrR Ne Cr B T1 Nq Sq1 Nd1 Sd1 Cq1 Cd1 A1) → (AOK Ne Cr A1) → (((lns Cq1 16 + lns Cd1 16 : Nat) : Int) ≤ mp + r) → (A1 = aOut Ne A r.toNat) → (Nd ≤ Nd1 ∧ Nd + gv ≤ Nd1 ∧ 8 * Nd + gw ≤ 8 * Nd1) → (∀ j : Int, 0 ≤ j → j < r → T1.1 11 j = (aK Ne A j : Int)) → ((Ne.2 8 - r).toNat) < n_2 → Zw zp zl ze zR zs zm zargs zbelow zmeth zc D zA 2 zQ gv gw ([(h, .inr (6, [.ref (a 0), .ref (a 1), .ref (a 2), .ref (a 3), .ref (a 4), .ref (a 5), .ref (a 6), .ref (a 7), .ref (a 8), .ref (a 9), .ref (a 10), .ref (a 11), vZ (T1.2 12), vZ (T1.2 13), vZ (T1.2 14), vZ (T1.2 15)])), ((a 5), .inl (K.1, 8, .inl (ar (T1.1 5)))), ((a 6), .inl (K.1, 8, .inl (ar (T1.1 6)))), ((a 7), .inl (K.1, 8, .inl (ar (T1.1 7)))), ((a 8), .inl (K.1, 10, .inl (ar (T1.1 8)))), ((a 9), .inl (K.1, 10, .inl (ar (T1.1 9)))), ((a 10), .inl (K.1, 10, .inl (ar (T1.1 10)))), ((a 11), .inl (K.1, 16, .inl (ar (T1.1 11)))), ((a 3), .inr (2, [.ref (aq 0), .ref (aq 1), .ref (aq 2), .ref (aq 3), .ref (aq 4), .ref (aq 5), .ref (aq 6), vZ (Sq1.2 7), vZ (Sq1.2 8)])), ((aq 0), .inl (K.1, 16, .inl (ar (Sq1.1 0)))), ((aq 1), .inl (K.1, 16, .inl (ar (Sq1.1 1)))), ((aq 2), .inl (K.1, 16, .inl (ar (Sq1.1 2)))), ((aq 3), .inl (K.1, Nq, .inl (ar (Sq1.1 3)))), ((aq 4), .inl (K.1, Nq, .inl (ar (Sq1.1 4)))), ((aq 5), .inl (K.1, Nq, .inl (ar (Sq1.1 5)))), ((aq 6), .inl (K.1, Nq, .inl (ar (Sq1.1 6)))), ((a 4), .inr (2, [.ref (ad1 0), .ref (ad1 1), .ref (ad1 2), .ref (ad1 3), .ref (ad1 4), .ref (ad1 5), .ref (ad1 6), vZ (Sd1.2 7), vZ (Sd1.2 8)])), ((ad1 0), .inl (K.1, 16, .inl (ar (Sd1.1 0)))), ((ad1 1), .inl (K.1, 16, .inl (ar (Sd1.1 1)))), ((ad1 2), .inl (K.1, 16, .inl (ar (Sd1.1 2)))), ((ad1 3), .inl (K.1, Nd1, .inl (ar (Sd1.1 3)))), ((ad1 4), .inl (K.1, Nd1, .inl (ar (Sd1.1 4)))), ((ad1 5), .inl (K.1, Nd1, .inl (ar (Sd1.1 5)))), ((ad1 6), .inl (K.1, Nd1, .inl (ar (Sd1.1 6)))), ((a 1), .inr (4, [.ref (an 0), .ref (an 1), .ref (an 2), .ref (an 3), .ref (an 4), .ref (an 5), .ref (an 6), .ref (an 7), vZ (Ne.2 8)])), ((an 0), .inl (K.1, 16, .inl (ar (Ne.1 0)))), ((an 1), .inl (K.1, 16, .inl (ar (Ne.1 1)))), ((an 2), .inl (K.1, 16, .inl (ar (Ne.1 2)))), ((an 3), .inl (K.1, 16, .inl (ar (Ne.1 3)))), ((an 4), .inl (K.1, 16, .inl (ar (Ne.1 4)))), ((an 5), .inl (K.1, 16, .inl (ar (Ne.1 5)))), ((an 6), .inl (K.1, 100, .inl (ar (Ne.1 6)))), ((an 7), .inl (K.1, 100, .inl (ar (Ne.1 7))))]) 2 [(0, .ref h), (1, vZ r)] [] := by
    intro n_2
    induction n_2 with
    | zero => intro r T1 Sq1 ad1 Nd1 Sd1 gv gw Cq1 Cd1 A1 hr i1 i2 i4 i5 i6 i7 hm_2; exact absurd hm_2 (Nat.not_lt_zero _)
    | succ n_2 ih_2 =>
      intro r T1 Sq1 ad1 Nd1 Sd1 gv gw Cq1 Cd1 A1 hr i1 i2 i4 i5 i6 i7 hm_2
      refine z_iload_n ZC 1 dX6_setOut_2 rfl rfl ?_
      refine z_aload_n ZC 0 dX6_setOut_3 rfl rfl ?_
      refine z_get ZC inUX6 0 rfl rfl 1 (by decide) uF_X6_51 rfl dX6_setOut_4 ?_
      refine z_get ZC inUX4 24 rfl rfl 8 (by decide) uF_X6_80 rfl dX6_setOut_7 ?_
      refine z_icmp_ge ZC 75 dX6_setOut_10 (by decide) (by omega) (by omega) (fun c_10 => ?_) (fun c_10 => ?_)
      · skip
        have hre : r = Ne.2 8 := by omega
        subst i5
        rw [hre] at i1 i2 i7
        have hGe := lo_rng i1.1.2
        refine z_vret ZC ZE dX6_setOut_75 (by omega) (by omega) (Nat.le_of_ble_eq_true rfl) ⟨T1, Sq1, ad1, Nd1, Sd1, Cq1, Cd1, rfl, rfl, ?_, ?_, ?_, ?_, ?_, ?_, ?_⟩
        · skip
          exact i1
        · skip
          exact i2
        · skip
          exact i7
        · skip
          omega
        · skip
          omega
        · skip
          omega
        · skip
          omega
      · skip
        have hG1 := lo_rng i1.1.2
        obtain ⟨kp1, kp2, kp3⟩ := aOut_keep Ne A r.toNat
        have enow : T1.2 12 = A1.2.1 0 := i1.2.2.2.2.1.1
        have enow2 : A1.2.1 0 = A.2.1 0 := by rw [i5, kp2]
        have hcr := hcf.2.2.1 r (by omega) (by omega)
        have hakk : aK Ne A1 r = aK Ne A r := by rw [i5]; exact aK_keep (by omega)
        have hfq0 := (i1.2.1 r (by omega) (by omega)).1
        have hfd0 := (i1.2.1 r (by omega) (by omega)).2.1
        refine z_aload_n ZC 0 dX6_setOut_13 rfl rfl ?_
        refine z_get ZC inUX6 0 rfl rfl 11 (by decide) uF_X6_40 rfl dX6_setOut_14 ?_
        refine z_iload_n ZC 1 dX6_setOut_17 rfl rfl ?_
        refine z_aload_n ZC 0 dX6_setOut_18 rfl rfl ?_
        refine z_get ZC inUX6 0 rfl rfl 3 (by decide) uF_X6_12 rfl dX6_setOut_19 ?_
        refine z_iload_n ZC 1 dX6_setOut_22 rfl rfl ?_
        refine z_callV ZC 1 (c_X2_isEmpty zl D K (a 3) aq Nq Sq1 B Cq1 r (i1.1.1) (by omega)) (gdV uM_X6_155 uI_X2_isEmpty uS_X2_isEmpty uN_X2 uC_X2_isEmpty) (by decide +kernel) rfl ⟨by omega, by omega⟩ ⟨by omega, by omega⟩ (Nat.le_of_ble_eq_true rfl) [8, 9, 10, 11, 12, 13, 14, 15] rfl (by decide) rfl rfl rfl rfl dX6_setOut_23 (fun r w2 gc_23 gs_23 hp => ?_)
        obtain ⟨b_23, rfl, rfl, rfl, rfl, hb_23⟩ := hp
        refine z_ws (ws2 := [(h, .inr (6, [.ref (a 0), .ref (a 1), .ref (a 2), .ref (a 3), .ref (a 4), .ref (a 5), .ref (a 6), .ref (a 7), .ref (a 8), .ref (a 9), .ref (a 10), .ref (a 11), vZ (T1.2 12), vZ (T1.2 13), vZ (T1.2 14), vZ (T1.2 15)])), ((a 5), .inl (K.1, 8, .inl (ar (T1.1 5)))), ((a 6), .inl (K.1, 8, .inl (ar (T1.1 6)))), ((a 7), .inl (K.1, 8, .inl (ar (T1.1 7)))), ((a 8), .inl (K.1, 10, .inl (ar (T1.1 8)))), ((a 9), .inl (K.1, 10, .inl (ar (T1.1 9)))), ((a 10), .inl (K.1, 10, .inl (ar (T1.1 10)))), ((a 11), .inl (K.1, 16, .inl (ar (T1.1 11)))), ((a 3), .inr (2, [.ref (aq 0), .ref (aq 1), .ref (aq 2), .ref (aq 3), .ref (aq 4), .ref (aq 5), .ref (aq 6), vZ (Sq1.2 7), vZ (Sq1.2 8)])), ((aq 0), .inl (K.1, 16, .inl (ar (Sq1.1 0)))), ((aq 1), .inl (K.1, 16, .inl (ar (Sq1.1 1)))), ((aq 2), .inl (K.1, 16, .inl (ar (Sq1.1 2)))), ((aq 3), .inl (K.1, Nq, .inl (ar (Sq1.1 3)))), ((aq 4), .inl (K.1, Nq, .inl (ar (Sq1.1 4)))), ((aq 5), .inl (K.1, Nq, .inl (ar (Sq1.1 5)))), ((aq 6), .inl (K.1, Nq, .inl (ar (Sq1.1 6)))), ((a 4), .inr (2, [.ref (ad1 0), .ref (ad1 1), .ref (ad1 2), .ref (ad1 3), .ref (ad1 4), .ref (ad1 5), .ref (ad1 6), vZ (Sd1.2 7), vZ (Sd1.2 8)])), ((ad1 0), .inl (K.1, 16, .inl (ar (Sd1.1 0)))), ((ad1 1), .inl (K.1, 16, .inl (ar (Sd1.1 1)))), ((ad1 2), .inl (K.1, 16, .inl (ar (Sd1.1 2)))), ((ad1 3), .inl (K.1, Nd1, .inl (ar (Sd1.1 3)))), ((ad1 4), .inl (K.1, Nd1, .inl (ar (Sd1.1 4)))), ((ad1 5), .inl (K.1, Nd1, .inl (ar (Sd1.1 5)))), ((ad1 6), .inl (K.1, Nd1, .inl (ar (Sd1.1 6)))), ((a 1), .inr (4, [.ref (an 0), .ref (an 1), .ref (an 2), .ref (an 3), .ref (an 4), .ref (an 5), .ref (an 6), .ref (an 7), vZ (Ne.2 8)])), ((an 0), .inl (K.1, 16, .inl (ar (Ne.1 0)))), ((an 1), .inl (K.1, 16, .inl (ar (Ne.1 1)))), ((an 2), .inl (K.1, 16, .inl (ar (Ne.1 2)))), ((an 3), .inl (K.1, 16, .inl (ar (Ne.1 3)))), ((an 4), .inl (K.1, 16, .inl (ar (Ne.1 4)))), ((an 5), .inl (K.1, 16, .inl (ar (Ne.1 5)))), ((an 6), .inl (K.1, 100, .inl (ar (Ne.1 6)))), ((an 7), .inl (K.1, 100, .inl (ar (Ne.1 7))))]) rfl ?_
        refine z_st (st2 := [vZ b_23, vZ r, .ref (a 11)]) rfl ?_
        refine z_if_eq ZC 33 dX6_setOut_26 (by decide) (by omega) (fun c_26 => ?_) (fun c_26 => ?_)
        · skip
          refine z_aload_n ZC 0 dX6_setOut_33 rfl rfl ?_
          refine z_iload_n ZC 1 dX6_setOut_34 rfl rfl ?_
          refine z_aload_n ZC 0 dX6_setOut_35 rfl rfl ?_
          refine z_get ZC inUX6 0 rfl rfl 1 (by decide) uF_X6_51 rfl dX6_setOut_36 ?_
          refine z_iload_n ZC 1 dX6_setOut_39 rfl rfl ?_
          refine z_aload_n ZC 0 dX6_setOut_40 rfl rfl ?_
          refine z_get ZC inUX6 0 rfl rfl 12 (by decide) uF_X6_59 rfl dX6_setOut_41 ?_
          refine z_callV ZC 2 (c_X4_lets zl D K (a 1) an Ne r (T1.2 12) (by omega) (by have := hcr.2.2.2.2.1; omega) (by have := hcr.2.2.2.2.2; omega) (by omega)) (gdV uM_X6_159 uI_X4_lets uS_X4_lets uN_X4 uC_X4_lets) (by decide +kernel) rfl ⟨by omega, by omega⟩ ⟨by omega, by omega⟩ (Nat.le_of_ble_eq_true rfl) [24, 25, 26, 27, 28, 29, 30, 31, 32] rfl (by decide) rfl rfl rfl rfl dX6_setOut_44 (fun r w2 gc_44 gs_44 hp => ?_)
          obtain ⟨v_44, rfl, rfl, rfl, rfl, hv_44⟩ := hp
          refine z_ws (ws2 := [(h, .inr (6, [.ref (a 0), .ref (a 1), .ref (a 2), .ref (a 3), .ref (a 4), .ref (a 5), .ref (a 6), .ref (a 7), .ref (a 8), .ref (a 9), .ref (a 10), .ref (a 11), vZ (T1.2 12), vZ (T1.2 13), vZ (T1.2 14), vZ (T1.2 15)])), ((a 5), .inl (K.1, 8, .inl (ar (T1.1 5)))), ((a 6), .inl (K.1, 8, .inl (ar (T1.1 6)))), ((a 7), .inl (K.1, 8, .inl (ar (T1.1 7)))), ((a 8), .inl (K.1, 10, .inl (ar (T1.1 8)))), ((a 9), .inl (K.1, 10, .inl (ar (T1.1 9)))), ((a 10), .inl (K.1, 10, .inl (ar (T1.1 10)))), ((a 11), .inl (K.1, 16, .inl (ar (T1.1 11)))), ((a 3), .inr (2, [.ref (aq 0), .ref (aq 1), .ref (aq 2), .ref (aq 3), .ref (aq 4), .ref (aq 5), .ref (aq 6), vZ (Sq1.2 7), vZ (Sq1.2 8)])), ((aq 0), .inl (K.1, 16, .inl (ar (Sq1.1 0)))), ((aq 1), .inl (K.1, 16, .inl (ar (Sq1.1 1)))), ((aq 2), .inl (K.1, 16, .inl (ar (Sq1.1 2)))), ((aq 3), .inl (K.1, Nq, .inl (ar (Sq1.1 3)))), ((aq 4), .inl (K.1, Nq, .inl (ar (Sq1.1 4)))), ((aq 5), .inl (K.1, Nq, .inl (ar (Sq1.1 5)))), ((aq 6), .inl (K.1, Nq, .inl (ar (Sq1.1 6)))), ((a 4), .inr (2, [.ref (ad1 0), .ref (ad1 1), .ref (ad1 2), .ref (ad1 3), .ref (ad1 4), .ref (ad1 5), .ref (ad1 6), vZ (Sd1.2 7), vZ (Sd1.2 8)])), ((ad1 0), .inl (K.1, 16, .inl (ar (Sd1.1 0)))), ((ad1 1), .inl (K.1, 16, .inl (ar (Sd1.1 1)))), ((ad1 2), .inl (K.1, 16, .inl (ar (Sd1.1 2)))), ((ad1 3), .inl (K.1, Nd1, .inl (ar (Sd1.1 3)))), ((ad1 4), .inl (K.1, Nd1, .inl (ar (Sd1.1 4)))), ((ad1 5), .inl (K.1, Nd1, .inl (ar (Sd1.1 5)))), ((ad1 6), .inl (K.1, Nd1, .inl (ar (Sd1.1 6)))), ((a 1), .inr (4, [.ref (an 0), .ref (an 1), .ref (an 2), .ref (an 3), .ref (an 4), .ref (an 5), .ref (an 6), .ref (an 7), vZ (Ne.2 8)])), ((an 0), .inl (K.1, 16, .inl (ar (Ne.1 0)))), ((an 1), .inl (K.1, 16, .inl (ar (Ne.1 1)))), ((an 2), .inl (K.1, 16, .inl (ar (Ne.1 2)))), ((an 3), .inl (K.1, 16, .inl (ar (Ne.1 3)))), ((an 4), .inl (K.1, 16, .inl (ar (Ne.1 4)))), ((an 5), .inl (K.1, 16, .inl (ar (Ne.1 5)))), ((an 6), .inl (K.1, 100, .inl (ar (Ne.1 6)))), ((an 7), .inl (K.1, 100, .inl (ar (Ne.1 7))))]) rfl ?_
          refine z_st (st2 := [vZ v_44, vZ r, .ref h, vZ r, .ref (a 11)]) rfl ?_
          have hmo : 0 ≤ v_44 ∧ v_44 ≤ 5000 := by rw [hv_44]; split <;> omega
          refine z_callV ZC 2 (c_X6_setOutOn zl D K h a T1 aq Nq Sq1 ad1 Nd1 Sd1 an Ne B Cq1 Cd1 r v_44 (by omega) (⟨hcr.1, hcr.2.2.2.1⟩) (hmo) (by omega) (i1.1.1) (i1.1.2) (by omega) (tr_qn hcf i2 i1 (by omega) (by omega)) (fun q hq => by have := (tr_dv hcf i2 i1 (r := r) (by omega) (by omega)).1 q hq; omega)) (gdV uM_X6_162 uI_X6_setOutOn uS_X6_setOutOn uN_X6 uC_X6_setOutOn) (by decide +kernel) rfl ⟨by omega, by omega⟩ ⟨by omega, by omega⟩ (Nat.le_of_ble_eq_true rfl) [0, 1, 2, 3, 4, 5, 6, 7, 8, 9, 10, 11, 12, 13, 14, 15, 16, 17, 18, 19, 20, 21, 22, 23, 24, 25, 26, 27, 28, 29, 30, 31, 32] rfl (by decide) rfl rfl rfl rfl dX6_setOut_47 (fun r w2 gc_47 gs_47 hp => ?_)
          obtain ⟨k_47, Sq2_47, ad2_47, Nd2_47, Sd2_47, Cq2_47, Cd2_47, rfl, rfl, hk_47, hOq2_47, hOd2_47, hoth_47, hfq_47, hdue_47, hmp2_47, hN2_47, hgc_47, hgs_47⟩ := hp
          refine z_ws (ws2 := [(h, .inr (6, [.ref (a 0), .ref (a 1), .ref (a 2), .ref (a 3), .ref (a 4), .ref (a 5), .ref (a 6), .ref (a 7), .ref (a 8), .ref (a 9), .ref (a 10), .ref (a 11), vZ (T1.2 12), vZ (T1.2 13), vZ (T1.2 14), vZ (T1.2 15)])), ((a 5), .inl (K.1, 8, .inl (ar (T1.1 5)))), ((a 6), .inl (K.1, 8, .inl (ar (T1.1 6)))), ((a 7), .inl (K.1, 8, .inl (ar (T1.1 7)))), ((a 8), .inl (K.1, 10, .inl (ar (upz (T1.1 8) (Ne.1 0 r) (T1.1 8 (Ne.1 0 r) - k_47))))), ((a 9), .inl (K.1, 10, .inl (ar (T1.1 9)))), ((a 10), .inl (K.1, 10, .inl (ar (T1.1 10)))), ((a 11), .inl (K.1, 16, .inl (ar (T1.1 11)))), ((a 3), .inr (2, [.ref (aq 0), .ref (aq 1), .ref (aq 2), .ref (aq 3), .ref (aq 4), .ref (aq 5), .ref (aq 6), vZ (Sq2_47.2 7), vZ (Sq2_47.2 8)])), ((aq 0), .inl (K.1, 16, .inl (ar (Sq2_47.1 0)))), ((aq 1), .inl (K.1, 16, .inl (ar (Sq2_47.1 1)))), ((aq 2), .inl (K.1, 16, .inl (ar (Sq2_47.1 2)))), ((aq 3), .inl (K.1, Nq, .inl (ar (Sq2_47.1 3)))), ((aq 4), .inl (K.1, Nq, .inl (ar (Sq2_47.1 4)))), ((aq 5), .inl (K.1, Nq, .inl (ar (Sq2_47.1 5)))), ((aq 6), .inl (K.1, Nq, .inl (ar (Sq2_47.1 6)))), ((a 4), .inr (2, [.ref (ad2_47 0), .ref (ad2_47 1), .ref (ad2_47 2), .ref (ad2_47 3), .ref (ad2_47 4), .ref (ad2_47 5), .ref (ad2_47 6), vZ (Sd2_47.2 7), vZ (Sd2_47.2 8)])), ((ad2_47 0), .inl (K.1, 16, .inl (ar (Sd2_47.1 0)))), ((ad2_47 1), .inl (K.1, 16, .inl (ar (Sd2_47.1 1)))), ((ad2_47 2), .inl (K.1, 16, .inl (ar (Sd2_47.1 2)))), ((ad2_47 3), .inl (K.1, Nd2_47, .inl (ar (Sd2_47.1 3)))), ((ad2_47 4), .inl (K.1, Nd2_47, .inl (ar (Sd2_47.1 4)))), ((ad2_47 5), .inl (K.1, Nd2_47, .inl (ar (Sd2_47.1 5)))), ((ad2_47 6), .inl (K.1, Nd2_47, .inl (ar (Sd2_47.1 6)))), ((a 1), .inr (4, [.ref (an 0), .ref (an 1), .ref (an 2), .ref (an 3), .ref (an 4), .ref (an 5), .ref (an 6), .ref (an 7), vZ (Ne.2 8)])), ((an 0), .inl (K.1, 16, .inl (ar (Ne.1 0)))), ((an 1), .inl (K.1, 16, .inl (ar (Ne.1 1)))), ((an 2), .inl (K.1, 16, .inl (ar (Ne.1 2)))), ((an 3), .inl (K.1, 16, .inl (ar (Ne.1 3)))), ((an 4), .inl (K.1, 16, .inl (ar (Ne.1 4)))), ((an 5), .inl (K.1, 16, .inl (ar (Ne.1 5)))), ((an 6), .inl (K.1, 100, .inl (ar (Ne.1 6)))), ((an 7), .inl (K.1, 100, .inl (ar (Ne.1 7))))]) rfl ?_
          refine z_st (st2 := [vZ k_47, vZ r, .ref (a 11)]) rfl ?_
          have hkk : k_47 = (aK Ne A1 r : Int) := by
            rw [hk_47, hfq0, hv_44]
            unfold aK
            rw [← enow]
            split
            · simp
            · rfl
          refine z_iast ZC 7 rfl dX6_setOut_50 (by omega) ?_
          refine z_aload_n ZC 0 dX6_setOut_51 rfl rfl ?_
          refine z_dup ZC dX6_setOut_52 rfl ?_
          refine z_get ZC inUX6 0 rfl rfl 15 (by decide) uF_X6_113 rfl dX6_setOut_53 ?_
          refine z_aload_n ZC 0 dX6_setOut_56 rfl rfl ?_
          refine z_get ZC inUX6 0 rfl rfl 3 (by decide) uF_X6_12 rfl dX6_setOut_57 ?_
          refine z_get ZC inUX2 8 rfl rfl 2 (by decide) uF_X6_77 rfl dX6_setOut_60 ?_
          refine z_iload_n ZC 1 dX6_setOut_63 rfl rfl ?_
          refine z_iald ZC 11 rfl dX6_setOut_64 (by omega) ?_
          refine z_iadd ZC dX6_setOut_65 ?_
          refine z_put ZC inUX6 tyX6_ok nmX6 0 rfl rfl 15 (by decide) uF_X6_113 rfl (rfl) (rfl) (Nat.le_of_ble_eq_true rfl) dX6_setOut_66 ?_
          refine z_iinc ZC dX6_setOut_69 rfl (by decide) ?_
          refine z_goto ZC 2 dX6_setOut_72 (by decide) ?_
          refine z_ws (ws2 := [(h, .inr (6, [.ref (a 0), .ref (a 1), .ref (a 2), .ref (a 3), .ref (a 4), .ref (a 5), .ref (a 6), .ref (a 7), .ref (a 8), .ref (a 9), .ref (a 10), .ref (a 11), vZ (T1.2 12), vZ (T1.2 13), vZ (T1.2 14), vZ ((T1.2 15) + ((Sq2_47.1 2) r))])), ((a 5), .inl (K.1, 8, .inl (ar (T1.1 5)))), ((a 6), .inl (K.1, 8, .inl (ar (T1.1 6)))), ((a 7), .inl (K.1, 8, .inl (ar (T1.1 7)))), ((a 8), .inl (K.1, 10, .inl (ar (upz (T1.1 8) (Ne.1 0 r) (T1.1 8 (Ne.1 0 r) - k_47))))), ((a 9), .inl (K.1, 10, .inl (ar (T1.1 9)))), ((a 10), .inl (K.1, 10, .inl (ar (T1.1 10)))), ((a 11), .inl (K.1, 16, .inl (ar (upz (T1.1 11) r k_47)))), ((a 3), .inr (2, [.ref (aq 0), .ref (aq 1), .ref (aq 2), .ref (aq 3), .ref (aq 4), .ref (aq 5), .ref (aq 6), vZ (Sq2_47.2 7), vZ (Sq2_47.2 8)])), ((aq 0), .inl (K.1, 16, .inl (ar (Sq2_47.1 0)))), ((aq 1), .inl (K.1, 16, .inl (ar (Sq2_47.1 1)))), ((aq 2), .inl (K.1, 16, .inl (ar (Sq2_47.1 2)))), ((aq 3), .inl (K.1, Nq, .inl (ar (Sq2_47.1 3)))), ((aq 4), .inl (K.1, Nq, .inl (ar (Sq2_47.1 4)))), ((aq 5), .inl (K.1, Nq, .inl (ar (Sq2_47.1 5)))), ((aq 6), .inl (K.1, Nq, .inl (ar (Sq2_47.1 6)))), ((a 4), .inr (2, [.ref (ad2_47 0), .ref (ad2_47 1), .ref (ad2_47 2), .ref (ad2_47 3), .ref (ad2_47 4), .ref (ad2_47 5), .ref (ad2_47 6), vZ (Sd2_47.2 7), vZ (Sd2_47.2 8)])), ((ad2_47 0), .inl (K.1, 16, .inl (ar (Sd2_47.1 0)))), ((ad2_47 1), .inl (K.1, 16, .inl (ar (Sd2_47.1 1)))), ((ad2_47 2), .inl (K.1, 16, .inl (ar (Sd2_47.1 2)))), ((ad2_47 3), .inl (K.1, Nd2_47, .inl (ar (Sd2_47.1 3)))), ((ad2_47 4), .inl (K.1, Nd2_47, .inl (ar (Sd2_47.1 4)))), ((ad2_47 5), .inl (K.1, Nd2_47, .inl (ar (Sd2_47.1 5)))), ((ad2_47 6), .inl (K.1, Nd2_47, .inl (ar (Sd2_47.1 6)))), ((a 1), .inr (4, [.ref (an 0), .ref (an 1), .ref (an 2), .ref (an 3), .ref (an 4), .ref (an 5), .ref (an 6), .ref (an 7), vZ (Ne.2 8)])), ((an 0), .inl (K.1, 16, .inl (ar (Ne.1 0)))), ((an 1), .inl (K.1, 16, .inl (ar (Ne.1 1)))), ((an 2), .inl (K.1, 16, .inl (ar (Ne.1 2)))), ((an 3), .inl (K.1, 16, .inl (ar (Ne.1 3)))), ((an 4), .inl (K.1, 16, .inl (ar (Ne.1 4)))), ((an 5), .inl (K.1, 16, .inl (ar (Ne.1 5)))), ((an 6), .inl (K.1, 100, .inl (ar (Ne.1 6)))), ((an 7), .inl (K.1, 100, .inl (ar (Ne.1 7))))]) rfl (z_lv (lv2 := [(0, .ref h), (1, vZ (r + 1))]) ⟨rfl, rfl, trivial⟩ ?_)
          refine ih_2 (r + 1) ((upf (upf T1.1 8 (upz (T1.1 8) (Ne.1 0 r) (T1.1 8 (Ne.1 0 r) - k_47))) 11 (upz (T1.1 11) r k_47)), (upf T1.2 15 ((T1.2 15) + ((Sq2_47.1 2) r)))) Sq2_47 ad2_47 Nd2_47 Sd2_47 (gv + 0 + 0 + gc_47) (gw + 0 + 0 + gs_47) Cq2_47 Cd2_47 (aOut1 Ne A1 r) ?_ ?_ ?_ ?_ ?_ ?_ ?_ (dec_lt hm_2 c_10)
          · skip
            omega
          · skip
            refine tr_out hcf i1 ⟨hr.1, c_10⟩ (fun t _ _ => by rw [hkk]) hOq2_47 hOd2_47 (fun j h1 h2 => ?_) (fun j h1 h2 => ?_)
            · have hnn : k_47.toNat = aK Ne A1 r := by rw [hkk]; omega
              by_cases e : j = r
              · subst e
                rw [if_pos rfl, hfq_47.1, hnn, hfq0]
                exact ⟨rfl, hdue_47⟩
              · rw [if_neg e, (hoth_47 j e).1]
                exact ⟨(i1.2.1 j h1 h2).1, (i1.2.1 j h1 h2).2.2⟩
            · have hnn : k_47.toNat = aK Ne A1 r := by rw [hkk]; omega
              by_cases e : j = r
              · subst e
                rw [if_pos rfl, hfq_47.2, hnn, hfq0, hfd0, enow]
              · rw [if_neg e, (hoth_47 j e).2]
                exact (i1.2.1 j h1 h2).2.1
          · skip
            exact aok_out hcf i2 ⟨hr.1, c_10⟩ (by omega)
          · skip
            omega
          · skip
            rw [aOut_next hr.1, ← i5]
          · skip
            omega
          · skip
            intro j h1 h2
            show upz (T1.1 11) r k_47 j = _
            by_cases e : j = r
            · subst e; rw [upz_self, hkk, hakk]
            · rw [upz_ne _ _ e]; exact i7 j h1 (by omega)
        · skip
          refine z_iconst ZC dX6_setOut_29 ?_
          refine z_goto ZC 50 dX6_setOut_30 (by decide) ?_
          have hemp : Cq1 r = [] := by
            rcases hb_23 with z | z
            · exact z.2
            · exact absurd z.1 c_26
          have hql : A1.2.2.1 r = [] := by rw [← hfq0, hemp]; rfl
          have hkk : (aK Ne A1 r : Int) = 0 := by unfold aK; rw [hql]; split <;> simp
          refine z_iast ZC 7 rfl dX6_setOut_50 (by omega) ?_
          refine z_aload_n ZC 0 dX6_setOut_51 rfl rfl ?_
          refine z_dup ZC dX6_setOut_52 rfl ?_
          refine z_get ZC inUX6 0 rfl rfl 15 (by decide) uF_X6_113 rfl dX6_setOut_53 ?_
          refine z_aload_n ZC 0 dX6_setOut_56 rfl rfl ?_
          refine z_get ZC inUX6 0 rfl rfl 3 (by decide) uF_X6_12 rfl dX6_setOut_57 ?_
          refine z_get ZC inUX2 8 rfl rfl 2 (by decide) uF_X6_77 rfl dX6_setOut_60 ?_
          refine z_iload_n ZC 1 dX6_setOut_63 rfl rfl ?_
          refine z_iald ZC 11 rfl dX6_setOut_64 (by omega) ?_
          refine z_iadd ZC dX6_setOut_65 ?_
          refine z_put ZC inUX6 tyX6_ok nmX6 0 rfl rfl 15 (by decide) uF_X6_113 rfl (rfl) (rfl) (Nat.le_of_ble_eq_true rfl) dX6_setOut_66 ?_
          refine z_iinc ZC dX6_setOut_69 rfl (by decide) ?_
          refine z_goto ZC 2 dX6_setOut_72 (by decide) ?_
          refine z_ws (ws2 := [(h, .inr (6, [.ref (a 0), .ref (a 1), .ref (a 2), .ref (a 3), .ref (a 4), .ref (a 5), .ref (a 6), .ref (a 7), .ref (a 8), .ref (a 9), .ref (a 10), .ref (a 11), vZ (T1.2 12), vZ (T1.2 13), vZ (T1.2 14), vZ ((T1.2 15) + ((Sq1.1 2) r))])), ((a 5), .inl (K.1, 8, .inl (ar (T1.1 5)))), ((a 6), .inl (K.1, 8, .inl (ar (T1.1 6)))), ((a 7), .inl (K.1, 8, .inl (ar (T1.1 7)))), ((a 8), .inl (K.1, 10, .inl (ar (T1.1 8)))), ((a 9), .inl (K.1, 10, .inl (ar (T1.1 9)))), ((a 10), .inl (K.1, 10, .inl (ar (T1.1 10)))), ((a 11), .inl (K.1, 16, .inl (ar (upz (T1.1 11) r 0)))), ((a 3), .inr (2, [.ref (aq 0), .ref (aq 1), .ref (aq 2), .ref (aq 3), .ref (aq 4), .ref (aq 5), .ref (aq 6), vZ (Sq1.2 7), vZ (Sq1.2 8)])), ((aq 0), .inl (K.1, 16, .inl (ar (Sq1.1 0)))), ((aq 1), .inl (K.1, 16, .inl (ar (Sq1.1 1)))), ((aq 2), .inl (K.1, 16, .inl (ar (Sq1.1 2)))), ((aq 3), .inl (K.1, Nq, .inl (ar (Sq1.1 3)))), ((aq 4), .inl (K.1, Nq, .inl (ar (Sq1.1 4)))), ((aq 5), .inl (K.1, Nq, .inl (ar (Sq1.1 5)))), ((aq 6), .inl (K.1, Nq, .inl (ar (Sq1.1 6)))), ((a 4), .inr (2, [.ref (ad1 0), .ref (ad1 1), .ref (ad1 2), .ref (ad1 3), .ref (ad1 4), .ref (ad1 5), .ref (ad1 6), vZ (Sd1.2 7), vZ (Sd1.2 8)])), ((ad1 0), .inl (K.1, 16, .inl (ar (Sd1.1 0)))), ((ad1 1), .inl (K.1, 16, .inl (ar (Sd1.1 1)))), ((ad1 2), .inl (K.1, 16, .inl (ar (Sd1.1 2)))), ((ad1 3), .inl (K.1, Nd1, .inl (ar (Sd1.1 3)))), ((ad1 4), .inl (K.1, Nd1, .inl (ar (Sd1.1 4)))), ((ad1 5), .inl (K.1, Nd1, .inl (ar (Sd1.1 5)))), ((ad1 6), .inl (K.1, Nd1, .inl (ar (Sd1.1 6)))), ((a 1), .inr (4, [.ref (an 0), .ref (an 1), .ref (an 2), .ref (an 3), .ref (an 4), .ref (an 5), .ref (an 6), .ref (an 7), vZ (Ne.2 8)])), ((an 0), .inl (K.1, 16, .inl (ar (Ne.1 0)))), ((an 1), .inl (K.1, 16, .inl (ar (Ne.1 1)))), ((an 2), .inl (K.1, 16, .inl (ar (Ne.1 2)))), ((an 3), .inl (K.1, 16, .inl (ar (Ne.1 3)))), ((an 4), .inl (K.1, 16, .inl (ar (Ne.1 4)))), ((an 5), .inl (K.1, 16, .inl (ar (Ne.1 5)))), ((an 6), .inl (K.1, 100, .inl (ar (Ne.1 6)))), ((an 7), .inl (K.1, 100, .inl (ar (Ne.1 7))))]) rfl (z_lv (lv2 := [(0, .ref h), (1, vZ (r + 1))]) ⟨rfl, rfl, trivial⟩ ?_)
          refine ih_2 (r + 1) ((upf T1.1 11 (upz (T1.1 11) r 0)), (upf T1.2 15 ((T1.2 15) + ((Sq1.1 2) r)))) Sq1 ad1 Nd1 Sd1 (gv + 0) (gw + 0) Cq1 Cd1 (aOut1 Ne A1 r) ?_ ?_ ?_ ?_ ?_ ?_ ?_ (dec_lt hm_2 c_10)
          · skip
            omega
          · skip
            refine tr_out (f8 := T1.1 8) hcf i1 ⟨hr.1, c_10⟩ (fun t _ _ => ?_) i1.1.1 i1.1.2 (fun j h1 h2 => ?_) (fun j h1 h2 => ?_)
            · rw [hkk]
              unfold upz
              split
              · rename_i z; rw [z]; omega
              · rfl
            · by_cases e : j = r
              · subst e
                rw [if_pos rfl, hql]
                exact ⟨by rw [hemp]; simp [fq], (i1.2.1 j h1 h2).2.2⟩
              · rw [if_neg e]
                exact ⟨(i1.2.1 j h1 h2).1, (i1.2.1 j h1 h2).2.2⟩
            · by_cases e : j = r
              · subst e
                rw [if_pos rfl, hql, hfd0]
                simp
              · rw [if_neg e]
                exact (i1.2.1 j h1 h2).2.1
          · skip
            exact aok_out hcf i2 ⟨hr.1, c_10⟩ (by omega)
          · skip
            omega
          · skip
            rw [aOut_next hr.1, ← i5]
          · skip
            exact i6
          · skip
            intro j h1 h2
            show upz (T1.1 11) r 0 j = _
            by_cases e : j = r
            · subst e; rw [upz_self, ← hakk, hkk]
            · rw [upz_ne _ _ e]; exact i7 j h1 (by omega)
  refine z_ws (ws2 := [(h, .inr (6, [.ref (a 0), .ref (a 1), .ref (a 2), .ref (a 3), .ref (a 4), .ref (a 5), .ref (a 6), .ref (a 7), .ref (a 8), .ref (a 9), .ref (a 10), .ref (a 11), vZ (T.2 12), vZ (T.2 13), vZ (T.2 14), vZ (T.2 15)])), ((a 5), .inl (K.1, 8, .inl (ar (T.1 5)))), ((a 6), .inl (K.1, 8, .inl (ar (T.1 6)))), ((a 7), .inl (K.1, 8, .inl (ar (T.1 7)))), ((a 8), .inl (K.1, 10, .inl (ar (T.1 8)))), ((a 9), .inl (K.1, 10, .inl (ar (T.1 9)))), ((a 10), .inl (K.1, 10, .inl (ar (T.1 10)))), ((a 11), .inl (K.1, 16, .inl (ar (T.1 11)))), ((a 3), .inr (2, [.ref (aq 0), .ref (aq 1), .ref (aq 2), .ref (aq 3), .ref (aq 4), .ref (aq 5), .ref (aq 6), vZ (Sq.2 7), vZ (Sq.2 8)])), ((aq 0), .inl (K.1, 16, .inl (ar (Sq.1 0)))), ((aq 1), .inl (K.1, 16, .inl (ar (Sq.1 1)))), ((aq 2), .inl (K.1, 16, .inl (ar (Sq.1 2)))), ((aq 3), .inl (K.1, Nq, .inl (ar (Sq.1 3)))), ((aq 4), .inl (K.1, Nq, .inl (ar (Sq.1 4)))), ((aq 5), .inl (K.1, Nq, .inl (ar (Sq.1 5)))), ((aq 6), .inl (K.1, Nq, .inl (ar (Sq.1 6)))), ((a 4), .inr (2, [.ref (ad 0), .ref (ad 1), .ref (ad 2), .ref (ad 3), .ref (ad 4), .ref (ad 5), .ref (ad 6), vZ (Sd.2 7), vZ (Sd.2 8)])), ((ad 0), .inl (K.1, 16, .inl (ar (Sd.1 0)))), ((ad 1), .inl (K.1, 16, .inl (ar (Sd.1 1)))), ((ad 2), .inl (K.1, 16, .inl (ar (Sd.1 2)))), ((ad 3), .inl (K.1, Nd, .inl (ar (Sd.1 3)))), ((ad 4), .inl (K.1, Nd, .inl (ar (Sd.1 4)))), ((ad 5), .inl (K.1, Nd, .inl (ar (Sd.1 5)))), ((ad 6), .inl (K.1, Nd, .inl (ar (Sd.1 6)))), ((a 1), .inr (4, [.ref (an 0), .ref (an 1), .ref (an 2), .ref (an 3), .ref (an 4), .ref (an 5), .ref (an 6), .ref (an 7), vZ (Ne.2 8)])), ((an 0), .inl (K.1, 16, .inl (ar (Ne.1 0)))), ((an 1), .inl (K.1, 16, .inl (ar (Ne.1 1)))), ((an 2), .inl (K.1, 16, .inl (ar (Ne.1 2)))), ((an 3), .inl (K.1, 16, .inl (ar (Ne.1 3)))), ((an 4), .inl (K.1, 16, .inl (ar (Ne.1 4)))), ((an 5), .inl (K.1, 16, .inl (ar (Ne.1 5)))), ((an 6), .inl (K.1, 100, .inl (ar (Ne.1 6)))), ((an 7), .inl (K.1, 100, .inl (ar (Ne.1 7))))]) rfl (z_lv (lv2 := [(0, .ref h), (1, vZ 0)]) ⟨rfl, rfl, trivial⟩ ?_)
  refine lp_2 _ 0 T Sq ad Nd Sd 0 0 Cq Cd A ?_ ?_ ?_ ?_ ?_ ?_ ?_ (Nat.lt_succ_self _)
  · skip
    omega
  · skip
    exact hT
  · skip
    exact hok
  · skip
    omega
  · skip
    rfl
  · skip
    omega
  · skip
    intro j h1 h2; omega

set_option maxHeartbeats 4000000 in
set_option maxRecDepth 100000 in
theorem c_X6_driveAnHour (zl : Launch) (D : va_G) (K : tyK) (h : Nat) (a : Nat → Nat) (T : Bd) (aq : Nat → Nat) (Nq : Nat) (Sq : Bd) (ad : Nat → Nat) (Nd : Nat) (Sd : Bd) (an : Nat → Nat) (Ne : Bd) (ac : Nat → Nat) (Cr : Bd) (B : Nat) (mp : Nat) (Cq : Int → List Pt3) (Cd : Int → List Pt3) (A : Ab) (hcf : Cfg Ne Cr) (hok : AOK Ne Cr A) (hT : TrR Ne Cr B T Nq Sq Nd Sd Cq Cd A) (hnow : 0 ≤ A.2.1 0 ∧ A.2.1 0 ≤ 200) (hmp : lns Cq 16 + lns Cd 16 ≤ mp ∧ mp + 26 ≤ B ∧ B ≤ 4000) (hoff : ∀ c : Int, 0 ≤ c → c < Cr.2 3 → A.1 0 c = A.2.1 0 → A.1 1 c = 0) (hlg : ∀ c : Int, 0 ≤ c → c < Cr.2 3 → 0 ≤ A.1 0 c ∧ A.1 0 c ≤ 300) : Mz zl yX6_driveAnHour cX6_driveAnHour 1 (none) 8 187 16500 165000 D K [.ref h] ((wTr K h a T) ++ (wLn K (a 3) aq Nq Sq) ++ (wLn K (a 4) ad Nd Sd) ++ (wNe K (a 1) an Ne) ++ (wCr K (a 2) ac Cr)) (fun r_ w2_ gc gs => ∃ (T2 : Bd), ∃ (aq2 : Nat → Nat), ∃ (Nq2 : Nat), ∃ (Sq2 : Bd), ∃ (ad2 : Nat → Nat), ∃ (Nd2 : Nat), ∃ (Sd2 : Bd), ∃ (Cq2 : Int → List Pt3), ∃ (Cd2 : Int → List Pt3), r_ = none ∧ w2_ = ((wTr K h a T2) ++ (wLn K (a 3) aq2 Nq2 Sq2) ++ (wLn K (a 4) ad2 Nd2 Sd2) ++ (wNe K (a 1) an Ne) ++ (wCr K (a 2) ac Cr)) ∧ (TrR Ne Cr B T2 Nq2 Sq2 Nd2 Sd2 Cq2 Cd2 (aDrive Ne Cr A)) ∧ (AOK Ne Cr (aDrive Ne Cr A)) ∧ (∀ j : Int, 0 ≤ j → j < Ne.2 8 → T2.1 11 j = (aK Ne (aLet Ne Cr (aCome Ne Cr A (Ne.2 8).toNat) (Cr.2 3).toNat) j : Int)) ∧ (((lns Cq2 16 + lns Cd2 16 : Nat) : Int) ≤ mp + 16 + (oc Cr (aDrive Ne Cr A) - oc Cr A)) ∧ (Nq ≤ Nq2 ∧ Nq2 ≤ 4096 ∧ Nd ≤ Nd2 ∧ Nd2 ≤ 4096) ∧ (Nq + Nd + gc ≤ Nq2 + Nd2) ∧ (8 * Nq + 8 * Nd + gs ≤ 8 * Nq2 + 8 * Nd2)) := by
  refine Mz.ofZ (by decide) rfl (Nat.le_of_ble_eq_true rfl) ?_
  intro zp ze zR zs zm zargs zbelow zmeth zc zA zQ ZC ZE hRf hRc hRs hRl
  refine z_aload_n ZC 0 dX6_driveAnHour_0 rfl rfl ?_
  refine z_callV ZC 0 (c_X6_comeToTowns zl D K h a T aq Nq Sq ad Nd Sd an Ne ac Cr B mp Cq Cd A (hcf) (hok) (hT) (by omega) (by omega)) (gdV uM_X6_85 uI_X6_comeToTowns uS_X6_comeToTowns uN_X6 uC_X6_comeToTowns) (by decide +kernel) rfl ⟨by omega, by omega⟩ ⟨by omega, by omega⟩ (Nat.le_of_ble_eq_true rfl) [0, 1, 2, 3, 4, 5, 6, 7, 8, 9, 10, 11, 12, 13, 14, 15, 16, 17, 18, 19, 20, 21, 22, 23, 24, 25, 26, 27, 28, 29, 30, 31, 32, 33, 34, 35, 36] rfl (by decide) rfl rfl rfl rfl dX6_driveAnHour_1 (fun r w2 gc_1 gs_1 hp => ?_)
  obtain ⟨T2_1, aq2_1, Nq2_1, Sq2_1, Sd2_1, Cq2_1, Cd2_1, rfl, rfl, hT2_1, hok2_1, hnw_1, hmp2_1, hN2_1, hgc_1, hgs_1⟩ := hp
  obtain ⟨kc1, kc2, kc3, kc4, kc5⟩ := aCome_keep Ne Cr A (Ne.2 8).toNat
  have hG1 := lo_rng hT2_1.1.1
  have hG2 := lo_rng hT2_1.1.2
  have hG3 := lo_rng hT.1.1
  have hG4 := lo_rng hT.1.2
  have hoc1 := oc_rng hcf hok2_1
  refine z_ws (ws2 := [(h, .inr (6, [.ref (a 0), .ref (a 1), .ref (a 2), .ref (a 3), .ref (a 4), .ref (a 5), .ref (a 6), .ref (a 7), .ref (a 8), .ref (a 9), .ref (a 10), .ref (a 11), vZ (T2_1.2 12), vZ (T2_1.2 13), vZ (T2_1.2 14), vZ (T2_1.2 15)])), ((a 5), .inl (K.1, 8, .inl (ar (T2_1.1 5)))), ((a 6), .inl (K.1, 8, .inl (ar (T2_1.1 6)))), ((a 7), .inl (K.1, 8, .inl (ar (T2_1.1 7)))), ((a 8), .inl (K.1, 10, .inl (ar (T2_1.1 8)))), ((a 9), .inl (K.1, 10, .inl (ar (T2_1.1 9)))), ((a 10), .inl (K.1, 10, .inl (ar (T2_1.1 10)))), ((a 11), .inl (K.1, 16, .inl (ar (T2_1.1 11)))), ((a 3), .inr (2, [.ref (aq2_1 0), .ref (aq2_1 1), .ref (aq2_1 2), .ref (aq2_1 3), .ref (aq2_1 4), .ref (aq2_1 5), .ref (aq2_1 6), vZ (Sq2_1.2 7), vZ (Sq2_1.2 8)])), ((aq2_1 0), .inl (K.1, 16, .inl (ar (Sq2_1.1 0)))), ((aq2_1 1), .inl (K.1, 16, .inl (ar (Sq2_1.1 1)))), ((aq2_1 2), .inl (K.1, 16, .inl (ar (Sq2_1.1 2)))), ((aq2_1 3), .inl (K.1, Nq2_1, .inl (ar (Sq2_1.1 3)))), ((aq2_1 4), .inl (K.1, Nq2_1, .inl (ar (Sq2_1.1 4)))), ((aq2_1 5), .inl (K.1, Nq2_1, .inl (ar (Sq2_1.1 5)))), ((aq2_1 6), .inl (K.1, Nq2_1, .inl (ar (Sq2_1.1 6)))), ((a 4), .inr (2, [.ref (ad 0), .ref (ad 1), .ref (ad 2), .ref (ad 3), .ref (ad 4), .ref (ad 5), .ref (ad 6), vZ (Sd2_1.2 7), vZ (Sd2_1.2 8)])), ((ad 0), .inl (K.1, 16, .inl (ar (Sd2_1.1 0)))), ((ad 1), .inl (K.1, 16, .inl (ar (Sd2_1.1 1)))), ((ad 2), .inl (K.1, 16, .inl (ar (Sd2_1.1 2)))), ((ad 3), .inl (K.1, Nd, .inl (ar (Sd2_1.1 3)))), ((ad 4), .inl (K.1, Nd, .inl (ar (Sd2_1.1 4)))), ((ad 5), .inl (K.1, Nd, .inl (ar (Sd2_1.1 5)))), ((ad 6), .inl (K.1, Nd, .inl (ar (Sd2_1.1 6)))), ((a 1), .inr (4, [.ref (an 0), .ref (an 1), .ref (an 2), .ref (an 3), .ref (an 4), .ref (an 5), .ref (an 6), .ref (an 7), vZ (Ne.2 8)])), ((an 0), .inl (K.1, 16, .inl (ar (Ne.1 0)))), ((an 1), .inl (K.1, 16, .inl (ar (Ne.1 1)))), ((an 2), .inl (K.1, 16, .inl (ar (Ne.1 2)))), ((an 3), .inl (K.1, 16, .inl (ar (Ne.1 3)))), ((an 4), .inl (K.1, 16, .inl (ar (Ne.1 4)))), ((an 5), .inl (K.1, 16, .inl (ar (Ne.1 5)))), ((an 6), .inl (K.1, 100, .inl (ar (Ne.1 6)))), ((an 7), .inl (K.1, 100, .inl (ar (Ne.1 7)))), ((a 2), .inr (0, [.ref (ac 0), .ref (ac 1), .ref (ac 2), vZ (Cr.2 3), vZ (Cr.2 4)])), ((ac 0), .inl (K.1, 8, .inl (ar (Cr.1 0)))), ((ac 1), .inl (K.1, 8, .inl (ar (Cr.1 1)))), ((ac 2), .inl (K.1, 8, .inl (ar (Cr.1 2))))]) rfl ?_
  refine z_st (st2 := []) rfl ?_
  refine z_aload_n ZC 0 dX6_driveAnHour_4 rfl rfl ?_
  refine z_callV ZC 0 (c_X6_letCrowdsGo zl D K h a T2_1 aq2_1 Nq2_1 Sq2_1 ad Nd Sd2_1 an Ne ac Cr B mp Cq2_1 Cd2_1 (aCome Ne Cr A (Ne.2 8).toNat) (hcf) (hok2_1) (hT2_1) (by rw [kc1]; exact hnow) (by omega) (fun c h1 h2 => by rw [kc1, kc2, kc3]; exact hoff c h1 h2) (fun c h1 h2 => by rw [kc2]; exact hlg c h1 h2)) (gdV uM_X6_88 uI_X6_letCrowdsGo uS_X6_letCrowdsGo uN_X6 uC_X6_letCrowdsGo) (by decide +kernel) rfl ⟨by omega, by omega⟩ ⟨by omega, by omega⟩ (Nat.le_of_ble_eq_true rfl) [0, 1, 2, 3, 4, 5, 6, 7, 8, 9, 10, 11, 12, 13, 14, 15, 16, 17, 18, 19, 20, 21, 22, 23, 24, 25, 26, 27, 28, 29, 30, 31, 32, 33, 34, 35, 36] rfl (by decide) rfl rfl rfl rfl dX6_driveAnHour_5 (fun r w2 gc_5 gs_5 hp => ?_)
  obtain ⟨aq2_5, Nq2_5, Sq2_5, Cq2_5, rfl, rfl, hT2_5, hok2_5, hmp2_5, hN2_5, hgc_5, hgs_5⟩ := hp
  have hoc2 := oc_rng hcf hok2_5
  obtain ⟨kl1, kl2, kl3, kl4, kl5⟩ := aLet_keep Ne Cr (aCome Ne Cr A (Ne.2 8).toNat) (Cr.2 3).toNat
  refine z_ws (ws2 := [(h, .inr (6, [.ref (a 0), .ref (a 1), .ref (a 2), .ref (a 3), .ref (a 4), .ref (a 5), .ref (a 6), .ref (a 7), .ref (a 8), .ref (a 9), .ref (a 10), .ref (a 11), vZ (T2_1.2 12), vZ (T2_1.2 13), vZ (T2_1.2 14), vZ (T2_1.2 15)])), ((a 5), .inl (K.1, 8, .inl (ar (T2_1.1 5)))), ((a 6), .inl (K.1, 8, .inl (ar (T2_1.1 6)))), ((a 7), .inl (K.1, 8, .inl (ar (T2_1.1 7)))), ((a 8), .inl (K.1, 10, .inl (ar (T2_1.1 8)))), ((a 9), .inl (K.1, 10, .inl (ar (T2_1.1 9)))), ((a 10), .inl (K.1, 10, .inl (ar (T2_1.1 10)))), ((a 11), .inl (K.1, 16, .inl (ar (T2_1.1 11)))), ((a 3), .inr (2, [.ref (aq2_5 0), .ref (aq2_5 1), .ref (aq2_5 2), .ref (aq2_5 3), .ref (aq2_5 4), .ref (aq2_5 5), .ref (aq2_5 6), vZ (Sq2_5.2 7), vZ (Sq2_5.2 8)])), ((aq2_5 0), .inl (K.1, 16, .inl (ar (Sq2_5.1 0)))), ((aq2_5 1), .inl (K.1, 16, .inl (ar (Sq2_5.1 1)))), ((aq2_5 2), .inl (K.1, 16, .inl (ar (Sq2_5.1 2)))), ((aq2_5 3), .inl (K.1, Nq2_5, .inl (ar (Sq2_5.1 3)))), ((aq2_5 4), .inl (K.1, Nq2_5, .inl (ar (Sq2_5.1 4)))), ((aq2_5 5), .inl (K.1, Nq2_5, .inl (ar (Sq2_5.1 5)))), ((aq2_5 6), .inl (K.1, Nq2_5, .inl (ar (Sq2_5.1 6)))), ((a 4), .inr (2, [.ref (ad 0), .ref (ad 1), .ref (ad 2), .ref (ad 3), .ref (ad 4), .ref (ad 5), .ref (ad 6), vZ (Sd2_1.2 7), vZ (Sd2_1.2 8)])), ((ad 0), .inl (K.1, 16, .inl (ar (Sd2_1.1 0)))), ((ad 1), .inl (K.1, 16, .inl (ar (Sd2_1.1 1)))), ((ad 2), .inl (K.1, 16, .inl (ar (Sd2_1.1 2)))), ((ad 3), .inl (K.1, Nd, .inl (ar (Sd2_1.1 3)))), ((ad 4), .inl (K.1, Nd, .inl (ar (Sd2_1.1 4)))), ((ad 5), .inl (K.1, Nd, .inl (ar (Sd2_1.1 5)))), ((ad 6), .inl (K.1, Nd, .inl (ar (Sd2_1.1 6)))), ((a 1), .inr (4, [.ref (an 0), .ref (an 1), .ref (an 2), .ref (an 3), .ref (an 4), .ref (an 5), .ref (an 6), .ref (an 7), vZ (Ne.2 8)])), ((an 0), .inl (K.1, 16, .inl (ar (Ne.1 0)))), ((an 1), .inl (K.1, 16, .inl (ar (Ne.1 1)))), ((an 2), .inl (K.1, 16, .inl (ar (Ne.1 2)))), ((an 3), .inl (K.1, 16, .inl (ar (Ne.1 3)))), ((an 4), .inl (K.1, 16, .inl (ar (Ne.1 4)))), ((an 5), .inl (K.1, 16, .inl (ar (Ne.1 5)))), ((an 6), .inl (K.1, 100, .inl (ar (Ne.1 6)))), ((an 7), .inl (K.1, 100, .inl (ar (Ne.1 7)))), ((a 2), .inr (0, [.ref (ac 0), .ref (ac 1), .ref (ac 2), vZ (Cr.2 3), vZ (Cr.2 4)])), ((ac 0), .inl (K.1, 8, .inl (ar (Cr.1 0)))), ((ac 1), .inl (K.1, 8, .inl (ar (Cr.1 1)))), ((ac 2), .inl (K.1, 8, .inl (ar (Cr.1 2))))]) rfl ?_
  refine z_st (st2 := []) rfl ?_
  refine z_aload_n ZC 0 dX6_driveAnHour_8 rfl rfl ?_
  refine z_callV ZC 0 (c_X6_setOut zl D K h a T2_1 aq2_5 Nq2_5 Sq2_5 ad Nd Sd2_1 an Ne Cr B (mp + (oc Cr (aLet Ne Cr (aCome Ne Cr A (Ne.2 8).toNat) (Cr.2 3).toNat) - oc Cr (aCome Ne Cr A (Ne.2 8).toNat)).toNat) Cq2_5 Cd2_1 (aLet Ne Cr (aCome Ne Cr A (Ne.2 8).toNat) (Cr.2 3).toNat) (hcf) (hok2_5) (hT2_5) (by rw [kl1, kc1]; exact hnow) (by omega)) (gdV uM_X6_91 uI_X6_setOut uS_X6_setOut uN_X6 uC_X6_setOut) (by decide +kernel) rfl ⟨by omega, by omega⟩ ⟨by omega, by omega⟩ (Nat.le_of_ble_eq_true rfl) [0, 1, 2, 3, 4, 5, 6, 7, 8, 9, 10, 11, 12, 13, 14, 15, 16, 17, 18, 19, 20, 21, 22, 23, 24, 25, 26, 27, 28, 29, 30, 31, 32] rfl (by decide) rfl rfl rfl rfl dX6_driveAnHour_9 (fun r w2 gc_9 gs_9 hp => ?_)
  obtain ⟨T2_9, Sq2_9, ad2_9, Nd2_9, Sd2_9, Cq2_9, Cd2_9, rfl, rfl, hT2_9, hok2_9, hgone_9, hmp2_9, hN2_9, hgc_9, hgs_9⟩ := hp
  refine z_ws (ws2 := [(h, .inr (6, [.ref (a 0), .ref (a 1), .ref (a 2), .ref (a 3), .ref (a 4), .ref (a 5), .ref (a 6), .ref (a 7), .ref (a 8), .ref (a 9), .ref (a 10), .ref (a 11), vZ (T2_9.2 12), vZ (T2_9.2 13), vZ (T2_9.2 14), vZ (T2_9.2 15)])), ((a 5), .inl (K.1, 8, .inl (ar (T2_9.1 5)))), ((a 6), .inl (K.1, 8, .inl (ar (T2_9.1 6)))), ((a 7), .inl (K.1, 8, .inl (ar (T2_9.1 7)))), ((a 8), .inl (K.1, 10, .inl (ar (T2_9.1 8)))), ((a 9), .inl (K.1, 10, .inl (ar (T2_9.1 9)))), ((a 10), .inl (K.1, 10, .inl (ar (T2_9.1 10)))), ((a 11), .inl (K.1, 16, .inl (ar (T2_9.1 11)))), ((a 3), .inr (2, [.ref (aq2_5 0), .ref (aq2_5 1), .ref (aq2_5 2), .ref (aq2_5 3), .ref (aq2_5 4), .ref (aq2_5 5), .ref (aq2_5 6), vZ (Sq2_9.2 7), vZ (Sq2_9.2 8)])), ((aq2_5 0), .inl (K.1, 16, .inl (ar (Sq2_9.1 0)))), ((aq2_5 1), .inl (K.1, 16, .inl (ar (Sq2_9.1 1)))), ((aq2_5 2), .inl (K.1, 16, .inl (ar (Sq2_9.1 2)))), ((aq2_5 3), .inl (K.1, Nq2_5, .inl (ar (Sq2_9.1 3)))), ((aq2_5 4), .inl (K.1, Nq2_5, .inl (ar (Sq2_9.1 4)))), ((aq2_5 5), .inl (K.1, Nq2_5, .inl (ar (Sq2_9.1 5)))), ((aq2_5 6), .inl (K.1, Nq2_5, .inl (ar (Sq2_9.1 6)))), ((a 4), .inr (2, [.ref (ad2_9 0), .ref (ad2_9 1), .ref (ad2_9 2), .ref (ad2_9 3), .ref (ad2_9 4), .ref (ad2_9 5), .ref (ad2_9 6), vZ (Sd2_9.2 7), vZ (Sd2_9.2 8)])), ((ad2_9 0), .inl (K.1, 16, .inl (ar (Sd2_9.1 0)))), ((ad2_9 1), .inl (K.1, 16, .inl (ar (Sd2_9.1 1)))), ((ad2_9 2), .inl (K.1, 16, .inl (ar (Sd2_9.1 2)))), ((ad2_9 3), .inl (K.1, Nd2_9, .inl (ar (Sd2_9.1 3)))), ((ad2_9 4), .inl (K.1, Nd2_9, .inl (ar (Sd2_9.1 4)))), ((ad2_9 5), .inl (K.1, Nd2_9, .inl (ar (Sd2_9.1 5)))), ((ad2_9 6), .inl (K.1, Nd2_9, .inl (ar (Sd2_9.1 6)))), ((a 1), .inr (4, [.ref (an 0), .ref (an 1), .ref (an 2), .ref (an 3), .ref (an 4), .ref (an 5), .ref (an 6), .ref (an 7), vZ (Ne.2 8)])), ((an 0), .inl (K.1, 16, .inl (ar (Ne.1 0)))), ((an 1), .inl (K.1, 16, .inl (ar (Ne.1 1)))), ((an 2), .inl (K.1, 16, .inl (ar (Ne.1 2)))), ((an 3), .inl (K.1, 16, .inl (ar (Ne.1 3)))), ((an 4), .inl (K.1, 16, .inl (ar (Ne.1 4)))), ((an 5), .inl (K.1, 16, .inl (ar (Ne.1 5)))), ((an 6), .inl (K.1, 100, .inl (ar (Ne.1 6)))), ((an 7), .inl (K.1, 100, .inl (ar (Ne.1 7)))), ((a 2), .inr (0, [.ref (ac 0), .ref (ac 1), .ref (ac 2), vZ (Cr.2 3), vZ (Cr.2 4)])), ((ac 0), .inl (K.1, 8, .inl (ar (Cr.1 0)))), ((ac 1), .inl (K.1, 8, .inl (ar (Cr.1 1)))), ((ac 2), .inl (K.1, 8, .inl (ar (Cr.1 2))))]) rfl ?_
  refine z_st (st2 := []) rfl ?_
  have e1 : oc Cr (aCome Ne Cr A (Ne.2 8).toNat) = oc Cr A := by unfold oc; rw [kc3]
  have e2 : oc Cr (aDrive Ne Cr A) = oc Cr (aLet Ne Cr (aCome Ne Cr A (Ne.2 8).toNat) (Cr.2 3).toNat) := by show smI ((aOut Ne (aLet Ne Cr (aCome Ne Cr A (Ne.2 8).toNat) (Cr.2 3).toNat) (Ne.2 8).toNat).1 1) 0 _ = _; rw [(aOut_keep Ne (aLet Ne Cr (aCome Ne Cr A (Ne.2 8).toNat) (Cr.2 3).toNat) (Ne.2 8).toNat).1]; rfl
  have hmono : 0 ≤ oc Cr (aLet Ne Cr (aCome Ne Cr A (Ne.2 8).toNat) (Cr.2 3).toNat) - oc Cr (aCome Ne Cr A (Ne.2 8).toNat) := oc_mono
  refine z_vret ZC ZE dX6_driveAnHour_12 (by omega) (by omega) (Nat.le_of_ble_eq_true rfl) ⟨T2_9, aq2_5, Nq2_5, Sq2_9, ad2_9, Nd2_9, Sd2_9, Cq2_9, Cd2_9, rfl, rfl, ?_, ?_, ?_, ?_, ?_, ?_, ?_⟩
  · skip
    exact hT2_9
  · skip
    exact hok2_9
  · skip
    exact hgone_9
  · skip
    omega
  · skip
    omega
  · skip
    omega
  · skip
    omega

