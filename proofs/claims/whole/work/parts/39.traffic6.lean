/-! ===== Traffic: setOut, driveAnHour ===== -/
theorem fq_cnt : ∀ {l : List Pt3} {q : Pt3}, q ∈ l → q.2.1 ≤ ((fq l).count q.1 : Int)
  | p :: l, q, h => by
    show q.2.1 ≤ ((List.replicate p.2.1.toNat p.1 ++ fq l).count q.1 : Int)
    rw [List.count_append]
    rcases List.mem_cons.mp h with e | e
    · subst e
      rw [List.count_replicate_self]; omega
    · have := fq_cnt e
      omega
theorem tr_qn {Ne Cr : Bd} {B : Nat} {T : Bd} {Nq : Nat} {Sq : Bd} {Cq : Int → List Pt3} {A : Ab} (hcf : Cfg Ne Cr) (hok : AOK Ne Cr A) (h : TrR Ne Cr B T Nq Sq Cq A) {r : Int} (h1 : 0 ≤ r) (h2 : r < 16) : ∀ q ∈ Cq r, (0 ≤ q.1 ∧ q.1 < 8) ∧ q.2.2 = 0 ∧ q.2.1 ≤ 1000000 := by
  intro q hq
  have z := (tr_dv hcf hok h h1 h2).2 q hq
  refine ⟨⟨z.1, z.2.1⟩, z.2.2, ?_⟩
  have m := fq_mem hq (lo_pos h.1 (r := r) ⟨h1, by omega⟩ q hq)
  rw [(h.2.1 r h1 h2).1] at m
  have k := (hok.1 r h1 h2).2.1 _ m
  have c := fq_cnt hq
  rw [(h.2.1 r h1 h2).1] at c
  have s := smI_le (f := fun r => ((A.2.2.1 r).count q.1 : Int)) (k := r) (n := 16) (fun j _ _ => by omega) h1 (by omega)
  have g := hok.2 q.1 k.1 k.2.1
  have n := cnt_nn id A q.1
  have cc := (hcf.2.2.2.1 q.1 k.1 k.2.1).2.2.2.1
  have e : cqs A q.1 = smI (fun r => ((A.2.2.1 r).count q.1 : Int)) 0 16 := rfl
  have c2 : ((A.2.2.1 r).count q.1 : Int) ≤ cqs A q.1 := by rw [e]; exact s
  by_cases o : A.1 1 q.1 = 0
  · rw [if_pos o] at g; omega
  · rw [if_neg o] at g; omega
theorem aK_keep {Ne : Bd} {A : Ab} {n : Nat} {r : Int} (h : (n : Int) ≤ r) : aK Ne (aOut Ne A n) r = aK Ne A r := by
  obtain ⟨-, h2, h3⟩ := aOut_keep Ne A n
  unfold aK
  rw [h2, (h3 r h).1]
theorem oc_mono {Ne Cr : Bd} {A : Ab} {n : Nat} : 0 ≤ oc Cr (aLet Ne Cr A n) - oc Cr A := by
  induction n with
  | zero => show 0 ≤ oc Cr A - oc Cr A; omega
  | succ n ih =>
    show 0 ≤ oc Cr (aLet1 Ne Cr (aLet Ne Cr A n) (n : Int)) - oc Cr A
    by_cases hz : (aLet Ne Cr A n).1 1 (n : Int) = 0 ∧ (aLet Ne Cr A n).1 0 (n : Int) = (aLet Ne Cr A n).2.1 0
    · by_cases h2 : (n : Int) < Cr.2 3
      · rw [oc_let (by omega) h2 hz]; omega
      · have e : oc Cr (aLet1 Ne Cr (aLet Ne Cr A n) (n : Int)) = oc Cr (aLet Ne Cr A n) := by
          unfold aLet1
          rw [if_pos hz]
          exact smI_congr (fun j a b => upz_ne _ _ (by omega))
        rw [e]; exact ih
    · have e : aLet1 Ne Cr (aLet Ne Cr A n) (n : Int) = aLet Ne Cr A n := if_neg hz
      rw [e]; exact ih
theorem aCome_keep (Ne Cr : Bd) (A : Ab) : ∀ (n : Nat), (aCome Ne Cr A n).2.1 = A.2.1 ∧ (aCome Ne Cr A n).1 0 = A.1 0 ∧ (aCome Ne Cr A n).1 1 = A.1 1 ∧ (aCome Ne Cr A n).1 4 = A.1 4 ∧ (aCome Ne Cr A n).1 5 = A.1 5
  | 0 => ⟨rfl, rfl, rfl, rfl, rfl⟩
  | n + 1 => by
    obtain ⟨h1, h2, h3, h4, h5⟩ := aCome_keep Ne Cr A n
    have k := fold_keep Ne Cr (Ne.1 1 (n : Int)) ((((aCome Ne Cr A n).2.2.2 (n : Int)).takeWhile (fun q => q.2 == (aCome Ne Cr A n).2.1 0)).map (fun q => q.1)) (aD (aCome Ne Cr A n) (n : Int) (((aCome Ne Cr A n).2.2.2 (n : Int)).dropWhile (fun q => q.2 == (aCome Ne Cr A n).2.1 0)))
    exact ⟨k.1.trans h1, k.2.2.1.trans h2, k.2.2.2.1.trans h3, k.2.2.2.2.1.trans h4, k.2.2.2.2.2.trans h5⟩

set_option maxHeartbeats 4000000 in
set_option maxRecDepth 100000 in
theorem c_X6_setOut (zl : Launch) (D : va_G) (K : tyK) (h : Nat) (a : Nat → Nat) (T : Bd) (aq : Nat → Nat) (Nq : Nat) (Sq : Bd) (an : Nat → Nat) (Ne : Bd) (Cr : Bd) (B : Nat) (mp : Nat) (Cq : Int → List Pt3) (A : Ab) (hcf : Cfg Ne Cr) (hok : AOK Ne Cr A) (hT : TrR Ne Cr B T Nq Sq Cq A) (hnow : 0 ≤ A.2.1 0 ∧ A.2.1 0 ≤ 200) (hmp : lns Cq 32 ≤ mp ∧ mp + 17 ≤ B ∧ mp + 16 ≤ Nq ∧ B ≤ 4000) : Mz zl yX6_setOut cX6_setOut 3 (none) 3 74 0 0 D K [.ref h] ((wTr K h a T) ++ (wLn K (a 3) aq Nq Sq) ++ (wNe K (a 1) an Ne)) (fun r_ w2_ gc gs => ∃ (T2 : Bd), ∃ (Sq2 : Bd), ∃ (Cq2 : Int → List Pt3), r_ = none ∧ w2_ = ((wTr K h a T2) ++ (wLn K (a 3) aq Nq Sq2) ++ (wNe K (a 1) an Ne)) ∧ gc = 0 ∧ gs = 0 ∧ (TrR Ne Cr B T2 Nq Sq2 Cq2 (aOut Ne A (Ne.2 8).toNat)) ∧ (AOK Ne Cr (aOut Ne A (Ne.2 8).toNat)) ∧ (∀ j : Int, 0 ≤ j → j < Ne.2 8 → T2.1 11 j = (aK Ne A j : Int)) ∧ (lns Cq2 32 ≤ mp + 16)) := by
  refine Mz.ofZ (by decide) rfl (Nat.le_of_ble_eq_true rfl) ?_
  intro zp ze zR zs zm zargs zbelow zmeth zc zA zQ ZC ZE hRf hRc hRs hRl
  have hc1 := hcf.1
  refine z_iconst ZC dX6_setOut_0 ?_
  refine z_istore_n ZC 1 dX6_setOut_1 rfl (by decide) ?_
  have lp_2 : ∀ (n_2 : Nat) (r : Int) (T1 : Bd) (Sq1 : Bd) (Cq1 : Int → List Pt3) (A1 : Ab), (0 ≤ r ∧ r ≤ Ne.2 8) → (TrR Ne Cr B T1 Nq Sq1 Cq1 A1) → (AOK Ne Cr A1) → (((lns Cq1 32 : Nat) : Int) ≤ mp + r) → (A1 = aOut Ne A r.toNat) → (∀ j : Int, 0 ≤ j → j < r → T1.1 11 j = (aK Ne A j : Int)) → ((Ne.2 8 - r).toNat) < n_2 → Zw zp zl ze zR zs zm zargs zbelow zmeth zc D zA 3 zQ 0 0 ([(h, .inr (6, [.ref (a 0), .ref (a 1), .ref (a 2), .ref (a 3), .ref (a 5), .ref (a 6), .ref (a 7), .ref (a 8), .ref (a 9), .ref (a 10), .ref (a 11), vZ (T1.2 12), vZ (T1.2 13), vZ (T1.2 14), vZ (T1.2 15)])), ((a 5), .inl (K.1, 8, .inl (ar (T1.1 5)))), ((a 6), .inl (K.1, 8, .inl (ar (T1.1 6)))), ((a 7), .inl (K.1, 8, .inl (ar (T1.1 7)))), ((a 8), .inl (K.1, 10, .inl (ar (T1.1 8)))), ((a 9), .inl (K.1, 10, .inl (ar (T1.1 9)))), ((a 10), .inl (K.1, 10, .inl (ar (T1.1 10)))), ((a 11), .inl (K.1, 16, .inl (ar (T1.1 11)))), ((a 3), .inr (2, [.ref (aq 0), .ref (aq 1), .ref (aq 2), .ref (aq 3), .ref (aq 4), .ref (aq 5), .ref (aq 6), vZ (Sq1.2 7), vZ (Sq1.2 8)])), ((aq 0), .inl (K.1, 32, .inl (ar (Sq1.1 0)))), ((aq 1), .inl (K.1, 32, .inl (ar (Sq1.1 1)))), ((aq 2), .inl (K.1, 32, .inl (ar (Sq1.1 2)))), ((aq 3), .inl (K.1, Nq, .inl (ar (Sq1.1 3)))), ((aq 4), .inl (K.1, Nq, .inl (ar (Sq1.1 4)))), ((aq 5), .inl (K.1, Nq, .inl (ar (Sq1.1 5)))), ((aq 6), .inl (K.1, Nq, .inl (ar (Sq1.1 6)))), ((a 1), .inr (4, [.ref (an 0), .ref (an 1), .ref (an 2), .ref (an 3), .ref (an 4), .ref (an 5), .ref (an 6), .ref (an 7), vZ (Ne.2 8)])), ((an 0), .inl (K.1, 16, .inl (ar (Ne.1 0)))), ((an 1), .inl (K.1, 16, .inl (ar (Ne.1 1)))), ((an 2), .inl (K.1, 16, .inl (ar (Ne.1 2)))), ((an 3), .inl (K.1, 16, .inl (ar (Ne.1 3)))), ((an 4), .inl (K.1, 16, .inl (ar (Ne.1 4)))), ((an 5), .inl (K.1, 16, .inl (ar (Ne.1 5)))), ((an 6), .inl (K.1, 100, .inl (ar (Ne.1 6)))), ((an 7), .inl (K.1, 100, .inl (ar (Ne.1 7))))]) 2 [(0, .ref h), (1, vZ r)] [] := by
    intro n_2
    induction n_2 with
    | zero => intro r T1 Sq1 Cq1 A1 hr i1 i2 i4 i5 i7 hm_2; exact absurd hm_2 (Nat.not_lt_zero _)
    | succ n_2 ih_2 =>
      intro r T1 Sq1 Cq1 A1 hr i1 i2 i4 i5 i7 hm_2
      refine z_iload_n ZC 1 dX6_setOut_2 rfl rfl ?_
      refine z_aload_n ZC 0 dX6_setOut_3 rfl rfl ?_
      refine z_get ZC inUX6 0 rfl rfl 1 (by decide) uF_X6_48 rfl dX6_setOut_4 ?_
      refine z_get ZC inUX4 16 rfl rfl 8 (by decide) uF_X6_84 rfl dX6_setOut_7 ?_
      refine z_icmp_ge ZC 80 dX6_setOut_10 (by decide) (by omega) (by omega) (fun c_10 => ?_) (fun c_10 => ?_)
      · skip
        have hre : r = Ne.2 8 := by omega
        subst i5
        rw [hre] at i1 i2 i7
        refine z_vret ZC ZE dX6_setOut_80 (by omega) (by omega) (Nat.le_of_ble_eq_true rfl) ⟨T1, Sq1, Cq1, rfl, rfl, by omega, by omega, ?_, ?_, ?_, ?_⟩
        · skip
          exact i1
        · skip
          exact i2
        · skip
          exact i7
        · skip
          omega
      · skip
        have hG1 := lo_rng i1.1
        obtain ⟨kp1, kp2, kp3⟩ := aOut_keep Ne A r.toNat
        have enow : T1.2 12 = A1.2.1 0 := i1.2.2.2.2.1.1
        have enow2 : A1.2.1 0 = A.2.1 0 := by rw [i5, kp2]
        have hcr := hcf.2.2.1 r (by omega) (by omega)
        have hakk : aK Ne A1 r = aK Ne A r := by rw [i5]; exact aK_keep (by omega)
        have hfq0 := (i1.2.1 r (by omega) (by omega)).1
        have hfd0 := (i1.2.1 r (by omega) (by omega)).2.1
        refine z_iload_n ZC 1 dX6_setOut_13 rfl rfl ?_
        refine z_callS ZC 1 (c_X2_queueOf zl D K r ) (gdS uM_X6_77 uZ_X2_queueOf uN_X2 uC_X2_queueOf) (by decide +kernel) rfl ⟨by omega, by omega⟩ ⟨by omega, by omega⟩ (Nat.le_of_ble_eq_true rfl) [] rfl (by decide) rfl dX6_setOut_14 (fun r w2 gc_14 gs_14 hp => ?_)
        obtain ⟨rfl, rfl, rfl, rfl⟩ := hp
        refine z_st (st2 := [vZ r]) rfl ?_
        refine z_istore_n ZC 2 dX6_setOut_17 rfl (by decide) ?_
        refine z_aload_n ZC 0 dX6_setOut_18 rfl rfl ?_
        refine z_get ZC inUX6 0 rfl rfl 10 (by decide) uF_X6_37 rfl dX6_setOut_19 ?_
        refine z_iload_n ZC 1 dX6_setOut_22 rfl rfl ?_
        refine z_aload_n ZC 0 dX6_setOut_23 rfl rfl ?_
        refine z_get ZC inUX6 0 rfl rfl 3 (by decide) uF_X6_12 rfl dX6_setOut_24 ?_
        refine z_iload_n ZC 2 dX6_setOut_27 rfl rfl ?_
        refine z_callV ZC 1 (c_X2_isEmpty zl D K (a 3) aq Nq Sq1 B Cq1 r (i1.1) (by omega)) (gdV uM_X6_164 uI_X2_isEmpty uS_X2_isEmpty uN_X2 uC_X2_isEmpty) (by decide +kernel) rfl ⟨by omega, by omega⟩ ⟨by omega, by omega⟩ (Nat.le_of_ble_eq_true rfl) [8, 9, 10, 11, 12, 13, 14, 15] rfl (by decide) rfl rfl rfl rfl dX6_setOut_28 (fun r w2 gc_28 gs_28 hp => ?_)
        obtain ⟨b_28, rfl, rfl, rfl, rfl, hb_28⟩ := hp
        refine z_ws (ws2 := [(h, .inr (6, [.ref (a 0), .ref (a 1), .ref (a 2), .ref (a 3), .ref (a 5), .ref (a 6), .ref (a 7), .ref (a 8), .ref (a 9), .ref (a 10), .ref (a 11), vZ (T1.2 12), vZ (T1.2 13), vZ (T1.2 14), vZ (T1.2 15)])), ((a 5), .inl (K.1, 8, .inl (ar (T1.1 5)))), ((a 6), .inl (K.1, 8, .inl (ar (T1.1 6)))), ((a 7), .inl (K.1, 8, .inl (ar (T1.1 7)))), ((a 8), .inl (K.1, 10, .inl (ar (T1.1 8)))), ((a 9), .inl (K.1, 10, .inl (ar (T1.1 9)))), ((a 10), .inl (K.1, 10, .inl (ar (T1.1 10)))), ((a 11), .inl (K.1, 16, .inl (ar (T1.1 11)))), ((a 3), .inr (2, [.ref (aq 0), .ref (aq 1), .ref (aq 2), .ref (aq 3), .ref (aq 4), .ref (aq 5), .ref (aq 6), vZ (Sq1.2 7), vZ (Sq1.2 8)])), ((aq 0), .inl (K.1, 32, .inl (ar (Sq1.1 0)))), ((aq 1), .inl (K.1, 32, .inl (ar (Sq1.1 1)))), ((aq 2), .inl (K.1, 32, .inl (ar (Sq1.1 2)))), ((aq 3), .inl (K.1, Nq, .inl (ar (Sq1.1 3)))), ((aq 4), .inl (K.1, Nq, .inl (ar (Sq1.1 4)))), ((aq 5), .inl (K.1, Nq, .inl (ar (Sq1.1 5)))), ((aq 6), .inl (K.1, Nq, .inl (ar (Sq1.1 6)))), ((a 1), .inr (4, [.ref (an 0), .ref (an 1), .ref (an 2), .ref (an 3), .ref (an 4), .ref (an 5), .ref (an 6), .ref (an 7), vZ (Ne.2 8)])), ((an 0), .inl (K.1, 16, .inl (ar (Ne.1 0)))), ((an 1), .inl (K.1, 16, .inl (ar (Ne.1 1)))), ((an 2), .inl (K.1, 16, .inl (ar (Ne.1 2)))), ((an 3), .inl (K.1, 16, .inl (ar (Ne.1 3)))), ((an 4), .inl (K.1, 16, .inl (ar (Ne.1 4)))), ((an 5), .inl (K.1, 16, .inl (ar (Ne.1 5)))), ((an 6), .inl (K.1, 100, .inl (ar (Ne.1 6)))), ((an 7), .inl (K.1, 100, .inl (ar (Ne.1 7))))]) rfl ?_
        refine z_st (st2 := [vZ b_28, vZ r, .ref (a 11)]) rfl ?_
        refine z_if_eq ZC 38 dX6_setOut_31 (by decide) (by omega) (fun c_31 => ?_) (fun c_31 => ?_)
        · skip
          refine z_aload_n ZC 0 dX6_setOut_38 rfl rfl ?_
          refine z_iload_n ZC 1 dX6_setOut_39 rfl rfl ?_
          refine z_aload_n ZC 0 dX6_setOut_40 rfl rfl ?_
          refine z_get ZC inUX6 0 rfl rfl 1 (by decide) uF_X6_48 rfl dX6_setOut_41 ?_
          refine z_iload_n ZC 1 dX6_setOut_44 rfl rfl ?_
          refine z_aload_n ZC 0 dX6_setOut_45 rfl rfl ?_
          refine z_get ZC inUX6 0 rfl rfl 11 (by decide) uF_X6_56 rfl dX6_setOut_46 ?_
          refine z_callV ZC 2 (c_X4_lets zl D K (a 1) an Ne r (T1.2 12) (by omega) (by have := hcr.2.2.2.2.1; omega) (by have := hcr.2.2.2.2.2; omega) (by omega)) (gdV uM_X6_168 uI_X4_lets uS_X4_lets uN_X4 uC_X4_lets) (by decide +kernel) rfl ⟨by omega, by omega⟩ ⟨by omega, by omega⟩ (Nat.le_of_ble_eq_true rfl) [16, 17, 18, 19, 20, 21, 22, 23, 24] rfl (by decide) rfl rfl rfl rfl dX6_setOut_49 (fun r w2 gc_49 gs_49 hp => ?_)
          obtain ⟨v_49, rfl, rfl, rfl, rfl, hv_49⟩ := hp
          refine z_ws (ws2 := [(h, .inr (6, [.ref (a 0), .ref (a 1), .ref (a 2), .ref (a 3), .ref (a 5), .ref (a 6), .ref (a 7), .ref (a 8), .ref (a 9), .ref (a 10), .ref (a 11), vZ (T1.2 12), vZ (T1.2 13), vZ (T1.2 14), vZ (T1.2 15)])), ((a 5), .inl (K.1, 8, .inl (ar (T1.1 5)))), ((a 6), .inl (K.1, 8, .inl (ar (T1.1 6)))), ((a 7), .inl (K.1, 8, .inl (ar (T1.1 7)))), ((a 8), .inl (K.1, 10, .inl (ar (T1.1 8)))), ((a 9), .inl (K.1, 10, .inl (ar (T1.1 9)))), ((a 10), .inl (K.1, 10, .inl (ar (T1.1 10)))), ((a 11), .inl (K.1, 16, .inl (ar (T1.1 11)))), ((a 3), .inr (2, [.ref (aq 0), .ref (aq 1), .ref (aq 2), .ref (aq 3), .ref (aq 4), .ref (aq 5), .ref (aq 6), vZ (Sq1.2 7), vZ (Sq1.2 8)])), ((aq 0), .inl (K.1, 32, .inl (ar (Sq1.1 0)))), ((aq 1), .inl (K.1, 32, .inl (ar (Sq1.1 1)))), ((aq 2), .inl (K.1, 32, .inl (ar (Sq1.1 2)))), ((aq 3), .inl (K.1, Nq, .inl (ar (Sq1.1 3)))), ((aq 4), .inl (K.1, Nq, .inl (ar (Sq1.1 4)))), ((aq 5), .inl (K.1, Nq, .inl (ar (Sq1.1 5)))), ((aq 6), .inl (K.1, Nq, .inl (ar (Sq1.1 6)))), ((a 1), .inr (4, [.ref (an 0), .ref (an 1), .ref (an 2), .ref (an 3), .ref (an 4), .ref (an 5), .ref (an 6), .ref (an 7), vZ (Ne.2 8)])), ((an 0), .inl (K.1, 16, .inl (ar (Ne.1 0)))), ((an 1), .inl (K.1, 16, .inl (ar (Ne.1 1)))), ((an 2), .inl (K.1, 16, .inl (ar (Ne.1 2)))), ((an 3), .inl (K.1, 16, .inl (ar (Ne.1 3)))), ((an 4), .inl (K.1, 16, .inl (ar (Ne.1 4)))), ((an 5), .inl (K.1, 16, .inl (ar (Ne.1 5)))), ((an 6), .inl (K.1, 100, .inl (ar (Ne.1 6)))), ((an 7), .inl (K.1, 100, .inl (ar (Ne.1 7))))]) rfl ?_
          refine z_st (st2 := [vZ v_49, vZ r, .ref h, vZ r, .ref (a 11)]) rfl ?_
          have hmo : 0 ≤ v_49 ∧ v_49 ≤ 5000 := by rw [hv_49]; split <;> omega
          refine z_callV ZC 2 (c_X6_setOutOn zl D K h a T1 aq Nq Sq1 an Ne B Cq1 r v_49 (by omega) (⟨hcr.1, hcr.2.2.2.1⟩) (hmo) (by omega) (i1.1) (by omega) (tr_qn hcf i2 i1 (by omega) (by omega)) (fun q hq => by have := (tr_dv hcf i2 i1 (r := r) (by omega) (by omega)).1 q hq; omega)) (gdV uM_X6_171 uI_X6_setOutOn uS_X6_setOutOn uN_X6 uC_X6_setOutOn) (by decide +kernel) rfl ⟨by omega, by omega⟩ ⟨by omega, by omega⟩ (Nat.le_of_ble_eq_true rfl) [0, 1, 2, 3, 4, 5, 6, 7, 8, 9, 10, 11, 12, 13, 14, 15, 16, 17, 18, 19, 20, 21, 22, 23, 24] rfl (by decide) rfl rfl rfl rfl dX6_setOut_52 (fun r w2 gc_52 gs_52 hp => ?_)
          obtain ⟨k_52, Sq2_52, Cq2_52, rfl, rfl, rfl, rfl, hk_52, hOq2_52, hoth_52, hfq_52, hdue_52, hmp2_52⟩ := hp
          refine z_ws (ws2 := [(h, .inr (6, [.ref (a 0), .ref (a 1), .ref (a 2), .ref (a 3), .ref (a 5), .ref (a 6), .ref (a 7), .ref (a 8), .ref (a 9), .ref (a 10), .ref (a 11), vZ (T1.2 12), vZ (T1.2 13), vZ (T1.2 14), vZ (T1.2 15)])), ((a 5), .inl (K.1, 8, .inl (ar (T1.1 5)))), ((a 6), .inl (K.1, 8, .inl (ar (T1.1 6)))), ((a 7), .inl (K.1, 8, .inl (ar (T1.1 7)))), ((a 8), .inl (K.1, 10, .inl (ar (upz (T1.1 8) (Ne.1 0 r) (T1.1 8 (Ne.1 0 r) - k_52))))), ((a 9), .inl (K.1, 10, .inl (ar (T1.1 9)))), ((a 10), .inl (K.1, 10, .inl (ar (T1.1 10)))), ((a 11), .inl (K.1, 16, .inl (ar (T1.1 11)))), ((a 3), .inr (2, [.ref (aq 0), .ref (aq 1), .ref (aq 2), .ref (aq 3), .ref (aq 4), .ref (aq 5), .ref (aq 6), vZ (Sq2_52.2 7), vZ (Sq2_52.2 8)])), ((aq 0), .inl (K.1, 32, .inl (ar (Sq2_52.1 0)))), ((aq 1), .inl (K.1, 32, .inl (ar (Sq2_52.1 1)))), ((aq 2), .inl (K.1, 32, .inl (ar (Sq2_52.1 2)))), ((aq 3), .inl (K.1, Nq, .inl (ar (Sq2_52.1 3)))), ((aq 4), .inl (K.1, Nq, .inl (ar (Sq2_52.1 4)))), ((aq 5), .inl (K.1, Nq, .inl (ar (Sq2_52.1 5)))), ((aq 6), .inl (K.1, Nq, .inl (ar (Sq2_52.1 6)))), ((a 1), .inr (4, [.ref (an 0), .ref (an 1), .ref (an 2), .ref (an 3), .ref (an 4), .ref (an 5), .ref (an 6), .ref (an 7), vZ (Ne.2 8)])), ((an 0), .inl (K.1, 16, .inl (ar (Ne.1 0)))), ((an 1), .inl (K.1, 16, .inl (ar (Ne.1 1)))), ((an 2), .inl (K.1, 16, .inl (ar (Ne.1 2)))), ((an 3), .inl (K.1, 16, .inl (ar (Ne.1 3)))), ((an 4), .inl (K.1, 16, .inl (ar (Ne.1 4)))), ((an 5), .inl (K.1, 16, .inl (ar (Ne.1 5)))), ((an 6), .inl (K.1, 100, .inl (ar (Ne.1 6)))), ((an 7), .inl (K.1, 100, .inl (ar (Ne.1 7))))]) rfl ?_
          refine z_st (st2 := [vZ k_52, vZ r, .ref (a 11)]) rfl ?_
          have hkk : k_52 = (aK Ne A1 r : Int) := by
            rw [hk_52, hfq0, hv_49]
            unfold aK
            rw [← enow]
            split
            · simp
            · rfl
          refine z_iast ZC 7 rfl dX6_setOut_55 (by omega) ?_
          refine z_aload_n ZC 0 dX6_setOut_56 rfl rfl ?_
          refine z_dup ZC dX6_setOut_57 rfl ?_
          refine z_get ZC inUX6 0 rfl rfl 14 (by decide) uF_X6_123 rfl dX6_setOut_58 ?_
          refine z_aload_n ZC 0 dX6_setOut_61 rfl rfl ?_
          refine z_get ZC inUX6 0 rfl rfl 3 (by decide) uF_X6_12 rfl dX6_setOut_62 ?_
          refine z_get ZC inUX2 8 rfl rfl 2 (by decide) uF_X6_74 rfl dX6_setOut_65 ?_
          refine z_iload_n ZC 2 dX6_setOut_68 rfl rfl ?_
          refine z_iald ZC 11 rfl dX6_setOut_69 (by omega) ?_
          refine z_iadd ZC dX6_setOut_70 ?_
          refine z_put ZC inUX6 tyX6_ok nmX6 0 rfl rfl 14 (by decide) uF_X6_123 rfl (rfl) (rfl) (Nat.le_of_ble_eq_true rfl) dX6_setOut_71 ?_
          refine z_iinc ZC dX6_setOut_74 rfl (by decide) ?_
          refine z_goto ZC 2 dX6_setOut_77 (by decide) ?_
          refine z_ws (ws2 := [(h, .inr (6, [.ref (a 0), .ref (a 1), .ref (a 2), .ref (a 3), .ref (a 5), .ref (a 6), .ref (a 7), .ref (a 8), .ref (a 9), .ref (a 10), .ref (a 11), vZ (T1.2 12), vZ (T1.2 13), vZ (T1.2 14), vZ ((T1.2 15) + ((Sq2_52.1 2) r))])), ((a 5), .inl (K.1, 8, .inl (ar (T1.1 5)))), ((a 6), .inl (K.1, 8, .inl (ar (T1.1 6)))), ((a 7), .inl (K.1, 8, .inl (ar (T1.1 7)))), ((a 8), .inl (K.1, 10, .inl (ar (upz (T1.1 8) (Ne.1 0 r) (T1.1 8 (Ne.1 0 r) - k_52))))), ((a 9), .inl (K.1, 10, .inl (ar (T1.1 9)))), ((a 10), .inl (K.1, 10, .inl (ar (T1.1 10)))), ((a 11), .inl (K.1, 16, .inl (ar (upz (T1.1 11) r k_52)))), ((a 3), .inr (2, [.ref (aq 0), .ref (aq 1), .ref (aq 2), .ref (aq 3), .ref (aq 4), .ref (aq 5), .ref (aq 6), vZ (Sq2_52.2 7), vZ (Sq2_52.2 8)])), ((aq 0), .inl (K.1, 32, .inl (ar (Sq2_52.1 0)))), ((aq 1), .inl (K.1, 32, .inl (ar (Sq2_52.1 1)))), ((aq 2), .inl (K.1, 32, .inl (ar (Sq2_52.1 2)))), ((aq 3), .inl (K.1, Nq, .inl (ar (Sq2_52.1 3)))), ((aq 4), .inl (K.1, Nq, .inl (ar (Sq2_52.1 4)))), ((aq 5), .inl (K.1, Nq, .inl (ar (Sq2_52.1 5)))), ((aq 6), .inl (K.1, Nq, .inl (ar (Sq2_52.1 6)))), ((a 1), .inr (4, [.ref (an 0), .ref (an 1), .ref (an 2), .ref (an 3), .ref (an 4), .ref (an 5), .ref (an 6), .ref (an 7), vZ (Ne.2 8)])), ((an 0), .inl (K.1, 16, .inl (ar (Ne.1 0)))), ((an 1), .inl (K.1, 16, .inl (ar (Ne.1 1)))), ((an 2), .inl (K.1, 16, .inl (ar (Ne.1 2)))), ((an 3), .inl (K.1, 16, .inl (ar (Ne.1 3)))), ((an 4), .inl (K.1, 16, .inl (ar (Ne.1 4)))), ((an 5), .inl (K.1, 16, .inl (ar (Ne.1 5)))), ((an 6), .inl (K.1, 100, .inl (ar (Ne.1 6)))), ((an 7), .inl (K.1, 100, .inl (ar (Ne.1 7))))]) rfl (z_lv (lv2 := [(0, .ref h), (1, vZ (r + 1))]) ⟨rfl, rfl, trivial⟩ ?_)
          refine ih_2 (r + 1) ((upf (upf T1.1 8 (upz (T1.1 8) (Ne.1 0 r) (T1.1 8 (Ne.1 0 r) - k_52))) 11 (upz (T1.1 11) r k_52)), (upf T1.2 15 ((T1.2 15) + ((Sq2_52.1 2) r)))) Sq2_52 Cq2_52 (aOut1 Ne A1 r) ?_ ?_ ?_ ?_ ?_ ?_ (dec_lt hm_2 c_10)
          · skip
            omega
          · skip
            refine tr_out hcf i1 ⟨hr.1, c_10⟩ (fun t _ _ => by rw [hkk]) hOq2_52 (fun j h1 h2 => ?_) (fun j h1 h2 => ?_)
            · have hnn : k_52.toNat = aK Ne A1 r := by rw [hkk]; omega
              by_cases e : j = r
              · subst e
                rw [if_pos rfl, hfq_52.1, hnn, hfq0]
                exact ⟨rfl, hdue_52⟩
              · rw [if_neg e, hoth_52 j e (by omega)]
                exact ⟨(i1.2.1 j h1 h2).1, (i1.2.1 j h1 h2).2.2⟩
            · have hnn : k_52.toNat = aK Ne A1 r := by rw [hkk]; omega
              by_cases e : j = r
              · subst e
                rw [if_pos rfl, hfq_52.2, hnn, hfq0, hfd0, enow]
              · rw [if_neg e, hoth_52 (16 + j) (by omega) (by omega)]
                exact (i1.2.1 j h1 h2).2.1
          · skip
            exact aok_out hcf i2 ⟨hr.1, c_10⟩ (by omega)
          · skip
            omega
          · skip
            rw [aOut_next hr.1, ← i5]
          · skip
            intro j h1 h2
            show upz (T1.1 11) r k_52 j = _
            by_cases e : j = r
            · subst e; rw [upz_self, hkk, hakk]
            · rw [upz_ne _ _ e]; exact i7 j h1 (by omega)
        · skip
          refine z_iconst ZC dX6_setOut_34 ?_
          refine z_goto ZC 55 dX6_setOut_35 (by decide) ?_
          have hemp : Cq1 r = [] := by
            rcases hb_28 with z | z
            · exact z.2
            · exact absurd z.1 c_31
          have hql : A1.2.2.1 r = [] := by rw [← hfq0, hemp]; rfl
          have hkk : (aK Ne A1 r : Int) = 0 := by unfold aK; rw [hql]; split <;> simp
          refine z_iast ZC 7 rfl dX6_setOut_55 (by omega) ?_
          refine z_aload_n ZC 0 dX6_setOut_56 rfl rfl ?_
          refine z_dup ZC dX6_setOut_57 rfl ?_
          refine z_get ZC inUX6 0 rfl rfl 14 (by decide) uF_X6_123 rfl dX6_setOut_58 ?_
          refine z_aload_n ZC 0 dX6_setOut_61 rfl rfl ?_
          refine z_get ZC inUX6 0 rfl rfl 3 (by decide) uF_X6_12 rfl dX6_setOut_62 ?_
          refine z_get ZC inUX2 8 rfl rfl 2 (by decide) uF_X6_74 rfl dX6_setOut_65 ?_
          refine z_iload_n ZC 2 dX6_setOut_68 rfl rfl ?_
          refine z_iald ZC 11 rfl dX6_setOut_69 (by omega) ?_
          refine z_iadd ZC dX6_setOut_70 ?_
          refine z_put ZC inUX6 tyX6_ok nmX6 0 rfl rfl 14 (by decide) uF_X6_123 rfl (rfl) (rfl) (Nat.le_of_ble_eq_true rfl) dX6_setOut_71 ?_
          refine z_iinc ZC dX6_setOut_74 rfl (by decide) ?_
          refine z_goto ZC 2 dX6_setOut_77 (by decide) ?_
          refine z_ws (ws2 := [(h, .inr (6, [.ref (a 0), .ref (a 1), .ref (a 2), .ref (a 3), .ref (a 5), .ref (a 6), .ref (a 7), .ref (a 8), .ref (a 9), .ref (a 10), .ref (a 11), vZ (T1.2 12), vZ (T1.2 13), vZ (T1.2 14), vZ ((T1.2 15) + ((Sq1.1 2) r))])), ((a 5), .inl (K.1, 8, .inl (ar (T1.1 5)))), ((a 6), .inl (K.1, 8, .inl (ar (T1.1 6)))), ((a 7), .inl (K.1, 8, .inl (ar (T1.1 7)))), ((a 8), .inl (K.1, 10, .inl (ar (T1.1 8)))), ((a 9), .inl (K.1, 10, .inl (ar (T1.1 9)))), ((a 10), .inl (K.1, 10, .inl (ar (T1.1 10)))), ((a 11), .inl (K.1, 16, .inl (ar (upz (T1.1 11) r 0)))), ((a 3), .inr (2, [.ref (aq 0), .ref (aq 1), .ref (aq 2), .ref (aq 3), .ref (aq 4), .ref (aq 5), .ref (aq 6), vZ (Sq1.2 7), vZ (Sq1.2 8)])), ((aq 0), .inl (K.1, 32, .inl (ar (Sq1.1 0)))), ((aq 1), .inl (K.1, 32, .inl (ar (Sq1.1 1)))), ((aq 2), .inl (K.1, 32, .inl (ar (Sq1.1 2)))), ((aq 3), .inl (K.1, Nq, .inl (ar (Sq1.1 3)))), ((aq 4), .inl (K.1, Nq, .inl (ar (Sq1.1 4)))), ((aq 5), .inl (K.1, Nq, .inl (ar (Sq1.1 5)))), ((aq 6), .inl (K.1, Nq, .inl (ar (Sq1.1 6)))), ((a 1), .inr (4, [.ref (an 0), .ref (an 1), .ref (an 2), .ref (an 3), .ref (an 4), .ref (an 5), .ref (an 6), .ref (an 7), vZ (Ne.2 8)])), ((an 0), .inl (K.1, 16, .inl (ar (Ne.1 0)))), ((an 1), .inl (K.1, 16, .inl (ar (Ne.1 1)))), ((an 2), .inl (K.1, 16, .inl (ar (Ne.1 2)))), ((an 3), .inl (K.1, 16, .inl (ar (Ne.1 3)))), ((an 4), .inl (K.1, 16, .inl (ar (Ne.1 4)))), ((an 5), .inl (K.1, 16, .inl (ar (Ne.1 5)))), ((an 6), .inl (K.1, 100, .inl (ar (Ne.1 6)))), ((an 7), .inl (K.1, 100, .inl (ar (Ne.1 7))))]) rfl (z_lv (lv2 := [(0, .ref h), (1, vZ (r + 1))]) ⟨rfl, rfl, trivial⟩ ?_)
          refine ih_2 (r + 1) ((upf T1.1 11 (upz (T1.1 11) r 0)), (upf T1.2 15 ((T1.2 15) + ((Sq1.1 2) r)))) Sq1 Cq1 (aOut1 Ne A1 r) ?_ ?_ ?_ ?_ ?_ ?_ (dec_lt hm_2 c_10)
          · skip
            omega
          · skip
            refine tr_out (f8 := T1.1 8) hcf i1 ⟨hr.1, c_10⟩ (fun t _ _ => ?_) i1.1 (fun j h1 h2 => ?_) (fun j h1 h2 => ?_)
            · rw [hkk]
              unfold upz
              split
              · rename_i z; rw [z]; omega
              · rfl
            · by_cases e : j = r
              · subst e
                rw [if_pos rfl, hql]
                exact ⟨by rw [hemp]; simp [fq], (i1.2.1 j h1 h2).2.2⟩
              · rw [if_neg e]
                exact ⟨(i1.2.1 j h1 h2).1, (i1.2.1 j h1 h2).2.2⟩
            · by_cases e : j = r
              · subst e
                rw [if_pos rfl, hql, hfd0]
                simp
              · rw [if_neg e]
                exact (i1.2.1 j h1 h2).2.1
          · skip
            exact aok_out hcf i2 ⟨hr.1, c_10⟩ (by omega)
          · skip
            omega
          · skip
            rw [aOut_next hr.1, ← i5]
          · skip
            intro j h1 h2
            show upz (T1.1 11) r 0 j = _
            by_cases e : j = r
            · subst e; rw [upz_self, ← hakk, hkk]
            · rw [upz_ne _ _ e]; exact i7 j h1 (by omega)
  refine z_ws (ws2 := [(h, .inr (6, [.ref (a 0), .ref (a 1), .ref (a 2), .ref (a 3), .ref (a 5), .ref (a 6), .ref (a 7), .ref (a 8), .ref (a 9), .ref (a 10), .ref (a 11), vZ (T.2 12), vZ (T.2 13), vZ (T.2 14), vZ (T.2 15)])), ((a 5), .inl (K.1, 8, .inl (ar (T.1 5)))), ((a 6), .inl (K.1, 8, .inl (ar (T.1 6)))), ((a 7), .inl (K.1, 8, .inl (ar (T.1 7)))), ((a 8), .inl (K.1, 10, .inl (ar (T.1 8)))), ((a 9), .inl (K.1, 10, .inl (ar (T.1 9)))), ((a 10), .inl (K.1, 10, .inl (ar (T.1 10)))), ((a 11), .inl (K.1, 16, .inl (ar (T.1 11)))), ((a 3), .inr (2, [.ref (aq 0), .ref (aq 1), .ref (aq 2), .ref (aq 3), .ref (aq 4), .ref (aq 5), .ref (aq 6), vZ (Sq.2 7), vZ (Sq.2 8)])), ((aq 0), .inl (K.1, 32, .inl (ar (Sq.1 0)))), ((aq 1), .inl (K.1, 32, .inl (ar (Sq.1 1)))), ((aq 2), .inl (K.1, 32, .inl (ar (Sq.1 2)))), ((aq 3), .inl (K.1, Nq, .inl (ar (Sq.1 3)))), ((aq 4), .inl (K.1, Nq, .inl (ar (Sq.1 4)))), ((aq 5), .inl (K.1, Nq, .inl (ar (Sq.1 5)))), ((aq 6), .inl (K.1, Nq, .inl (ar (Sq.1 6)))), ((a 1), .inr (4, [.ref (an 0), .ref (an 1), .ref (an 2), .ref (an 3), .ref (an 4), .ref (an 5), .ref (an 6), .ref (an 7), vZ (Ne.2 8)])), ((an 0), .inl (K.1, 16, .inl (ar (Ne.1 0)))), ((an 1), .inl (K.1, 16, .inl (ar (Ne.1 1)))), ((an 2), .inl (K.1, 16, .inl (ar (Ne.1 2)))), ((an 3), .inl (K.1, 16, .inl (ar (Ne.1 3)))), ((an 4), .inl (K.1, 16, .inl (ar (Ne.1 4)))), ((an 5), .inl (K.1, 16, .inl (ar (Ne.1 5)))), ((an 6), .inl (K.1, 100, .inl (ar (Ne.1 6)))), ((an 7), .inl (K.1, 100, .inl (ar (Ne.1 7))))]) rfl (z_lv (lv2 := [(0, .ref h), (1, vZ 0)]) ⟨rfl, rfl, trivial⟩ ?_)
  refine lp_2 _ 0 T Sq Cq A ?_ ?_ ?_ ?_ ?_ ?_ (Nat.lt_succ_self _)
  · skip
    omega
  · skip
    exact hT
  · skip
    exact hok
  · skip
    omega
  · skip
    rfl
  · skip
    intro j h1 h2; omega

set_option maxHeartbeats 4000000 in
set_option maxRecDepth 100000 in
theorem c_X6_driveAnHour (zl : Launch) (D : va_G) (K : tyK) (h : Nat) (a : Nat → Nat) (T : Bd) (aq : Nat → Nat) (Nq : Nat) (Sq : Bd) (an : Nat → Nat) (Ne : Bd) (ac : Nat → Nat) (Cr : Bd) (B : Nat) (mp : Nat) (Cq : Int → List Pt3) (A : Ab) (hcf : Cfg Ne Cr) (hok : AOK Ne Cr A) (hT : TrR Ne Cr B T Nq Sq Cq A) (hnow : 0 ≤ A.2.1 0 ∧ A.2.1 0 ≤ 200) (hmp : lns Cq 32 ≤ mp ∧ mp + 26 ≤ B ∧ B ≤ 4000) (hoff : ∀ c : Int, 0 ≤ c → c < Cr.2 3 → A.1 0 c = A.2.1 0 → A.1 1 c = 0) (hlg : ∀ c : Int, 0 ≤ c → c < Cr.2 3 → 0 ≤ A.1 0 c ∧ A.1 0 c ≤ 300) : Mz zl yX6_driveAnHour cX6_driveAnHour 1 (none) 4 97 4 16384 D K [.ref h] ((wTr K h a T) ++ (wLn K (a 3) aq Nq Sq) ++ (wNe K (a 1) an Ne) ++ (wCr K (a 2) ac Cr)) (fun r_ w2_ gc gs => ∃ (T2 : Bd), ∃ (aq2 : Nat → Nat), ∃ (Nq2 : Nat), ∃ (Sq2 : Bd), ∃ (Cq2 : Int → List Pt3), r_ = none ∧ w2_ = ((wTr K h a T2) ++ (wLn K (a 3) aq2 Nq2 Sq2) ++ (wNe K (a 1) an Ne) ++ (wCr K (a 2) ac Cr)) ∧ (TrR Ne Cr B T2 Nq2 Sq2 Cq2 (aDrive Ne Cr A)) ∧ (AOK Ne Cr (aDrive Ne Cr A)) ∧ (∀ j : Int, 0 ≤ j → j < Ne.2 8 → T2.1 11 j = (aK Ne (aLet Ne Cr (aCome Ne Cr A (Ne.2 8).toNat) (Cr.2 3).toNat) j : Int)) ∧ (((lns Cq2 32 : Nat) : Int) ≤ mp + 16 + (oc Cr (aDrive Ne Cr A) - oc Cr A)) ∧ (Nq ≤ Nq2 ∧ Nq2 ≤ 4096) ∧ (Nq + gc ≤ Nq2) ∧ (8 * Nq + gs ≤ 8 * Nq2)) := by
  refine Mz.ofZ (by decide) rfl (Nat.le_of_ble_eq_true rfl) ?_
  intro zp ze zR zs zm zargs zbelow zmeth zc zA zQ ZC ZE hRf hRc hRs hRl
  refine z_aload_n ZC 0 dX6_driveAnHour_0 rfl rfl ?_
  refine z_get ZC inUX6 0 rfl rfl 3 (by decide) uF_X6_12 rfl dX6_driveAnHour_1 ?_
  refine z_callV ZC 0 (c_X2_makeRoomForAnHour zl D K (a 3) aq Nq Sq B Cq (hT.1) (by omega)) (gdV uM_X6_92 uI_X2_makeRoomForAnHour uS_X2_makeRoomForAnHour uN_X2 uC_X2_makeRoomForAnHour) (by decide +kernel) rfl ⟨by omega, by omega⟩ ⟨by omega, by omega⟩ (Nat.le_of_ble_eq_true rfl) [8, 9, 10, 11, 12, 13, 14, 15] rfl (by decide) rfl rfl rfl rfl dX6_driveAnHour_4 (fun r w2 gc_4 gs_4 hp => ?_)
  obtain ⟨a2_4, N2_4, S2_4, rfl, rfl, hO2_4, hr2_4, hN2_4, hgc_4, hgs_4, hg4_4⟩ := hp
  have hTa : TrR Ne Cr B T N2_4 S2_4 Cq A := ⟨hO2_4, hT.2⟩
  have hGa := lo_rng hO2_4
  have hla := lo_len hO2_4
  simp only [List.length_nil] at hla
  refine z_ws (ws2 := [(h, .inr (6, [.ref (a 0), .ref (a 1), .ref (a 2), .ref (a 3), .ref (a 5), .ref (a 6), .ref (a 7), .ref (a 8), .ref (a 9), .ref (a 10), .ref (a 11), vZ (T.2 12), vZ (T.2 13), vZ (T.2 14), vZ (T.2 15)])), ((a 5), .inl (K.1, 8, .inl (ar (T.1 5)))), ((a 6), .inl (K.1, 8, .inl (ar (T.1 6)))), ((a 7), .inl (K.1, 8, .inl (ar (T.1 7)))), ((a 8), .inl (K.1, 10, .inl (ar (T.1 8)))), ((a 9), .inl (K.1, 10, .inl (ar (T.1 9)))), ((a 10), .inl (K.1, 10, .inl (ar (T.1 10)))), ((a 11), .inl (K.1, 16, .inl (ar (T.1 11)))), ((a 3), .inr (2, [.ref (a2_4 0), .ref (a2_4 1), .ref (a2_4 2), .ref (a2_4 3), .ref (a2_4 4), .ref (a2_4 5), .ref (a2_4 6), vZ (S2_4.2 7), vZ (S2_4.2 8)])), ((a2_4 0), .inl (K.1, 32, .inl (ar (S2_4.1 0)))), ((a2_4 1), .inl (K.1, 32, .inl (ar (S2_4.1 1)))), ((a2_4 2), .inl (K.1, 32, .inl (ar (S2_4.1 2)))), ((a2_4 3), .inl (K.1, N2_4, .inl (ar (S2_4.1 3)))), ((a2_4 4), .inl (K.1, N2_4, .inl (ar (S2_4.1 4)))), ((a2_4 5), .inl (K.1, N2_4, .inl (ar (S2_4.1 5)))), ((a2_4 6), .inl (K.1, N2_4, .inl (ar (S2_4.1 6)))), ((a 1), .inr (4, [.ref (an 0), .ref (an 1), .ref (an 2), .ref (an 3), .ref (an 4), .ref (an 5), .ref (an 6), .ref (an 7), vZ (Ne.2 8)])), ((an 0), .inl (K.1, 16, .inl (ar (Ne.1 0)))), ((an 1), .inl (K.1, 16, .inl (ar (Ne.1 1)))), ((an 2), .inl (K.1, 16, .inl (ar (Ne.1 2)))), ((an 3), .inl (K.1, 16, .inl (ar (Ne.1 3)))), ((an 4), .inl (K.1, 16, .inl (ar (Ne.1 4)))), ((an 5), .inl (K.1, 16, .inl (ar (Ne.1 5)))), ((an 6), .inl (K.1, 100, .inl (ar (Ne.1 6)))), ((an 7), .inl (K.1, 100, .inl (ar (Ne.1 7)))), ((a 2), .inr (0, [.ref (ac 0), .ref (ac 1), .ref (ac 2), vZ (Cr.2 3), vZ (Cr.2 4)])), ((ac 0), .inl (K.1, 8, .inl (ar (Cr.1 0)))), ((ac 1), .inl (K.1, 8, .inl (ar (Cr.1 1)))), ((ac 2), .inl (K.1, 8, .inl (ar (Cr.1 2))))]) rfl ?_
  refine z_st (st2 := []) rfl ?_
  refine z_aload_n ZC 0 dX6_driveAnHour_7 rfl rfl ?_
  refine z_callV ZC 0 (c_X6_comeToTowns zl D K h a T a2_4 N2_4 S2_4 an Ne ac Cr B (lns Cq 32) Cq A (hcf) (hok) (hTa) (by omega) (by omega)) (gdV uM_X6_95 uI_X6_comeToTowns uS_X6_comeToTowns uN_X6 uC_X6_comeToTowns) (by decide +kernel) rfl ⟨by omega, by omega⟩ ⟨by omega, by omega⟩ (Nat.le_of_ble_eq_true rfl) [0, 1, 2, 3, 4, 5, 6, 7, 8, 9, 10, 11, 12, 13, 14, 15, 16, 17, 18, 19, 20, 21, 22, 23, 24, 25, 26, 27, 28] rfl (by decide) rfl rfl rfl rfl dX6_driveAnHour_8 (fun r w2 gc_8 gs_8 hp => ?_)
  obtain ⟨T2_8, Sq2_8, Cq2_8, rfl, rfl, rfl, rfl, hT2_8, hok2_8, hnw_8, hmp2_8⟩ := hp
  obtain ⟨kc1, kc2, kc3, kc4, kc5⟩ := aCome_keep Ne Cr A (Ne.2 8).toNat
  have hoc1 := oc_rng hcf hok2_8
  refine z_ws (ws2 := [(h, .inr (6, [.ref (a 0), .ref (a 1), .ref (a 2), .ref (a 3), .ref (a 5), .ref (a 6), .ref (a 7), .ref (a 8), .ref (a 9), .ref (a 10), .ref (a 11), vZ (T2_8.2 12), vZ (T2_8.2 13), vZ (T2_8.2 14), vZ (T2_8.2 15)])), ((a 5), .inl (K.1, 8, .inl (ar (T2_8.1 5)))), ((a 6), .inl (K.1, 8, .inl (ar (T2_8.1 6)))), ((a 7), .inl (K.1, 8, .inl (ar (T2_8.1 7)))), ((a 8), .inl (K.1, 10, .inl (ar (T2_8.1 8)))), ((a 9), .inl (K.1, 10, .inl (ar (T2_8.1 9)))), ((a 10), .inl (K.1, 10, .inl (ar (T2_8.1 10)))), ((a 11), .inl (K.1, 16, .inl (ar (T2_8.1 11)))), ((a 3), .inr (2, [.ref (a2_4 0), .ref (a2_4 1), .ref (a2_4 2), .ref (a2_4 3), .ref (a2_4 4), .ref (a2_4 5), .ref (a2_4 6), vZ (Sq2_8.2 7), vZ (Sq2_8.2 8)])), ((a2_4 0), .inl (K.1, 32, .inl (ar (Sq2_8.1 0)))), ((a2_4 1), .inl (K.1, 32, .inl (ar (Sq2_8.1 1)))), ((a2_4 2), .inl (K.1, 32, .inl (ar (Sq2_8.1 2)))), ((a2_4 3), .inl (K.1, N2_4, .inl (ar (Sq2_8.1 3)))), ((a2_4 4), .inl (K.1, N2_4, .inl (ar (Sq2_8.1 4)))), ((a2_4 5), .inl (K.1, N2_4, .inl (ar (Sq2_8.1 5)))), ((a2_4 6), .inl (K.1, N2_4, .inl (ar (Sq2_8.1 6)))), ((a 1), .inr (4, [.ref (an 0), .ref (an 1), .ref (an 2), .ref (an 3), .ref (an 4), .ref (an 5), .ref (an 6), .ref (an 7), vZ (Ne.2 8)])), ((an 0), .inl (K.1, 16, .inl (ar (Ne.1 0)))), ((an 1), .inl (K.1, 16, .inl (ar (Ne.1 1)))), ((an 2), .inl (K.1, 16, .inl (ar (Ne.1 2)))), ((an 3), .inl (K.1, 16, .inl (ar (Ne.1 3)))), ((an 4), .inl (K.1, 16, .inl (ar (Ne.1 4)))), ((an 5), .inl (K.1, 16, .inl (ar (Ne.1 5)))), ((an 6), .inl (K.1, 100, .inl (ar (Ne.1 6)))), ((an 7), .inl (K.1, 100, .inl (ar (Ne.1 7)))), ((a 2), .inr (0, [.ref (ac 0), .ref (ac 1), .ref (ac 2), vZ (Cr.2 3), vZ (Cr.2 4)])), ((ac 0), .inl (K.1, 8, .inl (ar (Cr.1 0)))), ((ac 1), .inl (K.1, 8, .inl (ar (Cr.1 1)))), ((ac 2), .inl (K.1, 8, .inl (ar (Cr.1 2))))]) rfl ?_
  refine z_st (st2 := []) rfl ?_
  refine z_aload_n ZC 0 dX6_driveAnHour_11 rfl rfl ?_
  refine z_callV ZC 0 (c_X6_letCrowdsGo zl D K h a T2_8 a2_4 N2_4 Sq2_8 an Ne ac Cr B (lns Cq 32) Cq2_8 (aCome Ne Cr A (Ne.2 8).toNat) (hcf) (hok2_8) (hT2_8) (by rw [kc1]; exact hnow) (by omega) (fun c h1 h2 => by rw [kc1, kc2, kc3]; exact hoff c h1 h2) (fun c h1 h2 => by rw [kc2]; exact hlg c h1 h2)) (gdV uM_X6_98 uI_X6_letCrowdsGo uS_X6_letCrowdsGo uN_X6 uC_X6_letCrowdsGo) (by decide +kernel) rfl ⟨by omega, by omega⟩ ⟨by omega, by omega⟩ (Nat.le_of_ble_eq_true rfl) [0, 1, 2, 3, 4, 5, 6, 7, 8, 9, 10, 11, 12, 13, 14, 15, 16, 17, 18, 19, 20, 21, 22, 23, 24, 25, 26, 27, 28] rfl (by decide) rfl rfl rfl rfl dX6_driveAnHour_12 (fun r w2 gc_12 gs_12 hp => ?_)
  obtain ⟨Sq2_12, Cq2_12, rfl, rfl, rfl, rfl, hT2_12, hok2_12, hmp2_12⟩ := hp
  have hoc2 := oc_rng hcf hok2_12
  have hmono : 0 ≤ oc Cr (aLet Ne Cr (aCome Ne Cr A (Ne.2 8).toNat) (Cr.2 3).toNat) - oc Cr (aCome Ne Cr A (Ne.2 8).toNat) := oc_mono
  obtain ⟨kl1, kl2, kl3, kl4, kl5⟩ := aLet_keep Ne Cr (aCome Ne Cr A (Ne.2 8).toNat) (Cr.2 3).toNat
  refine z_ws (ws2 := [(h, .inr (6, [.ref (a 0), .ref (a 1), .ref (a 2), .ref (a 3), .ref (a 5), .ref (a 6), .ref (a 7), .ref (a 8), .ref (a 9), .ref (a 10), .ref (a 11), vZ (T2_8.2 12), vZ (T2_8.2 13), vZ (T2_8.2 14), vZ (T2_8.2 15)])), ((a 5), .inl (K.1, 8, .inl (ar (T2_8.1 5)))), ((a 6), .inl (K.1, 8, .inl (ar (T2_8.1 6)))), ((a 7), .inl (K.1, 8, .inl (ar (T2_8.1 7)))), ((a 8), .inl (K.1, 10, .inl (ar (T2_8.1 8)))), ((a 9), .inl (K.1, 10, .inl (ar (T2_8.1 9)))), ((a 10), .inl (K.1, 10, .inl (ar (T2_8.1 10)))), ((a 11), .inl (K.1, 16, .inl (ar (T2_8.1 11)))), ((a 3), .inr (2, [.ref (a2_4 0), .ref (a2_4 1), .ref (a2_4 2), .ref (a2_4 3), .ref (a2_4 4), .ref (a2_4 5), .ref (a2_4 6), vZ (Sq2_12.2 7), vZ (Sq2_12.2 8)])), ((a2_4 0), .inl (K.1, 32, .inl (ar (Sq2_12.1 0)))), ((a2_4 1), .inl (K.1, 32, .inl (ar (Sq2_12.1 1)))), ((a2_4 2), .inl (K.1, 32, .inl (ar (Sq2_12.1 2)))), ((a2_4 3), .inl (K.1, N2_4, .inl (ar (Sq2_12.1 3)))), ((a2_4 4), .inl (K.1, N2_4, .inl (ar (Sq2_12.1 4)))), ((a2_4 5), .inl (K.1, N2_4, .inl (ar (Sq2_12.1 5)))), ((a2_4 6), .inl (K.1, N2_4, .inl (ar (Sq2_12.1 6)))), ((a 1), .inr (4, [.ref (an 0), .ref (an 1), .ref (an 2), .ref (an 3), .ref (an 4), .ref (an 5), .ref (an 6), .ref (an 7), vZ (Ne.2 8)])), ((an 0), .inl (K.1, 16, .inl (ar (Ne.1 0)))), ((an 1), .inl (K.1, 16, .inl (ar (Ne.1 1)))), ((an 2), .inl (K.1, 16, .inl (ar (Ne.1 2)))), ((an 3), .inl (K.1, 16, .inl (ar (Ne.1 3)))), ((an 4), .inl (K.1, 16, .inl (ar (Ne.1 4)))), ((an 5), .inl (K.1, 16, .inl (ar (Ne.1 5)))), ((an 6), .inl (K.1, 100, .inl (ar (Ne.1 6)))), ((an 7), .inl (K.1, 100, .inl (ar (Ne.1 7)))), ((a 2), .inr (0, [.ref (ac 0), .ref (ac 1), .ref (ac 2), vZ (Cr.2 3), vZ (Cr.2 4)])), ((ac 0), .inl (K.1, 8, .inl (ar (Cr.1 0)))), ((ac 1), .inl (K.1, 8, .inl (ar (Cr.1 1)))), ((ac 2), .inl (K.1, 8, .inl (ar (Cr.1 2))))]) rfl ?_
  refine z_st (st2 := []) rfl ?_
  refine z_aload_n ZC 0 dX6_driveAnHour_15 rfl rfl ?_
  refine z_callV ZC 0 (c_X6_setOut zl D K h a T2_8 a2_4 N2_4 Sq2_12 an Ne Cr B (lns Cq 32 + (oc Cr (aLet Ne Cr (aCome Ne Cr A (Ne.2 8).toNat) (Cr.2 3).toNat) - oc Cr (aCome Ne Cr A (Ne.2 8).toNat)).toNat) Cq2_12 (aLet Ne Cr (aCome Ne Cr A (Ne.2 8).toNat) (Cr.2 3).toNat) (hcf) (hok2_12) (hT2_12) (by rw [kl1, kc1]; exact hnow) (by omega)) (gdV uM_X6_101 uI_X6_setOut uS_X6_setOut uN_X6 uC_X6_setOut) (by decide +kernel) rfl ⟨by omega, by omega⟩ ⟨by omega, by omega⟩ (Nat.le_of_ble_eq_true rfl) [0, 1, 2, 3, 4, 5, 6, 7, 8, 9, 10, 11, 12, 13, 14, 15, 16, 17, 18, 19, 20, 21, 22, 23, 24] rfl (by decide) rfl rfl rfl rfl dX6_driveAnHour_16 (fun r w2 gc_16 gs_16 hp => ?_)
  obtain ⟨T2_16, Sq2_16, Cq2_16, rfl, rfl, rfl, rfl, hT2_16, hok2_16, hgone_16, hmp2_16⟩ := hp
  refine z_ws (ws2 := [(h, .inr (6, [.ref (a 0), .ref (a 1), .ref (a 2), .ref (a 3), .ref (a 5), .ref (a 6), .ref (a 7), .ref (a 8), .ref (a 9), .ref (a 10), .ref (a 11), vZ (T2_16.2 12), vZ (T2_16.2 13), vZ (T2_16.2 14), vZ (T2_16.2 15)])), ((a 5), .inl (K.1, 8, .inl (ar (T2_16.1 5)))), ((a 6), .inl (K.1, 8, .inl (ar (T2_16.1 6)))), ((a 7), .inl (K.1, 8, .inl (ar (T2_16.1 7)))), ((a 8), .inl (K.1, 10, .inl (ar (T2_16.1 8)))), ((a 9), .inl (K.1, 10, .inl (ar (T2_16.1 9)))), ((a 10), .inl (K.1, 10, .inl (ar (T2_16.1 10)))), ((a 11), .inl (K.1, 16, .inl (ar (T2_16.1 11)))), ((a 3), .inr (2, [.ref (a2_4 0), .ref (a2_4 1), .ref (a2_4 2), .ref (a2_4 3), .ref (a2_4 4), .ref (a2_4 5), .ref (a2_4 6), vZ (Sq2_16.2 7), vZ (Sq2_16.2 8)])), ((a2_4 0), .inl (K.1, 32, .inl (ar (Sq2_16.1 0)))), ((a2_4 1), .inl (K.1, 32, .inl (ar (Sq2_16.1 1)))), ((a2_4 2), .inl (K.1, 32, .inl (ar (Sq2_16.1 2)))), ((a2_4 3), .inl (K.1, N2_4, .inl (ar (Sq2_16.1 3)))), ((a2_4 4), .inl (K.1, N2_4, .inl (ar (Sq2_16.1 4)))), ((a2_4 5), .inl (K.1, N2_4, .inl (ar (Sq2_16.1 5)))), ((a2_4 6), .inl (K.1, N2_4, .inl (ar (Sq2_16.1 6)))), ((a 1), .inr (4, [.ref (an 0), .ref (an 1), .ref (an 2), .ref (an 3), .ref (an 4), .ref (an 5), .ref (an 6), .ref (an 7), vZ (Ne.2 8)])), ((an 0), .inl (K.1, 16, .inl (ar (Ne.1 0)))), ((an 1), .inl (K.1, 16, .inl (ar (Ne.1 1)))), ((an 2), .inl (K.1, 16, .inl (ar (Ne.1 2)))), ((an 3), .inl (K.1, 16, .inl (ar (Ne.1 3)))), ((an 4), .inl (K.1, 16, .inl (ar (Ne.1 4)))), ((an 5), .inl (K.1, 16, .inl (ar (Ne.1 5)))), ((an 6), .inl (K.1, 100, .inl (ar (Ne.1 6)))), ((an 7), .inl (K.1, 100, .inl (ar (Ne.1 7)))), ((a 2), .inr (0, [.ref (ac 0), .ref (ac 1), .ref (ac 2), vZ (Cr.2 3), vZ (Cr.2 4)])), ((ac 0), .inl (K.1, 8, .inl (ar (Cr.1 0)))), ((ac 1), .inl (K.1, 8, .inl (ar (Cr.1 1)))), ((ac 2), .inl (K.1, 8, .inl (ar (Cr.1 2))))]) rfl ?_
  refine z_st (st2 := []) rfl ?_
  have e1 : oc Cr (aCome Ne Cr A (Ne.2 8).toNat) = oc Cr A := by unfold oc; rw [kc3]
  have e2 : oc Cr (aDrive Ne Cr A) = oc Cr (aLet Ne Cr (aCome Ne Cr A (Ne.2 8).toNat) (Cr.2 3).toNat) := by show smI ((aOut Ne (aLet Ne Cr (aCome Ne Cr A (Ne.2 8).toNat) (Cr.2 3).toNat) (Ne.2 8).toNat).1 1) 0 _ = _; rw [(aOut_keep Ne (aLet Ne Cr (aCome Ne Cr A (Ne.2 8).toNat) (Cr.2 3).toNat) (Ne.2 8).toNat).1]; rfl
  refine z_vret ZC ZE dX6_driveAnHour_19 (by omega) (by omega) (Nat.le_of_ble_eq_true rfl) ⟨T2_16, a2_4, N2_4, Sq2_16, Cq2_16, rfl, rfl, ?_, ?_, ?_, ?_, ?_, ?_, ?_⟩
  · skip
    exact hT2_16
  · skip
    exact hok2_16
  · skip
    exact hgone_16
  · skip
    omega
  · skip
    omega
  · skip
    omega
  · skip
    omega

