/-! ===== Traffic: cars come to towns ===== -/
theorem dec_lt {i N : Int} {n : Nat} (h : (N - i).toNat < n + 1) (hi : i < N) : (N - (i + 1)).toNat < n := by omega
theorem fd_mem : ∀ {l : List Pt3} {q : Pt3}, q ∈ l → 1 ≤ q.2.1 → (q.1, q.2.2) ∈ fd l
  | p :: l, q, h, h1 => by
    rcases List.mem_cons.mp h with e | e
    · subst e
      exact List.mem_append_left _ (List.mem_replicate.mpr ⟨by omega, rfl⟩)
    · exact List.mem_append_right _ (fd_mem e h1)
theorem fq_mem : ∀ {l : List Pt3} {q : Pt3}, q ∈ l → 1 ≤ q.2.1 → q.1 ∈ fq l
  | p :: l, q, h, h1 => by
    rcases List.mem_cons.mp h with e | e
    · subst e
      exact List.mem_append_left _ (List.mem_replicate.mpr ⟨by omega, rfl⟩)
    · exact List.mem_append_right _ (fq_mem e h1)
theorem tr_dv {Ne Cr : Bd} {B : Nat} {T : Bd} {Nq : Nat} {Sq : Bd} {Cq : Int → List Pt3} {A : Ab} (hcf : Cfg Ne Cr) (hok : AOK Ne Cr A) (h : TrR Ne Cr B T Nq Sq Cq A) {r : Int} (h1 : 0 ≤ r) (h2 : r < 16) : (∀ q ∈ Cq (16 + r), 0 ≤ q.1 ∧ q.1 < 8 ∧ 0 ≤ q.2.2 ∧ q.2.2 ≤ 300) ∧ (∀ q ∈ Cq r, 0 ≤ q.1 ∧ q.1 < 8 ∧ q.2.2 = 0) := by
  have g := h.2.1 r h1 h2
  have k := hok.1 r h1 h2
  have c8 := hcf.2.1
  refine ⟨fun q hq => ?_, fun q hq => ?_⟩
  · have m := fd_mem hq (lo_pos h.1 (r := 16 + r) ⟨by omega, by omega⟩ q hq)
    rw [g.2.1] at m
    have z := k.2.2 _ m
    exact ⟨z.1, by have := z.2.1; omega, z.2.2.2⟩
  · have m := fq_mem hq (lo_pos h.1 (r := r) ⟨h1, by omega⟩ q hq)
    rw [g.1] at m
    have z := k.2.1 _ m
    exact ⟨z.1, by have := z.2.1; omega, g.2.2 q hq⟩
theorem aCome_next {Ne Cr : Bd} {A : Ab} {r : Int} (h : 0 ≤ r) : aCome Ne Cr A (r + 1).toNat = aCome1 Ne Cr r (aCome Ne Cr A r.toNat) := by
  rw [show (r + 1).toNat = r.toNat + 1 by omega]
  show aCome1 Ne Cr ((r.toNat : Nat) : Int) _ = _
  rw [show ((r.toNat : Nat) : Int) = r by omega]

set_option maxHeartbeats 4000000 in
set_option maxRecDepth 100000 in
theorem c_X6_comeToTowns (zl : Launch) (D : va_G) (K : tyK) (h : Nat) (a : Nat → Nat) (T : Bd) (aq : Nat → Nat) (Nq : Nat) (Sq : Bd) (an : Nat → Nat) (Ne : Bd) (ac : Nat → Nat) (Cr : Bd) (B : Nat) (mp : Nat) (Cq : Int → List Pt3) (A : Ab) (hcf : Cfg Ne Cr) (hok : AOK Ne Cr A) (hT : TrR Ne Cr B T Nq Sq Cq A) (hnow : 0 ≤ A.2.1 0 ∧ A.2.1 0 ≤ 200) (hmp : lns Cq 32 ≤ mp ∧ mp + 1 ≤ B ∧ mp + 1 ≤ Nq ∧ B ≤ 4000) : Mz zl yX6_comeToTowns cX6_comeToTowns 7 (none) 3 71 0 0 D K [.ref h] ((wTr K h a T) ++ (wLn K (a 3) aq Nq Sq) ++ (wNe K (a 1) an Ne) ++ (wCr K (a 2) ac Cr)) (fun r_ w2_ gc gs => ∃ (T2 : Bd), ∃ (Sq2 : Bd), ∃ (Cq2 : Int → List Pt3), r_ = none ∧ w2_ = ((wTr K h a T2) ++ (wLn K (a 3) aq Nq Sq2) ++ (wNe K (a 1) an Ne) ++ (wCr K (a 2) ac Cr)) ∧ gc = 0 ∧ gs = 0 ∧ (TrR Ne Cr B T2 Nq Sq2 Cq2 (aCome Ne Cr A (Ne.2 8).toNat)) ∧ (AOK Ne Cr (aCome Ne Cr A (Ne.2 8).toNat)) ∧ ((aCome Ne Cr A (Ne.2 8).toNat).2.1 = A.2.1) ∧ (lns Cq2 32 ≤ mp)) := by
  refine Mz.ofZ (by decide) rfl (Nat.le_of_ble_eq_true rfl) ?_
  intro zp ze zR zs zm zargs zbelow zmeth zc zA zQ ZC ZE hRf hRc hRs hRl
  have hc1 := hcf.1
  refine z_iconst ZC dX6_comeToTowns_0 ?_
  refine z_istore_n ZC 1 dX6_comeToTowns_1 rfl (by decide) ?_
  have lp_2 : ∀ (n_2 : Nat) (r : Int) (T1 : Bd) (Sq1 : Bd) (Cq1 : Int → List Pt3) (A1 : Ab), (0 ≤ r ∧ r ≤ Ne.2 8) → (TrR Ne Cr B T1 Nq Sq1 Cq1 A1) → (AOK Ne Cr A1) → (A1.2.1 = A.2.1) → (lns Cq1 32 ≤ mp) → (A1 = aCome Ne Cr A r.toNat) → ((Ne.2 8 - r).toNat) < n_2 → Zw zp zl ze zR zs zm zargs zbelow zmeth zc D zA 7 zQ 0 0 ([(h, .inr (6, [.ref (a 0), .ref (a 1), .ref (a 2), .ref (a 3), .ref (a 5), .ref (a 6), .ref (a 7), .ref (a 8), .ref (a 9), .ref (a 10), .ref (a 11), vZ (T1.2 12), vZ (T1.2 13), vZ (T1.2 14), vZ (T1.2 15)])), ((a 5), .inl (K.1, 8, .inl (ar (T1.1 5)))), ((a 6), .inl (K.1, 8, .inl (ar (T1.1 6)))), ((a 7), .inl (K.1, 8, .inl (ar (T1.1 7)))), ((a 8), .inl (K.1, 10, .inl (ar (T1.1 8)))), ((a 9), .inl (K.1, 10, .inl (ar (T1.1 9)))), ((a 10), .inl (K.1, 10, .inl (ar (T1.1 10)))), ((a 11), .inl (K.1, 16, .inl (ar (T1.1 11)))), ((a 3), .inr (2, [.ref (aq 0), .ref (aq 1), .ref (aq 2), .ref (aq 3), .ref (aq 4), .ref (aq 5), .ref (aq 6), vZ (Sq1.2 7), vZ (Sq1.2 8)])), ((aq 0), .inl (K.1, 32, .inl (ar (Sq1.1 0)))), ((aq 1), .inl (K.1, 32, .inl (ar (Sq1.1 1)))), ((aq 2), .inl (K.1, 32, .inl (ar (Sq1.1 2)))), ((aq 3), .inl (K.1, Nq, .inl (ar (Sq1.1 3)))), ((aq 4), .inl (K.1, Nq, .inl (ar (Sq1.1 4)))), ((aq 5), .inl (K.1, Nq, .inl (ar (Sq1.1 5)))), ((aq 6), .inl (K.1, Nq, .inl (ar (Sq1.1 6)))), ((a 1), .inr (4, [.ref (an 0), .ref (an 1), .ref (an 2), .ref (an 3), .ref (an 4), .ref (an 5), .ref (an 6), .ref (an 7), vZ (Ne.2 8)])), ((an 0), .inl (K.1, 16, .inl (ar (Ne.1 0)))), ((an 1), .inl (K.1, 16, .inl (ar (Ne.1 1)))), ((an 2), .inl (K.1, 16, .inl (ar (Ne.1 2)))), ((an 3), .inl (K.1, 16, .inl (ar (Ne.1 3)))), ((an 4), .inl (K.1, 16, .inl (ar (Ne.1 4)))), ((an 5), .inl (K.1, 16, .inl (ar (Ne.1 5)))), ((an 6), .inl (K.1, 100, .inl (ar (Ne.1 6)))), ((an 7), .inl (K.1, 100, .inl (ar (Ne.1 7)))), ((a 2), .inr (0, [.ref (ac 0), .ref (ac 1), .ref (ac 2), vZ (Cr.2 3), vZ (Cr.2 4)])), ((ac 0), .inl (K.1, 8, .inl (ar (Cr.1 0)))), ((ac 1), .inl (K.1, 8, .inl (ar (Cr.1 1)))), ((ac 2), .inl (K.1, 8, .inl (ar (Cr.1 2))))]) 2 [(0, .ref h), (1, vZ r)] [] := by
    intro n_2
    induction n_2 with
    | zero => intro r T1 Sq1 Cq1 A1 hr i1 i2 i3 i4 i5 hm_2; exact absurd hm_2 (Nat.not_lt_zero _)
    | succ n_2 ih_2 =>
      intro r T1 Sq1 Cq1 A1 hr i1 i2 i3 i4 i5 hm_2
      refine z_iload_n ZC 1 dX6_comeToTowns_2 rfl rfl ?_
      refine z_aload_n ZC 0 dX6_comeToTowns_3 rfl rfl ?_
      refine z_get ZC inUX6 0 rfl rfl 1 (by decide) uF_X6_48 rfl dX6_comeToTowns_4 ?_
      refine z_get ZC inUX4 16 rfl rfl 8 (by decide) uF_X6_84 rfl dX6_comeToTowns_7 ?_
      refine z_icmp_ge ZC 141 dX6_comeToTowns_10 (by decide) (by omega) (by omega) (fun c_10 => ?_) (fun c_10 => ?_)
      · skip
        have hre : r = Ne.2 8 := by omega
        subst i5
        rw [hre] at i1 i2 i3
        refine z_vret ZC ZE dX6_comeToTowns_141 (by omega) (by omega) (Nat.le_of_ble_eq_true rfl) ⟨T1, Sq1, Cq1, rfl, rfl, by omega, by omega, ?_, ?_, ?_, ?_⟩
        · skip
          exact i1
        · skip
          exact i2
        · skip
          exact i3
        · skip
          exact i4
      · skip
        have hatr := (hcf.2.2.1 r (by omega) (by omega)).2.1
        refine z_iload_n ZC 1 dX6_comeToTowns_13 rfl rfl ?_
        refine z_callS ZC 1 (c_X2_driveOf zl D K r ) (gdS uM_X6_81 uZ_X2_driveOf uN_X2 uC_X2_driveOf) (by decide +kernel) rfl ⟨by omega, by omega⟩ ⟨by omega, by omega⟩ (Nat.le_of_ble_eq_true rfl) [] rfl (by decide) rfl dX6_comeToTowns_14 (fun r w2 gc_14 gs_14 hp => ?_)
        obtain ⟨rfl, rfl, rfl, rfl⟩ := hp
        refine z_st (st2 := [vZ (16 + r)]) rfl ?_
        refine z_istore_n ZC 2 dX6_comeToTowns_17 rfl (by decide) ?_
        refine z_aload_n ZC 0 dX6_comeToTowns_18 rfl rfl ?_
        refine z_get ZC inUX6 0 rfl rfl 1 (by decide) uF_X6_48 rfl dX6_comeToTowns_19 ?_
        refine z_get ZC inUX4 16 rfl rfl 1 (by decide) uF_X6_126 rfl dX6_comeToTowns_22 ?_
        refine z_iload_n ZC 1 dX6_comeToTowns_25 rfl rfl ?_
        refine z_iald ZC 18 rfl dX6_comeToTowns_26 (by omega) ?_
        refine z_istore_n ZC 3 dX6_comeToTowns_27 rfl (by decide) ?_
        refine z_iconst ZC dX6_comeToTowns_28 ?_
        refine z_istore ZC dX6_comeToTowns_29 (by decide) ?_
        have lp_31 : ∀ (n_31 : Nat) (i : Int) (T1b : Bd) (Sq1b : Bd) (Cq1b : Int → List Pt3) (A1b : Ab), (0 ≤ i ∧ i + (Cq1b (16 + r)).length ≤ 4000) → (TrR Ne Cr B T1b Nq Sq1b Cq1b A1b) → (AOK Ne Cr A1b) → (A1b.2.1 = A.2.1) → (lns Cq1b 32 ≤ mp) → (aCome1 Ne Cr r A1b = aCome1 Ne Cr r A1) → ((4096 - i).toNat) < n_31 → Zw zp zl ze zR zs zm zargs zbelow zmeth zc D zA 7 zQ (0 + 0) (0 + 0) ([(h, .inr (6, [.ref (a 0), .ref (a 1), .ref (a 2), .ref (a 3), .ref (a 5), .ref (a 6), .ref (a 7), .ref (a 8), .ref (a 9), .ref (a 10), .ref (a 11), vZ (T1b.2 12), vZ (T1b.2 13), vZ (T1b.2 14), vZ (T1b.2 15)])), ((a 5), .inl (K.1, 8, .inl (ar (T1b.1 5)))), ((a 6), .inl (K.1, 8, .inl (ar (T1b.1 6)))), ((a 7), .inl (K.1, 8, .inl (ar (T1b.1 7)))), ((a 8), .inl (K.1, 10, .inl (ar (T1b.1 8)))), ((a 9), .inl (K.1, 10, .inl (ar (T1b.1 9)))), ((a 10), .inl (K.1, 10, .inl (ar (T1b.1 10)))), ((a 11), .inl (K.1, 16, .inl (ar (T1b.1 11)))), ((a 3), .inr (2, [.ref (aq 0), .ref (aq 1), .ref (aq 2), .ref (aq 3), .ref (aq 4), .ref (aq 5), .ref (aq 6), vZ (Sq1b.2 7), vZ (Sq1b.2 8)])), ((aq 0), .inl (K.1, 32, .inl (ar (Sq1b.1 0)))), ((aq 1), .inl (K.1, 32, .inl (ar (Sq1b.1 1)))), ((aq 2), .inl (K.1, 32, .inl (ar (Sq1b.1 2)))), ((aq 3), .inl (K.1, Nq, .inl (ar (Sq1b.1 3)))), ((aq 4), .inl (K.1, Nq, .inl (ar (Sq1b.1 4)))), ((aq 5), .inl (K.1, Nq, .inl (ar (Sq1b.1 5)))), ((aq 6), .inl (K.1, Nq, .inl (ar (Sq1b.1 6)))), ((a 1), .inr (4, [.ref (an 0), .ref (an 1), .ref (an 2), .ref (an 3), .ref (an 4), .ref (an 5), .ref (an 6), .ref (an 7), vZ (Ne.2 8)])), ((an 0), .inl (K.1, 16, .inl (ar (Ne.1 0)))), ((an 1), .inl (K.1, 16, .inl (ar (Ne.1 1)))), ((an 2), .inl (K.1, 16, .inl (ar (Ne.1 2)))), ((an 3), .inl (K.1, 16, .inl (ar (Ne.1 3)))), ((an 4), .inl (K.1, 16, .inl (ar (Ne.1 4)))), ((an 5), .inl (K.1, 16, .inl (ar (Ne.1 5)))), ((an 6), .inl (K.1, 100, .inl (ar (Ne.1 6)))), ((an 7), .inl (K.1, 100, .inl (ar (Ne.1 7)))), ((a 2), .inr (0, [.ref (ac 0), .ref (ac 1), .ref (ac 2), vZ (Cr.2 3), vZ (Cr.2 4)])), ((ac 0), .inl (K.1, 8, .inl (ar (Cr.1 0)))), ((ac 1), .inl (K.1, 8, .inl (ar (Cr.1 1)))), ((ac 2), .inl (K.1, 8, .inl (ar (Cr.1 2))))]) 31 [(0, .ref h), (1, vZ r), (2, vZ (16 + r)), (3, vZ ((Ne.1 1) r)), (4, vZ i)] [] := by
          intro n_31
          induction n_31 with
          | zero => intro i T1b Sq1b Cq1b A1b hi i1b i2b i3b i4b i5b hm_31; exact absurd hm_31 (Nat.not_lt_zero _)
          | succ n_31 ih_31 =>
            intro i T1b Sq1b Cq1b A1b hi i1b i2b i3b i4b i5b hm_31
            refine z_iload ZC dX6_comeToTowns_31 rfl ?_
            refine z_sipush ZC dX6_comeToTowns_33 (by decide) ?_
            refine z_icmp_ge ZC 135 dX6_comeToTowns_36 (by decide) (by omega) (by omega) (fun c_36 => ?_) (fun c_36 => ?_)
            · skip
              omega
            · skip
              have hG1 := lo_rng i1b.1
              have hdv := tr_dv hcf i2b i1b (r := r) (by omega) (by omega)
              have enow : T1b.2 12 = A1b.2.1 0 := i1b.2.2.2.2.1.1
              have enow2 : A1b.2.1 0 = A.2.1 0 := by rw [i3b]
              refine z_aload_n ZC 0 dX6_comeToTowns_39 rfl rfl ?_
              refine z_get ZC inUX6 0 rfl rfl 3 (by decide) uF_X6_12 rfl dX6_comeToTowns_40 ?_
              refine z_iload_n ZC 2 dX6_comeToTowns_43 rfl rfl ?_
              refine z_aload_n ZC 0 dX6_comeToTowns_44 rfl rfl ?_
              refine z_get ZC inUX6 0 rfl rfl 11 (by decide) uF_X6_56 rfl dX6_comeToTowns_45 ?_
              refine z_callV ZC 2 (c_X2_isDue zl D K (a 3) aq Nq Sq1b B Cq1b (16 + r) (T1b.2 12) (i1b.1) (by omega) (by omega) (fun q hq => by have := hdv.1 q hq; omega)) (gdV uM_X6_129 uI_X2_isDue uS_X2_isDue uN_X2 uC_X2_isDue) (by decide +kernel) rfl ⟨by omega, by omega⟩ ⟨by omega, by omega⟩ (Nat.le_of_ble_eq_true rfl) [8, 9, 10, 11, 12, 13, 14, 15] rfl (by decide) rfl rfl rfl rfl dX6_comeToTowns_48 (fun r w2 gc_48 gs_48 hp => ?_)
              obtain ⟨b_48, rfl, rfl, rfl, rfl, hb_48⟩ := hp
              refine z_ws (ws2 := [(h, .inr (6, [.ref (a 0), .ref (a 1), .ref (a 2), .ref (a 3), .ref (a 5), .ref (a 6), .ref (a 7), .ref (a 8), .ref (a 9), .ref (a 10), .ref (a 11), vZ (T1b.2 12), vZ (T1b.2 13), vZ (T1b.2 14), vZ (T1b.2 15)])), ((a 5), .inl (K.1, 8, .inl (ar (T1b.1 5)))), ((a 6), .inl (K.1, 8, .inl (ar (T1b.1 6)))), ((a 7), .inl (K.1, 8, .inl (ar (T1b.1 7)))), ((a 8), .inl (K.1, 10, .inl (ar (T1b.1 8)))), ((a 9), .inl (K.1, 10, .inl (ar (T1b.1 9)))), ((a 10), .inl (K.1, 10, .inl (ar (T1b.1 10)))), ((a 11), .inl (K.1, 16, .inl (ar (T1b.1 11)))), ((a 3), .inr (2, [.ref (aq 0), .ref (aq 1), .ref (aq 2), .ref (aq 3), .ref (aq 4), .ref (aq 5), .ref (aq 6), vZ (Sq1b.2 7), vZ (Sq1b.2 8)])), ((aq 0), .inl (K.1, 32, .inl (ar (Sq1b.1 0)))), ((aq 1), .inl (K.1, 32, .inl (ar (Sq1b.1 1)))), ((aq 2), .inl (K.1, 32, .inl (ar (Sq1b.1 2)))), ((aq 3), .inl (K.1, Nq, .inl (ar (Sq1b.1 3)))), ((aq 4), .inl (K.1, Nq, .inl (ar (Sq1b.1 4)))), ((aq 5), .inl (K.1, Nq, .inl (ar (Sq1b.1 5)))), ((aq 6), .inl (K.1, Nq, .inl (ar (Sq1b.1 6)))), ((a 1), .inr (4, [.ref (an 0), .ref (an 1), .ref (an 2), .ref (an 3), .ref (an 4), .ref (an 5), .ref (an 6), .ref (an 7), vZ (Ne.2 8)])), ((an 0), .inl (K.1, 16, .inl (ar (Ne.1 0)))), ((an 1), .inl (K.1, 16, .inl (ar (Ne.1 1)))), ((an 2), .inl (K.1, 16, .inl (ar (Ne.1 2)))), ((an 3), .inl (K.1, 16, .inl (ar (Ne.1 3)))), ((an 4), .inl (K.1, 16, .inl (ar (Ne.1 4)))), ((an 5), .inl (K.1, 16, .inl (ar (Ne.1 5)))), ((an 6), .inl (K.1, 100, .inl (ar (Ne.1 6)))), ((an 7), .inl (K.1, 100, .inl (ar (Ne.1 7)))), ((a 2), .inr (0, [.ref (ac 0), .ref (ac 1), .ref (ac 2), vZ (Cr.2 3), vZ (Cr.2 4)])), ((ac 0), .inl (K.1, 8, .inl (ar (Cr.1 0)))), ((ac 1), .inl (K.1, 8, .inl (ar (Cr.1 1)))), ((ac 2), .inl (K.1, 8, .inl (ar (Cr.1 2))))]) rfl ?_
              refine z_st (st2 := [vZ b_48]) rfl ?_
              refine z_if_eq ZC 135 dX6_comeToTowns_51 (by decide) (by omega) (fun c_51 => ?_) (fun c_51 => ?_)
              · skip
                refine z_iinc ZC dX6_comeToTowns_135 rfl (by decide) ?_
                refine z_goto ZC 2 dX6_comeToTowns_138 (by decide) ?_
                refine z_ws (ws2 := [(h, .inr (6, [.ref (a 0), .ref (a 1), .ref (a 2), .ref (a 3), .ref (a 5), .ref (a 6), .ref (a 7), .ref (a 8), .ref (a 9), .ref (a 10), .ref (a 11), vZ (T1b.2 12), vZ (T1b.2 13), vZ (T1b.2 14), vZ (T1b.2 15)])), ((a 5), .inl (K.1, 8, .inl (ar (T1b.1 5)))), ((a 6), .inl (K.1, 8, .inl (ar (T1b.1 6)))), ((a 7), .inl (K.1, 8, .inl (ar (T1b.1 7)))), ((a 8), .inl (K.1, 10, .inl (ar (T1b.1 8)))), ((a 9), .inl (K.1, 10, .inl (ar (T1b.1 9)))), ((a 10), .inl (K.1, 10, .inl (ar (T1b.1 10)))), ((a 11), .inl (K.1, 16, .inl (ar (T1b.1 11)))), ((a 3), .inr (2, [.ref (aq 0), .ref (aq 1), .ref (aq 2), .ref (aq 3), .ref (aq 4), .ref (aq 5), .ref (aq 6), vZ (Sq1b.2 7), vZ (Sq1b.2 8)])), ((aq 0), .inl (K.1, 32, .inl (ar (Sq1b.1 0)))), ((aq 1), .inl (K.1, 32, .inl (ar (Sq1b.1 1)))), ((aq 2), .inl (K.1, 32, .inl (ar (Sq1b.1 2)))), ((aq 3), .inl (K.1, Nq, .inl (ar (Sq1b.1 3)))), ((aq 4), .inl (K.1, Nq, .inl (ar (Sq1b.1 4)))), ((aq 5), .inl (K.1, Nq, .inl (ar (Sq1b.1 5)))), ((aq 6), .inl (K.1, Nq, .inl (ar (Sq1b.1 6)))), ((a 1), .inr (4, [.ref (an 0), .ref (an 1), .ref (an 2), .ref (an 3), .ref (an 4), .ref (an 5), .ref (an 6), .ref (an 7), vZ (Ne.2 8)])), ((an 0), .inl (K.1, 16, .inl (ar (Ne.1 0)))), ((an 1), .inl (K.1, 16, .inl (ar (Ne.1 1)))), ((an 2), .inl (K.1, 16, .inl (ar (Ne.1 2)))), ((an 3), .inl (K.1, 16, .inl (ar (Ne.1 3)))), ((an 4), .inl (K.1, 16, .inl (ar (Ne.1 4)))), ((an 5), .inl (K.1, 16, .inl (ar (Ne.1 5)))), ((an 6), .inl (K.1, 100, .inl (ar (Ne.1 6)))), ((an 7), .inl (K.1, 100, .inl (ar (Ne.1 7)))), ((a 2), .inr (0, [.ref (ac 0), .ref (ac 1), .ref (ac 2), vZ (Cr.2 3), vZ (Cr.2 4)])), ((ac 0), .inl (K.1, 8, .inl (ar (Cr.1 0)))), ((ac 1), .inl (K.1, 8, .inl (ar (Cr.1 1)))), ((ac 2), .inl (K.1, 8, .inl (ar (Cr.1 2))))]) rfl (z_lv (lv2 := [(0, .ref h), (1, vZ (r + 1))]) ⟨rfl, rfl, trivial⟩ ?_)
                refine ih_2 (r + 1) T1b Sq1b Cq1b A1b ?_ ?_ ?_ ?_ ?_ ?_ (dec_lt hm_2 c_10)
                · skip
                  omega
                · skip
                  exact i1b
                · skip
                  exact i2b
                · skip
                  exact i3b
                · skip
                  exact i4b
                · skip
                  rw [aCome_next hr.1, ← i5, ← i5b]
                  refine (aCome1_done ?_).symm
                  intro q l hq
                  have hfd := (i1b.2.1 r (by omega) (by omega)).2.1
                  intro hqn
                  rcases hb_48 with z | z
                  · exact absurd z.1 (by omega)
                  · apply z.2
                    cases hCd : Cq1b (16 + r) with
                    | nil => rw [hCd] at hfd; rw [hq] at hfd; cases hfd
                    | cons p l3 =>
                      refine ⟨p, l3, rfl, ?_⟩
                      have hp1 := lo_pos (r := 16 + r) i1b.1 ⟨by omega, by omega⟩ p (by rw [hCd]; exact List.mem_cons_self)
                      rw [hCd, hq] at hfd
                      obtain ⟨m, hm⟩ : ∃ m : Nat, p.2.1.toNat = m + 1 := ⟨p.2.1.toNat - 1, by omega⟩
                      have hfd2 : List.replicate p.2.1.toNat (p.1, p.2.2) ++ fd l3 = q :: l := hfd
                      rw [hm, List.replicate_succ] at hfd2
                      have := (List.cons.inj hfd2).1
                      rw [enow, ← hqn, ← this]
              · skip
                obtain ⟨⟨c, nn, dd⟩, l2, hC, hdue⟩ : ∃ (q : Pt3) (l : List Pt3), Cq1b (16 + r) = q :: l ∧ q.2.2 = T1b.2 12 := by
                  rcases hb_48 with z | z
                  · exact z.2
                  · exact absurd z.1 c_51
                have hdue : dd = A1b.2.1 0 := hdue.trans enow
                subst hdue
                have hn1 : 1 ≤ nn := lo_pos (r := 16 + r) i1b.1 ⟨by omega, by omega⟩ _ (by rw [hC]; exact List.mem_cons_self)
                have hdd : A1b.2.2.2 r = List.replicate nn.toNat (c, A1b.2.1 0) ++ fd l2 := by rw [← (i1b.2.1 r (by omega) (by omega)).2.1, hC]; rfl
                obtain ⟨⟨q1, q2, q3, -, -⟩, hle, hok9⟩ := aok_arr hcf i2b ⟨by omega, by omega⟩ (by omega) hdd
                have hcc := hcf.2.2.2.1 c q1 q2
                have hA0 := (i2b.2 c q1 q2).2.1
                have hcr := hcf.2.1
                refine z_aload_n ZC 0 dX6_comeToTowns_54 rfl rfl ?_
                refine z_get ZC inUX6 0 rfl rfl 3 (by decide) uF_X6_12 rfl dX6_comeToTowns_55 ?_
                refine z_iload_n ZC 2 dX6_comeToTowns_58 rfl rfl ?_
                refine z_callV ZC 1 (c_X2_firstCrowd zl D K (a 3) aq Nq Sq1b B Cq1b (16 + r) c nn (A1b.2.1 0) l2 (i1b.1) (⟨by omega, by omega⟩) (hC)) (gdV uM_X6_133 uI_X2_firstCrowd uS_X2_firstCrowd uN_X2 uC_X2_firstCrowd) (by decide +kernel) rfl ⟨by omega, by omega⟩ ⟨by omega, by omega⟩ (Nat.le_of_ble_eq_true rfl) [8, 9, 10, 11, 12, 13, 14, 15] rfl (by decide) rfl rfl rfl rfl dX6_comeToTowns_59 (fun r w2 gc_59 gs_59 hp => ?_)
                obtain ⟨rfl, rfl, rfl, rfl⟩ := hp
                refine z_ws (ws2 := [(h, .inr (6, [.ref (a 0), .ref (a 1), .ref (a 2), .ref (a 3), .ref (a 5), .ref (a 6), .ref (a 7), .ref (a 8), .ref (a 9), .ref (a 10), .ref (a 11), vZ (T1b.2 12), vZ (T1b.2 13), vZ (T1b.2 14), vZ (T1b.2 15)])), ((a 5), .inl (K.1, 8, .inl (ar (T1b.1 5)))), ((a 6), .inl (K.1, 8, .inl (ar (T1b.1 6)))), ((a 7), .inl (K.1, 8, .inl (ar (T1b.1 7)))), ((a 8), .inl (K.1, 10, .inl (ar (T1b.1 8)))), ((a 9), .inl (K.1, 10, .inl (ar (T1b.1 9)))), ((a 10), .inl (K.1, 10, .inl (ar (T1b.1 10)))), ((a 11), .inl (K.1, 16, .inl (ar (T1b.1 11)))), ((a 3), .inr (2, [.ref (aq 0), .ref (aq 1), .ref (aq 2), .ref (aq 3), .ref (aq 4), .ref (aq 5), .ref (aq 6), vZ (Sq1b.2 7), vZ (Sq1b.2 8)])), ((aq 0), .inl (K.1, 32, .inl (ar (Sq1b.1 0)))), ((aq 1), .inl (K.1, 32, .inl (ar (Sq1b.1 1)))), ((aq 2), .inl (K.1, 32, .inl (ar (Sq1b.1 2)))), ((aq 3), .inl (K.1, Nq, .inl (ar (Sq1b.1 3)))), ((aq 4), .inl (K.1, Nq, .inl (ar (Sq1b.1 4)))), ((aq 5), .inl (K.1, Nq, .inl (ar (Sq1b.1 5)))), ((aq 6), .inl (K.1, Nq, .inl (ar (Sq1b.1 6)))), ((a 1), .inr (4, [.ref (an 0), .ref (an 1), .ref (an 2), .ref (an 3), .ref (an 4), .ref (an 5), .ref (an 6), .ref (an 7), vZ (Ne.2 8)])), ((an 0), .inl (K.1, 16, .inl (ar (Ne.1 0)))), ((an 1), .inl (K.1, 16, .inl (ar (Ne.1 1)))), ((an 2), .inl (K.1, 16, .inl (ar (Ne.1 2)))), ((an 3), .inl (K.1, 16, .inl (ar (Ne.1 3)))), ((an 4), .inl (K.1, 16, .inl (ar (Ne.1 4)))), ((an 5), .inl (K.1, 16, .inl (ar (Ne.1 5)))), ((an 6), .inl (K.1, 100, .inl (ar (Ne.1 6)))), ((an 7), .inl (K.1, 100, .inl (ar (Ne.1 7)))), ((a 2), .inr (0, [.ref (ac 0), .ref (ac 1), .ref (ac 2), vZ (Cr.2 3), vZ (Cr.2 4)])), ((ac 0), .inl (K.1, 8, .inl (ar (Cr.1 0)))), ((ac 1), .inl (K.1, 8, .inl (ar (Cr.1 1)))), ((ac 2), .inl (K.1, 8, .inl (ar (Cr.1 2))))]) rfl ?_
                refine z_st (st2 := [vZ c]) rfl ?_
                refine z_istore ZC dX6_comeToTowns_62 (by decide) ?_
                refine z_aload_n ZC 0 dX6_comeToTowns_64 rfl rfl ?_
                refine z_get ZC inUX6 0 rfl rfl 3 (by decide) uF_X6_12 rfl dX6_comeToTowns_65 ?_
                refine z_iload_n ZC 2 dX6_comeToTowns_68 rfl rfl ?_
                refine z_callV ZC 1 (c_X2_firstCars zl D K (a 3) aq Nq Sq1b B Cq1b (16 + r) c nn (A1b.2.1 0) l2 (i1b.1) (⟨by omega, by omega⟩) (hC)) (gdV uM_X6_136 uI_X2_firstCars uS_X2_firstCars uN_X2 uC_X2_firstCars) (by decide +kernel) rfl ⟨by omega, by omega⟩ ⟨by omega, by omega⟩ (Nat.le_of_ble_eq_true rfl) [8, 9, 10, 11, 12, 13, 14, 15] rfl (by decide) rfl rfl rfl rfl dX6_comeToTowns_69 (fun r w2 gc_69 gs_69 hp => ?_)
                obtain ⟨rfl, rfl, rfl, rfl⟩ := hp
                refine z_ws (ws2 := [(h, .inr (6, [.ref (a 0), .ref (a 1), .ref (a 2), .ref (a 3), .ref (a 5), .ref (a 6), .ref (a 7), .ref (a 8), .ref (a 9), .ref (a 10), .ref (a 11), vZ (T1b.2 12), vZ (T1b.2 13), vZ (T1b.2 14), vZ (T1b.2 15)])), ((a 5), .inl (K.1, 8, .inl (ar (T1b.1 5)))), ((a 6), .inl (K.1, 8, .inl (ar (T1b.1 6)))), ((a 7), .inl (K.1, 8, .inl (ar (T1b.1 7)))), ((a 8), .inl (K.1, 10, .inl (ar (T1b.1 8)))), ((a 9), .inl (K.1, 10, .inl (ar (T1b.1 9)))), ((a 10), .inl (K.1, 10, .inl (ar (T1b.1 10)))), ((a 11), .inl (K.1, 16, .inl (ar (T1b.1 11)))), ((a 3), .inr (2, [.ref (aq 0), .ref (aq 1), .ref (aq 2), .ref (aq 3), .ref (aq 4), .ref (aq 5), .ref (aq 6), vZ (Sq1b.2 7), vZ (Sq1b.2 8)])), ((aq 0), .inl (K.1, 32, .inl (ar (Sq1b.1 0)))), ((aq 1), .inl (K.1, 32, .inl (ar (Sq1b.1 1)))), ((aq 2), .inl (K.1, 32, .inl (ar (Sq1b.1 2)))), ((aq 3), .inl (K.1, Nq, .inl (ar (Sq1b.1 3)))), ((aq 4), .inl (K.1, Nq, .inl (ar (Sq1b.1 4)))), ((aq 5), .inl (K.1, Nq, .inl (ar (Sq1b.1 5)))), ((aq 6), .inl (K.1, Nq, .inl (ar (Sq1b.1 6)))), ((a 1), .inr (4, [.ref (an 0), .ref (an 1), .ref (an 2), .ref (an 3), .ref (an 4), .ref (an 5), .ref (an 6), .ref (an 7), vZ (Ne.2 8)])), ((an 0), .inl (K.1, 16, .inl (ar (Ne.1 0)))), ((an 1), .inl (K.1, 16, .inl (ar (Ne.1 1)))), ((an 2), .inl (K.1, 16, .inl (ar (Ne.1 2)))), ((an 3), .inl (K.1, 16, .inl (ar (Ne.1 3)))), ((an 4), .inl (K.1, 16, .inl (ar (Ne.1 4)))), ((an 5), .inl (K.1, 16, .inl (ar (Ne.1 5)))), ((an 6), .inl (K.1, 100, .inl (ar (Ne.1 6)))), ((an 7), .inl (K.1, 100, .inl (ar (Ne.1 7)))), ((a 2), .inr (0, [.ref (ac 0), .ref (ac 1), .ref (ac 2), vZ (Cr.2 3), vZ (Cr.2 4)])), ((ac 0), .inl (K.1, 8, .inl (ar (Cr.1 0)))), ((ac 1), .inl (K.1, 8, .inl (ar (Cr.1 1)))), ((ac 2), .inl (K.1, 8, .inl (ar (Cr.1 2))))]) rfl ?_
                refine z_st (st2 := [vZ nn]) rfl ?_
                refine z_istore ZC dX6_comeToTowns_72 (by decide) ?_
                refine z_aload_n ZC 0 dX6_comeToTowns_74 rfl rfl ?_
                refine z_get ZC inUX6 0 rfl rfl 3 (by decide) uF_X6_12 rfl dX6_comeToTowns_75 ?_
                refine z_iload_n ZC 2 dX6_comeToTowns_78 rfl rfl ?_
                refine z_iload ZC dX6_comeToTowns_79 rfl ?_
                refine z_callV ZC 2 (c_X2_take zl D K (a 3) aq Nq Sq1b B Cq1b (16 + r) nn c nn (A1b.2.1 0) l2 (i1b.1) (⟨by omega, by omega⟩) (hC) (by omega)) (gdV uM_X6_139 uI_X2_take uS_X2_take uN_X2 uC_X2_take) (by decide +kernel) rfl ⟨by omega, by omega⟩ ⟨by omega, by omega⟩ (Nat.le_of_ble_eq_true rfl) [8, 9, 10, 11, 12, 13, 14, 15] rfl (by decide) rfl rfl rfl rfl dX6_comeToTowns_81 (fun r w2 gc_81 gs_81 hp => ?_)
                obtain ⟨S2_81, rfl, rfl, rfl, rfl, hO2_81⟩ := hp
                refine z_ws (ws2 := [(h, .inr (6, [.ref (a 0), .ref (a 1), .ref (a 2), .ref (a 3), .ref (a 5), .ref (a 6), .ref (a 7), .ref (a 8), .ref (a 9), .ref (a 10), .ref (a 11), vZ (T1b.2 12), vZ (T1b.2 13), vZ (T1b.2 14), vZ (T1b.2 15)])), ((a 5), .inl (K.1, 8, .inl (ar (T1b.1 5)))), ((a 6), .inl (K.1, 8, .inl (ar (T1b.1 6)))), ((a 7), .inl (K.1, 8, .inl (ar (T1b.1 7)))), ((a 8), .inl (K.1, 10, .inl (ar (T1b.1 8)))), ((a 9), .inl (K.1, 10, .inl (ar (T1b.1 9)))), ((a 10), .inl (K.1, 10, .inl (ar (T1b.1 10)))), ((a 11), .inl (K.1, 16, .inl (ar (T1b.1 11)))), ((a 3), .inr (2, [.ref (aq 0), .ref (aq 1), .ref (aq 2), .ref (aq 3), .ref (aq 4), .ref (aq 5), .ref (aq 6), vZ (S2_81.2 7), vZ (S2_81.2 8)])), ((aq 0), .inl (K.1, 32, .inl (ar (S2_81.1 0)))), ((aq 1), .inl (K.1, 32, .inl (ar (S2_81.1 1)))), ((aq 2), .inl (K.1, 32, .inl (ar (S2_81.1 2)))), ((aq 3), .inl (K.1, Nq, .inl (ar (S2_81.1 3)))), ((aq 4), .inl (K.1, Nq, .inl (ar (S2_81.1 4)))), ((aq 5), .inl (K.1, Nq, .inl (ar (S2_81.1 5)))), ((aq 6), .inl (K.1, Nq, .inl (ar (S2_81.1 6)))), ((a 1), .inr (4, [.ref (an 0), .ref (an 1), .ref (an 2), .ref (an 3), .ref (an 4), .ref (an 5), .ref (an 6), .ref (an 7), vZ (Ne.2 8)])), ((an 0), .inl (K.1, 16, .inl (ar (Ne.1 0)))), ((an 1), .inl (K.1, 16, .inl (ar (Ne.1 1)))), ((an 2), .inl (K.1, 16, .inl (ar (Ne.1 2)))), ((an 3), .inl (K.1, 16, .inl (ar (Ne.1 3)))), ((an 4), .inl (K.1, 16, .inl (ar (Ne.1 4)))), ((an 5), .inl (K.1, 16, .inl (ar (Ne.1 5)))), ((an 6), .inl (K.1, 100, .inl (ar (Ne.1 6)))), ((an 7), .inl (K.1, 100, .inl (ar (Ne.1 7)))), ((a 2), .inr (0, [.ref (ac 0), .ref (ac 1), .ref (ac 2), vZ (Cr.2 3), vZ (Cr.2 4)])), ((ac 0), .inl (K.1, 8, .inl (ar (Cr.1 0)))), ((ac 1), .inl (K.1, 8, .inl (ar (Cr.1 1)))), ((ac 2), .inl (K.1, 8, .inl (ar (Cr.1 2))))]) rfl ?_
                refine z_st (st2 := []) rfl ?_
                have htk : tk3 c nn (A1b.2.1 0) l2 nn = l2 := if_neg (by omega)
                rw [htk] at hO2_81
                have u1 := lns_up (P := Cq1b) (r := 16 + r) (l := l2) (n := 32) (by omega) (by omega)
                rw [hC] at u1
                simp only [List.length_cons] at u1
                refine z_aload_n ZC 0 dX6_comeToTowns_84 rfl rfl ?_
                refine z_get ZC inUX6 0 rfl rfl 7 (by decide) uF_X6_28 rfl dX6_comeToTowns_85 ?_
                refine z_iload_n ZC 3 dX6_comeToTowns_88 rfl rfl ?_
                refine z_dup2 ZC dX6_comeToTowns_89 rfl rfl ?_
                refine z_iald ZC 4 rfl dX6_comeToTowns_90 (by omega) ?_
                refine z_iload ZC dX6_comeToTowns_91 rfl ?_
                refine z_iadd ZC dX6_comeToTowns_93 ?_
                refine z_iast ZC 4 rfl dX6_comeToTowns_94 (by omega) ?_
                refine z_iload_n ZC 3 dX6_comeToTowns_95 rfl rfl ?_
                refine z_aload_n ZC 0 dX6_comeToTowns_96 rfl rfl ?_
                refine z_get ZC inUX6 0 rfl rfl 2 (by decide) uF_X6_52 rfl dX6_comeToTowns_97 ?_
                refine z_get ZC inUX0 25 rfl rfl 2 (by decide) uF_X6_143 rfl dX6_comeToTowns_100 ?_
                refine z_iload ZC dX6_comeToTowns_103 rfl ?_
                refine z_iald ZC 28 rfl dX6_comeToTowns_105 (by omega) ?_
                refine z_icmp_ne ZC 120 dX6_comeToTowns_106 (by decide) (by omega) (by omega) (fun c_106 => ?_) (fun c_106 => ?_)
                · skip
                  refine z_aload_n ZC 0 dX6_comeToTowns_120 rfl rfl ?_
                  refine z_iload_n ZC 3 dX6_comeToTowns_121 rfl rfl ?_
                  refine z_iload ZC dX6_comeToTowns_122 rfl ?_
                  refine z_iload ZC dX6_comeToTowns_124 rfl ?_
                  refine z_ws (ws2 := [(h, .inr (6, [.ref (a 0), .ref (a 1), .ref (a 2), .ref (a 3), .ref (a 5), .ref (a 6), .ref (a 7), .ref (a 8), .ref (a 9), .ref (a 10), .ref (a 11), vZ (T1b.2 12), vZ (T1b.2 13), vZ (T1b.2 14), vZ (T1b.2 15)])), ((a 5), .inl (K.1, 8, .inl (ar (T1b.1 5)))), ((a 6), .inl (K.1, 8, .inl (ar (T1b.1 6)))), ((a 7), .inl (K.1, 8, .inl (ar (T1b.1 7)))), ((a 8), .inl (K.1, 10, .inl (ar (upz (T1b.1 8) ((Ne.1 1) r) (((T1b.1 8) ((Ne.1 1) r)) + nn))))), ((a 9), .inl (K.1, 10, .inl (ar (T1b.1 9)))), ((a 10), .inl (K.1, 10, .inl (ar (T1b.1 10)))), ((a 11), .inl (K.1, 16, .inl (ar (T1b.1 11)))), ((a 3), .inr (2, [.ref (aq 0), .ref (aq 1), .ref (aq 2), .ref (aq 3), .ref (aq 4), .ref (aq 5), .ref (aq 6), vZ (S2_81.2 7), vZ (S2_81.2 8)])), ((aq 0), .inl (K.1, 32, .inl (ar (S2_81.1 0)))), ((aq 1), .inl (K.1, 32, .inl (ar (S2_81.1 1)))), ((aq 2), .inl (K.1, 32, .inl (ar (S2_81.1 2)))), ((aq 3), .inl (K.1, Nq, .inl (ar (S2_81.1 3)))), ((aq 4), .inl (K.1, Nq, .inl (ar (S2_81.1 4)))), ((aq 5), .inl (K.1, Nq, .inl (ar (S2_81.1 5)))), ((aq 6), .inl (K.1, Nq, .inl (ar (S2_81.1 6)))), ((a 1), .inr (4, [.ref (an 0), .ref (an 1), .ref (an 2), .ref (an 3), .ref (an 4), .ref (an 5), .ref (an 6), .ref (an 7), vZ (Ne.2 8)])), ((an 0), .inl (K.1, 16, .inl (ar (Ne.1 0)))), ((an 1), .inl (K.1, 16, .inl (ar (Ne.1 1)))), ((an 2), .inl (K.1, 16, .inl (ar (Ne.1 2)))), ((an 3), .inl (K.1, 16, .inl (ar (Ne.1 3)))), ((an 4), .inl (K.1, 16, .inl (ar (Ne.1 4)))), ((an 5), .inl (K.1, 16, .inl (ar (Ne.1 5)))), ((an 6), .inl (K.1, 100, .inl (ar (Ne.1 6)))), ((an 7), .inl (K.1, 100, .inl (ar (Ne.1 7)))), ((a 2), .inr (0, [.ref (ac 0), .ref (ac 1), .ref (ac 2), vZ (Cr.2 3), vZ (Cr.2 4)])), ((ac 0), .inl (K.1, 8, .inl (ar (Cr.1 0)))), ((ac 1), .inl (K.1, 8, .inl (ar (Cr.1 1)))), ((ac 2), .inl (K.1, 8, .inl (ar (Cr.1 2))))]) rfl ?_
                  have hy_ht_126_0 : 0 ≤ ((Ne.1 1) r) ∧ ((Ne.1 1) r) < 10 := hatr
                  have hy_hw_126_0 : 0 ≤ c ∧ c < 8 := ⟨q1, by omega⟩
                  have hy_hh_126_0 : 0 ≤ Cr.1 2 c ∧ Cr.1 2 c < 10 := hcc.2.1
                  have hy_hO_126_0 : LnO Nq B S2_81 (upL Cq1b (16 + r) l2) [] := hO2_81
                  have hy_hB_126_0 : lns (upL Cq1b (16 + r) l2) 32 + 1 ≤ B ∧ lns (upL Cq1b (16 + r) l2) 32 + 1 ≤ Nq ∧ B ≤ 4096 := by omega
                  have hy_hm_126_0 : 1 ≤ nn := hn1
                  have hy_hv_126_0 : ∀ jj : Int, 0 ≤ jj → jj < 16 → ∀ q ∈ (upL Cq1b (16 + r) l2) jj, (-1 ≤ q.1 ∧ q.1 ≤ 10000) ∧ (-1 ≤ q.2.2 ∧ q.2.2 ≤ 10000) := fun j h1 h2 q hq => by rw [upL_ne _ _ (by omega)] at hq; have := (tr_dv hcf i2b i1b h1 h2).2 q hq; omega
                  have hy_hy_126_0 : 0 ≤ (Ne.1 7 (((Ne.1 1) r) * 10 + Cr.1 2 c)) ∧ (Ne.1 7 (((Ne.1 1) r) * 10 + Cr.1 2 c)) < 16 := by have := (cfg_way hcf hatr q1 q2 q3 c_106).1; exact ⟨this.1, this.2.2⟩
                  refine z_callV ZC 3 (c_X6_queueUp zl D K h a ((upf T1b.1 8 (upz (T1b.1 8) ((Ne.1 1) r) (((T1b.1 8) ((Ne.1 1) r)) + nn))), T1b.2) aq Nq S2_81 an Ne ac Cr B (upL Cq1b (16 + r) l2) ((Ne.1 1) r) c nn (hy_ht_126_0) (hy_hw_126_0) (hy_hh_126_0) (hy_hO_126_0) (hy_hB_126_0) (hy_hm_126_0) (hy_hv_126_0) (hy_hy_126_0)) (gdV uM_X6_149 uI_X6_queueUp uS_X6_queueUp uN_X6 uC_X6_queueUp) (by decide +kernel) rfl ⟨by omega, by omega⟩ ⟨by omega, by omega⟩ (Nat.le_of_ble_eq_true rfl) [0, 1, 2, 3, 4, 5, 6, 7, 8, 9, 10, 11, 12, 13, 14, 15, 16, 17, 18, 19, 20, 21, 22, 23, 24, 25, 26, 27, 28] rfl (by decide) rfl rfl rfl rfl dX6_comeToTowns_126 (fun r w2 gc_126 gs_126 hp => ?_)
                  obtain ⟨Sq2_126, rfl, rfl, rfl, rfl, hO2_126⟩ := hp
                  have hO2_126 : LnO Nq B Sq2_126 (upL (upL Cq1b (16 + r) l2) (Ne.1 7 (((Ne.1 1) r) * 10 + Cr.1 2 c)) (ap3 ((upL Cq1b (16 + r) l2) (Ne.1 7 (((Ne.1 1) r) * 10 + Cr.1 2 c))) c nn 0)) [] := hO2_126
                  obtain ⟨w1, -, -⟩ := cfg_way hcf hatr q1 q2 q3 c_106
                  refine z_ws (ws2 := [(h, .inr (6, [.ref (a 0), .ref (a 1), .ref (a 2), .ref (a 3), .ref (a 5), .ref (a 6), .ref (a 7), .ref (a 8), .ref (a 9), .ref (a 10), .ref (a 11), vZ (T1b.2 12), vZ (T1b.2 13), vZ (T1b.2 14), vZ (T1b.2 15)])), ((a 5), .inl (K.1, 8, .inl (ar (T1b.1 5)))), ((a 6), .inl (K.1, 8, .inl (ar (T1b.1 6)))), ((a 7), .inl (K.1, 8, .inl (ar (T1b.1 7)))), ((a 8), .inl (K.1, 10, .inl (ar (upz (T1b.1 8) ((Ne.1 1) r) (((T1b.1 8) ((Ne.1 1) r)) + nn))))), ((a 9), .inl (K.1, 10, .inl (ar (T1b.1 9)))), ((a 10), .inl (K.1, 10, .inl (ar (T1b.1 10)))), ((a 11), .inl (K.1, 16, .inl (ar (T1b.1 11)))), ((a 3), .inr (2, [.ref (aq 0), .ref (aq 1), .ref (aq 2), .ref (aq 3), .ref (aq 4), .ref (aq 5), .ref (aq 6), vZ (Sq2_126.2 7), vZ (Sq2_126.2 8)])), ((aq 0), .inl (K.1, 32, .inl (ar (Sq2_126.1 0)))), ((aq 1), .inl (K.1, 32, .inl (ar (Sq2_126.1 1)))), ((aq 2), .inl (K.1, 32, .inl (ar (Sq2_126.1 2)))), ((aq 3), .inl (K.1, Nq, .inl (ar (Sq2_126.1 3)))), ((aq 4), .inl (K.1, Nq, .inl (ar (Sq2_126.1 4)))), ((aq 5), .inl (K.1, Nq, .inl (ar (Sq2_126.1 5)))), ((aq 6), .inl (K.1, Nq, .inl (ar (Sq2_126.1 6)))), ((a 1), .inr (4, [.ref (an 0), .ref (an 1), .ref (an 2), .ref (an 3), .ref (an 4), .ref (an 5), .ref (an 6), .ref (an 7), vZ (Ne.2 8)])), ((an 0), .inl (K.1, 16, .inl (ar (Ne.1 0)))), ((an 1), .inl (K.1, 16, .inl (ar (Ne.1 1)))), ((an 2), .inl (K.1, 16, .inl (ar (Ne.1 2)))), ((an 3), .inl (K.1, 16, .inl (ar (Ne.1 3)))), ((an 4), .inl (K.1, 16, .inl (ar (Ne.1 4)))), ((an 5), .inl (K.1, 16, .inl (ar (Ne.1 5)))), ((an 6), .inl (K.1, 100, .inl (ar (Ne.1 6)))), ((an 7), .inl (K.1, 100, .inl (ar (Ne.1 7)))), ((a 2), .inr (0, [.ref (ac 0), .ref (ac 1), .ref (ac 2), vZ (Cr.2 3), vZ (Cr.2 4)])), ((ac 0), .inl (K.1, 8, .inl (ar (Cr.1 0)))), ((ac 1), .inl (K.1, 8, .inl (ar (Cr.1 1)))), ((ac 2), .inl (K.1, 8, .inl (ar (Cr.1 2))))]) rfl ?_
                  refine z_st (st2 := []) rfl ?_
                  refine z_iinc ZC dX6_comeToTowns_129 rfl (by decide) ?_
                  refine z_goto ZC 31 dX6_comeToTowns_132 (by decide) ?_
                  refine z_ws (ws2 := [(h, .inr (6, [.ref (a 0), .ref (a 1), .ref (a 2), .ref (a 3), .ref (a 5), .ref (a 6), .ref (a 7), .ref (a 8), .ref (a 9), .ref (a 10), .ref (a 11), vZ (T1b.2 12), vZ (T1b.2 13), vZ (T1b.2 14), vZ (T1b.2 15)])), ((a 5), .inl (K.1, 8, .inl (ar (T1b.1 5)))), ((a 6), .inl (K.1, 8, .inl (ar (T1b.1 6)))), ((a 7), .inl (K.1, 8, .inl (ar (T1b.1 7)))), ((a 8), .inl (K.1, 10, .inl (ar (upz (T1b.1 8) ((Ne.1 1) r) (((T1b.1 8) ((Ne.1 1) r)) + nn))))), ((a 9), .inl (K.1, 10, .inl (ar (T1b.1 9)))), ((a 10), .inl (K.1, 10, .inl (ar (T1b.1 10)))), ((a 11), .inl (K.1, 16, .inl (ar (T1b.1 11)))), ((a 3), .inr (2, [.ref (aq 0), .ref (aq 1), .ref (aq 2), .ref (aq 3), .ref (aq 4), .ref (aq 5), .ref (aq 6), vZ (Sq2_126.2 7), vZ (Sq2_126.2 8)])), ((aq 0), .inl (K.1, 32, .inl (ar (Sq2_126.1 0)))), ((aq 1), .inl (K.1, 32, .inl (ar (Sq2_126.1 1)))), ((aq 2), .inl (K.1, 32, .inl (ar (Sq2_126.1 2)))), ((aq 3), .inl (K.1, Nq, .inl (ar (Sq2_126.1 3)))), ((aq 4), .inl (K.1, Nq, .inl (ar (Sq2_126.1 4)))), ((aq 5), .inl (K.1, Nq, .inl (ar (Sq2_126.1 5)))), ((aq 6), .inl (K.1, Nq, .inl (ar (Sq2_126.1 6)))), ((a 1), .inr (4, [.ref (an 0), .ref (an 1), .ref (an 2), .ref (an 3), .ref (an 4), .ref (an 5), .ref (an 6), .ref (an 7), vZ (Ne.2 8)])), ((an 0), .inl (K.1, 16, .inl (ar (Ne.1 0)))), ((an 1), .inl (K.1, 16, .inl (ar (Ne.1 1)))), ((an 2), .inl (K.1, 16, .inl (ar (Ne.1 2)))), ((an 3), .inl (K.1, 16, .inl (ar (Ne.1 3)))), ((an 4), .inl (K.1, 16, .inl (ar (Ne.1 4)))), ((an 5), .inl (K.1, 16, .inl (ar (Ne.1 5)))), ((an 6), .inl (K.1, 100, .inl (ar (Ne.1 6)))), ((an 7), .inl (K.1, 100, .inl (ar (Ne.1 7)))), ((a 2), .inr (0, [.ref (ac 0), .ref (ac 1), .ref (ac 2), vZ (Cr.2 3), vZ (Cr.2 4)])), ((ac 0), .inl (K.1, 8, .inl (ar (Cr.1 0)))), ((ac 1), .inl (K.1, 8, .inl (ar (Cr.1 1)))), ((ac 2), .inl (K.1, 8, .inl (ar (Cr.1 2))))]) rfl (z_lv (lv2 := [(0, .ref h), (1, vZ r), (2, vZ (16 + r)), (3, vZ ((Ne.1 1) r)), (4, vZ (i + 1))]) ⟨rfl, rfl, rfl, rfl, rfl, trivial⟩ ?_)
                  refine ih_31 (i + 1) ((upf T1b.1 8 (upz (T1b.1 8) ((Ne.1 1) r) (((T1b.1 8) ((Ne.1 1) r)) + nn))), T1b.2) Sq2_126 (upL (upL Cq1b (16 + r) l2) (aWay Ne Cr (Ne.1 1 r) c) (ap3 (upL Cq1b (16 + r) l2 (aWay Ne Cr (Ne.1 1 r) c)) c nn 0)) (aArr Ne Cr (Ne.1 1 r) (aD A1b r (fd l2)) c nn.toNat) ?_ ?_ ?_ ?_ ?_ ?_ (dec_lt hm_31 c_36)
                  · skip
                    rw [upL_ne _ _ (by omega), upL_self]
                    rw [hC] at hi
                    simp only [List.length_cons] at hi
                    omega
                  · skip
                    exact tr_arr hcf i2b i1b ⟨by omega, by omega⟩ hC hn1 hO2_126 (Or.inr ⟨c_106, rfl, rfl⟩)
                  · skip
                    exact hok9
                  · skip
                    exact ((fold_keep Ne Cr (Ne.1 1 r) (List.replicate nn.toNat c) (aD A1b r (fd l2))).1).trans i3b
                  · skip
                    have u2 := lns_up (P := upL Cq1b (16 + r) l2) (r := aWay Ne Cr (Ne.1 1 r) c) (l := ap3 (upL Cq1b (16 + r) l2 (aWay Ne Cr (Ne.1 1 r) c)) c nn 0) (n := 32) w1.1 (by omega)
                    have u3 := ap3_len (upL Cq1b (16 + r) l2 (aWay Ne Cr (Ne.1 1 r) c)) c nn 0
                    omega
                  · skip
                    rw [← i5b]
                    exact (aCome1_step hdd).symm
                · skip
                  refine z_aload_n ZC 0 dX6_comeToTowns_109 rfl rfl ?_
                  refine z_iload ZC dX6_comeToTowns_110 rfl ?_
                  refine z_iload ZC dX6_comeToTowns_112 rfl ?_
                  refine z_ws (ws2 := [(h, .inr (6, [.ref (a 0), .ref (a 1), .ref (a 2), .ref (a 3), .ref (a 5), .ref (a 6), .ref (a 7), .ref (a 8), .ref (a 9), .ref (a 10), .ref (a 11), vZ (T1b.2 12), vZ (T1b.2 13), vZ (T1b.2 14), vZ (T1b.2 15)])), ((a 5), .inl (K.1, 8, .inl (ar (T1b.1 5)))), ((a 6), .inl (K.1, 8, .inl (ar (T1b.1 6)))), ((a 7), .inl (K.1, 8, .inl (ar (T1b.1 7)))), ((a 8), .inl (K.1, 10, .inl (ar (upz (T1b.1 8) ((Ne.1 1) r) (((T1b.1 8) ((Ne.1 1) r)) + nn))))), ((a 9), .inl (K.1, 10, .inl (ar (T1b.1 9)))), ((a 10), .inl (K.1, 10, .inl (ar (T1b.1 10)))), ((a 11), .inl (K.1, 16, .inl (ar (T1b.1 11)))), ((a 3), .inr (2, [.ref (aq 0), .ref (aq 1), .ref (aq 2), .ref (aq 3), .ref (aq 4), .ref (aq 5), .ref (aq 6), vZ (S2_81.2 7), vZ (S2_81.2 8)])), ((aq 0), .inl (K.1, 32, .inl (ar (S2_81.1 0)))), ((aq 1), .inl (K.1, 32, .inl (ar (S2_81.1 1)))), ((aq 2), .inl (K.1, 32, .inl (ar (S2_81.1 2)))), ((aq 3), .inl (K.1, Nq, .inl (ar (S2_81.1 3)))), ((aq 4), .inl (K.1, Nq, .inl (ar (S2_81.1 4)))), ((aq 5), .inl (K.1, Nq, .inl (ar (S2_81.1 5)))), ((aq 6), .inl (K.1, Nq, .inl (ar (S2_81.1 6)))), ((a 1), .inr (4, [.ref (an 0), .ref (an 1), .ref (an 2), .ref (an 3), .ref (an 4), .ref (an 5), .ref (an 6), .ref (an 7), vZ (Ne.2 8)])), ((an 0), .inl (K.1, 16, .inl (ar (Ne.1 0)))), ((an 1), .inl (K.1, 16, .inl (ar (Ne.1 1)))), ((an 2), .inl (K.1, 16, .inl (ar (Ne.1 2)))), ((an 3), .inl (K.1, 16, .inl (ar (Ne.1 3)))), ((an 4), .inl (K.1, 16, .inl (ar (Ne.1 4)))), ((an 5), .inl (K.1, 16, .inl (ar (Ne.1 5)))), ((an 6), .inl (K.1, 100, .inl (ar (Ne.1 6)))), ((an 7), .inl (K.1, 100, .inl (ar (Ne.1 7)))), ((a 2), .inr (0, [.ref (ac 0), .ref (ac 1), .ref (ac 2), vZ (Cr.2 3), vZ (Cr.2 4)])), ((ac 0), .inl (K.1, 8, .inl (ar (Cr.1 0)))), ((ac 1), .inl (K.1, 8, .inl (ar (Cr.1 1)))), ((ac 2), .inl (K.1, 8, .inl (ar (Cr.1 2))))]) rfl ?_
                  have hy_hw_114_0 : 0 ≤ c ∧ c < 8 := ⟨q1, by omega⟩
                  refine z_callV ZC 2 (c_X6_comeHome zl D K h a ((upf T1b.1 8 (upz (T1b.1 8) ((Ne.1 1) r) (((T1b.1 8) ((Ne.1 1) r)) + nn))), T1b.2) c nn (hy_hw_114_0)) (gdV uM_X6_146 uI_X6_comeHome uS_X6_comeHome uN_X6 uC_X6_comeHome) (by decide +kernel) rfl ⟨by omega, by omega⟩ ⟨by omega, by omega⟩ (Nat.le_of_ble_eq_true rfl) [0, 1, 2, 3, 4, 5, 6, 7] rfl (by decide) rfl rfl rfl rfl dX6_comeToTowns_114 (fun r w2 gc_114 gs_114 hp => ?_)
                  obtain ⟨rfl, rfl, rfl, rfl⟩ := hp
                  refine z_ws (ws2 := [(h, .inr (6, [.ref (a 0), .ref (a 1), .ref (a 2), .ref (a 3), .ref (a 5), .ref (a 6), .ref (a 7), .ref (a 8), .ref (a 9), .ref (a 10), .ref (a 11), vZ (T1b.2 12), vZ ((T1b.2 13) + nn), vZ ((T1b.2 12)), vZ (T1b.2 15)])), ((a 5), .inl (K.1, 8, .inl (ar (T1b.1 5)))), ((a 6), .inl (K.1, 8, .inl (ar (upz ((T1b.1 6)) c ((T1b.1 6) c + nn))))), ((a 7), .inl (K.1, 8, .inl (ar (upz ((T1b.1 7)) c ((T1b.2 12)))))), ((a 8), .inl (K.1, 10, .inl (ar (upz (T1b.1 8) ((Ne.1 1) r) (((T1b.1 8) ((Ne.1 1) r)) + nn))))), ((a 9), .inl (K.1, 10, .inl (ar (T1b.1 9)))), ((a 10), .inl (K.1, 10, .inl (ar (T1b.1 10)))), ((a 11), .inl (K.1, 16, .inl (ar (T1b.1 11)))), ((a 3), .inr (2, [.ref (aq 0), .ref (aq 1), .ref (aq 2), .ref (aq 3), .ref (aq 4), .ref (aq 5), .ref (aq 6), vZ (S2_81.2 7), vZ (S2_81.2 8)])), ((aq 0), .inl (K.1, 32, .inl (ar (S2_81.1 0)))), ((aq 1), .inl (K.1, 32, .inl (ar (S2_81.1 1)))), ((aq 2), .inl (K.1, 32, .inl (ar (S2_81.1 2)))), ((aq 3), .inl (K.1, Nq, .inl (ar (S2_81.1 3)))), ((aq 4), .inl (K.1, Nq, .inl (ar (S2_81.1 4)))), ((aq 5), .inl (K.1, Nq, .inl (ar (S2_81.1 5)))), ((aq 6), .inl (K.1, Nq, .inl (ar (S2_81.1 6)))), ((a 1), .inr (4, [.ref (an 0), .ref (an 1), .ref (an 2), .ref (an 3), .ref (an 4), .ref (an 5), .ref (an 6), .ref (an 7), vZ (Ne.2 8)])), ((an 0), .inl (K.1, 16, .inl (ar (Ne.1 0)))), ((an 1), .inl (K.1, 16, .inl (ar (Ne.1 1)))), ((an 2), .inl (K.1, 16, .inl (ar (Ne.1 2)))), ((an 3), .inl (K.1, 16, .inl (ar (Ne.1 3)))), ((an 4), .inl (K.1, 16, .inl (ar (Ne.1 4)))), ((an 5), .inl (K.1, 16, .inl (ar (Ne.1 5)))), ((an 6), .inl (K.1, 100, .inl (ar (Ne.1 6)))), ((an 7), .inl (K.1, 100, .inl (ar (Ne.1 7)))), ((a 2), .inr (0, [.ref (ac 0), .ref (ac 1), .ref (ac 2), vZ (Cr.2 3), vZ (Cr.2 4)])), ((ac 0), .inl (K.1, 8, .inl (ar (Cr.1 0)))), ((ac 1), .inl (K.1, 8, .inl (ar (Cr.1 1)))), ((ac 2), .inl (K.1, 8, .inl (ar (Cr.1 2))))]) rfl ?_
                  refine z_st (st2 := []) rfl ?_
                  refine z_goto ZC 129 dX6_comeToTowns_117 (by decide) ?_
                  refine z_iinc ZC dX6_comeToTowns_129 rfl (by decide) ?_
                  refine z_goto ZC 31 dX6_comeToTowns_132 (by decide) ?_
                  refine z_ws (ws2 := [(h, .inr (6, [.ref (a 0), .ref (a 1), .ref (a 2), .ref (a 3), .ref (a 5), .ref (a 6), .ref (a 7), .ref (a 8), .ref (a 9), .ref (a 10), .ref (a 11), vZ (T1b.2 12), vZ ((T1b.2 13) + nn), vZ ((T1b.2 12)), vZ (T1b.2 15)])), ((a 5), .inl (K.1, 8, .inl (ar (T1b.1 5)))), ((a 6), .inl (K.1, 8, .inl (ar (upz ((T1b.1 6)) c ((T1b.1 6) c + nn))))), ((a 7), .inl (K.1, 8, .inl (ar (upz ((T1b.1 7)) c ((T1b.2 12)))))), ((a 8), .inl (K.1, 10, .inl (ar (upz (T1b.1 8) ((Ne.1 1) r) (((T1b.1 8) ((Ne.1 1) r)) + nn))))), ((a 9), .inl (K.1, 10, .inl (ar (T1b.1 9)))), ((a 10), .inl (K.1, 10, .inl (ar (T1b.1 10)))), ((a 11), .inl (K.1, 16, .inl (ar (T1b.1 11)))), ((a 3), .inr (2, [.ref (aq 0), .ref (aq 1), .ref (aq 2), .ref (aq 3), .ref (aq 4), .ref (aq 5), .ref (aq 6), vZ (S2_81.2 7), vZ (S2_81.2 8)])), ((aq 0), .inl (K.1, 32, .inl (ar (S2_81.1 0)))), ((aq 1), .inl (K.1, 32, .inl (ar (S2_81.1 1)))), ((aq 2), .inl (K.1, 32, .inl (ar (S2_81.1 2)))), ((aq 3), .inl (K.1, Nq, .inl (ar (S2_81.1 3)))), ((aq 4), .inl (K.1, Nq, .inl (ar (S2_81.1 4)))), ((aq 5), .inl (K.1, Nq, .inl (ar (S2_81.1 5)))), ((aq 6), .inl (K.1, Nq, .inl (ar (S2_81.1 6)))), ((a 1), .inr (4, [.ref (an 0), .ref (an 1), .ref (an 2), .ref (an 3), .ref (an 4), .ref (an 5), .ref (an 6), .ref (an 7), vZ (Ne.2 8)])), ((an 0), .inl (K.1, 16, .inl (ar (Ne.1 0)))), ((an 1), .inl (K.1, 16, .inl (ar (Ne.1 1)))), ((an 2), .inl (K.1, 16, .inl (ar (Ne.1 2)))), ((an 3), .inl (K.1, 16, .inl (ar (Ne.1 3)))), ((an 4), .inl (K.1, 16, .inl (ar (Ne.1 4)))), ((an 5), .inl (K.1, 16, .inl (ar (Ne.1 5)))), ((an 6), .inl (K.1, 100, .inl (ar (Ne.1 6)))), ((an 7), .inl (K.1, 100, .inl (ar (Ne.1 7)))), ((a 2), .inr (0, [.ref (ac 0), .ref (ac 1), .ref (ac 2), vZ (Cr.2 3), vZ (Cr.2 4)])), ((ac 0), .inl (K.1, 8, .inl (ar (Cr.1 0)))), ((ac 1), .inl (K.1, 8, .inl (ar (Cr.1 1)))), ((ac 2), .inl (K.1, 8, .inl (ar (Cr.1 2))))]) rfl (z_lv (lv2 := [(0, .ref h), (1, vZ r), (2, vZ (16 + r)), (3, vZ ((Ne.1 1) r)), (4, vZ (i + 1))]) ⟨rfl, rfl, rfl, rfl, rfl, trivial⟩ ?_)
                  refine ih_31 (i + 1) ((upf (upf (upf T1b.1 6 (upz ((T1b.1 6)) c ((T1b.1 6) c + nn))) 7 (upz ((T1b.1 7)) c ((T1b.2 12)))) 8 (upz (T1b.1 8) ((Ne.1 1) r) (((T1b.1 8) ((Ne.1 1) r)) + nn))), (upf (upf T1b.2 13 ((T1b.2 13) + nn)) 14 ((T1b.2 12)))) S2_81 (upL Cq1b (16 + r) l2) (aArr Ne Cr (Ne.1 1 r) (aD A1b r (fd l2)) c nn.toNat) ?_ ?_ ?_ ?_ ?_ ?_ (dec_lt hm_31 c_36)
                  · skip
                    rw [upL_self]
                    rw [hC] at hi
                    simp only [List.length_cons] at hi
                    omega
                  · skip
                    exact tr_arr hcf i2b i1b ⟨by omega, by omega⟩ hC hn1 hO2_81 (Or.inl ⟨c_106, rfl, rfl⟩)
                  · skip
                    exact hok9
                  · skip
                    exact ((fold_keep Ne Cr (Ne.1 1 r) (List.replicate nn.toNat c) (aD A1b r (fd l2))).1).trans i3b
                  · skip
                    omega
                  · skip
                    rw [← i5b]
                    exact (aCome1_step hdd).symm
        refine z_ws (ws2 := [(h, .inr (6, [.ref (a 0), .ref (a 1), .ref (a 2), .ref (a 3), .ref (a 5), .ref (a 6), .ref (a 7), .ref (a 8), .ref (a 9), .ref (a 10), .ref (a 11), vZ (T1.2 12), vZ (T1.2 13), vZ (T1.2 14), vZ (T1.2 15)])), ((a 5), .inl (K.1, 8, .inl (ar (T1.1 5)))), ((a 6), .inl (K.1, 8, .inl (ar (T1.1 6)))), ((a 7), .inl (K.1, 8, .inl (ar (T1.1 7)))), ((a 8), .inl (K.1, 10, .inl (ar (T1.1 8)))), ((a 9), .inl (K.1, 10, .inl (ar (T1.1 9)))), ((a 10), .inl (K.1, 10, .inl (ar (T1.1 10)))), ((a 11), .inl (K.1, 16, .inl (ar (T1.1 11)))), ((a 3), .inr (2, [.ref (aq 0), .ref (aq 1), .ref (aq 2), .ref (aq 3), .ref (aq 4), .ref (aq 5), .ref (aq 6), vZ (Sq1.2 7), vZ (Sq1.2 8)])), ((aq 0), .inl (K.1, 32, .inl (ar (Sq1.1 0)))), ((aq 1), .inl (K.1, 32, .inl (ar (Sq1.1 1)))), ((aq 2), .inl (K.1, 32, .inl (ar (Sq1.1 2)))), ((aq 3), .inl (K.1, Nq, .inl (ar (Sq1.1 3)))), ((aq 4), .inl (K.1, Nq, .inl (ar (Sq1.1 4)))), ((aq 5), .inl (K.1, Nq, .inl (ar (Sq1.1 5)))), ((aq 6), .inl (K.1, Nq, .inl (ar (Sq1.1 6)))), ((a 1), .inr (4, [.ref (an 0), .ref (an 1), .ref (an 2), .ref (an 3), .ref (an 4), .ref (an 5), .ref (an 6), .ref (an 7), vZ (Ne.2 8)])), ((an 0), .inl (K.1, 16, .inl (ar (Ne.1 0)))), ((an 1), .inl (K.1, 16, .inl (ar (Ne.1 1)))), ((an 2), .inl (K.1, 16, .inl (ar (Ne.1 2)))), ((an 3), .inl (K.1, 16, .inl (ar (Ne.1 3)))), ((an 4), .inl (K.1, 16, .inl (ar (Ne.1 4)))), ((an 5), .inl (K.1, 16, .inl (ar (Ne.1 5)))), ((an 6), .inl (K.1, 100, .inl (ar (Ne.1 6)))), ((an 7), .inl (K.1, 100, .inl (ar (Ne.1 7)))), ((a 2), .inr (0, [.ref (ac 0), .ref (ac 1), .ref (ac 2), vZ (Cr.2 3), vZ (Cr.2 4)])), ((ac 0), .inl (K.1, 8, .inl (ar (Cr.1 0)))), ((ac 1), .inl (K.1, 8, .inl (ar (Cr.1 1)))), ((ac 2), .inl (K.1, 8, .inl (ar (Cr.1 2))))]) rfl (z_lv (lv2 := [(0, .ref h), (1, vZ r), (2, vZ (16 + r)), (3, vZ ((Ne.1 1) r)), (4, vZ 0)]) ⟨rfl, rfl, rfl, rfl, rfl, trivial⟩ ?_)
        refine lp_31 _ 0 T1 Sq1 Cq1 A1 ?_ ?_ ?_ ?_ ?_ ?_ (Nat.lt_succ_self _)
        · skip
          have hl9 := lns_le (P := Cq1) (r := 16 + r) (n := 32) (by omega) (by omega)
          omega
        · skip
          exact i1
        · skip
          exact i2
        · skip
          exact i3
        · skip
          exact i4
        · skip
          rfl
  refine z_ws (ws2 := [(h, .inr (6, [.ref (a 0), .ref (a 1), .ref (a 2), .ref (a 3), .ref (a 5), .ref (a 6), .ref (a 7), .ref (a 8), .ref (a 9), .ref (a 10), .ref (a 11), vZ (T.2 12), vZ (T.2 13), vZ (T.2 14), vZ (T.2 15)])), ((a 5), .inl (K.1, 8, .inl (ar (T.1 5)))), ((a 6), .inl (K.1, 8, .inl (ar (T.1 6)))), ((a 7), .inl (K.1, 8, .inl (ar (T.1 7)))), ((a 8), .inl (K.1, 10, .inl (ar (T.1 8)))), ((a 9), .inl (K.1, 10, .inl (ar (T.1 9)))), ((a 10), .inl (K.1, 10, .inl (ar (T.1 10)))), ((a 11), .inl (K.1, 16, .inl (ar (T.1 11)))), ((a 3), .inr (2, [.ref (aq 0), .ref (aq 1), .ref (aq 2), .ref (aq 3), .ref (aq 4), .ref (aq 5), .ref (aq 6), vZ (Sq.2 7), vZ (Sq.2 8)])), ((aq 0), .inl (K.1, 32, .inl (ar (Sq.1 0)))), ((aq 1), .inl (K.1, 32, .inl (ar (Sq.1 1)))), ((aq 2), .inl (K.1, 32, .inl (ar (Sq.1 2)))), ((aq 3), .inl (K.1, Nq, .inl (ar (Sq.1 3)))), ((aq 4), .inl (K.1, Nq, .inl (ar (Sq.1 4)))), ((aq 5), .inl (K.1, Nq, .inl (ar (Sq.1 5)))), ((aq 6), .inl (K.1, Nq, .inl (ar (Sq.1 6)))), ((a 1), .inr (4, [.ref (an 0), .ref (an 1), .ref (an 2), .ref (an 3), .ref (an 4), .ref (an 5), .ref (an 6), .ref (an 7), vZ (Ne.2 8)])), ((an 0), .inl (K.1, 16, .inl (ar (Ne.1 0)))), ((an 1), .inl (K.1, 16, .inl (ar (Ne.1 1)))), ((an 2), .inl (K.1, 16, .inl (ar (Ne.1 2)))), ((an 3), .inl (K.1, 16, .inl (ar (Ne.1 3)))), ((an 4), .inl (K.1, 16, .inl (ar (Ne.1 4)))), ((an 5), .inl (K.1, 16, .inl (ar (Ne.1 5)))), ((an 6), .inl (K.1, 100, .inl (ar (Ne.1 6)))), ((an 7), .inl (K.1, 100, .inl (ar (Ne.1 7)))), ((a 2), .inr (0, [.ref (ac 0), .ref (ac 1), .ref (ac 2), vZ (Cr.2 3), vZ (Cr.2 4)])), ((ac 0), .inl (K.1, 8, .inl (ar (Cr.1 0)))), ((ac 1), .inl (K.1, 8, .inl (ar (Cr.1 1)))), ((ac 2), .inl (K.1, 8, .inl (ar (Cr.1 2))))]) rfl (z_lv (lv2 := [(0, .ref h), (1, vZ 0)]) ⟨rfl, rfl, trivial⟩ ?_)
  refine lp_2 _ 0 T Sq Cq A ?_ ?_ ?_ ?_ ?_ ?_ (Nat.lt_succ_self _)
  · skip
    omega
  · skip
    exact hT
  · skip
    exact hok
  · skip
    rfl
  · skip
    omega
  · skip
    rfl

