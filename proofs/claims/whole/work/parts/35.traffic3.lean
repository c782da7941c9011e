/-! ===== Traffic: cars come to towns ===== -/
theorem dec_lt {i N : Int} {n : Nat} (h : (N - i).toNat < n + 1) (hi : i < N) : (N - (i + 1)).toNat < n := by omega
theorem fd_mem : ∀ {l : List Pt3} {q : Pt3}, q ∈ l → 1 ≤ q.2.1 → (q.1, q.2.2) ∈ fd l
  | p :: l, q, h, h1 => by
    rcases List.mem_cons.mp h with e | e
    · subst e
      exact List.mem_append_left _ (List.mem_replicate.mpr ⟨by omega, rfl⟩)
    · exact List.mem_append_right _ (fd_mem e h1)
theorem fq_mem : ∀ {l : List Pt3} {q : Pt3}, q ∈ l → 1 ≤ q.2.1 → q.1 ∈ fq l
  | p :: l, q, h, h1 => by
    rcases List.mem_cons.mp h with e | e
    · subst e
      exact List.mem_append_left _ (List.mem_replicate.mpr ⟨by omega, rfl⟩)
    · exact List.mem_append_right _ (fq_mem e h1)
theorem tr_dv {Ne Cr : Bd} {B : Nat} {T : Bd} {Nq Nd : Nat} {Sq Sd : Bd} {Cq Cd : Int → List Pt3} {A : Ab} (hcf : Cfg Ne Cr) (hok : AOK Ne Cr A) (h : TrR Ne Cr B T Nq Sq Nd Sd Cq Cd A) {r : Int} (h1 : 0 ≤ r) (h2 : r < 16) : (∀ q ∈ Cd r, 0 ≤ q.1 ∧ q.1 < 8 ∧ 0 ≤ q.2.2 ∧ q.2.2 ≤ 300) ∧ (∀ q ∈ Cq r, 0 ≤ q.1 ∧ q.1 < 8 ∧ q.2.2 = 0) := by
  have g := h.2.1 r h1 h2
  have k := hok.1 r h1 h2
  have c8 := hcf.2.1
  refine ⟨fun q hq => ?_, fun q hq => ?_⟩
  · have m := fd_mem hq (lo_pos h.1.2 ⟨h1, h2⟩ q hq)
    rw [g.2.1] at m
    have z := k.2.2 _ m
    exact ⟨z.1, by have := z.2.1; omega, z.2.2.2⟩
  · have m := fq_mem hq (lo_pos h.1.1 ⟨h1, h2⟩ q hq)
    rw [g.1] at m
    have z := k.2.1 _ m
    exact ⟨z.1, by have := z.2.1; omega, g.2.2 q hq⟩
theorem aCome_next {Ne Cr : Bd} {A : Ab} {r : Int} (h : 0 ≤ r) : aCome Ne Cr A (r + 1).toNat = aCome1 Ne Cr r (aCome Ne Cr A r.toNat) := by
  rw [show (r + 1).toNat = r.toNat + 1 by omega]
  show aCome1 Ne Cr ((r.toNat : Nat) : Int) _ = _
  rw [show ((r.toNat : Nat) : Int) = r by omega]

set_option maxHeartbeats 4000000 in
set_option maxRecDepth 100000 in
theorem c_X6_comeToTowns (zl : Launch) (D : va_G) (K : tyK) (h : Nat) (a : Nat → Nat) (T : Bd) (aq : Nat → Nat) (Nq : Nat) (Sq : Bd) (ad : Nat → Nat) (Nd : Nat) (Sd : Bd) (an : Nat → Nat) (Ne : Bd) (ac : Nat → Nat) (Cr : Bd) (B : Nat) (mp : Nat) (Cq : Int → List Pt3) (Cd : Int → List Pt3) (A : Ab) (hcf : Cfg Ne Cr) (hok : AOK Ne Cr A) (hT : TrR Ne Cr B T Nq Sq Nd Sd Cq Cd A) (hnow : 0 ≤ A.2.1 0 ∧ A.2.1 0 ≤ 200) (hmp : lns Cq 16 + lns Cd 16 ≤ mp ∧ mp + 1 ≤ B ∧ B ≤ 4000) : Mz zl yX6_comeToTowns cX6_comeToTowns 5 (none) 7 163 4100 49200 D K [.ref h] ((wTr K h a T) ++ (wLn K (a 3) aq Nq Sq) ++ (wLn K (a 4) ad Nd Sd) ++ (wNe K (a 1) an Ne) ++ (wCr K (a 2) ac Cr)) (fun r_ w2_ gc gs => ∃ (T2 : Bd), ∃ (aq2 : Nat → Nat), ∃ (Nq2 : Nat), ∃ (Sq2 : Bd), ∃ (Sd2 : Bd), ∃ (Cq2 : Int → List Pt3), ∃ (Cd2 : Int → List Pt3), r_ = none ∧ w2_ = ((wTr K h a T2) ++ (wLn K (a 3) aq2 Nq2 Sq2) ++ (wLn K (a 4) ad Nd Sd2) ++ (wNe K (a 1) an Ne) ++ (wCr K (a 2) ac Cr)) ∧ (TrR Ne Cr B T2 Nq2 Sq2 Nd Sd2 Cq2 Cd2 (aCome Ne Cr A (Ne.2 8).toNat)) ∧ (AOK Ne Cr (aCome Ne Cr A (Ne.2 8).toNat)) ∧ ((aCome Ne Cr A (Ne.2 8).toNat).2.1 = A.2.1) ∧ (lns Cq2 16 + lns Cd2 16 ≤ mp) ∧ (Nq ≤ Nq2 ∧ Nq2 ≤ 4096) ∧ (Nq + gc ≤ Nq2) ∧ (8 * Nq + gs ≤ 8 * Nq2)) := by
  refine Mz.ofZ (by decide) rfl (Nat.le_of_ble_eq_true rfl) ?_
  intro zp ze zR zs zm zargs zbelow zmeth zc zA zQ ZC ZE hRf hRc hRs hRl
  have hc1 := hcf.1
  refine z_iconst ZC dX6_comeToTowns_0 ?_
  refine z_istore_n ZC 1 dX6_comeToTowns_1 rfl (by decide) ?_
  have lp_2 : ∀ (n_2 : Nat) (r : Int) (T1 : Bd) (aq1 : Nat → Nat) (Nq1 : Nat) (Sq1 : Bd) (Sd1 : Bd) (gv : Nat) (gw : Nat) (Cq1 : Int → List Pt3) (Cd1 : Int → List Pt3) (A1 : Ab), (0 ≤ r ∧ r ≤ Ne.2 8) → (TrR Ne Cr B T1 Nq1 Sq1 Nd Sd1 Cq1 Cd1 A1) → (AOK Ne Cr A1) → (A1.2.1 = A.2.1) → (lns Cq1 16 + lns Cd1 16 ≤ mp) → (A1 = aCome Ne Cr A r.toNat) → (Nq ≤ Nq1 ∧ Nq + gv ≤ Nq1 ∧ 8 * Nq + gw ≤ 8 * Nq1) → ((Ne.2 8 - r).toNat) < n_2 → Zw zp zl ze zR zs zm zargs zbelow zmeth zc D zA 5 zQ gv gw ([(h, .inr (6, [.ref (a 0), .ref (a 1), .ref (a 2), .ref (a 3), .ref (a 4), .ref (a 5), .ref (a 6), .ref (a 7), .ref (a 8), .ref (a 9), .ref (a 10), .ref (a 11), vZ (T1.2 12), vZ (T1.2 13), vZ (T1.2 14), vZ (T1.2 15)])), ((a 5), .inl (K.1, 8, .inl (ar (T1.1 5)))), ((a 6), .inl (K.1, 8, .inl (ar (T1.1 6)))), ((a 7), .inl (K.1, 8, .inl (ar (T1.1 7)))), ((a 8), .inl (K.1, 10, .inl (ar (T1.1 8)))), ((a 9), .inl (K.1, 10, .inl (ar (T1.1 9)))), ((a 10), .inl (K.1, 10, .inl (ar (T1.1 10)))), ((a 11), .inl (K.1, 16, .inl (ar (T1.1 11)))), ((a 3), .inr (2, [.ref (aq1 0), .ref (aq1 1), .ref (aq1 2), .ref (aq1 3), .ref (aq1 4), .ref (aq1 5), .ref (aq1 6), vZ (Sq1.2 7), vZ (Sq1.2 8)])), ((aq1 0), .inl (K.1, 16, .inl (ar (Sq1.1 0)))), ((aq1 1), .inl (K.1, 16, .inl (ar (Sq1.1 1)))), ((aq1 2), .inl (K.1, 16, .inl (ar (Sq1.1 2)))), ((aq1 3), .inl (K.1, Nq1, .inl (ar (Sq1.1 3)))), ((aq1 4), .inl (K.1, Nq1, .inl (ar (Sq1.1 4)))), ((aq1 5), .inl (K.1, Nq1, .inl (ar (Sq1.1 5)))), ((aq1 6), .inl (K.1, Nq1, .inl (ar (Sq1.1 6)))), ((a 4), .inr (2, [.ref (ad 0), .ref (ad 1), .ref (ad 2), .ref (ad 3), .ref (ad 4), .ref (ad 5), .ref (ad 6), vZ (Sd1.2 7), vZ (Sd1.2 8)])), ((ad 0), .inl (K.1, 16, .inl (ar (Sd1.1 0)))), ((ad 1), .inl (K.1, 16, .inl (ar (Sd1.1 1)))), ((ad 2), .inl (K.1, 16, .inl (ar (Sd1.1 2)))), ((ad 3), .inl (K.1, Nd, .inl (ar (Sd1.1 3)))), ((ad 4), .inl (K.1, Nd, .inl (ar (Sd1.1 4)))), ((ad 5), .inl (K.1, Nd, .inl (ar (Sd1.1 5)))), ((ad 6), .inl (K.1, Nd, .inl (ar (Sd1.1 6)))), ((a 1), .inr (4, [.ref (an 0), .ref (an 1), .ref (an 2), .ref (an 3), .ref (an 4), .ref (an 5), .ref (an 6), .ref (an 7), vZ (Ne.2 8)])), ((an 0), .inl (K.1, 16, .inl (ar (Ne.1 0)))), ((an 1), .inl (K.1, 16, .inl (ar (Ne.1 1)))), ((an 2), .inl (K.1, 16, .inl (ar (Ne.1 2)))), ((an 3), .inl (K.1, 16, .inl (ar (Ne.1 3)))), ((an 4), .inl (K.1, 16, .inl (ar (Ne.1 4)))), ((an 5), .inl (K.1, 16, .inl (ar (Ne.1 5)))), ((an 6), .inl (K.1, 100, .inl (ar (Ne.1 6)))), ((an 7), .inl (K.1, 100, .inl (ar (Ne.1 7)))), ((a 2), .inr (0, [.ref (ac 0), .ref (ac 1), .ref (ac 2), vZ (Cr.2 3), vZ (Cr.2 4)])), ((ac 0), .inl (K.1, 8, .inl (ar (Cr.1 0)))), ((ac 1), .inl (K.1, 8, .inl (ar (Cr.1 1)))), ((ac 2), .inl (K.1, 8, .inl (ar (Cr.1 2))))]) 2 [(0, .ref h), (1, vZ r)] [] := by
    intro n_2
    induction n_2 with
    | zero => intro r T1 aq1 Nq1 Sq1 Sd1 gv gw Cq1 Cd1 A1 hr i1 i2 i3 i4 i5 i6 hm_2; exact absurd hm_2 (Nat.not_lt_zero _)
    | succ n_2 ih_2 =>
      intro r T1 aq1 Nq1 Sq1 Sd1 gv gw Cq1 Cd1 A1 hr i1 i2 i3 i4 i5 i6 hm_2
      refine z_iload_n ZC 1 dX6_comeToTowns_2 rfl rfl ?_
      refine z_aload_n ZC 0 dX6_comeToTowns_3 rfl rfl ?_
      refine z_get ZC inUX6 0 rfl rfl 1 (by decide) uF_X6_51 rfl dX6_comeToTowns_4 ?_
      refine z_get ZC inUX4 24 rfl rfl 8 (by decide) uF_X6_80 rfl dX6_comeToTowns_7 ?_
      refine z_icmp_ge ZC 94 dX6_comeToTowns_10 (by decide) (by omega) (by omega) (fun c_10 => ?_) (fun c_10 => ?_)
      · skip
        have hre : r = Ne.2 8 := by omega
        subst i5
        rw [hre] at i1 i2 i3
        have hGe := lo_rng i1.1.1
        refine z_vret ZC ZE dX6_comeToTowns_94 (by omega) (by omega) (Nat.le_of_ble_eq_true rfl) ⟨T1, aq1, Nq1, Sq1, Sd1, Cq1, Cd1, rfl, rfl, ?_, ?_, ?_, ?_, ?_, ?_, ?_⟩
        · skip
          exact i1
        · skip
          exact i2
        · skip
          exact i3
        · skip
          exact i4
        · skip
          omega
        · skip
          omega
        · skip
          omega
      · skip
        refine z_iconst ZC dX6_comeToTowns_13 ?_
        refine z_istore_n ZC 2 dX6_comeToTowns_14 rfl (by decide) ?_
        have lp_15 : ∀ (n_15 : Nat) (i : Int) (T1b : Bd) (aq1b : Nat → Nat) (Nq1b : Nat) (Sq1b : Bd) (Sd1b : Bd) (gvb : Nat) (gwb : Nat) (Cq1b : Int → List Pt3) (Cd1b : Int → List Pt3) (A1b : Ab), (0 ≤ i ∧ i + (Cd1b r).length ≤ 4000) → (TrR Ne Cr B T1b Nq1b Sq1b Nd Sd1b Cq1b Cd1b A1b) → (AOK Ne Cr A1b) → (A1b.2.1 = A.2.1) → (lns Cq1b 16 + lns Cd1b 16 ≤ mp) → (aCome1 Ne Cr r A1b = aCome1 Ne Cr r A1) → (Nq ≤ Nq1b ∧ Nq + gvb ≤ Nq1b ∧ 8 * Nq + gwb ≤ 8 * Nq1b) → ((4096 - i).toNat) < n_15 → Zw zp zl ze zR zs zm zargs zbelow zmeth zc D zA 5 zQ gvb gwb ([(h, .inr (6, [.ref (a 0), .ref (a 1), .ref (a 2), .ref (a 3), .ref (a 4), .ref (a 5), .ref (a 6), .ref (a 7), .ref (a 8), .ref (a 9), .ref (a 10), .ref (a 11), vZ (T1b.2 12), vZ (T1b.2 13), vZ (T1b.2 14), vZ (T1b.2 15)])), ((a 5), .inl (K.1, 8, .inl (ar (T1b.1 5)))), ((a 6), .inl (K.1, 8, .inl (ar (T1b.1 6)))), ((a 7), .inl (K.1, 8, .inl (ar (T1b.1 7)))), ((a 8), .inl (K.1, 10, .inl (ar (T1b.1 8)))), ((a 9), .inl (K.1, 10, .inl (ar (T1b.1 9)))), ((a 10), .inl (K.1, 10, .inl (ar (T1b.1 10)))), ((a 11), .inl (K.1, 16, .inl (ar (T1b.1 11)))), ((a 3), .inr (2, [.ref (aq1b 0), .ref (aq1b 1), .ref (aq1b 2), .ref (aq1b 3), .ref (aq1b 4), .ref (aq1b 5), .ref (aq1b 6), vZ (Sq1b.2 7), vZ (Sq1b.2 8)])), ((aq1b 0), .inl (K.1, 16, .inl (ar (Sq1b.1 0)))), ((aq1b 1), .inl (K.1, 16, .inl (ar (Sq1b.1 1)))), ((aq1b 2), .inl (K.1, 16, .inl (ar (Sq1b.1 2)))), ((aq1b 3), .inl (K.1, Nq1b, .inl (ar (Sq1b.1 3)))), ((aq1b 4), .inl (K.1, Nq1b, .inl (ar (Sq1b.1 4)))), ((aq1b 5), .inl (K.1, Nq1b, .inl (ar (Sq1b.1 5)))), ((aq1b 6), .inl (K.1, Nq1b, .inl (ar (Sq1b.1 6)))), ((a 4), .inr (2, [.ref (ad 0), .ref (ad 1), .ref (ad 2), .ref (ad 3), .ref (ad 4), .ref (ad 5), .ref (ad 6), vZ (Sd1b.2 7), vZ (Sd1b.2 8)])), ((ad 0), .inl (K.1, 16, .inl (ar (Sd1b.1 0)))), ((ad 1), .inl (K.1, 16, .inl (ar (Sd1b.1 1)))), ((ad 2), .inl (K.1, 16, .inl (ar (Sd1b.1 2)))), ((ad 3), .inl (K.1, Nd, .inl (ar (Sd1b.1 3)))), ((ad 4), .inl (K.1, Nd, .inl (ar (Sd1b.1 4)))), ((ad 5), .inl (K.1, Nd, .inl (ar (Sd1b.1 5)))), ((ad 6), .inl (K.1, Nd, .inl (ar (Sd1b.1 6)))), ((a 1), .inr (4, [.ref (an 0), .ref (an 1), .ref (an 2), .ref (an 3), .ref (an 4), .ref (an 5), .ref (an 6), .ref (an 7), vZ (Ne.2 8)])), ((an 0), .inl (K.1, 16, .inl (ar (Ne.1 0)))), ((an 1), .inl (K.1, 16, .inl (ar (Ne.1 1)))), ((an 2), .inl (K.1, 16, .inl (ar (Ne.1 2)))), ((an 3), .inl (K.1, 16, .inl (ar (Ne.1 3)))), ((an 4), .inl (K.1, 16, .inl (ar (Ne.1 4)))), ((an 5), .inl (K.1, 16, .inl (ar (Ne.1 5)))), ((an 6), .inl (K.1, 100, .inl (ar (Ne.1 6)))), ((an 7), .inl (K.1, 100, .inl (ar (Ne.1 7)))), ((a 2), .inr (0, [.ref (ac 0), .ref (ac 1), .ref (ac 2), vZ (Cr.2 3), vZ (Cr.2 4)])), ((ac 0), .inl (K.1, 8, .inl (ar (Cr.1 0)))), ((ac 1), .inl (K.1, 8, .inl (ar (Cr.1 1)))), ((ac 2), .inl (K.1, 8, .inl (ar (Cr.1 2))))]) 15 [(0, .ref h), (1, vZ r), (2, vZ i)] [] := by
          intro n_15
          induction n_15 with
          | zero => intro i T1b aq1b Nq1b Sq1b Sd1b gvb gwb Cq1b Cd1b A1b hi i1b i2b i3b i4b i5b i6b hm_15; exact absurd hm_15 (Nat.not_lt_zero _)
          | succ n_15 ih_15 =>
            intro i T1b aq1b Nq1b Sq1b Sd1b gvb gwb Cq1b Cd1b A1b hi i1b i2b i3b i4b i5b i6b hm_15
            refine z_iload_n ZC 2 dX6_comeToTowns_15 rfl rfl ?_
            refine z_sipush ZC dX6_comeToTowns_16 (by decide) ?_
            refine z_icmp_ge ZC 88 dX6_comeToTowns_19 (by decide) (by omega) (by omega) (fun c_19 => ?_) (fun c_19 => ?_)
            · skip
              omega
            · skip
              have hG1 := lo_rng i1b.1.1
              have hdv := tr_dv hcf i2b i1b (r := r) (by omega) (by omega)
              have enow : T1b.2 12 = A1b.2.1 0 := i1b.2.2.2.2.1.1
              have enow2 : A1b.2.1 0 = A.2.1 0 := by rw [i3b]
              refine z_aload_n ZC 0 dX6_comeToTowns_22 rfl rfl ?_
              refine z_get ZC inUX6 0 rfl rfl 4 (by decide) uF_X6_18 rfl dX6_comeToTowns_23 ?_
              refine z_iload_n ZC 1 dX6_comeToTowns_26 rfl rfl ?_
              refine z_aload_n ZC 0 dX6_comeToTowns_27 rfl rfl ?_
              refine z_get ZC inUX6 0 rfl rfl 12 (by decide) uF_X6_59 rfl dX6_comeToTowns_28 ?_
              refine z_callV ZC 2 (c_X2_isDue zl D K (a 4) ad Nd Sd1b B Cd1b r (T1b.2 12) (i1b.1.2) (by omega) (by omega) (fun q hq => by have := hdv.1 q hq; omega)) (gdV uM_X6_116 uI_X2_isDue uS_X2_isDue uN_X2 uC_X2_isDue) (by decide +kernel) rfl ⟨by omega, by omega⟩ ⟨by omega, by omega⟩ (Nat.le_of_ble_eq_true rfl) [16, 17, 18, 19, 20, 21, 22, 23] rfl (by decide) rfl rfl rfl rfl dX6_comeToTowns_31 (fun r w2 gc_31 gs_31 hp => ?_)
              obtain ⟨b_31, rfl, rfl, rfl, rfl, hb_31⟩ := hp
              refine z_ws (ws2 := [(h, .inr (6, [.ref (a 0), .ref (a 1), .ref (a 2), .ref (a 3), .ref (a 4), .ref (a 5), .ref (a 6), .ref (a 7), .ref (a 8), .ref (a 9), .ref (a 10), .ref (a 11), vZ (T1b.2 12), vZ (T1b.2 13), vZ (T1b.2 14), vZ (T1b.2 15)])), ((a 5), .inl (K.1, 8, .inl (ar (T1b.1 5)))), ((a 6), .inl (K.1, 8, .inl (ar (T1b.1 6)))), ((a 7), .inl (K.1, 8, .inl (ar (T1b.1 7)))), ((a 8), .inl (K.1, 10, .inl (ar (T1b.1 8)))), ((a 9), .inl (K.1, 10, .inl (ar (T1b.1 9)))), ((a 10), .inl (K.1, 10, .inl (ar (T1b.1 10)))), ((a 11), .inl (K.1, 16, .inl (ar (T1b.1 11)))), ((a 3), .inr (2, [.ref (aq1b 0), .ref (aq1b 1), .ref (aq1b 2), .ref (aq1b 3), .ref (aq1b 4), .ref (aq1b 5), .ref (aq1b 6), vZ (Sq1b.2 7), vZ (Sq1b.2 8)])), ((aq1b 0), .inl (K.1, 16, .inl (ar (Sq1b.1 0)))), ((aq1b 1), .inl (K.1, 16, .inl (ar (Sq1b.1 1)))), ((aq1b 2), .inl (K.1, 16, .inl (ar (Sq1b.1 2)))), ((aq1b 3), .inl (K.1, Nq1b, .inl (ar (Sq1b.1 3)))), ((aq1b 4), .inl (K.1, Nq1b, .inl (ar (Sq1b.1 4)))), ((aq1b 5), .inl (K.1, Nq1b, .inl (ar (Sq1b.1 5)))), ((aq1b 6), .inl (K.1, Nq1b, .inl (ar (Sq1b.1 6)))), ((a 4), .inr (2, [.ref (ad 0), .ref (ad 1), .ref (ad 2), .ref (ad 3), .ref (ad 4), .ref (ad 5), .ref (ad 6), vZ (Sd1b.2 7), vZ (Sd1b.2 8)])), ((ad 0), .inl (K.1, 16, .inl (ar (Sd1b.1 0)))), ((ad 1), .inl (K.1, 16, .inl (ar (Sd1b.1 1)))), ((ad 2), .inl (K.1, 16, .inl (ar (Sd1b.1 2)))), ((ad 3), .inl (K.1, Nd, .inl (ar (Sd1b.1 3)))), ((ad 4), .inl (K.1, Nd, .inl (ar (Sd1b.1 4)))), ((ad 5), .inl (K.1, Nd, .inl (ar (Sd1b.1 5)))), ((ad 6), .inl (K.1, Nd, .inl (ar (Sd1b.1 6)))), ((a 1), .inr (4, [.ref (an 0), .ref (an 1), .ref (an 2), .ref (an 3), .ref (an 4), .ref (an 5), .ref (an 6), .ref (an 7), vZ (Ne.2 8)])), ((an 0), .inl (K.1, 16, .inl (ar (Ne.1 0)))), ((an 1), .inl (K.1, 16, .inl (ar (Ne.1 1)))), ((an 2), .inl (K.1, 16, .inl (ar (Ne.1 2)))), ((an 3), .inl (K.1, 16, .inl (ar (Ne.1 3)))), ((an 4), .inl (K.1, 16, .inl (ar (Ne.1 4)))), ((an 5), .inl (K.1, 16, .inl (ar (Ne.1 5)))), ((an 6), .inl (K.1, 100, .inl (ar (Ne.1 6)))), ((an 7), .inl (K.1, 100, .inl (ar (Ne.1 7)))), ((a 2), .inr (0, [.ref (ac 0), .ref (ac 1), .ref (ac 2), vZ (Cr.2 3), vZ (Cr.2 4)])), ((ac 0), .inl (K.1, 8, .inl (ar (Cr.1 0)))), ((ac 1), .inl (K.1, 8, .inl (ar (Cr.1 1)))), ((ac 2), .inl (K.1, 8, .inl (ar (Cr.1 2))))]) rfl ?_
              refine z_st (st2 := [vZ b_31]) rfl ?_
              refine z_if_eq ZC 88 dX6_comeToTowns_34 (by decide) (by omega) (fun c_34 => ?_) (fun c_34 => ?_)
              · skip
                refine z_iinc ZC dX6_comeToTowns_88 rfl (by decide) ?_
                refine z_goto ZC 2 dX6_comeToTowns_91 (by decide) ?_
                refine z_ws (ws2 := [(h, .inr (6, [.ref (a 0), .ref (a 1), .ref (a 2), .ref (a 3), .ref (a 4), .ref (a 5), .ref (a 6), .ref (a 7), .ref (a 8), .ref (a 9), .ref (a 10), .ref (a 11), vZ (T1b.2 12), vZ (T1b.2 13), vZ (T1b.2 14), vZ (T1b.2 15)])), ((a 5), .inl (K.1, 8, .inl (ar (T1b.1 5)))), ((a 6), .inl (K.1, 8, .inl (ar (T1b.1 6)))), ((a 7), .inl (K.1, 8, .inl (ar (T1b.1 7)))), ((a 8), .inl (K.1, 10, .inl (ar (T1b.1 8)))), ((a 9), .inl (K.1, 10, .inl (ar (T1b.1 9)))), ((a 10), .inl (K.1, 10, .inl (ar (T1b.1 10)))), ((a 11), .inl (K.1, 16, .inl (ar (T1b.1 11)))), ((a 3), .inr (2, [.ref (aq1b 0), .ref (aq1b 1), .ref (aq1b 2), .ref (aq1b 3), .ref (aq1b 4), .ref (aq1b 5), .ref (aq1b 6), vZ (Sq1b.2 7), vZ (Sq1b.2 8)])), ((aq1b 0), .inl (K.1, 16, .inl (ar (Sq1b.1 0)))), ((aq1b 1), .inl (K.1, 16, .inl (ar (Sq1b.1 1)))), ((aq1b 2), .inl (K.1, 16, .inl (ar (Sq1b.1 2)))), ((aq1b 3), .inl (K.1, Nq1b, .inl (ar (Sq1b.1 3)))), ((aq1b 4), .inl (K.1, Nq1b, .inl (ar (Sq1b.1 4)))), ((aq1b 5), .inl (K.1, Nq1b, .inl (ar (Sq1b.1 5)))), ((aq1b 6), .inl (K.1, Nq1b, .inl (ar (Sq1b.1 6)))), ((a 4), .inr (2, [.ref (ad 0), .ref (ad 1), .ref (ad 2), .ref (ad 3), .ref (ad 4), .ref (ad 5), .ref (ad 6), vZ (Sd1b.2 7), vZ (Sd1b.2 8)])), ((ad 0), .inl (K.1, 16, .inl (ar (Sd1b.1 0)))), ((ad 1), .inl (K.1, 16, .inl (ar (Sd1b.1 1)))), ((ad 2), .inl (K.1, 16, .inl (ar (Sd1b.1 2)))), ((ad 3), .inl (K.1, Nd, .inl (ar (Sd1b.1 3)))), ((ad 4), .inl (K.1, Nd, .inl (ar (Sd1b.1 4)))), ((ad 5), .inl (K.1, Nd, .inl (ar (Sd1b.1 5)))), ((ad 6), .inl (K.1, Nd, .inl (ar (Sd1b.1 6)))), ((a 1), .inr (4, [.ref (an 0), .ref (an 1), .ref (an 2), .ref (an 3), .ref (an 4), .ref (an 5), .ref (an 6), .ref (an 7), vZ (Ne.2 8)])), ((an 0), .inl (K.1, 16, .inl (ar (Ne.1 0)))), ((an 1), .inl (K.1, 16, .inl (ar (Ne.1 1)))), ((an 2), .inl (K.1, 16, .inl (ar (Ne.1 2)))), ((an 3), .inl (K.1, 16, .inl (ar (Ne.1 3)))), ((an 4), .inl (K.1, 16, .inl (ar (Ne.1 4)))), ((an 5), .inl (K.1, 16, .inl (ar (Ne.1 5)))), ((an 6), .inl (K.1, 100, .inl (ar (Ne.1 6)))), ((an 7), .inl (K.1, 100, .inl (ar (Ne.1 7)))), ((a 2), .inr (0, [.ref (ac 0), .ref (ac 1), .ref (ac 2), vZ (Cr.2 3), vZ (Cr.2 4)])), ((ac 0), .inl (K.1, 8, .inl (ar (Cr.1 0)))), ((ac 1), .inl (K.1, 8, .inl (ar (Cr.1 1)))), ((ac 2), .inl (K.1, 8, .inl (ar (Cr.1 2))))]) rfl (z_lv (lv2 := [(0, .ref h), (1, vZ (r + 1))]) ⟨rfl, rfl, trivial⟩ ?_)
                refine ih_2 (r + 1) T1b aq1b Nq1b Sq1b Sd1b (gvb + 0) (gwb + 0) Cq1b Cd1b A1b ?_ ?_ ?_ ?_ ?_ ?_ ?_ (dec_lt hm_2 c_10)
                · skip
                  omega
                · skip
                  exact i1b
                · skip
                  exact i2b
                · skip
                  exact i3b
                · skip
                  exact i4b
                · skip
                  rw [aCome_next hr.1, ← i5, ← i5b]
                  refine (aCome1_done ?_).symm
                  intro q l hq
                  have hfd := (i1b.2.1 r (by omega) (by omega)).2.1
                  first
                    | omega
                    | (intro hqn
                       rcases hb_31 with z | z
                       · exact absurd z.1 (by omega)
                       · apply z.2
                         cases hCd : Cd1b r with
                         | nil => rw [hCd] at hfd; rw [hq] at hfd; cases hfd
                         | cons p l3 =>
                           refine ⟨p, l3, rfl, ?_⟩
                           have hp1 := lo_pos (r := r) i1b.1.2 ⟨by omega, by omega⟩ p (by rw [hCd]; exact List.mem_cons_self)
                           rw [hCd, hq] at hfd
                           obtain ⟨m, hm⟩ : ∃ m : Nat, p.2.1.toNat = m + 1 := ⟨p.2.1.toNat - 1, by omega⟩
                           have hfd2 : List.replicate p.2.1.toNat (p.1, p.2.2) ++ fd l3 = q :: l := hfd
                           rw [hm, List.replicate_succ] at hfd2
                           have := (List.cons.inj hfd2).1
                           rw [enow, ← hqn, ← this])
                · skip
                  exact i6b
              · skip
                obtain ⟨⟨c, nn, dd⟩, l2, hC, hdue⟩ : ∃ (q : Pt3) (l : List Pt3), Cd1b r = q :: l ∧ q.2.2 = T1b.2 12 := by
                  rcases hb_31 with z | z
                  · exact z.2
                  · exact absurd z.1 c_34
                have hdue : dd = A1b.2.1 0 := hdue.trans enow
                subst hdue
                have hn1 : 1 ≤ nn := lo_pos (r := r) i1b.1.2 ⟨by omega, by omega⟩ _ (by rw [hC]; exact List.mem_cons_self)
                have hdd : A1b.2.2.2 r = List.replicate nn.toNat (c, A1b.2.1 0) ++ fd l2 := by rw [← (i1b.2.1 r (by omega) (by omega)).2.1, hC]; rfl
                obtain ⟨⟨q1, q2, q3, -, -⟩, hle, hok9⟩ := aok_arr hcf i2b ⟨by omega, by omega⟩ (by omega) hdd
                have hcc := hcf.2.2.2.1 c q1 q2
                have hatr := (hcf.2.2.1 r (by omega) (by omega)).2.1
                have hA0 := (i2b.2 c q1 q2).2.1
                have hcr := hcf.2.1
                refine z_aload_n ZC 0 dX6_comeToTowns_37 rfl rfl ?_
                refine z_get ZC inUX6 0 rfl rfl 4 (by decide) uF_X6_18 rfl dX6_comeToTowns_38 ?_
                refine z_iload_n ZC 1 dX6_comeToTowns_41 rfl rfl ?_
                refine z_callV ZC 1 (c_X2_firstCrowd zl D K (a 4) ad Nd Sd1b B Cd1b r c nn (A1b.2.1 0) l2 (i1b.1.2) (by omega) (hC)) (gdV uM_X6_120 uI_X2_firstCrowd uS_X2_firstCrowd uN_X2 uC_X2_firstCrowd) (by decide +kernel) rfl ⟨by omega, by omega⟩ ⟨by omega, by omega⟩ (Nat.le_of_ble_eq_true rfl) [16, 17, 18, 19, 20, 21, 22, 23] rfl (by decide) rfl rfl rfl rfl dX6_comeToTowns_42 (fun r w2 gc_42 gs_42 hp => ?_)
                obtain ⟨rfl, rfl, rfl, rfl⟩ := hp
                refine z_ws (ws2 := [(h, .inr (6, [.ref (a 0), .ref (a 1), .ref (a 2), .ref (a 3), .ref (a 4), .ref (a 5), .ref (a 6), .ref (a 7), .ref (a 8), .ref (a 9), .ref (a 10), .ref (a 11), vZ (T1b.2 12), vZ (T1b.2 13), vZ (T1b.2 14), vZ (T1b.2 15)])), ((a 5), .inl (K.1, 8, .inl (ar (T1b.1 5)))), ((a 6), .inl (K.1, 8, .inl (ar (T1b.1 6)))), ((a 7), .inl (K.1, 8, .inl (ar (T1b.1 7)))), ((a 8), .inl (K.1, 10, .inl (ar (T1b.1 8)))), ((a 9), .inl (K.1, 10, .inl (ar (T1b.1 9)))), ((a 10), .inl (K.1, 10, .inl (ar (T1b.1 10)))), ((a 11), .inl (K.1, 16, .inl (ar (T1b.1 11)))), ((a 3), .inr (2, [.ref (aq1b 0), .ref (aq1b 1), .ref (aq1b 2), .ref (aq1b 3), .ref (aq1b 4), .ref (aq1b 5), .ref (aq1b 6), vZ (Sq1b.2 7), vZ (Sq1b.2 8)])), ((aq1b 0), .inl (K.1, 16, .inl (ar (Sq1b.1 0)))), ((aq1b 1), .inl (K.1, 16, .inl (ar (Sq1b.1 1)))), ((aq1b 2), .inl (K.1, 16, .inl (ar (Sq1b.1 2)))), ((aq1b 3), .inl (K.1, Nq1b, .inl (ar (Sq1b.1 3)))), ((aq1b 4), .inl (K.1, Nq1b, .inl (ar (Sq1b.1 4)))), ((aq1b 5), .inl (K.1, Nq1b, .inl (ar (Sq1b.1 5)))), ((aq1b 6), .inl (K.1, Nq1b, .inl (ar (Sq1b.1 6)))), ((a 4), .inr (2, [.ref (ad 0), .ref (ad 1), .ref (ad 2), .ref (ad 3), .ref (ad 4), .ref (ad 5), .ref (ad 6), vZ (Sd1b.2 7), vZ (Sd1b.2 8)])), ((ad 0), .inl (K.1, 16, .inl (ar (Sd1b.1 0)))), ((ad 1), .inl (K.1, 16, .inl (ar (Sd1b.1 1)))), ((ad 2), .inl (K.1, 16, .inl (ar (Sd1b.1 2)))), ((ad 3), .inl (K.1, Nd, .inl (ar (Sd1b.1 3)))), ((ad 4), .inl (K.1, Nd, .inl (ar (Sd1b.1 4)))), ((ad 5), .inl (K.1, Nd, .inl (ar (Sd1b.1 5)))), ((ad 6), .inl (K.1, Nd, .inl (ar (Sd1b.1 6)))), ((a 1), .inr (4, [.ref (an 0), .ref (an 1), .ref (an 2), .ref (an 3), .ref (an 4), .ref (an 5), .ref (an 6), .ref (an 7), vZ (Ne.2 8)])), ((an 0), .inl (K.1, 16, .inl (ar (Ne.1 0)))), ((an 1), .inl (K.1, 16, .inl (ar (Ne.1 1)))), ((an 2), .inl (K.1, 16, .inl (ar (Ne.1 2)))), ((an 3), .inl (K.1, 16, .inl (ar (Ne.1 3)))), ((an 4), .inl (K.1, 16, .inl (ar (Ne.1 4)))), ((an 5), .inl (K.1, 16, .inl (ar (Ne.1 5)))), ((an 6), .inl (K.1, 100, .inl (ar (Ne.1 6)))), ((an 7), .inl (K.1, 100, .inl (ar (Ne.1 7)))), ((a 2), .inr (0, [.ref (ac 0), .ref (ac 1), .ref (ac 2), vZ (Cr.2 3), vZ (Cr.2 4)])), ((ac 0), .inl (K.1, 8, .inl (ar (Cr.1 0)))), ((ac 1), .inl (K.1, 8, .inl (ar (Cr.1 1)))), ((ac 2), .inl (K.1, 8, .inl (ar (Cr.1 2))))]) rfl ?_
                refine z_st (st2 := [vZ c]) rfl ?_
                refine z_istore_n ZC 3 dX6_comeToTowns_45 rfl (by decide) ?_
                refine z_aload_n ZC 0 dX6_comeToTowns_46 rfl rfl ?_
                refine z_get ZC inUX6 0 rfl rfl 4 (by decide) uF_X6_18 rfl dX6_comeToTowns_47 ?_
                refine z_iload_n ZC 1 dX6_comeToTowns_50 rfl rfl ?_
                refine z_callV ZC 1 (c_X2_firstCars zl D K (a 4) ad Nd Sd1b B Cd1b r c nn (A1b.2.1 0) l2 (i1b.1.2) (by omega) (hC)) (gdV uM_X6_124 uI_X2_firstCars uS_X2_firstCars uN_X2 uC_X2_firstCars) (by decide +kernel) rfl ⟨by omega, by omega⟩ ⟨by omega, by omega⟩ (Nat.le_of_ble_eq_true rfl) [16, 17, 18, 19, 20, 21, 22, 23] rfl (by decide) rfl rfl rfl rfl dX6_comeToTowns_51 (fun r w2 gc_51 gs_51 hp => ?_)
                obtain ⟨rfl, rfl, rfl, rfl⟩ := hp
                refine z_ws (ws2 := [(h, .inr (6, [.ref (a 0), .ref (a 1), .ref (a 2), .ref (a 3), .ref (a 4), .ref (a 5), .ref (a 6), .ref (a 7), .ref (a 8), .ref (a 9), .ref (a 10), .ref (a 11), vZ (T1b.2 12), vZ (T1b.2 13), vZ (T1b.2 14), vZ (T1b.2 15)])), ((a 5), .inl (K.1, 8, .inl (ar (T1b.1 5)))), ((a 6), .inl (K.1, 8, .inl (ar (T1b.1 6)))), ((a 7), .inl (K.1, 8, .inl (ar (T1b.1 7)))), ((a 8), .inl (K.1, 10, .inl (ar (T1b.1 8)))), ((a 9), .inl (K.1, 10, .inl (ar (T1b.1 9)))), ((a 10), .inl (K.1, 10, .inl (ar (T1b.1 10)))), ((a 11), .inl (K.1, 16, .inl (ar (T1b.1 11)))), ((a 3), .inr (2, [.ref (aq1b 0), .ref (aq1b 1), .ref (aq1b 2), .ref (aq1b 3), .ref (aq1b 4), .ref (aq1b 5), .ref (aq1b 6), vZ (Sq1b.2 7), vZ (Sq1b.2 8)])), ((aq1b 0), .inl (K.1, 16, .inl (ar (Sq1b.1 0)))), ((aq1b 1), .inl (K.1, 16, .inl (ar (Sq1b.1 1)))), ((aq1b 2), .inl (K.1, 16, .inl (ar (Sq1b.1 2)))), ((aq1b 3), .inl (K.1, Nq1b, .inl (ar (Sq1b.1 3)))), ((aq1b 4), .inl (K.1, Nq1b, .inl (ar (Sq1b.1 4)))), ((aq1b 5), .inl (K.1, Nq1b, .inl (ar (Sq1b.1 5)))), ((aq1b 6), .inl (K.1, Nq1b, .inl (ar (Sq1b.1 6)))), ((a 4), .inr (2, [.ref (ad 0), .ref (ad 1), .ref (ad 2), .ref (ad 3), .ref (ad 4), .ref (ad 5), .ref (ad 6), vZ (Sd1b.2 7), vZ (Sd1b.2 8)])), ((ad 0), .inl (K.1, 16, .inl (ar (Sd1b.1 0)))), ((ad 1), .inl (K.1, 16, .inl (ar (Sd1b.1 1)))), ((ad 2), .inl (K.1, 16, .inl (ar (Sd1b.1 2)))), ((ad 3), .inl (K.1, Nd, .inl (ar (Sd1b.1 3)))), ((ad 4), .inl (K.1, Nd, .inl (ar (Sd1b.1 4)))), ((ad 5), .inl (K.1, Nd, .inl (ar (Sd1b.1 5)))), ((ad 6), .inl (K.1, Nd, .inl (ar (Sd1b.1 6)))), ((a 1), .inr (4, [.ref (an 0), .ref (an 1), .ref (an 2), .ref (an 3), .ref (an 4), .ref (an 5), .ref (an 6), .ref (an 7), vZ (Ne.2 8)])), ((an 0), .inl (K.1, 16, .inl (ar (Ne.1 0)))), ((an 1), .inl (K.1, 16, .inl (ar (Ne.1 1)))), ((an 2), .inl (K.1, 16, .inl (ar (Ne.1 2)))), ((an 3), .inl (K.1, 16, .inl (ar (Ne.1 3)))), ((an 4), .inl (K.1, 16, .inl (ar (Ne.1 4)))), ((an 5), .inl (K.1, 16, .inl (ar (Ne.1 5)))), ((an 6), .inl (K.1, 100, .inl (ar (Ne.1 6)))), ((an 7), .inl (K.1, 100, .inl (ar (Ne.1 7)))), ((a 2), .inr (0, [.ref (ac 0), .ref (ac 1), .ref (ac 2), vZ (Cr.2 3), vZ (Cr.2 4)])), ((ac 0), .inl (K.1, 8, .inl (ar (Cr.1 0)))), ((ac 1), .inl (K.1, 8, .inl (ar (Cr.1 1)))), ((ac 2), .inl (K.1, 8, .inl (ar (Cr.1 2))))]) rfl ?_
                refine z_st (st2 := [vZ nn]) rfl ?_
                refine z_istore ZC dX6_comeToTowns_54 (by decide) ?_
                refine z_aload_n ZC 0 dX6_comeToTowns_56 rfl rfl ?_
                refine z_get ZC inUX6 0 rfl rfl 4 (by decide) uF_X6_18 rfl dX6_comeToTowns_57 ?_
                refine z_iload_n ZC 1 dX6_comeToTowns_60 rfl rfl ?_
                refine z_iload ZC dX6_comeToTowns_61 rfl ?_
                refine z_callV ZC 2 (c_X2_take zl D K (a 4) ad Nd Sd1b B Cd1b r nn c nn (A1b.2.1 0) l2 (i1b.1.2) (by omega) (hC) (by omega)) (gdV uM_X6_127 uI_X2_take uS_X2_take uN_X2 uC_X2_take) (by decide +kernel) rfl ⟨by omega, by omega⟩ ⟨by omega, by omega⟩ (Nat.le_of_ble_eq_true rfl) [16, 17, 18, 19, 20, 21, 22, 23] rfl (by decide) rfl rfl rfl rfl dX6_comeToTowns_63 (fun r w2 gc_63 gs_63 hp => ?_)
                obtain ⟨S2_63, rfl, rfl, rfl, rfl, hO2_63⟩ := hp
                refine z_ws (ws2 := [(h, .inr (6, [.ref (a 0), .ref (a 1), .ref (a 2), .ref (a 3), .ref (a 4), .ref (a 5), .ref (a 6), .ref (a 7), .ref (a 8), .ref (a 9), .ref (a 10), .ref (a 11), vZ (T1b.2 12), vZ (T1b.2 13), vZ (T1b.2 14), vZ (T1b.2 15)])), ((a 5), .inl (K.1, 8, .inl (ar (T1b.1 5)))), ((a 6), .inl (K.1, 8, .inl (ar (T1b.1 6)))), ((a 7), .inl (K.1, 8, .inl (ar (T1b.1 7)))), ((a 8), .inl (K.1, 10, .inl (ar (T1b.1 8)))), ((a 9), .inl (K.1, 10, .inl (ar (T1b.1 9)))), ((a 10), .inl (K.1, 10, .inl (ar (T1b.1 10)))), ((a 11), .inl (K.1, 16, .inl (ar (T1b.1 11)))), ((a 3), .inr (2, [.ref (aq1b 0), .ref (aq1b 1), .ref (aq1b 2), .ref (aq1b 3), .ref (aq1b 4), .ref (aq1b 5), .ref (aq1b 6), vZ (Sq1b.2 7), vZ (Sq1b.2 8)])), ((aq1b 0), .inl (K.1, 16, .inl (ar (Sq1b.1 0)))), ((aq1b 1), .inl (K.1, 16, .inl (ar (Sq1b.1 1)))), ((aq1b 2), .inl (K.1, 16, .inl (ar (Sq1b.1 2)))), ((aq1b 3), .inl (K.1, Nq1b, .inl (ar (Sq1b.1 3)))), ((aq1b 4), .inl (K.1, Nq1b, .inl (ar (Sq1b.1 4)))), ((aq1b 5), .inl (K.1, Nq1b, .inl (ar (Sq1b.1 5)))), ((aq1b 6), .inl (K.1, Nq1b, .inl (ar (Sq1b.1 6)))), ((a 4), .inr (2, [.ref (ad 0), .ref (ad 1), .ref (ad 2), .ref (ad 3), .ref (ad 4), .ref (ad 5), .ref (ad 6), vZ (S2_63.2 7), vZ (S2_63.2 8)])), ((ad 0), .inl (K.1, 16, .inl (ar (S2_63.1 0)))), ((ad 1), .inl (K.1, 16, .inl (ar (S2_63.1 1)))), ((ad 2), .inl (K.1, 16, .inl (ar (S2_63.1 2)))), ((ad 3), .inl (K.1, Nd, .inl (ar (S2_63.1 3)))), ((ad 4), .inl (K.1, Nd, .inl (ar (S2_63.1 4)))), ((ad 5), .inl (K.1, Nd, .inl (ar (S2_63.1 5)))), ((ad 6), .inl (K.1, Nd, .inl (ar (S2_63.1 6)))), ((a 1), .inr (4, [.ref (an 0), .ref (an 1), .ref (an 2), .ref (an 3), .ref (an 4), .ref (an 5), .ref (an 6), .ref (an 7), vZ (Ne.2 8)])), ((an 0), .inl (K.1, 16, .inl (ar (Ne.1 0)))), ((an 1), .inl (K.1, 16, .inl (ar (Ne.1 1)))), ((an 2), .inl (K.1, 16, .inl (ar (Ne.1 2)))), ((an 3), .inl (K.1, 16, .inl (ar (Ne.1 3)))), ((an 4), .inl (K.1, 16, .inl (ar (Ne.1 4)))), ((an 5), .inl (K.1, 16, .inl (ar (Ne.1 5)))), ((an 6), .inl (K.1, 100, .inl (ar (Ne.1 6)))), ((an 7), .inl (K.1, 100, .inl (ar (Ne.1 7)))), ((a 2), .inr (0, [.ref (ac 0), .ref (ac 1), .ref (ac 2), vZ (Cr.2 3), vZ (Cr.2 4)])), ((ac 0), .inl (K.1, 8, .inl (ar (Cr.1 0)))), ((ac 1), .inl (K.1, 8, .inl (ar (Cr.1 1)))), ((ac 2), .inl (K.1, 8, .inl (ar (Cr.1 2))))]) rfl ?_
                refine z_st (st2 := []) rfl ?_
                have htk : tk3 c nn (A1b.2.1 0) l2 nn = l2 := if_neg (by omega)
                rw [htk] at hO2_63
                refine z_aload_n ZC 0 dX6_comeToTowns_66 rfl rfl ?_
                refine z_aload_n ZC 0 dX6_comeToTowns_67 rfl rfl ?_
                refine z_get ZC inUX6 0 rfl rfl 1 (by decide) uF_X6_51 rfl dX6_comeToTowns_68 ?_
                refine z_get ZC inUX4 24 rfl rfl 1 (by decide) uF_X6_131 rfl dX6_comeToTowns_71 ?_
                refine z_iload_n ZC 1 dX6_comeToTowns_74 rfl rfl ?_
                refine z_iald ZC 26 rfl dX6_comeToTowns_75 (by omega) ?_
                refine z_iload_n ZC 3 dX6_comeToTowns_76 rfl rfl ?_
                refine z_iload ZC dX6_comeToTowns_77 rfl ?_
                have hq9 := lo_len i1b.1.1
                have hd9 := lo_len i1b.1.2
                have hl9 := lns_le (P := Cd1b) (r := r) (n := 16) (by omega) (by omega)
                have hl8 : 1 ≤ (Cd1b r).length := by rw [hC]; simp
                refine z_callV ZC 3 (c_X6_comeTo zl D K h a T1b aq1b Nq1b Sq1b an Ne ac Cr B Cq1b ((Ne.1 1) r) c nn (hatr) (⟨q1, by omega⟩) (hcc.2.1) (i1b.1.1) (by omega) (hn1) (fun j h1 h2 q hq => by have := (tr_dv hcf i2b i1b h1 h2).2 q hq; omega) (fun z => by have := (cfg_way hcf hatr q1 q2 q3 z).1; exact ⟨this.1, this.2.2⟩)) (gdV uM_X6_134 uI_X6_comeTo uS_X6_comeTo uN_X6 uC_X6_comeTo) (by decide +kernel) rfl ⟨by omega, by omega⟩ ⟨by omega, by omega⟩ (Nat.le_of_ble_eq_true rfl) [0, 1, 2, 3, 4, 5, 6, 7, 8, 9, 10, 11, 12, 13, 14, 15, 24, 25, 26, 27, 28, 29, 30, 31, 32, 33, 34, 35, 36] rfl (by decide) rfl rfl rfl rfl dX6_comeToTowns_79 (fun r w2 gc_79 gs_79 hp => ?_)
                obtain ⟨T2_79, aq2_79, Nq2_79, Sq2_79, C2_79, rfl, rfl, hO2_79, hT_79, hN2_79, hgc_79, hgs_79, hg4_79⟩ := hp
                refine z_ws (ws2 := [(h, .inr (6, [.ref (a 0), .ref (a 1), .ref (a 2), .ref (a 3), .ref (a 4), .ref (a 5), .ref (a 6), .ref (a 7), .ref (a 8), .ref (a 9), .ref (a 10), .ref (a 11), vZ (T2_79.2 12), vZ (T2_79.2 13), vZ (T2_79.2 14), vZ (T2_79.2 15)])), ((a 5), .inl (K.1, 8, .inl (ar (T2_79.1 5)))), ((a 6), .inl (K.1, 8, .inl (ar (T2_79.1 6)))), ((a 7), .inl (K.1, 8, .inl (ar (T2_79.1 7)))), ((a 8), .inl (K.1, 10, .inl (ar (T2_79.1 8)))), ((a 9), .inl (K.1, 10, .inl (ar (T2_79.1 9)))), ((a 10), .inl (K.1, 10, .inl (ar (T2_79.1 10)))), ((a 11), .inl (K.1, 16, .inl (ar (T2_79.1 11)))), ((a 3), .inr (2, [.ref (aq2_79 0), .ref (aq2_79 1), .ref (aq2_79 2), .ref (aq2_79 3), .ref (aq2_79 4), .ref (aq2_79 5), .ref (aq2_79 6), vZ (Sq2_79.2 7), vZ (Sq2_79.2 8)])), ((aq2_79 0), .inl (K.1, 16, .inl (ar (Sq2_79.1 0)))), ((aq2_79 1), .inl (K.1, 16, .inl (ar (Sq2_79.1 1)))), ((aq2_79 2), .inl (K.1, 16, .inl (ar (Sq2_79.1 2)))), ((aq2_79 3), .inl (K.1, Nq2_79, .inl (ar (Sq2_79.1 3)))), ((aq2_79 4), .inl (K.1, Nq2_79, .inl (ar (Sq2_79.1 4)))), ((aq2_79 5), .inl (K.1, Nq2_79, .inl (ar (Sq2_79.1 5)))), ((aq2_79 6), .inl (K.1, Nq2_79, .inl (ar (Sq2_79.1 6)))), ((a 4), .inr (2, [.ref (ad 0), .ref (ad 1), .ref (ad 2), .ref (ad 3), .ref (ad 4), .ref (ad 5), .ref (ad 6), vZ (S2_63.2 7), vZ (S2_63.2 8)])), ((ad 0), .inl (K.1, 16, .inl (ar (S2_63.1 0)))), ((ad 1), .inl (K.1, 16, .inl (ar (S2_63.1 1)))), ((ad 2), .inl (K.1, 16, .inl (ar (S2_63.1 2)))), ((ad 3), .inl (K.1, Nd, .inl (ar (S2_63.1 3)))), ((ad 4), .inl (K.1, Nd, .inl (ar (S2_63.1 4)))), ((ad 5), .inl (K.1, Nd, .inl (ar (S2_63.1 5)))), ((ad 6), .inl (K.1, Nd, .inl (ar (S2_63.1 6)))), ((a 1), .inr (4, [.ref (an 0), .ref (an 1), .ref (an 2), .ref (an 3), .ref (an 4), .ref (an 5), .ref (an 6), .ref (an 7), vZ (Ne.2 8)])), ((an 0), .inl (K.1, 16, .inl (ar (Ne.1 0)))), ((an 1), .inl (K.1, 16, .inl (ar (Ne.1 1)))), ((an 2), .inl (K.1, 16, .inl (ar (Ne.1 2)))), ((an 3), .inl (K.1, 16, .inl (ar (Ne.1 3)))), ((an 4), .inl (K.1, 16, .inl (ar (Ne.1 4)))), ((an 5), .inl (K.1, 16, .inl (ar (Ne.1 5)))), ((an 6), .inl (K.1, 100, .inl (ar (Ne.1 6)))), ((an 7), .inl (K.1, 100, .inl (ar (Ne.1 7)))), ((a 2), .inr (0, [.ref (ac 0), .ref (ac 1), .ref (ac 2), vZ (Cr.2 3), vZ (Cr.2 4)])), ((ac 0), .inl (K.1, 8, .inl (ar (Cr.1 0)))), ((ac 1), .inl (K.1, 8, .inl (ar (Cr.1 1)))), ((ac 2), .inl (K.1, 8, .inl (ar (Cr.1 2))))]) rfl ?_
                refine z_st (st2 := []) rfl ?_
                refine z_iinc ZC dX6_comeToTowns_82 rfl (by decide) ?_
                refine z_goto ZC 15 dX6_comeToTowns_85 (by decide) ?_
                refine z_ws (ws2 := [(h, .inr (6, [.ref (a 0), .ref (a 1), .ref (a 2), .ref (a 3), .ref (a 4), .ref (a 5), .ref (a 6), .ref (a 7), .ref (a 8), .ref (a 9), .ref (a 10), .ref (a 11), vZ (T2_79.2 12), vZ (T2_79.2 13), vZ (T2_79.2 14), vZ (T2_79.2 15)])), ((a 5), .inl (K.1, 8, .inl (ar (T2_79.1 5)))), ((a 6), .inl (K.1, 8, .inl (ar (T2_79.1 6)))), ((a 7), .inl (K.1, 8, .inl (ar (T2_79.1 7)))), ((a 8), .inl (K.1, 10, .inl (ar (T2_79.1 8)))), ((a 9), .inl (K.1, 10, .inl (ar (T2_79.1 9)))), ((a 10), .inl (K.1, 10, .inl (ar (T2_79.1 10)))), ((a 11), .inl (K.1, 16, .inl (ar (T2_79.1 11)))), ((a 3), .inr (2, [.ref (aq2_79 0), .ref (aq2_79 1), .ref (aq2_79 2), .ref (aq2_79 3), .ref (aq2_79 4), .ref (aq2_79 5), .ref (aq2_79 6), vZ (Sq2_79.2 7), vZ (Sq2_79.2 8)])), ((aq2_79 0), .inl (K.1, 16, .inl (ar (Sq2_79.1 0)))), ((aq2_79 1), .inl (K.1, 16, .inl (ar (Sq2_79.1 1)))), ((aq2_79 2), .inl (K.1, 16, .inl (ar (Sq2_79.1 2)))), ((aq2_79 3), .inl (K.1, Nq2_79, .inl (ar (Sq2_79.1 3)))), ((aq2_79 4), .inl (K.1, Nq2_79, .inl (ar (Sq2_79.1 4)))), ((aq2_79 5), .inl (K.1, Nq2_79, .inl (ar (Sq2_79.1 5)))), ((aq2_79 6), .inl (K.1, Nq2_79, .inl (ar (Sq2_79.1 6)))), ((a 4), .inr (2, [.ref (ad 0), .ref (ad 1), .ref (ad 2), .ref (ad 3), .ref (ad 4), .ref (ad 5), .ref (ad 6), vZ (S2_63.2 7), vZ (S2_63.2 8)])), ((ad 0), .inl (K.1, 16, .inl (ar (S2_63.1 0)))), ((ad 1), .inl (K.1, 16, .inl (ar (S2_63.1 1)))), ((ad 2), .inl (K.1, 16, .inl (ar (S2_63.1 2)))), ((ad 3), .inl (K.1, Nd, .inl (ar (S2_63.1 3)))), ((ad 4), .inl (K.1, Nd, .inl (ar (S2_63.1 4)))), ((ad 5), .inl (K.1, Nd, .inl (ar (S2_63.1 5)))), ((ad 6), .inl (K.1, Nd, .inl (ar (S2_63.1 6)))), ((a 1), .inr (4, [.ref (an 0), .ref (an 1), .ref (an 2), .ref (an 3), .ref (an 4), .ref (an 5), .ref (an 6), .ref (an 7), vZ (Ne.2 8)])), ((an 0), .inl (K.1, 16, .inl (ar (Ne.1 0)))), ((an 1), .inl (K.1, 16, .inl (ar (Ne.1 1)))), ((an 2), .inl (K.1, 16, .inl (ar (Ne.1 2)))), ((an 3), .inl (K.1, 16, .inl (ar (Ne.1 3)))), ((an 4), .inl (K.1, 16, .inl (ar (Ne.1 4)))), ((an 5), .inl (K.1, 16, .inl (ar (Ne.1 5)))), ((an 6), .inl (K.1, 100, .inl (ar (Ne.1 6)))), ((an 7), .inl (K.1, 100, .inl (ar (Ne.1 7)))), ((a 2), .inr (0, [.ref (ac 0), .ref (ac 1), .ref (ac 2), vZ (Cr.2 3), vZ (Cr.2 4)])), ((ac 0), .inl (K.1, 8, .inl (ar (Cr.1 0)))), ((ac 1), .inl (K.1, 8, .inl (ar (Cr.1 1)))), ((ac 2), .inl (K.1, 8, .inl (ar (Cr.1 2))))]) rfl (z_lv (lv2 := [(0, .ref h), (1, vZ r), (2, vZ (i + 1))]) ⟨rfl, rfl, rfl, trivial⟩ ?_)
                refine ih_15 (i + 1) T2_79 aq2_79 Nq2_79 Sq2_79 S2_63 (gvb + 0 + 0 + 0 + 0 + gc_79) (gwb + 0 + 0 + 0 + 0 + gs_79) C2_79 (upL Cd1b r l2) (aArr Ne Cr (Ne.1 1 r) (aD A1b r (fd l2)) c nn.toNat) ?_ ?_ ?_ ?_ ?_ ?_ ?_ (dec_lt hm_15 c_19)
                · skip
                  rw [upL_self]
                  rw [hC] at hi
                  simp only [List.length_cons] at hi
                  omega
                · skip
                  exact tr_arr hcf i2b i1b ⟨by omega, by omega⟩ hC hn1 hO2_79 hO2_63 hT_79
                · skip
                  exact hok9
                · skip
                  exact ((fold_keep Ne Cr (Ne.1 1 r) (List.replicate nn.toNat c) (aD A1b r (fd l2))).1).trans i3b
                · skip
                  have u1 := lns_up (P := Cd1b) (r := r) (l := l2) (n := 16) (by omega) (by omega)
                  rw [hC] at u1
                  simp only [List.length_cons] at u1
                  rcases hT_79 with ⟨-, -, z⟩ | ⟨z0, -, z⟩
                  · rw [z]; omega
                  · obtain ⟨w1, -, -⟩ := cfg_way hcf hatr q1 q2 q3 z0
                    have u2 := lns_up (P := Cq1b) (r := aWay Ne Cr (Ne.1 1 r) c) (l := ap3 (Cq1b (aWay Ne Cr (Ne.1 1 r) c)) c nn 0) (n := 16) w1.1 (by omega)
                    have u3 := ap3_len (Cq1b (aWay Ne Cr (Ne.1 1 r) c)) c nn 0
                    have u4 : lns C2_79 16 = lns (upL Cq1b (aWay Ne Cr (Ne.1 1 r) c) (ap3 (Cq1b (aWay Ne Cr (Ne.1 1 r) c)) c nn 0)) 16 := by rw [z]; rfl
                    omega
                · skip
                  rw [← i5b]
                  exact (aCome1_step hdd).symm
                · skip
                  omega
        refine z_ws (ws2 := [(h, .inr (6, [.ref (a 0), .ref (a 1), .ref (a 2), .ref (a 3), .ref (a 4), .ref (a 5), .ref (a 6), .ref (a 7), .ref (a 8), .ref (a 9), .ref (a 10), .ref (a 11), vZ (T1.2 12), vZ (T1.2 13), vZ (T1.2 14), vZ (T1.2 15)])), ((a 5), .inl (K.1, 8, .inl (ar (T1.1 5)))), ((a 6), .inl (K.1, 8, .inl (ar (T1.1 6)))), ((a 7), .inl (K.1, 8, .inl (ar (T1.1 7)))), ((a 8), .inl (K.1, 10, .inl (ar (T1.1 8)))), ((a 9), .inl (K.1, 10, .inl (ar (T1.1 9)))), ((a 10), .inl (K.1, 10, .inl (ar (T1.1 10)))), ((a 11), .inl (K.1, 16, .inl (ar (T1.1 11)))), ((a 3), .inr (2, [.ref (aq1 0), .ref (aq1 1), .ref (aq1 2), .ref (aq1 3), .ref (aq1 4), .ref (aq1 5), .ref (aq1 6), vZ (Sq1.2 7), vZ (Sq1.2 8)])), ((aq1 0), .inl (K.1, 16, .inl (ar (Sq1.1 0)))), ((aq1 1), .inl (K.1, 16, .inl (ar (Sq1.1 1)))), ((aq1 2), .inl (K.1, 16, .inl (ar (Sq1.1 2)))), ((aq1 3), .inl (K.1, Nq1, .inl (ar (Sq1.1 3)))), ((aq1 4), .inl (K.1, Nq1, .inl (ar (Sq1.1 4)))), ((aq1 5), .inl (K.1, Nq1, .inl (ar (Sq1.1 5)))), ((aq1 6), .inl (K.1, Nq1, .inl (ar (Sq1.1 6)))), ((a 4), .inr (2, [.ref (ad 0), .ref (ad 1), .ref (ad 2), .ref (ad 3), .ref (ad 4), .ref (ad 5), .ref (ad 6), vZ (Sd1.2 7), vZ (Sd1.2 8)])), ((ad 0), .inl (K.1, 16, .inl (ar (Sd1.1 0)))), ((ad 1), .inl (K.1, 16, .inl (ar (Sd1.1 1)))), ((ad 2), .inl (K.1, 16, .inl (ar (Sd1.1 2)))), ((ad 3), .inl (K.1, Nd, .inl (ar (Sd1.1 3)))), ((ad 4), .inl (K.1, Nd, .inl (ar (Sd1.1 4)))), ((ad 5), .inl (K.1, Nd, .inl (ar (Sd1.1 5)))), ((ad 6), .inl (K.1, Nd, .inl (ar (Sd1.1 6)))), ((a 1), .inr (4, [.ref (an 0), .ref (an 1), .ref (an 2), .ref (an 3), .ref (an 4), .ref (an 5), .ref (an 6), .ref (an 7), vZ (Ne.2 8)])), ((an 0), .inl (K.1, 16, .inl (ar (Ne.1 0)))), ((an 1), .inl (K.1, 16, .inl (ar (Ne.1 1)))), ((an 2), .inl (K.1, 16, .inl (ar (Ne.1 2)))), ((an 3), .inl (K.1, 16, .inl (ar (Ne.1 3)))), ((an 4), .inl (K.1, 16, .inl (ar (Ne.1 4)))), ((an 5), .inl (K.1, 16, .inl (ar (Ne.1 5)))), ((an 6), .inl (K.1, 100, .inl (ar (Ne.1 6)))), ((an 7), .inl (K.1, 100, .inl (ar (Ne.1 7)))), ((a 2), .inr (0, [.ref (ac 0), .ref (ac 1), .ref (ac 2), vZ (Cr.2 3), vZ (Cr.2 4)])), ((ac 0), .inl (K.1, 8, .inl (ar (Cr.1 0)))), ((ac 1), .inl (K.1, 8, .inl (ar (Cr.1 1)))), ((ac 2), .inl (K.1, 8, .inl (ar (Cr.1 2))))]) rfl (z_lv (lv2 := [(0, .ref h), (1, vZ r), (2, vZ 0)]) ⟨rfl, rfl, rfl, trivial⟩ ?_)
        refine lp_15 _ 0 T1 aq1 Nq1 Sq1 Sd1 gv gw Cq1 Cd1 A1 ?_ ?_ ?_ ?_ ?_ ?_ ?_ (Nat.lt_succ_self _)
        · skip
          have hl9 := lns_le (P := Cd1) (r := r) (n := 16) (by omega) (by omega)
          omega
        · skip
          exact i1
        · skip
          exact i2
        · skip
          exact i3
        · skip
          exact i4
        · skip
          rfl
        · skip
          exact i6
  refine z_ws (ws2 := [(h, .inr (6, [.ref (a 0), .ref (a 1), .ref (a 2), .ref (a 3), .ref (a 4), .ref (a 5), .ref (a 6), .ref (a 7), .ref (a 8), .ref (a 9), .ref (a 10), .ref (a 11), vZ (T.2 12), vZ (T.2 13), vZ (T.2 14), vZ (T.2 15)])), ((a 5), .inl (K.1, 8, .inl (ar (T.1 5)))), ((a 6), .inl (K.1, 8, .inl (ar (T.1 6)))), ((a 7), .inl (K.1, 8, .inl (ar (T.1 7)))), ((a 8), .inl (K.1, 10, .inl (ar (T.1 8)))), ((a 9), .inl (K.1, 10, .inl (ar (T.1 9)))), ((a 10), .inl (K.1, 10, .inl (ar (T.1 10)))), ((a 11), .inl (K.1, 16, .inl (ar (T.1 11)))), ((a 3), .inr (2, [.ref (aq 0), .ref (aq 1), .ref (aq 2), .ref (aq 3), .ref (aq 4), .ref (aq 5), .ref (aq 6), vZ (Sq.2 7), vZ (Sq.2 8)])), ((aq 0), .inl (K.1, 16, .inl (ar (Sq.1 0)))), ((aq 1), .inl (K.1, 16, .inl (ar (Sq.1 1)))), ((aq 2), .inl (K.1, 16, .inl (ar (Sq.1 2)))), ((aq 3), .inl (K.1, Nq, .inl (ar (Sq.1 3)))), ((aq 4), .inl (K.1, Nq, .inl (ar (Sq.1 4)))), ((aq 5), .inl (K.1, Nq, .inl (ar (Sq.1 5)))), ((aq 6), .inl (K.1, Nq, .inl (ar (Sq.1 6)))), ((a 4), .inr (2, [.ref (ad 0), .ref (ad 1), .ref (ad 2), .ref (ad 3), .ref (ad 4), .ref (ad 5), .ref (ad 6), vZ (Sd.2 7), vZ (Sd.2 8)])), ((ad 0), .inl (K.1, 16, .inl (ar (Sd.1 0)))), ((ad 1), .inl (K.1, 16, .inl (ar (Sd.1 1)))), ((ad 2), .inl (K.1, 16, .inl (ar (Sd.1 2)))), ((ad 3), .inl (K.1, Nd, .inl (ar (Sd.1 3)))), ((ad 4), .inl (K.1, Nd, .inl (ar (Sd.1 4)))), ((ad 5), .inl (K.1, Nd, .inl (ar (Sd.1 5)))), ((ad 6), .inl (K.1, Nd, .inl (ar (Sd.1 6)))), ((a 1), .inr (4, [.ref (an 0), .ref (an 1), .ref (an 2), .ref (an 3), .ref (an 4), .ref (an 5), .ref (an 6), .ref (an 7), vZ (Ne.2 8)])), ((an 0), .inl (K.1, 16, .inl (ar (Ne.1 0)))), ((an 1), .inl (K.1, 16, .inl (ar (Ne.1 1)))), ((an 2), .inl (K.1, 16, .inl (ar (Ne.1 2)))), ((an 3), .inl (K.1, 16, .inl (ar (Ne.1 3)))), ((an 4), .inl (K.1, 16, .inl (ar (Ne.1 4)))), ((an 5), .inl (K.1, 16, .inl (ar (Ne.1 5)))), ((an 6), .inl (K.1, 100, .inl (ar (Ne.1 6)))), ((an 7), .inl (K.1, 100, .inl (ar (Ne.1 7)))), ((a 2), .inr (0, [.ref (ac 0), .ref (ac 1), .ref (ac 2), vZ (Cr.2 3), vZ (Cr.2 4)])), ((ac 0), .inl (K.1, 8, .inl (ar (Cr.1 0)))), ((ac 1), .inl (K.1, 8, .inl (ar (Cr.1 1)))), ((ac 2), .inl (K.1, 8, .inl (ar (Cr.1 2))))]) rfl (z_lv (lv2 := [(0, .ref h), (1, vZ 0)]) ⟨rfl, rfl, trivial⟩ ?_)
  refine lp_2 _ 0 T aq Nq Sq Sd 0 0 Cq Cd A ?_ ?_ ?_ ?_ ?_ ?_ ?_ (Nat.lt_succ_self _)
  · skip
    omega
  · skip
    exact hT
  · skip
    exact hok
  · skip
    rfl
  · skip
    omega
  · skip
    rfl
  · skip
    omega

