/-! ===== Traffic: cars set out ===== -/
theorem tk3_fq {c n d many : Int} {l : List Pt3} (h1 : 1 ≤ many) (h2 : many ≤ n) : fq (tk3 c n d l many) = (fq ((c, n, d) :: l)).drop many.toNat ∧ (fq ((c, n, d) :: l)).take many.toNat = List.replicate many.toNat c := by
  have e : fq ((c, n, d) :: l) = List.replicate many.toNat c ++ (List.replicate (n - many).toNat c ++ fq l) := by
    show List.replicate n.toNat c ++ fq l = _
    rw [← List.append_assoc, List.replicate_append_replicate]
    congr 2; omega
  rw [e]
  refine ⟨?_, ?_⟩
  · rw [List.drop_left' (by simp)]
    unfold tk3
    split
    · rfl
    · rw [show (n - many).toNat = 0 by omega]; rfl
  · rw [List.take_left' (by simp)]
theorem tk3_mem {c n d many : Int} {l : List Pt3} {q : Pt3} (h : q ∈ tk3 c n d l many) : q ∈ l ∨ q = (c, n - many, d) := by
  unfold tk3 at h
  split at h
  · rcases List.mem_cons.mp h with e | e
    · exact Or.inr e
    · exact Or.inl e
  · exact Or.inl h
theorem tk3_len {c n d many : Int} {l : List Pt3} : (tk3 c n d l many).length = l.length + (if many < n then 1 else 0) := by
  unfold tk3
  split <;> simp
theorem ap3_mem {l : List Pt3} {who many hour : Int} {q : Pt3} (h : q ∈ ap3 l who many hour) : (∃ p ∈ l, q.1 = p.1 ∧ q.2.2 = p.2.2) ∨ (q.1 = who ∧ q.2.2 = hour) := by
  rcases List.eq_nil_or_concat l with rfl | ⟨l2, p, rfl⟩
  · rw [ap3_nil] at h; rw [List.mem_singleton.mp h]; exact Or.inr ⟨rfl, rfl⟩
  · rw [List.concat_eq_append] at h ⊢
    rw [ap3_snoc] at h
    split at h
    · rcases List.mem_append.mp h with z | z
      · exact Or.inl ⟨q, List.mem_append_left _ z, rfl, rfl⟩
      · rw [List.mem_singleton.mp z]; exact Or.inl ⟨p, List.mem_append_right _ List.mem_cons_self, rfl, rfl⟩
    · rcases List.mem_append.mp h with z | z
      · exact Or.inl ⟨q, z, rfl, rfl⟩
      · rw [List.mem_singleton.mp z]; exact Or.inr ⟨rfl, rfl⟩
theorem min_is {a b k : Nat} (h1 : k ≤ a) (h2 : k ≤ b) (h3 : a ≤ k ∨ b ≤ k) : k = min a b := by omega

set_option maxHeartbeats 4000000 in
set_option maxRecDepth 100000 in
theorem c_X6_setOutOn (zl : Launch) (D : va_G) (K : tyK) (h : Nat) (a : Nat → Nat) (T : Bd) (aq : Nat → Nat) (Nq : Nat) (Sq : Bd) (an : Nat → Nat) (Ne : Bd) (B : Nat) (Cq : Int → List Pt3) (r : Int) (most : Int) (hr : 0 ≤ r ∧ r < 16) (hfr : (0 ≤ Ne.1 0 r ∧ Ne.1 0 r < 10) ∧ (1 ≤ Ne.1 3 r ∧ Ne.1 3 r ≤ 9)) (hmo : 0 ≤ most ∧ most ≤ 5000) (hnow : 0 ≤ T.2 12 ∧ T.2 12 ≤ 200) (hOq : LnO Nq B Sq Cq []) (hB : lns Cq 32 + 1 ≤ B ∧ lns Cq 32 + 1 ≤ Nq ∧ B ≤ 4000) (hvq : ∀ q ∈ Cq r, (0 ≤ q.1 ∧ q.1 < 8) ∧ q.2.2 = 0 ∧ q.2.1 ≤ 1000000) (hvd : ∀ q ∈ Cq (16 + r), (-1 ≤ q.1 ∧ q.1 ≤ 10000) ∧ (-1 ≤ q.2.2 ∧ q.2.2 ≤ 10000)) : Mz zl yX6_setOutOn cX6_setOutOn 8 (some .int) 2 47 0 0 D K [.ref h, vZ r, vZ most] ((wTr K h a T) ++ (wLn K (a 3) aq Nq Sq) ++ (wNe K (a 1) an Ne)) (fun r_ w2_ gc gs => ∃ (k : Int), ∃ (Sq2 : Bd), ∃ (Cq2 : Int → List Pt3), r_ = some (vZ k) ∧ w2_ = ((wTr K h a ((upf T.1 8 (upz (T.1 8) (Ne.1 0 r) (T.1 8 (Ne.1 0 r) - k))), T.2)) ++ (wLn K (a 3) aq Nq Sq2) ++ (wNe K (a 1) an Ne)) ∧ gc = 0 ∧ gs = 0 ∧ (k = ((min most.toNat (fq (Cq r)).length : Nat) : Int)) ∧ (LnO Nq B Sq2 Cq2 []) ∧ (∀ j : Int, j ≠ r → j ≠ 16 + r → Cq2 j = Cq j) ∧ (fq (Cq2 r) = (fq (Cq r)).drop k.toNat ∧ fd (Cq2 (16 + r)) = fd (Cq (16 + r)) ++ ((fq (Cq r)).take k.toNat).map (fun c => (c, T.2 12 + Ne.1 3 r))) ∧ (∀ q ∈ Cq2 r, q.2.2 = 0) ∧ (lns Cq2 32 ≤ lns Cq 32 + 1)) := by
  refine Mz.ofZ (by decide) rfl (Nat.le_of_ble_eq_true rfl) ?_
  intro zp ze zR zs zm zargs zbelow zmeth zc zA zQ ZC ZE hRf hRc hRs hRl
  have hGq := lo_rng hOq
  have hlq := lo_len hOq
  have hl9 := lns_le (P := Cq) (r := r) (n := 32) (by omega) (by omega)
  refine z_iload_n ZC 1 dX6_setOutOn_0 rfl rfl ?_
  refine z_callS ZC 1 (c_X2_queueOf zl D K r ) (gdS uM_X6_77 uZ_X2_queueOf uN_X2 uC_X2_queueOf) (by decide +kernel) rfl ⟨by omega, by omega⟩ ⟨by omega, by omega⟩ (Nat.le_of_ble_eq_true rfl) [] rfl (by decide) rfl dX6_setOutOn_1 (fun r w2 gc_1 gs_1 hp => ?_)
  obtain ⟨rfl, rfl, rfl, rfl⟩ := hp
  refine z_st (st2 := [vZ r]) rfl ?_
  refine z_istore_n ZC 3 dX6_setOutOn_4 rfl (by decide) ?_
  refine z_iconst ZC dX6_setOutOn_5 ?_
  refine z_istore ZC dX6_setOutOn_6 (by decide) ?_
  refine z_iconst ZC dX6_setOutOn_8 ?_
  refine z_istore ZC dX6_setOutOn_9 (by decide) ?_
  have lp_11 : ∀ (n_11 : Nat) (out : Int) (i : Int) (Sq1 : Bd) (Cq1 : Int → List Pt3), (LnO Nq B Sq1 Cq1 []) → (0 ≤ out ∧ out ≤ most ∧ out ≤ (((fq (Cq r)).length : Nat) : Int)) → (∀ j : Int, j ≠ r → j ≠ 16 + r → Cq1 j = Cq j) → (fq (Cq1 r) = (fq (Cq r)).drop out.toNat ∧ fd (Cq1 (16 + r)) = fd (Cq (16 + r)) ++ ((fq (Cq r)).take out.toNat).map (fun c => (c, T.2 12 + Ne.1 3 r))) → ((∀ q ∈ Cq1 r, (0 ≤ q.1 ∧ q.1 < 8) ∧ q.2.2 = 0 ∧ q.2.1 ≤ 1000000) ∧ (∀ q ∈ Cq1 (16 + r), (-1 ≤ q.1 ∧ q.1 ≤ 10000) ∧ (-1 ≤ q.2.2 ∧ q.2.2 ≤ 10000))) → (lns Cq1 32 ≤ lns Cq 32 + (if out < most then 0 else 1)) → (0 ≤ i ∧ i ≤ 4097 ∧ (out < most → i + (Cq1 r).length ≤ 4000)) → ((4096 - i).toNat) < n_11 → Zw zp zl ze zR zs zm zargs zbelow zmeth zc D zA 8 zQ (0 + 0) (0 + 0) ([(h, .inr (6, [.ref (a 0), .ref (a 1), .ref (a 2), .ref (a 3), .ref (a 5), .ref (a 6), .ref (a 7), .ref (a 8), .ref (a 9), .ref (a 10), .ref (a 11), vZ (T.2 12), vZ (T.2 13), vZ (T.2 14), vZ (T.2 15)])), ((a 5), .inl (K.1, 8, .inl (ar (T.1 5)))), ((a 6), .inl (K.1, 8, .inl (ar (T.1 6)))), ((a 7), .inl (K.1, 8, .inl (ar (T.1 7)))), ((a 8), .inl (K.1, 10, .inl (ar (T.1 8)))), ((a 9), .inl (K.1, 10, .inl (ar (T.1 9)))), ((a 10), .inl (K.1, 10, .inl (ar (T.1 10)))), ((a 11), .inl (K.1, 16, .inl (ar (T.1 11)))), ((a 3), .inr (2, [.ref (aq 0), .ref (aq 1), .ref (aq 2), .ref (aq 3), .ref (aq 4), .ref (aq 5), .ref (aq 6), vZ (Sq1.2 7), vZ (Sq1.2 8)])), ((aq 0), .inl (K.1, 32, .inl (ar (Sq1.1 0)))), ((aq 1), .inl (K.1, 32, .inl (ar (Sq1.1 1)))), ((aq 2), .inl (K.1, 32, .inl (ar (Sq1.1 2)))), ((aq 3), .inl (K.1, Nq, .inl (ar (Sq1.1 3)))), ((aq 4), .inl (K.1, Nq, .inl (ar (Sq1.1 4)))), ((aq 5), .inl (K.1, Nq, .inl (ar (Sq1.1 5)))), ((aq 6), .inl (K.1, Nq, .inl (ar (Sq1.1 6)))), ((a 1), .inr (4, [.ref (an 0), .ref (an 1), .ref (an 2), .ref (an 3), .ref (an 4), .ref (an 5), .ref (an 6), .ref (an 7), vZ (Ne.2 8)])), ((an 0), .inl (K.1, 16, .inl (ar (Ne.1 0)))), ((an 1), .inl (K.1, 16, .inl (ar (Ne.1 1)))), ((an 2), .inl (K.1, 16, .inl (ar (Ne.1 2)))), ((an 3), .inl (K.1, 16, .inl (ar (Ne.1 3)))), ((an 4), .inl (K.1, 16, .inl (ar (Ne.1 4)))), ((an 5), .inl (K.1, 16, .inl (ar (Ne.1 5)))), ((an 6), .inl (K.1, 100, .inl (ar (Ne.1 6)))), ((an 7), .inl (K.1, 100, .inl (ar (Ne.1 7))))]) 11 [(0, .ref h), (1, vZ r), (2, vZ most), (3, vZ r), (4, vZ out), (5, vZ i)] [] := by
    intro n_11
    induction n_11 with
    | zero => intro out i Sq1 Cq1 j1 j3 j4 j5 j6 j7 j8 hm_11; exact absurd hm_11 (Nat.not_lt_zero _)
    | succ n_11 ih_11 =>
      intro out i Sq1 Cq1 j1 j3 j4 j5 j6 j7 j8 hm_11
      refine z_iload ZC dX6_setOutOn_11 rfl ?_
      refine z_sipush ZC dX6_setOutOn_13 (by decide) ?_
      refine z_icmp_ge ZC 115 dX6_setOutOn_16 (by decide) (by omega) (by omega) (fun c_16 => ?_) (fun c_16 => ?_)
      · skip
        have hk : out.toNat = min most.toNat (fq (Cq r)).length := min_is (by omega) (by omega) (by omega)
        refine z_aload_n ZC 0 dX6_setOutOn_115 rfl rfl ?_
        refine z_get ZC inUX6 0 rfl rfl 7 (by decide) uF_X6_28 rfl dX6_setOutOn_116 ?_
        refine z_aload_n ZC 0 dX6_setOutOn_119 rfl rfl ?_
        refine z_get ZC inUX6 0 rfl rfl 1 (by decide) uF_X6_48 rfl dX6_setOutOn_120 ?_
        refine z_get ZC inUX4 16 rfl rfl 0 (by decide) uF_X6_177 rfl dX6_setOutOn_123 ?_
        refine z_iload_n ZC 1 dX6_setOutOn_126 rfl rfl ?_
        refine z_iald ZC 17 rfl dX6_setOutOn_127 (by omega) ?_
        refine z_dup2 ZC dX6_setOutOn_128 rfl rfl ?_
        refine z_iald ZC 4 rfl dX6_setOutOn_129 (by omega) ?_
        refine z_iload ZC dX6_setOutOn_130 rfl ?_
        refine z_isub ZC dX6_setOutOn_132 ?_
        refine z_iast ZC 4 rfl dX6_setOutOn_133 (by omega) ?_
        refine z_iload ZC dX6_setOutOn_134 rfl ?_
        have h77 : lns Cq1 32 ≤ lns Cq 32 + 1 := by split at j7 <;> omega
        refine z_iret ZC ZE dX6_setOutOn_136 (by omega) (by omega) (Nat.le_of_ble_eq_true rfl) ⟨out, Sq1, Cq1, rfl, rfl, by omega, by omega, ?_, ?_, ?_, ?_, ?_, ?_⟩
        · skip
          omega
        · skip
          exact j1
        · skip
          exact j4
        · skip
          exact j5
        · skip
          exact fun q hq => (j6.1 q hq).2.1
        · skip
          exact h77
      · skip
        refine z_iload ZC dX6_setOutOn_19 rfl ?_
        refine z_iload_n ZC 2 dX6_setOutOn_21 rfl rfl ?_
        refine z_icmp_ge ZC 115 dX6_setOutOn_22 (by decide) (by omega) (by omega) (fun c_22 => ?_) (fun c_22 => ?_)
        · skip
          have hk : out.toNat = min most.toNat (fq (Cq r)).length := min_is (by omega) (by omega) (by omega)
          refine z_aload_n ZC 0 dX6_setOutOn_115 rfl rfl ?_
          refine z_get ZC inUX6 0 rfl rfl 7 (by decide) uF_X6_28 rfl dX6_setOutOn_116 ?_
          refine z_aload_n ZC 0 dX6_setOutOn_119 rfl rfl ?_
          refine z_get ZC inUX6 0 rfl rfl 1 (by decide) uF_X6_48 rfl dX6_setOutOn_120 ?_
          refine z_get ZC inUX4 16 rfl rfl 0 (by decide) uF_X6_177 rfl dX6_setOutOn_123 ?_
          refine z_iload_n ZC 1 dX6_setOutOn_126 rfl rfl ?_
          refine z_iald ZC 17 rfl dX6_setOutOn_127 (by omega) ?_
          refine z_dup2 ZC dX6_setOutOn_128 rfl rfl ?_
          refine z_iald ZC 4 rfl dX6_setOutOn_129 (by omega) ?_
          refine z_iload ZC dX6_setOutOn_130 rfl ?_
          refine z_isub ZC dX6_setOutOn_132 ?_
          refine z_iast ZC 4 rfl dX6_setOutOn_133 (by omega) ?_
          refine z_iload ZC dX6_setOutOn_134 rfl ?_
          have h77 : lns Cq1 32 ≤ lns Cq 32 + 1 := by split at j7 <;> omega
          refine z_iret ZC ZE dX6_setOutOn_136 (by omega) (by omega) (Nat.le_of_ble_eq_true rfl) ⟨out, Sq1, Cq1, rfl, rfl, by omega, by omega, ?_, ?_, ?_, ?_, ?_, ?_⟩
          · skip
            omega
          · skip
            exact j1
          · skip
            exact j4
          · skip
            exact j5
          · skip
            exact fun q hq => (j6.1 q hq).2.1
          · skip
            exact h77
        · skip
          have j70 : lns Cq1 32 ≤ lns Cq 32 := by rw [if_pos c_22] at j7; omega
          refine z_aload_n ZC 0 dX6_setOutOn_25 rfl rfl ?_
          refine z_get ZC inUX6 0 rfl rfl 3 (by decide) uF_X6_12 rfl dX6_setOutOn_26 ?_
          refine z_iload_n ZC 3 dX6_setOutOn_29 rfl rfl ?_
          refine z_callV ZC 1 (c_X2_isEmpty zl D K (a 3) aq Nq Sq1 B Cq1 r (j1) (⟨by omega, by omega⟩)) (gdV uM_X6_164 uI_X2_isEmpty uS_X2_isEmpty uN_X2 uC_X2_isEmpty) (by decide +kernel) rfl ⟨by omega, by omega⟩ ⟨by omega, by omega⟩ (Nat.le_of_ble_eq_true rfl) [8, 9, 10, 11, 12, 13, 14, 15] rfl (by decide) rfl rfl rfl rfl dX6_setOutOn_30 (fun r w2 gc_30 gs_30 hp => ?_)
          obtain ⟨b_30, rfl, rfl, rfl, rfl, hb_30⟩ := hp
          refine z_ws (ws2 := [(h, .inr (6, [.ref (a 0), .ref (a 1), .ref (a 2), .ref (a 3), .ref (a 5), .ref (a 6), .ref (a 7), .ref (a 8), .ref (a 9), .ref (a 10), .ref (a 11), vZ (T.2 12), vZ (T.2 13), vZ (T.2 14), vZ (T.2 15)])), ((a 5), .inl (K.1, 8, .inl (ar (T.1 5)))), ((a 6), .inl (K.1, 8, .inl (ar (T.1 6)))), ((a 7), .inl (K.1, 8, .inl (ar (T.1 7)))), ((a 8), .inl (K.1, 10, .inl (ar (T.1 8)))), ((a 9), .inl (K.1, 10, .inl (ar (T.1 9)))), ((a 10), .inl (K.1, 10, .inl (ar (T.1 10)))), ((a 11), .inl (K.1, 16, .inl (ar (T.1 11)))), ((a 3), .inr (2, [.ref (aq 0), .ref (aq 1), .ref (aq 2), .ref (aq 3), .ref (aq 4), .ref (aq 5), .ref (aq 6), vZ (Sq1.2 7), vZ (Sq1.2 8)])), ((aq 0), .inl (K.1, 32, .inl (ar (Sq1.1 0)))), ((aq 1), .inl (K.1, 32, .inl (ar (Sq1.1 1)))), ((aq 2), .inl (K.1, 32, .inl (ar (Sq1.1 2)))), ((aq 3), .inl (K.1, Nq, .inl (ar (Sq1.1 3)))), ((aq 4), .inl (K.1, Nq, .inl (ar (Sq1.1 4)))), ((aq 5), .inl (K.1, Nq, .inl (ar (Sq1.1 5)))), ((aq 6), .inl (K.1, Nq, .inl (ar (Sq1.1 6)))), ((a 1), .inr (4, [.ref (an 0), .ref (an 1), .ref (an 2), .ref (an 3), .ref (an 4), .ref (an 5), .ref (an 6), .ref (an 7), vZ (Ne.2 8)])), ((an 0), .inl (K.1, 16, .inl (ar (Ne.1 0)))), ((an 1), .inl (K.1, 16, .inl (ar (Ne.1 1)))), ((an 2), .inl (K.1, 16, .inl (ar (Ne.1 2)))), ((an 3), .inl (K.1, 16, .inl (ar (Ne.1 3)))), ((an 4), .inl (K.1, 16, .inl (ar (Ne.1 4)))), ((an 5), .inl (K.1, 16, .inl (ar (Ne.1 5)))), ((an 6), .inl (K.1, 100, .inl (ar (Ne.1 6)))), ((an 7), .inl (K.1, 100, .inl (ar (Ne.1 7))))]) rfl ?_
          refine z_st (st2 := [vZ b_30]) rfl ?_
          refine z_if_ne ZC 115 dX6_setOutOn_33 (by decide) (by omega) (fun c_33 => ?_) (fun c_33 => ?_)
          · skip
            have hk : out.toNat = min most.toNat (fq (Cq r)).length := by
              have hemp : Cq1 r = [] := by
                rcases hb_30 with z | z
                · exact z.2
                · exact absurd z.1 c_33
              have hd0 := j5.1
              rw [hemp] at hd0
              have hlen : ((fq (Cq r)).drop out.toNat).length = 0 := by rw [← hd0]; rfl
              rw [List.length_drop] at hlen
              exact min_is (by omega) (by omega) (by omega)
            refine z_aload_n ZC 0 dX6_setOutOn_115 rfl rfl ?_
            refine z_get ZC inUX6 0 rfl rfl 7 (by decide) uF_X6_28 rfl dX6_setOutOn_116 ?_
            refine z_aload_n ZC 0 dX6_setOutOn_119 rfl rfl ?_
            refine z_get ZC inUX6 0 rfl rfl 1 (by decide) uF_X6_48 rfl dX6_setOutOn_120 ?_
            refine z_get ZC inUX4 16 rfl rfl 0 (by decide) uF_X6_177 rfl dX6_setOutOn_123 ?_
            refine z_iload_n ZC 1 dX6_setOutOn_126 rfl rfl ?_
            refine z_iald ZC 17 rfl dX6_setOutOn_127 (by omega) ?_
            refine z_dup2 ZC dX6_setOutOn_128 rfl rfl ?_
            refine z_iald ZC 4 rfl dX6_setOutOn_129 (by omega) ?_
            refine z_iload ZC dX6_setOutOn_130 rfl ?_
            refine z_isub ZC dX6_setOutOn_132 ?_
            refine z_iast ZC 4 rfl dX6_setOutOn_133 (by omega) ?_
            refine z_iload ZC dX6_setOutOn_134 rfl ?_
            have h77 : lns Cq1 32 ≤ lns Cq 32 + 1 := by split at j7 <;> omega
            refine z_iret ZC ZE dX6_setOutOn_136 (by omega) (by omega) (Nat.le_of_ble_eq_true rfl) ⟨out, Sq1, Cq1, rfl, rfl, by omega, by omega, ?_, ?_, ?_, ?_, ?_, ?_⟩
            · skip
              omega
            · skip
              exact j1
            · skip
              exact j4
            · skip
              exact j5
            · skip
              exact fun q hq => (j6.1 q hq).2.1
            · skip
              exact h77
          · skip
            obtain ⟨⟨c, nn, dd⟩, l2, hC⟩ : ∃ (q : Pt3) (l : List Pt3), Cq1 r = q :: l := by
              rcases hb_30 with z | z
              · exact absurd z.1 (by omega)
              · exact List.exists_cons_of_ne_nil z.2
            have hn1 : 1 ≤ nn := lo_pos (r := r) j1 ⟨by omega, by omega⟩ _ (by rw [hC]; exact List.mem_cons_self)
            have hq6 : (0 ≤ c ∧ c < 8) ∧ dd = 0 ∧ nn ≤ 1000000 := (j6.1 (c, nn, dd) (by rw [hC]; exact List.mem_cons_self))
            have hGd1 := lo_rng j1
            have hllq := lo_len j1
            refine z_aload_n ZC 0 dX6_setOutOn_36 rfl rfl ?_
            refine z_get ZC inUX6 0 rfl rfl 3 (by decide) uF_X6_12 rfl dX6_setOutOn_37 ?_
            refine z_iload_n ZC 3 dX6_setOutOn_40 rfl rfl ?_
            refine z_callV ZC 1 (c_X2_firstCrowd zl D K (a 3) aq Nq Sq1 B Cq1 r c nn dd l2 (j1) (⟨by omega, by omega⟩) (hC)) (gdV uM_X6_133 uI_X2_firstCrowd uS_X2_firstCrowd uN_X2 uC_X2_firstCrowd) (by decide +kernel) rfl ⟨by omega, by omega⟩ ⟨by omega, by omega⟩ (Nat.le_of_ble_eq_true rfl) [8, 9, 10, 11, 12, 13, 14, 15] rfl (by decide) rfl rfl rfl rfl dX6_setOutOn_41 (fun r w2 gc_41 gs_41 hp => ?_)
            obtain ⟨rfl, rfl, rfl, rfl⟩ := hp
            refine z_ws (ws2 := [(h, .inr (6, [.ref (a 0), .ref (a 1), .ref (a 2), .ref (a 3), .ref (a 5), .ref (a 6), .ref (a 7), .ref (a 8), .ref (a 9), .ref (a 10), .ref (a 11), vZ (T.2 12), vZ (T.2 13), vZ (T.2 14), vZ (T.2 15)])), ((a 5), .inl (K.1, 8, .inl (ar (T.1 5)))), ((a 6), .inl (K.1, 8, .inl (ar (T.1 6)))), ((a 7), .inl (K.1, 8, .inl (ar (T.1 7)))), ((a 8), .inl (K.1, 10, .inl (ar (T.1 8)))), ((a 9), .inl (K.1, 10, .inl (ar (T.1 9)))), ((a 10), .inl (K.1, 10, .inl (ar (T.1 10)))), ((a 11), .inl (K.1, 16, .inl (ar (T.1 11)))), ((a 3), .inr (2, [.ref (aq 0), .ref (aq 1), .ref (aq 2), .ref (aq 3), .ref (aq 4), .ref (aq 5), .ref (aq 6), vZ (Sq1.2 7), vZ (Sq1.2 8)])), ((aq 0), .inl (K.1, 32, .inl (ar (Sq1.1 0)))), ((aq 1), .inl (K.1, 32, .inl (ar (Sq1.1 1)))), ((aq 2), .inl (K.1, 32, .inl (ar (Sq1.1 2)))), ((aq 3), .inl (K.1, Nq, .inl (ar (Sq1.1 3)))), ((aq 4), .inl (K.1, Nq, .inl (ar (Sq1.1 4)))), ((aq 5), .inl (K.1, Nq, .inl (ar (Sq1.1 5)))), ((aq 6), .inl (K.1, Nq, .inl (ar (Sq1.1 6)))), ((a 1), .inr (4, [.ref (an 0), .ref (an 1), .ref (an 2), .ref (an 3), .ref (an 4), .ref (an 5), .ref (an 6), .ref (an 7), vZ (Ne.2 8)])), ((an 0), .inl (K.1, 16, .inl (ar (Ne.1 0)))), ((an 1), .inl (K.1, 16, .inl (ar (Ne.1 1)))), ((an 2), .inl (K.1, 16, .inl (ar (Ne.1 2)))), ((an 3), .inl (K.1, 16, .inl (ar (Ne.1 3)))), ((an 4), .inl (K.1, 16, .inl (ar (Ne.1 4)))), ((an 5), .inl (K.1, 16, .inl (ar (Ne.1 5)))), ((an 6), .inl (K.1, 100, .inl (ar (Ne.1 6)))), ((an 7), .inl (K.1, 100, .inl (ar (Ne.1 7))))]) rfl ?_
            refine z_st (st2 := [vZ c]) rfl ?_
            refine z_istore ZC dX6_setOutOn_44 (by decide) ?_
            refine z_aload_n ZC 0 dX6_setOutOn_46 rfl rfl ?_
            refine z_get ZC inUX6 0 rfl rfl 3 (by decide) uF_X6_12 rfl dX6_setOutOn_47 ?_
            refine z_iload_n ZC 3 dX6_setOutOn_50 rfl rfl ?_
            refine z_callV ZC 1 (c_X2_firstCars zl D K (a 3) aq Nq Sq1 B Cq1 r c nn dd l2 (j1) (⟨by omega, by omega⟩) (hC)) (gdV uM_X6_136 uI_X2_firstCars uS_X2_firstCars uN_X2 uC_X2_firstCars) (by decide +kernel) rfl ⟨by omega, by omega⟩ ⟨by omega, by omega⟩ (Nat.le_of_ble_eq_true rfl) [8, 9, 10, 11, 12, 13, 14, 15] rfl (by decide) rfl rfl rfl rfl dX6_setOutOn_51 (fun r w2 gc_51 gs_51 hp => ?_)
            obtain ⟨rfl, rfl, rfl, rfl⟩ := hp
            refine z_ws (ws2 := [(h, .inr (6, [.ref (a 0), .ref (a 1), .ref (a 2), .ref (a 3), .ref (a 5), .ref (a 6), .ref (a 7), .ref (a 8), .ref (a 9), .ref (a 10), .ref (a 11), vZ (T.2 12), vZ (T.2 13), vZ (T.2 14), vZ (T.2 15)])), ((a 5), .inl (K.1, 8, .inl (ar (T.1 5)))), ((a 6), .inl (K.1, 8, .inl (ar (T.1 6)))), ((a 7), .inl (K.1, 8, .inl (ar (T.1 7)))), ((a 8), .inl (K.1, 10, .inl (ar (T.1 8)))), ((a 9), .inl (K.1, 10, .inl (ar (T.1 9)))), ((a 10), .inl (K.1, 10, .inl (ar (T.1 10)))), ((a 11), .inl (K.1, 16, .inl (ar (T.1 11)))), ((a 3), .inr (2, [.ref (aq 0), .ref (aq 1), .ref (aq 2), .ref (aq 3), .ref (aq 4), .ref (aq 5), .ref (aq 6), vZ (Sq1.2 7), vZ (Sq1.2 8)])), ((aq 0), .inl (K.1, 32, .inl (ar (Sq1.1 0)))), ((aq 1), .inl (K.1, 32, .inl (ar (Sq1.1 1)))), ((aq 2), .inl (K.1, 32, .inl (ar (Sq1.1 2)))), ((aq 3), .inl (K.1, Nq, .inl (ar (Sq1.1 3)))), ((aq 4), .inl (K.1, Nq, .inl (ar (Sq1.1 4)))), ((aq 5), .inl (K.1, Nq, .inl (ar (Sq1.1 5)))), ((aq 6), .inl (K.1, Nq, .inl (ar (Sq1.1 6)))), ((a 1), .inr (4, [.ref (an 0), .ref (an 1), .ref (an 2), .ref (an 3), .ref (an 4), .ref (an 5), .ref (an 6), .ref (an 7), vZ (Ne.2 8)])), ((an 0), .inl (K.1, 16, .inl (ar (Ne.1 0)))), ((an 1), .inl (K.1, 16, .inl (ar (Ne.1 1)))), ((an 2), .inl (K.1, 16, .inl (ar (Ne.1 2)))), ((an 3), .inl (K.1, 16, .inl (ar (Ne.1 3)))), ((an 4), .inl (K.1, 16, .inl (ar (Ne.1 4)))), ((an 5), .inl (K.1, 16, .inl (ar (Ne.1 5)))), ((an 6), .inl (K.1, 100, .inl (ar (Ne.1 6)))), ((an 7), .inl (K.1, 100, .inl (ar (Ne.1 7))))]) rfl ?_
            refine z_st (st2 := [vZ nn]) rfl ?_
            refine z_iload_n ZC 2 dX6_setOutOn_54 rfl rfl ?_
            refine z_iload ZC dX6_setOutOn_55 rfl ?_
            refine z_isub ZC dX6_setOutOn_57 ?_
            refine z_min ZC uM_X6_107 uZ_J9_min_7cf53 uN_J9 uC_J9_min_7cf53 dX6_setOutOn_58 (by omega) (by simp only [List.map_nil, List.map_cons, List.sum_nil, List.sum_cons, Value.category]; omega) (by omega) (by omega) (by omega) (by omega) ?_
            refine z_nm (fun many emany => ?_)
            refine z_istore ZC dX6_setOutOn_61 (by decide) ?_
            refine z_aload_n ZC 0 dX6_setOutOn_63 rfl rfl ?_
            refine z_get ZC inUX6 0 rfl rfl 3 (by decide) uF_X6_12 rfl dX6_setOutOn_64 ?_
            refine z_iload_n ZC 3 dX6_setOutOn_67 rfl rfl ?_
            refine z_iload ZC dX6_setOutOn_68 rfl ?_
            have hmn : 1 ≤ many ∧ many ≤ nn ∧ many ≤ most - out := by subst emany; omega
            have htq := tk3_fq (c := c) (d := dd) (l := l2) hmn.1 hmn.2.1
            refine z_callV ZC 2 (c_X2_take zl D K (a 3) aq Nq Sq1 B Cq1 r many c nn dd l2 (j1) (⟨by omega, by omega⟩) (hC) (by omega)) (gdV uM_X6_139 uI_X2_take uS_X2_take uN_X2 uC_X2_take) (by decide +kernel) rfl ⟨by omega, by omega⟩ ⟨by omega, by omega⟩ (Nat.le_of_ble_eq_true rfl) [8, 9, 10, 11, 12, 13, 14, 15] rfl (by decide) rfl rfl rfl rfl dX6_setOutOn_70 (fun r w2 gc_70 gs_70 hp => ?_)
            obtain ⟨S2_70, rfl, rfl, rfl, rfl, hO2_70⟩ := hp
            refine z_ws (ws2 := [(h, .inr (6, [.ref (a 0), .ref (a 1), .ref (a 2), .ref (a 3), .ref (a 5), .ref (a 6), .ref (a 7), .ref (a 8), .ref (a 9), .ref (a 10), .ref (a 11), vZ (T.2 12), vZ (T.2 13), vZ (T.2 14), vZ (T.2 15)])), ((a 5), .inl (K.1, 8, .inl (ar (T.1 5)))), ((a 6), .inl (K.1, 8, .inl (ar (T.1 6)))), ((a 7), .inl (K.1, 8, .inl (ar (T.1 7)))), ((a 8), .inl (K.1, 10, .inl (ar (T.1 8)))), ((a 9), .inl (K.1, 10, .inl (ar (T.1 9)))), ((a 10), .inl (K.1, 10, .inl (ar (T.1 10)))), ((a 11), .inl (K.1, 16, .inl (ar (T.1 11)))), ((a 3), .inr (2, [.ref (aq 0), .ref (aq 1), .ref (aq 2), .ref (aq 3), .ref (aq 4), .ref (aq 5), .ref (aq 6), vZ (S2_70.2 7), vZ (S2_70.2 8)])), ((aq 0), .inl (K.1, 32, .inl (ar (S2_70.1 0)))), ((aq 1), .inl (K.1, 32, .inl (ar (S2_70.1 1)))), ((aq 2), .inl (K.1, 32, .inl (ar (S2_70.1 2)))), ((aq 3), .inl (K.1, Nq, .inl (ar (S2_70.1 3)))), ((aq 4), .inl (K.1, Nq, .inl (ar (S2_70.1 4)))), ((aq 5), .inl (K.1, Nq, .inl (ar (S2_70.1 5)))), ((aq 6), .inl (K.1, Nq, .inl (ar (S2_70.1 6)))), ((a 1), .inr (4, [.ref (an 0), .ref (an 1), .ref (an 2), .ref (an 3), .ref (an 4), .ref (an 5), .ref (an 6), .ref (an 7), vZ (Ne.2 8)])), ((an 0), .inl (K.1, 16, .inl (ar (Ne.1 0)))), ((an 1), .inl (K.1, 16, .inl (ar (Ne.1 1)))), ((an 2), .inl (K.1, 16, .inl (ar (Ne.1 2)))), ((an 3), .inl (K.1, 16, .inl (ar (Ne.1 3)))), ((an 4), .inl (K.1, 16, .inl (ar (Ne.1 4)))), ((an 5), .inl (K.1, 16, .inl (ar (Ne.1 5)))), ((an 6), .inl (K.1, 100, .inl (ar (Ne.1 6)))), ((an 7), .inl (K.1, 100, .inl (ar (Ne.1 7))))]) rfl ?_
            refine z_st (st2 := []) rfl ?_
            have hlq2 : lns (upL Cq1 r (tk3 c nn dd l2 many)) 32 + (Cq1 r).length = lns Cq1 32 + (tk3 c nn dd l2 many).length := lns_up (by omega) (by omega)
            rw [hC, tk3_len] at hlq2
            simp only [List.length_cons] at hlq2
            have e16 : upL Cq1 r (tk3 c nn dd l2 many) (16 + r) = Cq1 (16 + r) := upL_ne _ _ (by omega)
            have hlq3 : lns (upL Cq1 r (tk3 c nn dd l2 many)) 32 ≤ lns Cq1 32 := by split at hlq2 <;> omega
            refine z_aload_n ZC 0 dX6_setOutOn_73 rfl rfl ?_
            refine z_get ZC inUX6 0 rfl rfl 3 (by decide) uF_X6_12 rfl dX6_setOutOn_74 ?_
            refine z_iload_n ZC 1 dX6_setOutOn_77 rfl rfl ?_
            refine z_callS ZC 1 (c_X2_driveOf zl D K r ) (gdS uM_X6_81 uZ_X2_driveOf uN_X2 uC_X2_driveOf) (by decide +kernel) rfl ⟨by omega, by omega⟩ ⟨by omega, by omega⟩ (Nat.le_of_ble_eq_true rfl) [] rfl (by decide) rfl dX6_setOutOn_78 (fun r w2 gc_78 gs_78 hp => ?_)
            obtain ⟨rfl, rfl, rfl, rfl⟩ := hp
            refine z_st (st2 := [vZ (16 + r), .ref (a 3)]) rfl ?_
            refine z_iload ZC dX6_setOutOn_81 rfl ?_
            refine z_iload ZC dX6_setOutOn_83 rfl ?_
            refine z_aload_n ZC 0 dX6_setOutOn_85 rfl rfl ?_
            refine z_get ZC inUX6 0 rfl rfl 11 (by decide) uF_X6_56 rfl dX6_setOutOn_86 ?_
            refine z_aload_n ZC 0 dX6_setOutOn_89 rfl rfl ?_
            refine z_get ZC inUX6 0 rfl rfl 1 (by decide) uF_X6_48 rfl dX6_setOutOn_90 ?_
            refine z_get ZC inUX4 16 rfl rfl 3 (by decide) uF_X6_174 rfl dX6_setOutOn_93 ?_
            refine z_iload_n ZC 1 dX6_setOutOn_96 rfl rfl ?_
            refine z_iald ZC 20 rfl dX6_setOutOn_97 (by omega) ?_
            refine z_iadd ZC dX6_setOutOn_98 ?_
            refine z_callV ZC 4 (c_X2_append zl D K (a 3) aq Nq S2_70 B (upL Cq1 r (tk3 c nn dd l2 many)) (16 + r) c many ((T.2 12) + ((Ne.1 3) r)) (hO2_70) (⟨by omega, by omega⟩) (by omega) (hmn.1) (by omega) (by omega) (by rw [e16]; exact j6.2)) (gdV uM_X6_156 uI_X2_append uS_X2_append uN_X2 uC_X2_append) (by decide +kernel) rfl ⟨by omega, by omega⟩ ⟨by omega, by omega⟩ (Nat.le_of_ble_eq_true rfl) [8, 9, 10, 11, 12, 13, 14, 15] rfl (by decide) rfl rfl rfl rfl dX6_setOutOn_99 (fun r w2 gc_99 gs_99 hp => ?_)
            obtain ⟨S2_99, rfl, rfl, rfl, rfl, hO2_99⟩ := hp
            rw [e16] at hO2_99
            have ez1 : upL (upL Cq1 r (tk3 c nn dd l2 many)) (16 + r) (ap3 (Cq1 (16 + r)) c many (T.2 12 + Ne.1 3 r)) r = (tk3 c nn dd l2 many) := by rw [upL_ne _ _ (by omega), upL_self]
            have ez2 : upL (upL Cq1 r (tk3 c nn dd l2 many)) (16 + r) (ap3 (Cq1 (16 + r)) c many (T.2 12 + Ne.1 3 r)) (16 + r) = (ap3 (Cq1 (16 + r)) c many (T.2 12 + Ne.1 3 r)) := upL_self _ _ _
            refine z_ws (ws2 := [(h, .inr (6, [.ref (a 0), .ref (a 1), .ref (a 2), .ref (a 3), .ref (a 5), .ref (a 6), .ref (a 7), .ref (a 8), .ref (a 9), .ref (a 10), .ref (a 11), vZ (T.2 12), vZ (T.2 13), vZ (T.2 14), vZ (T.2 15)])), ((a 5), .inl (K.1, 8, .inl (ar (T.1 5)))), ((a 6), .inl (K.1, 8, .inl (ar (T.1 6)))), ((a 7), .inl (K.1, 8, .inl (ar (T.1 7)))), ((a 8), .inl (K.1, 10, .inl (ar (T.1 8)))), ((a 9), .inl (K.1, 10, .inl (ar (T.1 9)))), ((a 10), .inl (K.1, 10, .inl (ar (T.1 10)))), ((a 11), .inl (K.1, 16, .inl (ar (T.1 11)))), ((a 3), .inr (2, [.ref (aq 0), .ref (aq 1), .ref (aq 2), .ref (aq 3), .ref (aq 4), .ref (aq 5), .ref (aq 6), vZ (S2_99.2 7), vZ (S2_99.2 8)])), ((aq 0), .inl (K.1, 32, .inl (ar (S2_99.1 0)))), ((aq 1), .inl (K.1, 32, .inl (ar (S2_99.1 1)))), ((aq 2), .inl (K.1, 32, .inl (ar (S2_99.1 2)))), ((aq 3), .inl (K.1, Nq, .inl (ar (S2_99.1 3)))), ((aq 4), .inl (K.1, Nq, .inl (ar (S2_99.1 4)))), ((aq 5), .inl (K.1, Nq, .inl (ar (S2_99.1 5)))), ((aq 6), .inl (K.1, Nq, .inl (ar (S2_99.1 6)))), ((a 1), .inr (4, [.ref (an 0), .ref (an 1), .ref (an 2), .ref (an 3), .ref (an 4), .ref (an 5), .ref (an 6), .ref (an 7), vZ (Ne.2 8)])), ((an 0), .inl (K.1, 16, .inl (ar (Ne.1 0)))), ((an 1), .inl (K.1, 16, .inl (ar (Ne.1 1)))), ((an 2), .inl (K.1, 16, .inl (ar (Ne.1 2)))), ((an 3), .inl (K.1, 16, .inl (ar (Ne.1 3)))), ((an 4), .inl (K.1, 16, .inl (ar (Ne.1 4)))), ((an 5), .inl (K.1, 16, .inl (ar (Ne.1 5)))), ((an 6), .inl (K.1, 100, .inl (ar (Ne.1 6)))), ((an 7), .inl (K.1, 100, .inl (ar (Ne.1 7))))]) rfl ?_
            refine z_st (st2 := []) rfl ?_
            refine z_iload ZC dX6_setOutOn_102 rfl ?_
            refine z_iload ZC dX6_setOutOn_104 rfl ?_
            refine z_iadd ZC dX6_setOutOn_106 ?_
            refine z_istore ZC dX6_setOutOn_107 (by decide) ?_
            refine z_iinc ZC dX6_setOutOn_109 rfl (by decide) ?_
            refine z_goto ZC 11 dX6_setOutOn_112 (by decide) ?_
            refine z_ws (ws2 := [(h, .inr (6, [.ref (a 0), .ref (a 1), .ref (a 2), .ref (a 3), .ref (a 5), .ref (a 6), .ref (a 7), .ref (a 8), .ref (a 9), .ref (a 10), .ref (a 11), vZ (T.2 12), vZ (T.2 13), vZ (T.2 14), vZ (T.2 15)])), ((a 5), .inl (K.1, 8, .inl (ar (T.1 5)))), ((a 6), .inl (K.1, 8, .inl (ar (T.1 6)))), ((a 7), .inl (K.1, 8, .inl (ar (T.1 7)))), ((a 8), .inl (K.1, 10, .inl (ar (T.1 8)))), ((a 9), .inl (K.1, 10, .inl (ar (T.1 9)))), ((a 10), .inl (K.1, 10, .inl (ar (T.1 10)))), ((a 11), .inl (K.1, 16, .inl (ar (T.1 11)))), ((a 3), .inr (2, [.ref (aq 0), .ref (aq 1), .ref (aq 2), .ref (aq 3), .ref (aq 4), .ref (aq 5), .ref (aq 6), vZ (S2_99.2 7), vZ (S2_99.2 8)])), ((aq 0), .inl (K.1, 32, .inl (ar (S2_99.1 0)))), ((aq 1), .inl (K.1, 32, .inl (ar (S2_99.1 1)))), ((aq 2), .inl (K.1, 32, .inl (ar (S2_99.1 2)))), ((aq 3), .inl (K.1, Nq, .inl (ar (S2_99.1 3)))), ((aq 4), .inl (K.1, Nq, .inl (ar (S2_99.1 4)))), ((aq 5), .inl (K.1, Nq, .inl (ar (S2_99.1 5)))), ((aq 6), .inl (K.1, Nq, .inl (ar (S2_99.1 6)))), ((a 1), .inr (4, [.ref (an 0), .ref (an 1), .ref (an 2), .ref (an 3), .ref (an 4), .ref (an 5), .ref (an 6), .ref (an 7), vZ (Ne.2 8)])), ((an 0), .inl (K.1, 16, .inl (ar (Ne.1 0)))), ((an 1), .inl (K.1, 16, .inl (ar (Ne.1 1)))), ((an 2), .inl (K.1, 16, .inl (ar (Ne.1 2)))), ((an 3), .inl (K.1, 16, .inl (ar (Ne.1 3)))), ((an 4), .inl (K.1, 16, .inl (ar (Ne.1 4)))), ((an 5), .inl (K.1, 16, .inl (ar (Ne.1 5)))), ((an 6), .inl (K.1, 100, .inl (ar (Ne.1 6)))), ((an 7), .inl (K.1, 100, .inl (ar (Ne.1 7))))]) rfl (z_lv (lv2 := [(0, .ref h), (1, vZ r), (2, vZ most), (3, vZ r), (4, vZ (out + many)), (5, vZ (i + 1))]) ⟨rfl, rfl, rfl, rfl, rfl, rfl, trivial⟩ ?_)
            refine ih_11 (out + many) (i + 1) S2_99 (upL (upL Cq1 r (tk3 c nn dd l2 many)) (16 + r) (ap3 (Cq1 (16 + r)) c many (T.2 12 + Ne.1 3 r))) ?_ ?_ ?_ ?_ ?_ ?_ ?_ (dec_lt hm_11 c_16)
            · skip
              exact hO2_99
            · skip
              have hdl : (fq (Cq1 r)).length = (fq (Cq r)).length - out.toNat := by rw [j5.1, List.length_drop]
              have hdl2 : nn.toNat ≤ (fq (Cq1 r)).length := by rw [hC]; show nn.toNat ≤ (List.replicate nn.toNat c ++ fq l2).length; rw [List.length_append, List.length_replicate]; omega
              omega
            · skip
              intro j hj hj2
              rw [upL_ne _ _ hj2, upL_ne _ _ hj]
              exact j4 j hj hj2
            · skip
              rw [ez1, ez2, htq.1, ← hC, j5.1, List.drop_drop, show out.toNat + many.toNat = (out + many).toNat by omega]
              refine ⟨rfl, ?_⟩
              rw [fd_ap3 _ _ _ _ (by omega) (lo_pos (r := 16 + r) j1 ⟨by omega, by omega⟩), j5.2, List.append_assoc]
              congr 1
              rw [show (out + many).toNat = out.toNat + many.toNat by omega, List.take_add, List.map_append, ← j5.1, hC, htq.2, List.map_replicate]
            · skip
              rw [ez1, ez2]
              refine ⟨fun q hq => ?_, fun q hq => ?_⟩
              · rcases tk3_mem hq with z | z
                · exact j6.1 q (by rw [hC]; exact List.mem_cons_of_mem _ z)
                · subst z
                  exact ⟨hq6.1, hq6.2.1, by show nn - many ≤ 1000000; omega⟩
              · rcases ap3_mem hq with ⟨p, hp, z1, z2⟩ | ⟨z1, z2⟩
                · rw [z1, z2]; exact j6.2 p hp
                · rw [z1, z2]; omega
            · skip
              have hld := lns_up (P := upL Cq1 r (tk3 c nn dd l2 many)) (r := 16 + r) (l := (ap3 (Cq1 (16 + r)) c many (T.2 12 + Ne.1 3 r))) (n := 32) (by omega) (by omega)
              rw [e16] at hld
              have hl3 := ap3_len (Cq1 (16 + r)) c many (T.2 12 + Ne.1 3 r)
              rw [if_pos c_22] at j7
              by_cases z : many < nn
              · rw [if_pos z] at hlq2
                rw [if_neg (show ¬ (out + many < most) by subst emany; omega)]
                omega
              · rw [if_neg z] at hlq2
                split <;> omega
            · skip
              rw [ez1, tk3_len]
              have j82 := j8.2.2 c_22
              rw [hC] at j82
              simp only [List.length_cons] at j82
              refine ⟨by omega, by omega, fun z => ?_⟩
              rw [if_neg (show ¬ (many < nn) by subst emany; omega)]
              omega
  refine z_ws (ws2 := [(h, .inr (6, [.ref (a 0), .ref (a 1), .ref (a 2), .ref (a 3), .ref (a 5), .ref (a 6), .ref (a 7), .ref (a 8), .ref (a 9), .ref (a 10), .ref (a 11), vZ (T.2 12), vZ (T.2 13), vZ (T.2 14), vZ (T.2 15)])), ((a 5), .inl (K.1, 8, .inl (ar (T.1 5)))), ((a 6), .inl (K.1, 8, .inl (ar (T.1 6)))), ((a 7), .inl (K.1, 8, .inl (ar (T.1 7)))), ((a 8), .inl (K.1, 10, .inl (ar (T.1 8)))), ((a 9), .inl (K.1, 10, .inl (ar (T.1 9)))), ((a 10), .inl (K.1, 10, .inl (ar (T.1 10)))), ((a 11), .inl (K.1, 16, .inl (ar (T.1 11)))), ((a 3), .inr (2, [.ref (aq 0), .ref (aq 1), .ref (aq 2), .ref (aq 3), .ref (aq 4), .ref (aq 5), .ref (aq 6), vZ (Sq.2 7), vZ (Sq.2 8)])), ((aq 0), .inl (K.1, 32, .inl (ar (Sq.1 0)))), ((aq 1), .inl (K.1, 32, .inl (ar (Sq.1 1)))), ((aq 2), .inl (K.1, 32, .inl (ar (Sq.1 2)))), ((aq 3), .inl (K.1, Nq, .inl (ar (Sq.1 3)))), ((aq 4), .inl (K.1, Nq, .inl (ar (Sq.1 4)))), ((aq 5), .inl (K.1, Nq, .inl (ar (Sq.1 5)))), ((aq 6), .inl (K.1, Nq, .inl (ar (Sq.1 6)))), ((a 1), .inr (4, [.ref (an 0), .ref (an 1), .ref (an 2), .ref (an 3), .ref (an 4), .ref (an 5), .ref (an 6), .ref (an 7), vZ (Ne.2 8)])), ((an 0), .inl (K.1, 16, .inl (ar (Ne.1 0)))), ((an 1), .inl (K.1, 16, .inl (ar (Ne.1 1)))), ((an 2), .inl (K.1, 16, .inl (ar (Ne.1 2)))), ((an 3), .inl (K.1, 16, .inl (ar (Ne.1 3)))), ((an 4), .inl (K.1, 16, .inl (ar (Ne.1 4)))), ((an 5), .inl (K.1, 16, .inl (ar (Ne.1 5)))), ((an 6), .inl (K.1, 100, .inl (ar (Ne.1 6)))), ((an 7), .inl (K.1, 100, .inl (ar (Ne.1 7))))]) rfl (z_lv (lv2 := [(0, .ref h), (1, vZ r), (2, vZ most), (3, vZ r), (4, vZ 0), (5, vZ 0)]) ⟨rfl, rfl, rfl, rfl, rfl, rfl, trivial⟩ ?_)
  refine lp_11 _ 0 0 Sq Cq ?_ ?_ ?_ ?_ ?_ ?_ ?_ (Nat.lt_succ_self _)
  · skip
    exact hOq
  · skip
    omega
  · skip
    exact fun _ _ _ => rfl
  · skip
    exact ⟨rfl, by simp⟩
  · skip
    exact ⟨hvq, hvd⟩
  · skip
    omega
  · skip
    omega

