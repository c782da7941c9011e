/-! ===== Foresight: the small methods ===== -/
section ZBits
variable {p : Program} {l : Launch} {e : Env} {R : Room} {s : State} {m : MethodId} {args : Array Value} {below : List Frame} {meth : Method} {c : Code} {D : va_G} {K : tyK} {A : Nat → Prop} {nL : Nat} {Q : State → Prop} {cells slots : Nat} {ws : va_W} {pc : Nat} {lv : List (Nat × Value)} {st : List Value} {cc : ByteArray} {own : String}
theorem iI_nI (n : Nat) : iI (n : Int) = nI n := Int32.ofInt_eq_ofNat
theorem sh_case {x s : Int} (hx : 0 ≤ x ∧ x < 2147483648) (hs : s = 0 ∨ s = 2 ∨ s = 4 ∨ s = 6) : iI x >>> (iI s &&& 31) = iI (x / 2 ^ s.toNat) := by
  obtain ⟨n, rfl⟩ : ∃ n : Nat, x = (n : Int) := ⟨x.toNat, by omega⟩
  rcases hs with rfl | rfl | rfl | rfl
  · rw [iI_nI, pk_shrN (by omega) (iI 0 &&& 31) 0 (by decide)]
    show nI (n / 1) = iI ((n : Int) / 1)
    rw [← iI_nI]; congr 1
  · rw [iI_nI, pk_shrN (by omega) (iI 2 &&& 31) 2 (by decide)]
    show nI (n / 4) = iI ((n : Int) / 4)
    rw [← iI_nI]; congr 1
  · rw [iI_nI, pk_shrN (by omega) (iI 4 &&& 31) 4 (by decide)]
    show nI (n / 16) = iI ((n : Int) / 16)
    rw [← iI_nI]; congr 1
  · rw [iI_nI, pk_shrN (by omega) (iI 6 &&& 31) 6 (by decide)]
    show nI (n / 64) = iI ((n : Int) / 64)
    rw [← iI_nI]; congr 1
theorem z_ishr (C : Zc p s m args c D K A nL cc own) {x y : Int} (hdg : decode cc pc = .ok (.ishr, 1)) (hx : 0 ≤ x ∧ x < 2147483648) (hs : y = 0 ∨ y = 2 ∨ y = 4 ∨ y = 6) (kk : Zw p l e R s m args below meth c D A nL Q cells slots ws (pc + 1) lv (vZ (x / 2 ^ y.toNat) :: st)) : Zw p l e R s m args below meth c D A nL Q cells slots ws pc lv (vZ y :: vZ x :: st) := fun H locs ls hP hD hS h => by
  refine lv_ishr C.1 C.2.1 hdg ?_
  rw [sh_case hx hs]
  exact kk H locs ls hP hD hS h
theorem and3 {x : Int} (hx : 0 ≤ x ∧ x < 2147483648) : iI x &&& iI 3 = iI (x % 4) := by
  obtain ⟨n, rfl⟩ : ∃ n : Nat, x = (n : Int) := ⟨x.toNat, by omega⟩
  rw [iI_nI, pk_andN (by omega) (m := iI 3) 2 (by decide)]
  show nI (n % 4) = iI ((n : Int) % 4)
  rw [← iI_nI]; congr 1
theorem z_iand3 (C : Zc p s m args c D K A nL cc own) {x : Int} (hdg : decode cc pc = .ok (.iand, 1)) (hx : 0 ≤ x ∧ x < 2147483648) (kk : Zw p l e R s m args below meth c D A nL Q cells slots ws (pc + 1) lv (vZ (x % 4) :: st)) : Zw p l e R s m args below meth c D A nL Q cells slots ws pc lv (vZ 3 :: vZ x :: st) := fun H locs ls hP hD hS h => by
  refine lv_iand C.1 C.2.1 hdg ?_
  rw [and3 hx]
  exact kk H locs ls hP hD hS h
theorem shl_case {s : Int} (hs : s = 2 ∨ s = 4 ∨ s = 6 ∨ s = 8) : iI 1 <<< (iI s &&& 31) = iI (2 ^ s.toNat) := by
  rcases hs with rfl | rfl | rfl | rfl <;> decide
theorem z_ishl1 (C : Zc p s m args c D K A nL cc own) {y : Int} (hdg : decode cc pc = .ok (.ishl, 1)) (hs : y = 2 ∨ y = 4 ∨ y = 6 ∨ y = 8) (kk : Zw p l e R s m args below meth c D A nL Q cells slots ws (pc + 1) lv (vZ (2 ^ y.toNat) :: st)) : Zw p l e R s m args below meth c D A nL Q cells slots ws pc lv (vZ y :: vZ 1 :: st) := fun H locs ls hP hD hS h => by
  refine lv_ishl C.1 C.2.1 hdg ?_
  rw [shl_case hs]
  exact kk H locs ls hP hD hS h
end ZBits
/-- the step of a crowd in a way -/
def stp (n way place : Int) : Int := way / 2 ^ (2 * (n - 1 - place)).toNat % 4

set_option maxHeartbeats 4000000 in
set_option maxRecDepth 100000 in
theorem c_X1_init (zl : Launch) (D : va_G) (K : tyK) (h : Nat) (hu : Nat) (hv : Nat)  : Mz zl yX1_init cX1_init 3 (none) 1 20 3 18 D K [.ref h, .ref hu, .ref hv] [(h, .inr (1, [.null, .null, .null, .null, .null, vZ 0, vZ 0, vZ 0, vZ 0, vZ 0, vZ 0, vZ 0]))] (fun r_ w2_ gc gs => ∃ (a : Nat → Nat), ∃ (F : Bd), r_ = none ∧ w2_ = (wFo K h a F) ∧ gc = 3 ∧ gs = 18 ∧ (a 0 = hu ∧ a 1 = hv) ∧ (F.2 5 = 0 ∧ F.2 8 = 0)) := by
  refine Mz.ofZ (by decide) rfl (Nat.le_of_ble_eq_true rfl) ?_
  intro zp ze zR zs zm zargs zbelow zmeth zc zA zQ ZC ZE hRf hRc hRs hRl
  refine z_aload_n ZC 0 dX1_init_0 rfl rfl ?_
  refine z_objInit ZC uM_X1_3 uI_java_lang_Object__init_ uC_java_lang_Object__init_ dX1_init_1 (by omega) (by simp only [List.map_nil, List.map_cons, List.sum_nil, List.sum_cons, Value.category]; omega) ?_
  refine z_aload_n ZC 0 dX1_init_4 rfl rfl ?_
  refine z_bipush ZC dX1_init_5 (by decide) ?_
  refine z_newa ZC (n := 10) uA_int dX1_init_7 (by rfl) (by omega) (by omega) (by omega) (fun q7 => ?_)
  refine z_putF ZC ZE.2.2.2.2 inUX1 tyX1_ok nmX1 0 rfl rfl 2 (by decide) uF_X1_9 rfl rfl (rfl) (rfl) (Nat.le_of_ble_eq_true rfl) dX1_init_9 ?_
  refine z_aload_n ZC 0 dX1_init_12 rfl rfl ?_
  refine z_iconst ZC dX1_init_13 ?_
  refine z_newa ZC (n := 4) uA_int dX1_init_14 (by rfl) (by omega) (by omega) (by omega) (fun q14 => ?_)
  refine z_putF ZC ZE.2.2.2.2 inUX1 tyX1_ok nmX1 0 rfl rfl 3 (by decide) uF_X1_15 rfl rfl (rfl) (rfl) (Nat.le_of_ble_eq_true rfl) dX1_init_16 ?_
  refine z_aload_n ZC 0 dX1_init_19 rfl rfl ?_
  refine z_iconst ZC dX1_init_20 ?_
  refine z_newa ZC (n := 4) uA_int dX1_init_21 (by rfl) (by omega) (by omega) (by omega) (fun q21 => ?_)
  refine z_putF ZC ZE.2.2.2.2 inUX1 tyX1_ok nmX1 0 rfl rfl 4 (by decide) uF_X1_18 rfl rfl (rfl) (rfl) (Nat.le_of_ble_eq_true rfl) dX1_init_23 ?_
  refine z_ws (ws2 := [(h, .inr (1, [.null, .null, .ref q7, .ref q14, .ref q21, vZ 0, vZ 0, vZ 0, vZ 0, vZ 0, vZ 0, vZ 0])), (q7, .inl (K.1, 10, .inl (ar (fun _ => 0)))), (q14, .inl (K.1, 4, .inl (ar (fun _ => 0)))), (q21, .inl (K.1, 4, .inl (ar (fun _ => 0))))]) rfl ?_
  refine z_aload_n ZC 0 dX1_init_26 rfl rfl ?_
  refine z_aload_n ZC 1 dX1_init_27 rfl rfl ?_
  refine z_putF ZC ZE.2.2.2.2 inUX1 tyX1_ok nmX1 0 rfl rfl 0 (by decide) uF_X1_21 rfl rfl (rfl) (rfl) (Nat.le_of_ble_eq_true rfl) dX1_init_28 ?_
  refine z_aload_n ZC 0 dX1_init_31 rfl rfl ?_
  refine z_aload_n ZC 2 dX1_init_32 rfl rfl ?_
  refine z_putF ZC ZE.2.2.2.2 inUX1 tyX1_ok nmX1 0 rfl rfl 1 (by decide) uF_X1_25 rfl rfl (rfl) (rfl) (Nat.le_of_ble_eq_true rfl) dX1_init_33 ?_
  refine z_vret ZC ZE dX1_init_36 (by omega) (by omega) (Nat.le_of_ble_eq_true rfl) ⟨(upf (upf (upf (upf (upf (fun _ => 0) 0 hu) 1 hv) 2 q7) 3 q14) 4 q21), ((upf (upf (upf (fun _ _ => 0) 2 (fun _ => 0)) 3 (fun _ => 0)) 4 (fun _ => 0)), (upf (upf (upf (upf (upf (upf (upf (fun _ => 0) 5 0) 6 0) 7 0) 8 0) 9 0) 10 0) 11 0)), rfl, rfl, by omega, by omega, ?_, ?_⟩
  · skip
    exact ⟨rfl, rfl⟩
  · skip
    exact ⟨rfl, rfl⟩

set_option maxHeartbeats 4000000 in
set_option maxRecDepth 100000 in
theorem c_X1_forget (zl : Launch) (D : va_G) (K : tyK) (h : Nat) (a : Nat → Nat) (F : Bd)  : Mz zl yX1_forget cX1_forget 1 (none) 0 0 0 0 D K [.ref h] (wFo K h a F) (fun r_ w2_ gc gs => r_ = none ∧ w2_ = (wFo K h a (F.1, (upf (upf F.2 5 0) 8 0))) ∧ gc = 0 ∧ gs = 0) := by
  refine Mz.ofZ (by decide) rfl (Nat.le_of_ble_eq_true rfl) ?_
  intro zp ze zR zs zm zargs zbelow zmeth zc zA zQ ZC ZE hRf hRc hRs hRl
  refine z_aload_n ZC 0 dX1_forget_0 rfl rfl ?_
  refine z_iconst ZC dX1_forget_1 ?_
  refine z_put ZC inUX1 tyX1_ok nmX1 0 rfl rfl 5 (by decide) uF_X1_28 rfl (by decide) (by decide) (Nat.le_of_ble_eq_true rfl) dX1_forget_2 ?_
  refine z_aload_n ZC 0 dX1_forget_5 rfl rfl ?_
  refine z_iconst ZC dX1_forget_6 ?_
  refine z_put ZC inUX1 tyX1_ok nmX1 0 rfl rfl 8 (by decide) uF_X1_32 rfl (by decide) (by decide) (Nat.le_of_ble_eq_true rfl) dX1_forget_7 ?_
  exact z_vret ZC ZE dX1_forget_10 (by omega) (by omega) (Nat.le_of_ble_eq_true rfl) ⟨rfl, rfl, by omega, by omega⟩

set_option maxHeartbeats 4000000 in
set_option maxRecDepth 100000 in
theorem c_X1_noteLacks (zl : Launch) (D : va_G) (K : tyK) (h : Nat) (a : Nat → Nat) (F : Bd) (b : Nat → Nat) (V : Bd) (hl : ∀ t : Int, 0 ≤ t → t < 10 → (-1 ≤ F.1 2 t ∧ F.1 2 t ≤ 1000) ∧ (0 ≤ V.1 8 t ∧ V.1 8 t ≤ 1000000) ∧ (0 ≤ V.1 9 t ∧ V.1 9 t ≤ 1000000)) : Mz zl yX1_noteLacks cX1_noteLacks 2 (none) 0 0 0 0 D K [.ref h] ((wFo K h a F) ++ (wTr K (a 1) b V)) (fun r_ w2_ gc gs => ∃ (Lk : Int → Int), r_ = none ∧ w2_ = ((wFo K h a ((upf F.1 2 Lk), F.2)) ++ (wTr K (a 1) b V)) ∧ gc = 0 ∧ gs = 0 ∧ (∀ t : Int, (0 ≤ t ∧ t < 10 → Lk t = if F.1 2 t = -1 ∧ V.1 9 t < V.1 8 t then V.2 12 else F.1 2 t) ∧ (¬ (0 ≤ t ∧ t < 10) → Lk t = F.1 2 t))) := by
  refine Mz.ofZ (by decide) rfl (Nat.le_of_ble_eq_true rfl) ?_
  intro zp ze zR zs zm zargs zbelow zmeth zc zA zQ ZC ZE hRf hRc hRs hRl
  refine z_iconst ZC dX1_noteLacks_0 ?_
  refine z_istore_n ZC 1 dX1_noteLacks_1 rfl (by decide) ?_
  have lp_2 : ∀ (n_2 : Nat) (k : Int) (Lk : Int → Int), (0 ≤ k ∧ k ≤ 10) → (∀ t : Int, (0 ≤ t ∧ t < k → Lk t = if F.1 2 t = -1 ∧ V.1 9 t < V.1 8 t then V.2 12 else F.1 2 t) ∧ (¬ (0 ≤ t ∧ t < k) → Lk t = F.1 2 t)) → ((10 - k).toNat) < n_2 → Zw zp zl ze zR zs zm zargs zbelow zmeth zc D zA 2 zQ 0 0 ([(h, .inr (1, [.ref (a 0), .ref (a 1), .ref (a 2), .ref (a 3), .ref (a 4), vZ (F.2 5), vZ (F.2 6), vZ (F.2 7), vZ (F.2 8), vZ (F.2 9), vZ (F.2 10), vZ (F.2 11)])), ((a 2), .inl (K.1, 10, .inl (ar Lk))), ((a 3), .inl (K.1, 4, .inl (ar (F.1 3)))), ((a 4), .inl (K.1, 4, .inl (ar (F.1 4)))), ((a 1), .inr (6, [.ref (b 0), .ref (b 1), .ref (b 2), .ref (b 3), .ref (b 5), .ref (b 6), .ref (b 7), .ref (b 8), .ref (b 9), .ref (b 10), .ref (b 11), vZ (V.2 12), vZ (V.2 13), vZ (V.2 14), vZ (V.2 15)])), ((b 5), .inl (K.1, 8, .inl (ar (V.1 5)))), ((b 6), .inl (K.1, 8, .inl (ar (V.1 6)))), ((b 7), .inl (K.1, 8, .inl (ar (V.1 7)))), ((b 8), .inl (K.1, 10, .inl (ar (V.1 8)))), ((b 9), .inl (K.1, 10, .inl (ar (V.1 9)))), ((b 10), .inl (K.1, 10, .inl (ar (V.1 10)))), ((b 11), .inl (K.1, 16, .inl (ar (V.1 11))))]) 2 [(0, .ref h), (1, vZ k)] [] := by
    intro n_2
    induction n_2 with
    | zero => intro k Lk hk hL hm_2; exact absurd hm_2 (Nat.not_lt_zero _)
    | succ n_2 ih_2 =>
      intro k Lk hk hL hm_2
      refine z_iload_n ZC 1 dX1_noteLacks_2 rfl rfl ?_
      refine z_bipush ZC dX1_noteLacks_3 (by decide) ?_
      refine z_icmp_ge ZC 58 dX1_noteLacks_5 (by decide) (by omega) (by omega) (fun c_5 => ?_) (fun c_5 => ?_)
      · skip
        refine z_vret ZC ZE dX1_noteLacks_58 (by omega) (by omega) (Nat.le_of_ble_eq_true rfl) ⟨Lk, rfl, rfl, by omega, by omega, ?_⟩
        · skip
          rw [show (10 : Int) = k by omega]
          exact hL
      · skip
        obtain ⟨hl1, hl2, hl3⟩ := hl k (by omega) (by omega)
        have eL := (hL k).2 (by omega)
        refine z_aload_n ZC 0 dX1_noteLacks_8 rfl rfl ?_
        refine z_get ZC inUX1 0 rfl rfl 2 (by decide) uF_X1_9 rfl dX1_noteLacks_9 ?_
        refine z_iload_n ZC 1 dX1_noteLacks_12 rfl rfl ?_
        refine z_iald ZC 1 rfl dX1_noteLacks_13 (by omega) ?_
        refine z_iconst ZC dX1_noteLacks_14 ?_
        refine z_icmp_ne ZC 52 dX1_noteLacks_15 (by decide) (by rw [eL]; omega) (by omega) (fun c_15 => ?_) (fun c_15 => ?_)
        · skip
          refine z_iinc ZC dX1_noteLacks_52 rfl (by decide) ?_
          refine z_goto ZC 2 dX1_noteLacks_55 (by decide) ?_
          refine z_ws (ws2 := [(h, .inr (1, [.ref (a 0), .ref (a 1), .ref (a 2), .ref (a 3), .ref (a 4), vZ (F.2 5), vZ (F.2 6), vZ (F.2 7), vZ (F.2 8), vZ (F.2 9), vZ (F.2 10), vZ (F.2 11)])), ((a 2), .inl (K.1, 10, .inl (ar Lk))), ((a 3), .inl (K.1, 4, .inl (ar (F.1 3)))), ((a 4), .inl (K.1, 4, .inl (ar (F.1 4)))), ((a 1), .inr (6, [.ref (b 0), .ref (b 1), .ref (b 2), .ref (b 3), .ref (b 5), .ref (b 6), .ref (b 7), .ref (b 8), .ref (b 9), .ref (b 10), .ref (b 11), vZ (V.2 12), vZ (V.2 13), vZ (V.2 14), vZ (V.2 15)])), ((b 5), .inl (K.1, 8, .inl (ar (V.1 5)))), ((b 6), .inl (K.1, 8, .inl (ar (V.1 6)))), ((b 7), .inl (K.1, 8, .inl (ar (V.1 7)))), ((b 8), .inl (K.1, 10, .inl (ar (V.1 8)))), ((b 9), .inl (K.1, 10, .inl (ar (V.1 9)))), ((b 10), .inl (K.1, 10, .inl (ar (V.1 10)))), ((b 11), .inl (K.1, 16, .inl (ar (V.1 11))))]) rfl (z_lv (lv2 := [(0, .ref h), (1, vZ (k + 1))]) ⟨rfl, rfl, trivial⟩ ?_)
          refine ih_2 (k + 1) Lk ?_ ?_ (by omega)
          · skip
            omega
          · skip
            intro t
            by_cases z : t = k
            · subst z
              refine ⟨fun _ => ?_, fun z2 => by omega⟩
              rw [eL, if_neg (fun q => c_15 (eL.trans q.1))]
            · exact ⟨fun z2 => (hL t).1 (by omega), fun z2 => (hL t).2 (by omega)⟩
        · skip
          refine z_aload_n ZC 0 dX1_noteLacks_18 rfl rfl ?_
          refine z_get ZC inUX1 0 rfl rfl 1 (by decide) uF_X1_25 rfl dX1_noteLacks_19 ?_
          refine z_get ZC inUX6 4 rfl rfl 7 (by decide) uF_X1_100 rfl dX1_noteLacks_22 ?_
          refine z_iload_n ZC 1 dX1_noteLacks_25 rfl rfl ?_
          refine z_iald ZC 8 rfl dX1_noteLacks_26 (by omega) ?_
          refine z_aload_n ZC 0 dX1_noteLacks_27 rfl rfl ?_
          refine z_get ZC inUX1 0 rfl rfl 1 (by decide) uF_X1_25 rfl dX1_noteLacks_28 ?_
          refine z_get ZC inUX6 4 rfl rfl 8 (by decide) uF_X1_103 rfl dX1_noteLacks_31 ?_
          refine z_iload_n ZC 1 dX1_noteLacks_34 rfl rfl ?_
          refine z_iald ZC 9 rfl dX1_noteLacks_35 (by omega) ?_
          refine z_icmp_le ZC 52 dX1_noteLacks_36 (by decide) (by omega) (by omega) (fun c_36 => ?_) (fun c_36 => ?_)
          · skip
            refine z_iinc ZC dX1_noteLacks_52 rfl (by decide) ?_
            refine z_goto ZC 2 dX1_noteLacks_55 (by decide) ?_
            refine z_ws (ws2 := [(h, .inr (1, [.ref (a 0), .ref (a 1), .ref (a 2), .ref (a 3), .ref (a 4), vZ (F.2 5), vZ (F.2 6), vZ (F.2 7), vZ (F.2 8), vZ (F.2 9), vZ (F.2 10), vZ (F.2 11)])), ((a 2), .inl (K.1, 10, .inl (ar Lk))), ((a 3), .inl (K.1, 4, .inl (ar (F.1 3)))), ((a 4), .inl (K.1, 4, .inl (ar (F.1 4)))), ((a 1), .inr (6, [.ref (b 0), .ref (b 1), .ref (b 2), .ref (b 3), .ref (b 5), .ref (b 6), .ref (b 7), .ref (b 8), .ref (b 9), .ref (b 10), .ref (b 11), vZ (V.2 12), vZ (V.2 13), vZ (V.2 14), vZ (V.2 15)])), ((b 5), .inl (K.1, 8, .inl (ar (V.1 5)))), ((b 6), .inl (K.1, 8, .inl (ar (V.1 6)))), ((b 7), .inl (K.1, 8, .inl (ar (V.1 7)))), ((b 8), .inl (K.1, 10, .inl (ar (V.1 8)))), ((b 9), .inl (K.1, 10, .inl (ar (V.1 9)))), ((b 10), .inl (K.1, 10, .inl (ar (V.1 10)))), ((b 11), .inl (K.1, 16, .inl (ar (V.1 11))))]) rfl (z_lv (lv2 := [(0, .ref h), (1, vZ (k + 1))]) ⟨rfl, rfl, trivial⟩ ?_)
            refine ih_2 (k + 1) Lk ?_ ?_ (by omega)
            · skip
              omega
            · skip
              intro t
              by_cases z : t = k
              · subst z
                refine ⟨fun _ => ?_, fun z2 => by omega⟩
                rw [eL, if_neg (fun q => by omega)]
              · exact ⟨fun z2 => (hL t).1 (by omega), fun z2 => (hL t).2 (by omega)⟩
          · skip
            refine z_aload_n ZC 0 dX1_noteLacks_39 rfl rfl ?_
            refine z_get ZC inUX1 0 rfl rfl 2 (by decide) uF_X1_9 rfl dX1_noteLacks_40 ?_
            refine z_iload_n ZC 1 dX1_noteLacks_43 rfl rfl ?_
            refine z_aload_n ZC 0 dX1_noteLacks_44 rfl rfl ?_
            refine z_get ZC inUX1 0 rfl rfl 1 (by decide) uF_X1_25 rfl dX1_noteLacks_45 ?_
            refine z_get ZC inUX6 4 rfl rfl 11 (by decide) uF_X1_39 rfl dX1_noteLacks_48 ?_
            refine z_iast ZC 1 rfl dX1_noteLacks_51 (by omega) ?_
            refine z_iinc ZC dX1_noteLacks_52 rfl (by decide) ?_
            refine z_goto ZC 2 dX1_noteLacks_55 (by decide) ?_
            refine z_ws (ws2 := [(h, .inr (1, [.ref (a 0), .ref (a 1), .ref (a 2), .ref (a 3), .ref (a 4), vZ (F.2 5), vZ (F.2 6), vZ (F.2 7), vZ (F.2 8), vZ (F.2 9), vZ (F.2 10), vZ (F.2 11)])), ((a 2), .inl (K.1, 10, .inl (ar (upz Lk k (V.2 12))))), ((a 3), .inl (K.1, 4, .inl (ar (F.1 3)))), ((a 4), .inl (K.1, 4, .inl (ar (F.1 4)))), ((a 1), .inr (6, [.ref (b 0), .ref (b 1), .ref (b 2), .ref (b 3), .ref (b 5), .ref (b 6), .ref (b 7), .ref (b 8), .ref (b 9), .ref (b 10), .ref (b 11), vZ (V.2 12), vZ (V.2 13), vZ (V.2 14), vZ (V.2 15)])), ((b 5), .inl (K.1, 8, .inl (ar (V.1 5)))), ((b 6), .inl (K.1, 8, .inl (ar (V.1 6)))), ((b 7), .inl (K.1, 8, .inl (ar (V.1 7)))), ((b 8), .inl (K.1, 10, .inl (ar (V.1 8)))), ((b 9), .inl (K.1, 10, .inl (ar (V.1 9)))), ((b 10), .inl (K.1, 10, .inl (ar (V.1 10)))), ((b 11), .inl (K.1, 16, .inl (ar (V.1 11))))]) rfl (z_lv (lv2 := [(0, .ref h), (1, vZ (k + 1))]) ⟨rfl, rfl, trivial⟩ ?_)
            refine ih_2 (k + 1) (upz Lk k (V.2 12)) ?_ ?_ (by omega)
            · skip
              omega
            · skip
              intro t
              unfold upz
              by_cases z : t = k
              · rw [if_pos z]
                subst z
                refine ⟨fun _ => ?_, fun z2 => by omega⟩
                rw [if_pos ⟨eL.symm.trans c_15, c_36⟩]
              · rw [if_neg z]
                exact ⟨fun z2 => (hL t).1 (by omega), fun z2 => (hL t).2 (by omega)⟩
  refine z_ws (ws2 := [(h, .inr (1, [.ref (a 0), .ref (a 1), .ref (a 2), .ref (a 3), .ref (a 4), vZ (F.2 5), vZ (F.2 6), vZ (F.2 7), vZ (F.2 8), vZ (F.2 9), vZ (F.2 10), vZ (F.2 11)])), ((a 2), .inl (K.1, 10, .inl (ar (F.1 2)))), ((a 3), .inl (K.1, 4, .inl (ar (F.1 3)))), ((a 4), .inl (K.1, 4, .inl (ar (F.1 4)))), ((a 1), .inr (6, [.ref (b 0), .ref (b 1), .ref (b 2), .ref (b 3), .ref (b 5), .ref (b 6), .ref (b 7), .ref (b 8), .ref (b 9), .ref (b 10), .ref (b 11), vZ (V.2 12), vZ (V.2 13), vZ (V.2 14), vZ (V.2 15)])), ((b 5), .inl (K.1, 8, .inl (ar (V.1 5)))), ((b 6), .inl (K.1, 8, .inl (ar (V.1 6)))), ((b 7), .inl (K.1, 8, .inl (ar (V.1 7)))), ((b 8), .inl (K.1, 10, .inl (ar (V.1 8)))), ((b 9), .inl (K.1, 10, .inl (ar (V.1 9)))), ((b 10), .inl (K.1, 10, .inl (ar (V.1 10)))), ((b 11), .inl (K.1, 16, .inl (ar (V.1 11))))]) rfl (z_lv (lv2 := [(0, .ref h), (1, vZ 0)]) ⟨rfl, rfl, trivial⟩ ?_)
  refine lp_2 _ 0 (F.1 2) ?_ ?_ (Nat.lt_succ_self _)
  · skip
    omega
  · skip
    intro t
    exact ⟨fun q => by omega, fun _ => rfl⟩

