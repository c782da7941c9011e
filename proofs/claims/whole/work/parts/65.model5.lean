/-! ===== the reference: an hour ===== -/
/-- the reference's object holds the state A -/
def MX (Cr : Bd) (A : Ab) (M : Bd) (C : Int → List Pt3) : Prop :=
  MD Cr A M C [] ∧ (∀ c : Int, 0 ≤ c → c < 8 → M.1 16 c = A.1 0 c) ∧ (∀ t : Int, 0 ≤ t → t < 10 → M.1 31 t = A.1 4 t ∧ M.1 32 t = A.1 5 t) ∧ M.2 20 = A.2.1 0 ∧ M.2 34 = A.2.1 1 ∧ M.2 21 ≤ oc Cr A + 16 * A.2.1 0
theorem aOut_q {Ne : Bd} {A : Ab} : ∀ (n : Nat) (q : Int), 0 ≤ q → q < n → (aOut Ne A n).2.2.1 q = (A.2.2.1 q).drop (aK Ne A q)
  | 0, q, h1, h2 => by omega
  | n + 1, q, h1, h2 => by
    show upL (aOut Ne A n).2.2.1 (n : Int) (((aOut Ne A n).2.2.1 (n : Int)).drop (aK Ne (aOut Ne A n) (n : Int))) q = _
    by_cases e : q = (n : Int)
    · rw [e, upL_self, aK_keep (Int.le_refl _), ((aOut_keep Ne A n).2.2 (n : Int) (Int.le_refl _)).1]
    · rw [upL_ne _ _ e]
      exact aOut_q n q h1 (by omega)
theorem aArr_r {Ne Cr : Bd} {town c r : Int} {n : Nat} {A : Ab} {l : List (Int × Int)} : (aArr Ne Cr town (aD A r l) c n).2.2.2 r = l ∧ (aArr Ne Cr town (aD A r l) c n).2.1 = A.2.1 := by
  have h := fold_keep Ne Cr town (List.replicate n c) (aD A r l)
  refine ⟨?_, h.1⟩
  rw [show (aArr Ne Cr town (aD A r l) c n).2.2.2 = (aD A r l).2.2.2 from h.2.1]
  exact upL_self _ _ _

set_option maxHeartbeats 4000000 in
set_option maxRecDepth 100000 in
theorem c_X8_hour (zl : Launch) (D : va_G) (K : tyK) (h : Nat) (a : Nat → Nat) (M : Bd) (To : Bd) (Ne : Bd) (Cr : Bd) (A : Ab) (C : Int → List Pt3) (tl : Int) (hcf : Cfg Ne Cr) (hnw : NW Ne) (hms : MS To Ne Cr M) (hto : 0 ≤ To.2 3 ∧ To.2 3 ≤ 10) (hab : AB Ne Cr A) (hmx : MX Cr A M C) (hn : A.2.1 0 < 200) (hli : ∀ t : Int, 0 ≤ t → t < 10 → -1 ≤ M.1 33 t ∧ M.1 33 t ≤ 1000) (htl : tl = 0 ∨ tl = 1) : Mz zl yX8_hour cX8_hour 4 (none) 3 68 0 0 D K [.ref h, vZ tl] (wMo K h a M) (fun r_ w2_ gc gs => ∃ (M2 : Bd), ∃ (C2 : Int → List Pt3), r_ = none ∧ w2_ = (wMo K h a M2) ∧ gc = 0 ∧ gs = 0 ∧ (MX Cr (aHour To Ne Cr A) M2 C2) ∧ (KP [18, 19, 22, 23, 24, 25, 26, 27, 28, 29, 30, 31, 32, 33] [20, 21, 34] M M2) ∧ (∀ t : Int, 0 ≤ t → t < 10 → M2.1 33 t = (if t < To.2 3 ∧ M.1 33 t = -1 ∧ A.1 4 t < aAt Ne Cr (aDrive Ne Cr A) t then A.2.1 0 else M.1 33 t)) ∧ (tl = 0 → M2.1 18 = M.1 18 ∧ M2.1 19 = M.1 19) ∧ (tl = 1 → (∀ q : Int, 0 ≤ q → q < Ne.2 8 → M2.1 18 (200 * q + A.2.1 0) = (aK Ne (aLet Ne Cr (aCome Ne Cr A (Ne.2 8).toNat) (Cr.2 3).toNat) q : Int) ∧ M2.1 19 (200 * q + A.2.1 0) = (if Ne.1 4 q ≤ A.2.1 0 ∧ A.2.1 0 < Ne.1 5 q then 1 else 0)) ∧ ∀ x : Int, (∀ q : Int, 0 ≤ q → q < Ne.2 8 → x ≠ 200 * q + A.2.1 0) → M2.1 18 x = M.1 18 x ∧ M2.1 19 x = M.1 19 x)) := by
  refine Mz.ofZ (by decide) rfl (Nat.le_of_ble_eq_true rfl) ?_
  intro zp ze zR zs zm zargs zbelow zmeth zc zA zQ ZC ZE hRf hRc hRs hRl
  have hr8 := hcf.1
  have hc8 := hcf.2.1
  have hmd := hmx.1
  have hok := hab.1
  have hnn := hab.2.1
  have hoc0 := oc_rng hcf hok
  have hus0 := hmx.2.2.2.2.2
  have e20 := hmx.2.2.2.1
  have e34 := hmx.2.2.2.2.1
  have e4 : M.2 4 = Ne.2 8 := hms.2.1.1
  have e12 : M.2 12 = Cr.2 3 := hms.2.2.1
  have e0 : M.2 0 = To.2 3 := hms.1.1
  refine z_iconst ZC dX8_hour_0 ?_
  refine z_istore_n ZC 2 dX8_hour_1 rfl (by decide) ?_
  have lp_2 : ∀ (n_2 : Nat) (r : Int) (M1 : Bd) (A1 : Ab) (C1 : Int → List Pt3), (0 ≤ r ∧ r ≤ Ne.2 8) → (MD Cr A1 M1 C1 []) → (A1 = aCome Ne Cr A r.toNat) → (KP [25, 26, 27, 29, 30] [] M M1) → (AOK Ne Cr A1) → ((Ne.2 8 - r).toNat) < n_2 → Zw zp zl ze zR zs zm zargs zbelow zmeth zc D zA 4 zQ 0 0 ([(h, .inr (8, [vZ (M1.2 0), .ref (a 1), .ref (a 2), vZ (M1.2 3), vZ (M1.2 4), .ref (a 5), .ref (a 6), .ref (a 7), .ref (a 8), .ref (a 9), .ref (a 10), .ref (a 11), vZ (M1.2 12), .ref (a 13), .ref (a 14), .ref (a 15), .ref (a 16), .ref (a 17), .ref (a 18), .ref (a 19), vZ (M1.2 20), vZ (M1.2 21), .ref (a 22), .ref (a 23), .ref (a 24), .ref (a 25), .ref (a 26), .ref (a 27), .ref (a 28), .ref (a 29), .ref (a 30), .ref (a 31), .ref (a 32), .ref (a 33), vZ (M1.2 34), .ref (a 35), vZ (M1.2 36), vZ (M1.2 37), vZ (M1.2 38), .ref (a 39), .ref (a 40), vZ (M1.2 41), vZ (M1.2 42), vZ (M1.2 43)])), ((a 1), .inl (K.1, 10, .inl (ar (M1.1 1)))), ((a 2), .inl (K.1, 10, .inl (ar (M1.1 2)))), ((a 5), .inl (K.1, 16, .inl (ar (M1.1 5)))), ((a 6), .inl (K.1, 16, .inl (ar (M1.1 6)))), ((a 7), .inl (K.1, 16, .inl (ar (M1.1 7)))), ((a 8), .inl (K.1, 16, .inl (ar (M1.1 8)))), ((a 9), .inl (K.1, 16, .inl (ar (M1.1 9)))), ((a 10), .inl (K.1, 16, .inl (ar (M1.1 10)))), ((a 11), .inl (K.1, 100, .inl (ar (M1.1 11)))), ((a 13), .inl (K.1, 8, .inl (ar (M1.1 13)))), ((a 14), .inl (K.1, 8, .inl (ar (M1.1 14)))), ((a 15), .inl (K.1, 8, .inl (ar (M1.1 15)))), ((a 16), .inl (K.1, 8, .inl (ar (M1.1 16)))), ((a 17), .inl (K.1, 3200, .inl (ar (M1.1 17)))), ((a 18), .inl (K.1, 3200, .inl (ar (M1.1 18)))), ((a 19), .inl (K.2.1, 3200, .inl (ar (M1.1 19)))), ((a 22), .inl (K.1, 3400, .inl (ar (M1.1 22)))), ((a 23), .inl (K.1, 3400, .inl (ar (M1.1 23)))), ((a 24), .inl (K.1, 3400, .inl (ar (M1.1 24)))), ((a 25), .inl (K.1, 3400, .inl (ar (M1.1 25)))), ((a 26), .inl (K.1, 32, .inl (ar (M1.1 26)))), ((a 27), .inl (K.1, 32, .inl (ar (M1.1 27)))), ((a 28), .inl (K.2.1, 8, .inl (ar (M1.1 28)))), ((a 29), .inl (K.1, 8, .inl (ar (M1.1 29)))), ((a 30), .inl (K.1, 8, .inl (ar (M1.1 30)))), ((a 31), .inl (K.1, 10, .inl (ar (M1.1 31)))), ((a 32), .inl (K.1, 10, .inl (ar (M1.1 32)))), ((a 33), .inl (K.1, 10, .inl (ar (M1.1 33)))), ((a 35), .inl (K.1, 13711, .inl (ar (M1.1 35)))), ((a 39), .inl (K.1, 4, .inl (ar (M1.1 39)))), ((a 40), .inl (K.1, 4, .inl (ar (M1.1 40))))]) 2 [(0, .ref h), (1, vZ tl), (2, vZ r)] [] := by
    intro n_2
    induction n_2 with
    | zero => intro r M1 A1 C1 h0 j1 j2 j3 j4 hm_2; exact absurd hm_2 (Nat.not_lt_zero _)
    | succ n_2 ih_2 =>
      intro r M1 A1 C1 h0 j1 j2 j3 j4 hm_2
      have e4a : M1.2 4 = Ne.2 8 := (j3.2 4 rfl).trans e4
      refine z_iload_n ZC 2 dX8_hour_2 rfl rfl ?_
      refine z_aload_n ZC 0 dX8_hour_3 rfl rfl ?_
      refine z_get ZC inUX8 0 rfl rfl 4 (by decide) uF_X8_118 rfl dX8_hour_4 ?_
      refine z_icmp_ge ZC 71 dX8_hour_7 (by decide) (by omega) (by omega) (fun c_7 => ?_) (fun c_7 => ?_)
      · skip
        refine z_iconst ZC dX8_hour_71 ?_
        refine z_istore_n ZC 2 dX8_hour_72 rfl (by decide) ?_
        have lp_73 : ∀ (n_73 : Nat) (c : Int) (M3 : Bd) (A3 : Ab) (C3 : Int → List Pt3), (0 ≤ c ∧ c ≤ Cr.2 3) → (MD Cr A3 M3 C3 []) → (A3 = aLet Ne Cr (aCome Ne Cr A (Ne.2 8).toNat) c.toNat) → (KP [22, 23, 24, 25, 26, 27, 28, 29, 30] [21] M M3) → (AOK Ne Cr A3) → (M3.2 21 ≤ oc Cr A3 + 16 * A.2.1 0) → ((Cr.2 3 - c).toNat) < n_73 → Zw zp zl ze zR zs zm zargs zbelow zmeth zc D zA 4 zQ 0 0 ([(h, .inr (8, [vZ (M3.2 0), .ref (a 1), .ref (a 2), vZ (M3.2 3), vZ (M3.2 4), .ref (a 5), .ref (a 6), .ref (a 7), .ref (a 8), .ref (a 9), .ref (a 10), .ref (a 11), vZ (M3.2 12), .ref (a 13), .ref (a 14), .ref (a 15), .ref (a 16), .ref (a 17), .ref (a 18), .ref (a 19), vZ (M3.2 20), vZ (M3.2 21), .ref (a 22), .ref (a 23), .ref (a 24), .ref (a 25), .ref (a 26), .ref (a 27), .ref (a 28), .ref (a 29), .ref (a 30), .ref (a 31), .ref (a 32), .ref (a 33), vZ (M3.2 34), .ref (a 35), vZ (M3.2 36), vZ (M3.2 37), vZ (M3.2 38), .ref (a 39), .ref (a 40), vZ (M3.2 41), vZ (M3.2 42), vZ (M3.2 43)])), ((a 1), .inl (K.1, 10, .inl (ar (M3.1 1)))), ((a 2), .inl (K.1, 10, .inl (ar (M3.1 2)))), ((a 5), .inl (K.1, 16, .inl (ar (M3.1 5)))), ((a 6), .inl (K.1, 16, .inl (ar (M3.1 6)))), ((a 7), .inl (K.1, 16, .inl (ar (M3.1 7)))), ((a 8), .inl (K.1, 16, .inl (ar (M3.1 8)))), ((a 9), .inl (K.1, 16, .inl (ar (M3.1 9)))), ((a 10), .inl (K.1, 16, .inl (ar (M3.1 10)))), ((a 11), .inl (K.1, 100, .inl (ar (M3.1 11)))), ((a 13), .inl (K.1, 8, .inl (ar (M3.1 13)))), ((a 14), .inl (K.1, 8, .inl (ar (M3.1 14)))), ((a 15), .inl (K.1, 8, .inl (ar (M3.1 15)))), ((a 16), .inl (K.1, 8, .inl (ar (M3.1 16)))), ((a 17), .inl (K.1, 3200, .inl (ar (M3.1 17)))), ((a 18), .inl (K.1, 3200, .inl (ar (M3.1 18)))), ((a 19), .inl (K.2.1, 3200, .inl (ar (M3.1 19)))), ((a 22), .inl (K.1, 3400, .inl (ar (M3.1 22)))), ((a 23), .inl (K.1, 3400, .inl (ar (M3.1 23)))), ((a 24), .inl (K.1, 3400, .inl (ar (M3.1 24)))), ((a 25), .inl (K.1, 3400, .inl (ar (M3.1 25)))), ((a 26), .inl (K.1, 32, .inl (ar (M3.1 26)))), ((a 27), .inl (K.1, 32, .inl (ar (M3.1 27)))), ((a 28), .inl (K.2.1, 8, .inl (ar (M3.1 28)))), ((a 29), .inl (K.1, 8, .inl (ar (M3.1 29)))), ((a 30), .inl (K.1, 8, .inl (ar (M3.1 30)))), ((a 31), .inl (K.1, 10, .inl (ar (M3.1 31)))), ((a 32), .inl (K.1, 10, .inl (ar (M3.1 32)))), ((a 33), .inl (K.1, 10, .inl (ar (M3.1 33)))), ((a 35), .inl (K.1, 13711, .inl (ar (M3.1 35)))), ((a 39), .inl (K.1, 4, .inl (ar (M3.1 39)))), ((a 40), .inl (K.1, 4, .inl (ar (M3.1 40))))]) 73 [(0, .ref h), (1, vZ tl), (2, vZ c)] [] := by
          intro n_73
          induction n_73 with
          | zero => intro c M3 A3 C3 g0 g1 g2 g3 g4 g5 hm_73; exact absurd hm_73 (Nat.not_lt_zero _)
          | succ n_73 ih_73 =>
            intro c M3 A3 C3 g0 g1 g2 g3 g4 g5 hm_73
            have e12b : M3.2 12 = Cr.2 3 := (g3.2 12 rfl).trans e12
            refine z_iload_n ZC 2 dX8_hour_73 rfl rfl ?_
            refine z_aload_n ZC 0 dX8_hour_74 rfl rfl ?_
            refine z_get ZC inUX8 0 rfl rfl 12 (by decide) uF_X8_121 rfl dX8_hour_75 ?_
            refine z_icmp_ge ZC 150 dX8_hour_78 (by decide) (by omega) (by omega) (fun c_78 => ?_) (fun c_78 => ?_)
            · skip
              refine z_iconst ZC dX8_hour_150 ?_
              refine z_istore_n ZC 2 dX8_hour_151 rfl (by decide) ?_
              have lp_152 : ∀ (n_152 : Nat) (rr : Int) (M4 : Bd) (A4 : Ab) (C4 : Int → List Pt3), (0 ≤ rr ∧ rr ≤ Ne.2 8) → (MD Cr A4 M4 C4 []) → (A4 = aOut Ne (aLet Ne Cr (aCome Ne Cr A (Ne.2 8).toNat) (Cr.2 3).toNat) rr.toNat) → (KP [18, 19, 22, 23, 24, 25, 26, 27, 28, 29, 30] [21] M M4) → (AOK Ne Cr A4) → (M4.2 21 ≤ oc Cr (aLet Ne Cr (aCome Ne Cr A (Ne.2 8).toNat) (Cr.2 3).toNat) + 16 * A.2.1 0 + rr) → (tl = 0 → M4.1 18 = M.1 18 ∧ M4.1 19 = M.1 19) → (tl = 1 → (∀ q : Int, 0 ≤ q → q < rr → M4.1 18 (200 * q + A.2.1 0) = (aK Ne (aLet Ne Cr (aCome Ne Cr A (Ne.2 8).toNat) (Cr.2 3).toNat) q : Int) ∧ M4.1 19 (200 * q + A.2.1 0) = (if Ne.1 4 q ≤ A.2.1 0 ∧ A.2.1 0 < Ne.1 5 q then 1 else 0)) ∧ ∀ x : Int, (∀ q : Int, 0 ≤ q → q < rr → x ≠ 200 * q + A.2.1 0) → M4.1 18 x = M.1 18 x ∧ M4.1 19 x = M.1 19 x) → ((Ne.2 8 - rr).toNat) < n_152 → Zw zp zl ze zR zs zm zargs zbelow zmeth zc D zA 4 zQ 0 0 ([(h, .inr (8, [vZ (M4.2 0), .ref (a 1), .ref (a 2), vZ (M4.2 3), vZ (M4.2 4), .ref (a 5), .ref (a 6), .ref (a 7), .ref (a 8), .ref (a 9), .ref (a 10), .ref (a 11), vZ (M4.2 12), .ref (a 13), .ref (a 14), .ref (a 15), .ref (a 16), .ref (a 17), .ref (a 18), .ref (a 19), vZ (M4.2 20), vZ (M4.2 21), .ref (a 22), .ref (a 23), .ref (a 24), .ref (a 25), .ref (a 26), .ref (a 27), .ref (a 28), .ref (a 29), .ref (a 30), .ref (a 31), .ref (a 32), .ref (a 33), vZ (M4.2 34), .ref (a 35), vZ (M4.2 36), vZ (M4.2 37), vZ (M4.2 38), .ref (a 39), .ref (a 40), vZ (M4.2 41), vZ (M4.2 42), vZ (M4.2 43)])), ((a 1), .inl (K.1, 10, .inl (ar (M4.1 1)))), ((a 2), .inl (K.1, 10, .inl (ar (M4.1 2)))), ((a 5), .inl (K.1, 16, .inl (ar (M4.1 5)))), ((a 6), .inl (K.1, 16, .inl (ar (M4.1 6)))), ((a 7), .inl (K.1, 16, .inl (ar (M4.1 7)))), ((a 8), .inl (K.1, 16, .inl (ar (M4.1 8)))), ((a 9), .inl (K.1, 16, .inl (ar (M4.1 9)))), ((a 10), .inl (K.1, 16, .inl (ar (M4.1 10)))), ((a 11), .inl (K.1, 100, .inl (ar (M4.1 11)))), ((a 13), .inl (K.1, 8, .inl (ar (M4.1 13)))), ((a 14), .inl (K.1, 8, .inl (ar (M4.1 14)))), ((a 15), .inl (K.1, 8, .inl (ar (M4.1 15)))), ((a 16), .inl (K.1, 8, .inl (ar (M4.1 16)))), ((a 17), .inl (K.1, 3200, .inl (ar (M4.1 17)))), ((a 18), .inl (K.1, 3200, .inl (ar (M4.1 18)))), ((a 19), .inl (K.2.1, 3200, .inl (ar (M4.1 19)))), ((a 22), .inl (K.1, 3400, .inl (ar (M4.1 22)))), ((a 23), .inl (K.1, 3400, .inl (ar (M4.1 23)))), ((a 24), .inl (K.1, 3400, .inl (ar (M4.1 24)))), ((a 25), .inl (K.1, 3400, .inl (ar (M4.1 25)))), ((a 26), .inl (K.1, 32, .inl (ar (M4.1 26)))), ((a 27), .inl (K.1, 32, .inl (ar (M4.1 27)))), ((a 28), .inl (K.2.1, 8, .inl (ar (M4.1 28)))), ((a 29), .inl (K.1, 8, .inl (ar (M4.1 29)))), ((a 30), .inl (K.1, 8, .inl (ar (M4.1 30)))), ((a 31), .inl (K.1, 10, .inl (ar (M4.1 31)))), ((a 32), .inl (K.1, 10, .inl (ar (M4.1 32)))), ((a 33), .inl (K.1, 10, .inl (ar (M4.1 33)))), ((a 35), .inl (K.1, 13711, .inl (ar (M4.1 35)))), ((a 39), .inl (K.1, 4, .inl (ar (M4.1 39)))), ((a 40), .inl (K.1, 4, .inl (ar (M4.1 40))))]) 152 [(0, .ref h), (1, vZ tl), (2, vZ rr)] [] := by
                intro n_152
                induction n_152 with
                | zero => intro rr M4 A4 C4 f0 f1 f2 f3 f4 f5 f6 f7 hm_152; exact absurd hm_152 (Nat.not_lt_zero _)
                | succ n_152 ih_152 =>
                  intro rr M4 A4 C4 f0 f1 f2 f3 f4 f5 f6 f7 hm_152
                  have e4c : M4.2 4 = Ne.2 8 := (f3.2 4 rfl).trans e4
                  refine z_iload_n ZC 2 dX8_hour_152 rfl rfl ?_
                  refine z_aload_n ZC 0 dX8_hour_153 rfl rfl ?_
                  refine z_get ZC inUX8 0 rfl rfl 4 (by decide) uF_X8_118 rfl dX8_hour_154 ?_
                  refine z_icmp_ge ZC 228 dX8_hour_157 (by decide) (by omega) (by omega) (fun c_157 => ?_) (fun c_157 => ?_)
                  · skip
                    refine z_iconst ZC dX8_hour_228 ?_
                    refine z_istore_n ZC 2 dX8_hour_229 rfl (by decide) ?_
                    have lp_230 : ∀ (n_230 : Nat) (rq : Int) (wt : Int), (0 ≤ rq ∧ rq ≤ Ne.2 8) → (wt = A.2.1 1 + smI (fun q => ((A4.2.2.1 q).length : Int)) 0 rq.toNat) → ((Ne.2 8 - rq).toNat) < n_230 → Zw zp zl ze zR zs zm zargs zbelow zmeth zc D zA 4 zQ 0 0 ([(h, .inr (8, [vZ (M4.2 0), .ref (a 1), .ref (a 2), vZ (M4.2 3), vZ (M4.2 4), .ref (a 5), .ref (a 6), .ref (a 7), .ref (a 8), .ref (a 9), .ref (a 10), .ref (a 11), vZ (M4.2 12), .ref (a 13), .ref (a 14), .ref (a 15), .ref (a 16), .ref (a 17), .ref (a 18), .ref (a 19), vZ (M4.2 20), vZ (M4.2 21), .ref (a 22), .ref (a 23), .ref (a 24), .ref (a 25), .ref (a 26), .ref (a 27), .ref (a 28), .ref (a 29), .ref (a 30), .ref (a 31), .ref (a 32), .ref (a 33), vZ wt, .ref (a 35), vZ (M4.2 36), vZ (M4.2 37), vZ (M4.2 38), .ref (a 39), .ref (a 40), vZ (M4.2 41), vZ (M4.2 42), vZ (M4.2 43)])), ((a 1), .inl (K.1, 10, .inl (ar (M4.1 1)))), ((a 2), .inl (K.1, 10, .inl (ar (M4.1 2)))), ((a 5), .inl (K.1, 16, .inl (ar (M4.1 5)))), ((a 6), .inl (K.1, 16, .inl (ar (M4.1 6)))), ((a 7), .inl (K.1, 16, .inl (ar (M4.1 7)))), ((a 8), .inl (K.1, 16, .inl (ar (M4.1 8)))), ((a 9), .inl (K.1, 16, .inl (ar (M4.1 9)))), ((a 10), .inl (K.1, 16, .inl (ar (M4.1 10)))), ((a 11), .inl (K.1, 100, .inl (ar (M4.1 11)))), ((a 13), .inl (K.1, 8, .inl (ar (M4.1 13)))), ((a 14), .inl (K.1, 8, .inl (ar (M4.1 14)))), ((a 15), .inl (K.1, 8, .inl (ar (M4.1 15)))), ((a 16), .inl (K.1, 8, .inl (ar (M4.1 16)))), ((a 17), .inl (K.1, 3200, .inl (ar (M4.1 17)))), ((a 18), .inl (K.1, 3200, .inl (ar (M4.1 18)))), ((a 19), .inl (K.2.1, 3200, .inl (ar (M4.1 19)))), ((a 22), .inl (K.1, 3400, .inl (ar (M4.1 22)))), ((a 23), .inl (K.1, 3400, .inl (ar (M4.1 23)))), ((a 24), .inl (K.1, 3400, .inl (ar (M4.1 24)))), ((a 25), .inl (K.1, 3400, .inl (ar (M4.1 25)))), ((a 26), .inl (K.1, 32, .inl (ar (M4.1 26)))), ((a 27), .inl (K.1, 32, .inl (ar (M4.1 27)))), ((a 28), .inl (K.2.1, 8, .inl (ar (M4.1 28)))), ((a 29), .inl (K.1, 8, .inl (ar (M4.1 29)))), ((a 30), .inl (K.1, 8, .inl (ar (M4.1 30)))), ((a 31), .inl (K.1, 10, .inl (ar (M4.1 31)))), ((a 32), .inl (K.1, 10, .inl (ar (M4.1 32)))), ((a 33), .inl (K.1, 10, .inl (ar (M4.1 33)))), ((a 35), .inl (K.1, 13711, .inl (ar (M4.1 35)))), ((a 39), .inl (K.1, 4, .inl (ar (M4.1 39)))), ((a 40), .inl (K.1, 4, .inl (ar (M4.1 40))))]) 230 [(0, .ref h), (1, vZ tl), (2, vZ rq)] [] := by
                      intro n_230
                      induction n_230 with
                      | zero => intro rq wt e0q e1q hm_230; exact absurd hm_230 (Nat.not_lt_zero _)
                      | succ n_230 ih_230 =>
                        intro rq wt e0q e1q hm_230
                        have e4d : M4.2 4 = Ne.2 8 := (f3.2 4 rfl).trans e4
                        refine z_iload_n ZC 2 dX8_hour_230 rfl rfl ?_
                        refine z_aload_n ZC 0 dX8_hour_231 rfl rfl ?_
                        refine z_get ZC inUX8 0 rfl rfl 4 (by decide) uF_X8_118 rfl dX8_hour_232 ?_
                        refine z_icmp_ge ZC 258 dX8_hour_235 (by decide) (by omega) (by omega) (fun c_235 => ?_) (fun c_235 => ?_)
                        · skip
                          refine z_iconst ZC dX8_hour_258 ?_
                          refine z_istore_n ZC 2 dX8_hour_259 rfl (by decide) ?_
                          have lp_260 : ∀ (n_260 : Nat) (t : Int) (Wt : Int → Int) (Lk : Int → Int) (Li : Int → Int), (0 ≤ t ∧ t ≤ To.2 3) → (∀ x : Int, 0 ≤ x → x < 10 → Wt x = (if x < t then A.1 4 x - min (aAt Ne Cr A4 x) (A.1 4 x) else A.1 4 x) ∧ Lk x = (if x < t then A.1 5 x + (aAt Ne Cr A4 x - min (aAt Ne Cr A4 x) (A.1 4 x)) else A.1 5 x) ∧ Li x = (if x < t ∧ M.1 33 x = -1 ∧ A.1 4 x < aAt Ne Cr A4 x then A.2.1 0 else M.1 33 x)) → ((To.2 3 - t).toNat) < n_260 → Zw zp zl ze zR zs zm zargs zbelow zmeth zc D zA 4 zQ 0 0 ([(h, .inr (8, [vZ (M4.2 0), .ref (a 1), .ref (a 2), vZ (M4.2 3), vZ (M4.2 4), .ref (a 5), .ref (a 6), .ref (a 7), .ref (a 8), .ref (a 9), .ref (a 10), .ref (a 11), vZ (M4.2 12), .ref (a 13), .ref (a 14), .ref (a 15), .ref (a 16), .ref (a 17), .ref (a 18), .ref (a 19), vZ (M4.2 20), vZ (M4.2 21), .ref (a 22), .ref (a 23), .ref (a 24), .ref (a 25), .ref (a 26), .ref (a 27), .ref (a 28), .ref (a 29), .ref (a 30), .ref (a 31), .ref (a 32), .ref (a 33), vZ wt, .ref (a 35), vZ (M4.2 36), vZ (M4.2 37), vZ (M4.2 38), .ref (a 39), .ref (a 40), vZ (M4.2 41), vZ (M4.2 42), vZ (M4.2 43)])), ((a 1), .inl (K.1, 10, .inl (ar (M4.1 1)))), ((a 2), .inl (K.1, 10, .inl (ar (M4.1 2)))), ((a 5), .inl (K.1, 16, .inl (ar (M4.1 5)))), ((a 6), .inl (K.1, 16, .inl (ar (M4.1 6)))), ((a 7), .inl (K.1, 16, .inl (ar (M4.1 7)))), ((a 8), .inl (K.1, 16, .inl (ar (M4.1 8)))), ((a 9), .inl (K.1, 16, .inl (ar (M4.1 9)))), ((a 10), .inl (K.1, 16, .inl (ar (M4.1 10)))), ((a 11), .inl (K.1, 100, .inl (ar (M4.1 11)))), ((a 13), .inl (K.1, 8, .inl (ar (M4.1 13)))), ((a 14), .inl (K.1, 8, .inl (ar (M4.1 14)))), ((a 15), .inl (K.1, 8, .inl (ar (M4.1 15)))), ((a 16), .inl (K.1, 8, .inl (ar (M4.1 16)))), ((a 17), .inl (K.1, 3200, .inl (ar (M4.1 17)))), ((a 18), .inl (K.1, 3200, .inl (ar (M4.1 18)))), ((a 19), .inl (K.2.1, 3200, .inl (ar (M4.1 19)))), ((a 22), .inl (K.1, 3400, .inl (ar (M4.1 22)))), ((a 23), .inl (K.1, 3400, .inl (ar (M4.1 23)))), ((a 24), .inl (K.1, 3400, .inl (ar (M4.1 24)))), ((a 25), .inl (K.1, 3400, .inl (ar (M4.1 25)))), ((a 26), .inl (K.1, 32, .inl (ar (M4.1 26)))), ((a 27), .inl (K.1, 32, .inl (ar (M4.1 27)))), ((a 28), .inl (K.2.1, 8, .inl (ar (M4.1 28)))), ((a 29), .inl (K.1, 8, .inl (ar (M4.1 29)))), ((a 30), .inl (K.1, 8, .inl (ar (M4.1 30)))), ((a 31), .inl (K.1, 10, .inl (ar Wt))), ((a 32), .inl (K.1, 10, .inl (ar Lk))), ((a 33), .inl (K.1, 10, .inl (ar Li))), ((a 35), .inl (K.1, 13711, .inl (ar (M4.1 35)))), ((a 39), .inl (K.1, 4, .inl (ar (M4.1 39)))), ((a 40), .inl (K.1, 4, .inl (ar (M4.1 40))))]) 260 [(0, .ref h), (1, vZ tl), (2, vZ t)] [] := by
                            intro n_260
                            induction n_260 with
                            | zero => intro t Wt Lk Li d0 d1 hm_260; exact absurd hm_260 (Nat.not_lt_zero _)
                            | succ n_260 ih_260 =>
                              intro t Wt Lk Li d0 d1 hm_260
                              have e0d : M4.2 0 = To.2 3 := (f3.2 0 rfl).trans e0
                              refine z_iload_n ZC 2 dX8_hour_260 rfl rfl ?_
                              refine z_aload_n ZC 0 dX8_hour_261 rfl rfl ?_
                              refine z_get ZC inUX8 0 rfl rfl 0 (by decide) uF_X8_111 rfl dX8_hour_262 ?_
                              refine z_icmp_ge ZC 279 dX8_hour_265 (by decide) (by omega) (by omega) (fun c_265 => ?_) (fun c_265 => ?_)
                              · skip
                                have eD : aDrive Ne Cr A = A4 := by
                                  rw [f2, show rr = Ne.2 8 by omega]; rfl
                                have eH : aHour To Ne Cr A = aS (aDr To Ne Cr A4) 0 (A.2.1 0 + 1) := by
                                  unfold aHour; rw [eD]
                                have e44 : A4.1 4 = A.1 4 ∧ A4.1 5 = A.1 5 ∧ A4.1 0 = A.1 0 := by
                                  rw [← eD]; exact ⟨(aDrive_keep Ne Cr A).2.2.1, (aDrive_keep Ne Cr A).2.2.2, (aDrive_keep Ne Cr A).2.1⟩
                                have e20f : M4.2 20 = A.2.1 0 := (f3.2 20 rfl).trans e20
                                have eoc4 : oc Cr A4 = oc Cr (aLet Ne Cr (aCome Ne Cr A (Ne.2 8).toNat) (Cr.2 3).toNat) := by unfold oc; rw [f2, (aOut_keep Ne _ _).1]
                                have ewt : wt = A4.2.1 1 := by
                                  rw [e1q, show rq = rr by omega, f2, aOut_wait, (aLet_keep Ne Cr _ _).1, (aCome_keep Ne Cr A _).1]
                                  congr 1
                                  exact smI_congr (fun j j1 j2 => by rw [aOut_q _ j j1 j2])
                                refine z_aload_n ZC 0 dX8_hour_279 rfl rfl ?_
                                refine z_dup ZC dX8_hour_280 rfl ?_
                                refine z_get ZC inUX8 0 rfl rfl 20 (by decide) uF_X8_129 rfl dX8_hour_281 ?_
                                refine z_iconst ZC dX8_hour_284 ?_
                                refine z_iadd ZC dX8_hour_285 ?_
                                refine z_put ZC inUX8 tyX8_ok nmX8 0 rfl rfl 20 (by decide) uF_X8_129 rfl (rfl) (rfl) (Nat.le_of_ble_eq_true rfl) dX8_hour_286 ?_
                                refine z_vret ZC ZE dX8_hour_289 (by omega) (by omega) (Nat.le_of_ble_eq_true rfl) ⟨((upf (upf (upf M4.1 31 Wt) 32 Lk) 33 Li), (upf (upf M4.2 20 ((M4.2 20) + 1)) 34 wt)), C4, rfl, rfl, by omega, by omega, ?_, ?_, ?_, ?_, ?_⟩
                                · skip
                                  rw [eH]
                                  refine ⟨f1, fun x x1 x2 => ?_, fun x x1 x2 => ?_, ?_, ewt, ?_⟩
                                  · show M4.1 16 x = A4.1 0 x
                                    rw [f3.1 16 rfl, e44.2.2]; exact hmx.2.1 x x1 x2
                                  · have q := d1 x x1 x2
                                    show Wt x = (if 0 ≤ x ∧ x < To.2 3 then A4.1 4 x - min (aAt Ne Cr A4 x) (A4.1 4 x) else A4.1 4 x) ∧ Lk x = (if 0 ≤ x ∧ x < To.2 3 then A4.1 5 x + (aAt Ne Cr A4 x - min (aAt Ne Cr A4 x) (A4.1 4 x)) else A4.1 5 x)
                                    rw [e44.1, e44.2.1, q.1, q.2.1]
                                    by_cases y : x < t
                                    · rw [if_pos y, if_pos y, if_pos (by omega), if_pos (by omega)]; exact ⟨rfl, rfl⟩
                                    · rw [if_neg y, if_neg y, if_neg (by omega), if_neg (by omega)]; exact ⟨rfl, rfl⟩
                                  · show M4.2 20 + 1 = A.2.1 0 + 1
                                    omega
                                  · have q : oc Cr (aS (aDr To Ne Cr A4) 0 (A.2.1 0 + 1)) = oc Cr A4 := rfl
                                    rw [q]
                                    show M4.2 21 ≤ oc Cr A4 + 16 * (A.2.1 0 + 1)
                                    omega
                                · skip
                                  exact KP.trans f3 (show KP [18, 19, 22, 23, 24, 25, 26, 27, 28, 29, 30, 31, 32, 33] [20, 21, 34] M4 _ from ⟨fun k hk => (upf_out hk rfl).trans ((upf_out hk rfl).trans (upf_out hk rfl)), fun k hk => (upf_out hk rfl).trans (upf_out hk rfl)⟩) rfl rfl rfl rfl
                                · skip
                                  intro x x1 x2
                                  rw [eD]
                                  show Li x = _
                                  rw [(d1 x x1 x2).2.2, show t = To.2 3 by omega]
                                · skip
                                  exact f6
                                · skip
                                  have er : rr = Ne.2 8 := by omega
                                  rw [er] at f7
                                  exact f7
                              · skip
                                have hms5 : MS To Ne Cr M4 := ms_keep hms f3 rfl rfl
                                have hd1t := d1 t d0.1 (by omega)
                                rw [if_neg (by omega), if_neg (by omega), if_neg (by omega)] at hd1t
                                have hwt := hab.2.2.2.1 t d0.1 (by omega)
                                have hlt := hli t d0.1 (by omega)
                                have hocl3 : 0 ≤ oc Cr A4 ∧ oc Cr A4 ≤ 8 := oc_rng hcf f4
                                have eoc3 : oc Cr A4 = oc Cr (aLet Ne Cr (aCome Ne Cr A (Ne.2 8).toNat) (Cr.2 3).toNat) := by unfold oc; rw [f2, (aOut_keep Ne _ _).1]
                                have e20e : M4.2 20 = A.2.1 0 := (f3.2 20 rfl).trans e20
                                refine z_aload_n ZC 0 dX8_hour_268 rfl rfl ?_
                                refine z_iload_n ZC 2 dX8_hour_269 rfl rfl ?_
                                have hy_hcf_270_0 : Cfg Ne Cr := hcf
                                have hy_hnw_270_0 : NW Ne := hnw
                                have hy_hmn_270_0 : MSn Ne ((upf (upf (upf M4.1 31 Wt) 32 Lk) 33 Li), (upf M4.2 34 wt)) := hms5.2.1
                                have hy_hmc_270_0 : MSc Cr ((upf (upf (upf M4.1 31 Wt) 32 Lk) 33 Li), (upf M4.2 34 wt)) := hms5.2.2
                                have hy_hmd_270_0 : MD Cr A4 ((upf (upf (upf M4.1 31 Wt) 32 Lk) 33 Li), (upf M4.2 34 wt)) C4 [] := f1
                                have hy_hus_270_0 : (M4.2 21) ≤ 3400 := by show M4.2 21 ≤ 3400; omega
                                have hy_htn_270_0 : 0 ≤ t ∧ t < 10 := by omega
                                have hy_hok_270_0 : AOK Ne Cr A4 := f4
                                have hy_hwa_270_0 : 0 ≤ Wt t ∧ Wt t ≤ 1000000 := by show 0 ≤ Wt t ∧ Wt t ≤ 1000000; omega
                                have hy_hli_270_0 : -1 ≤ Li t ∧ Li t ≤ 1000 := by show -1 ≤ Li t ∧ Li t ≤ 1000; omega
                                refine z_callV ZC 1 (c_X8_drinks zl D K h a ((upf (upf (upf M4.1 31 Wt) 32 Lk) 33 Li), (upf M4.2 34 wt)) Ne Cr A4 C4 t (hy_hcf_270_0) (hy_hnw_270_0) (hy_hmn_270_0) (hy_hmc_270_0) (hy_hmd_270_0) (hy_hus_270_0) (hy_htn_270_0) (hy_hok_270_0) (hy_hwa_270_0) (hy_hli_270_0)) (gdV uM_X8_179 uI_X8_drinks uS_X8_drinks uN_X8 uC_X8_drinks) (by decide +kernel) rfl ⟨by omega, by omega⟩ ⟨by omega, by omega⟩ (Nat.le_of_ble_eq_true rfl) [0, 1, 2, 3, 4, 5, 6, 7, 8, 9, 10, 11, 12, 13, 14, 15, 16, 17, 18, 19, 20, 21, 22, 23, 24, 25, 26, 27, 28, 29, 30, 31] rfl (by decide) rfl rfl rfl rfl dX8_hour_270 (fun r w2 gc_270 gs_270 hp => ?_)
                                obtain ⟨Wt_270, Lk_270, Li_270, rfl, rfl, rfl, rfl, hd_270⟩ := hp
                                have hd_270 : ∀ x : Int, Wt_270 x = (if x = t then Wt t - min (aAt Ne Cr A4 t) (Wt t) else Wt x) ∧ Lk_270 x = (if x = t then Lk t + (aAt Ne Cr A4 t - min (aAt Ne Cr A4 t) (Wt t)) else Lk x) ∧ Li_270 x = (if x = t ∧ Li t = -1 ∧ Wt t < aAt Ne Cr A4 t then (M4.2 20) else Li x) := hd_270
                                refine z_ws (ws2 := [(h, .inr (8, [vZ (M4.2 0), .ref (a 1), .ref (a 2), vZ (M4.2 3), vZ (M4.2 4), .ref (a 5), .ref (a 6), .ref (a 7), .ref (a 8), .ref (a 9), .ref (a 10), .ref (a 11), vZ (M4.2 12), .ref (a 13), .ref (a 14), .ref (a 15), .ref (a 16), .ref (a 17), .ref (a 18), .ref (a 19), vZ (M4.2 20), vZ (M4.2 21), .ref (a 22), .ref (a 23), .ref (a 24), .ref (a 25), .ref (a 26), .ref (a 27), .ref (a 28), .ref (a 29), .ref (a 30), .ref (a 31), .ref (a 32), .ref (a 33), vZ wt, .ref (a 35), vZ (M4.2 36), vZ (M4.2 37), vZ (M4.2 38), .ref (a 39), .ref (a 40), vZ (M4.2 41), vZ (M4.2 42), vZ (M4.2 43)])), ((a 1), .inl (K.1, 10, .inl (ar (M4.1 1)))), ((a 2), .inl (K.1, 10, .inl (ar (M4.1 2)))), ((a 5), .inl (K.1, 16, .inl (ar (M4.1 5)))), ((a 6), .inl (K.1, 16, .inl (ar (M4.1 6)))), ((a 7), .inl (K.1, 16, .inl (ar (M4.1 7)))), ((a 8), .inl (K.1, 16, .inl (ar (M4.1 8)))), ((a 9), .inl (K.1, 16, .inl (ar (M4.1 9)))), ((a 10), .inl (K.1, 16, .inl (ar (M4.1 10)))), ((a 11), .inl (K.1, 100, .inl (ar (M4.1 11)))), ((a 13), .inl (K.1, 8, .inl (ar (M4.1 13)))), ((a 14), .inl (K.1, 8, .inl (ar (M4.1 14)))), ((a 15), .inl (K.1, 8, .inl (ar (M4.1 15)))), ((a 16), .inl (K.1, 8, .inl (ar (M4.1 16)))), ((a 17), .inl (K.1, 3200, .inl (ar (M4.1 17)))), ((a 18), .inl (K.1, 3200, .inl (ar (M4.1 18)))), ((a 19), .inl (K.2.1, 3200, .inl (ar (M4.1 19)))), ((a 22), .inl (K.1, 3400, .inl (ar (M4.1 22)))), ((a 23), .inl (K.1, 3400, .inl (ar (M4.1 23)))), ((a 24), .inl (K.1, 3400, .inl (ar (M4.1 24)))), ((a 25), .inl (K.1, 3400, .inl (ar (M4.1 25)))), ((a 26), .inl (K.1, 32, .inl (ar (M4.1 26)))), ((a 27), .inl (K.1, 32, .inl (ar (M4.1 27)))), ((a 28), .inl (K.2.1, 8, .inl (ar (M4.1 28)))), ((a 29), .inl (K.1, 8, .inl (ar (M4.1 29)))), ((a 30), .inl (K.1, 8, .inl (ar (M4.1 30)))), ((a 31), .inl (K.1, 10, .inl (ar Wt_270))), ((a 32), .inl (K.1, 10, .inl (ar Lk_270))), ((a 33), .inl (K.1, 10, .inl (ar Li_270))), ((a 35), .inl (K.1, 13711, .inl (ar (M4.1 35)))), ((a 39), .inl (K.1, 4, .inl (ar (M4.1 39)))), ((a 40), .inl (K.1, 4, .inl (ar (M4.1 40))))]) rfl ?_
                                refine z_st (st2 := []) rfl ?_
                                refine z_iinc ZC dX8_hour_273 rfl (by decide) ?_
                                refine z_goto ZC 260 dX8_hour_276 (by decide) ?_
                                refine z_ws (ws2 := [(h, .inr (8, [vZ (M4.2 0), .ref (a 1), .ref (a 2), vZ (M4.2 3), vZ (M4.2 4), .ref (a 5), .ref (a 6), .ref (a 7), .ref (a 8), .ref (a 9), .ref (a 10), .ref (a 11), vZ (M4.2 12), .ref (a 13), .ref (a 14), .ref (a 15), .ref (a 16), .ref (a 17), .ref (a 18), .ref (a 19), vZ (M4.2 20), vZ (M4.2 21), .ref (a 22), .ref (a 23), .ref (a 24), .ref (a 25), .ref (a 26), .ref (a 27), .ref (a 28), .ref (a 29), .ref (a 30), .ref (a 31), .ref (a 32), .ref (a 33), vZ wt, .ref (a 35), vZ (M4.2 36), vZ (M4.2 37), vZ (M4.2 38), .ref (a 39), .ref (a 40), vZ (M4.2 41), vZ (M4.2 42), vZ (M4.2 43)])), ((a 1), .inl (K.1, 10, .inl (ar (M4.1 1)))), ((a 2), .inl (K.1, 10, .inl (ar (M4.1 2)))), ((a 5), .inl (K.1, 16, .inl (ar (M4.1 5)))), ((a 6), .inl (K.1, 16, .inl (ar (M4.1 6)))), ((a 7), .inl (K.1, 16, .inl (ar (M4.1 7)))), ((a 8), .inl (K.1, 16, .inl (ar (M4.1 8)))), ((a 9), .inl (K.1, 16, .inl (ar (M4.1 9)))), ((a 10), .inl (K.1, 16, .inl (ar (M4.1 10)))), ((a 11), .inl (K.1, 100, .inl (ar (M4.1 11)))), ((a 13), .inl (K.1, 8, .inl (ar (M4.1 13)))), ((a 14), .inl (K.1, 8, .inl (ar (M4.1 14)))), ((a 15), .inl (K.1, 8, .inl (ar (M4.1 15)))), ((a 16), .inl (K.1, 8, .inl (ar (M4.1 16)))), ((a 17), .inl (K.1, 3200, .inl (ar (M4.1 17)))), ((a 18), .inl (K.1, 3200, .inl (ar (M4.1 18)))), ((a 19), .inl (K.2.1, 3200, .inl (ar (M4.1 19)))), ((a 22), .inl (K.1, 3400, .inl (ar (M4.1 22)))), ((a 23), .inl (K.1, 3400, .inl (ar (M4.1 23)))), ((a 24), .inl (K.1, 3400, .inl (ar (M4.1 24)))), ((a 25), .inl (K.1, 3400, .inl (ar (M4.1 25)))), ((a 26), .inl (K.1, 32, .inl (ar (M4.1 26)))), ((a 27), .inl (K.1, 32, .inl (ar (M4.1 27)))), ((a 28), .inl (K.2.1, 8, .inl (ar (M4.1 28)))), ((a 29), .inl (K.1, 8, .inl (ar (M4.1 29)))), ((a 30), .inl (K.1, 8, .inl (ar (M4.1 30)))), ((a 31), .inl (K.1, 10, .inl (ar Wt_270))), ((a 32), .inl (K.1, 10, .inl (ar Lk_270))), ((a 33), .inl (K.1, 10, .inl (ar Li_270))), ((a 35), .inl (K.1, 13711, .inl (ar (M4.1 35)))), ((a 39), .inl (K.1, 4, .inl (ar (M4.1 39)))), ((a 40), .inl (K.1, 4, .inl (ar (M4.1 40))))]) rfl (z_lv (lv2 := [(0, .ref h), (1, vZ tl), (2, vZ (t + 1))]) ⟨rfl, rfl, rfl, trivial⟩ ?_)
                                refine ih_260 (t + 1) Wt_270 Lk_270 Li_270 ?_ ?_ (dec_lt hm_260 (by omega))
                                · skip
                                  omega
                                · skip
                                  intro x x1 x2
                                  have hx := hd_270 x
                                  have hdx := d1 x x1 x2
                                  by_cases z : x = t
                                  · rw [z] at hx ⊢
                                    rw [if_pos rfl, if_pos rfl] at hx
                                    rw [if_pos (by omega), if_pos (by omega)]
                                    refine ⟨by omega, by omega, ?_⟩
                                    rw [hx.2.2]
                                    by_cases y : M.1 33 t = -1 ∧ A.1 4 t < aAt Ne Cr A4 t
                                    · rw [if_pos ⟨rfl, by omega, by omega⟩, if_pos ⟨by omega, y⟩]; omega
                                    · rw [if_neg (fun q => y ⟨by omega, by omega⟩), if_neg (fun q => y q.2)]; omega
                                  · rw [if_neg z, if_neg z, if_neg (fun q => z q.1)] at hx
                                    rw [hx.1, hx.2.1, hx.2.2, hdx.1, hdx.2.1, hdx.2.2]
                                    by_cases y : x < t
                                    · rw [if_pos y, if_pos y, if_pos (by omega), if_pos (by omega)]
                                      refine ⟨rfl, rfl, ?_⟩
                                      by_cases w : M.1 33 x = -1 ∧ A.1 4 x < aAt Ne Cr A4 x
                                      · rw [if_pos ⟨y, w⟩, if_pos ⟨by omega, w⟩]
                                      · rw [if_neg (fun q => w q.2), if_neg (fun q => w q.2)]
                                    · rw [if_neg y, if_neg y, if_neg (by omega), if_neg (by omega), if_neg (by omega), if_neg (by omega)]
                                      exact ⟨rfl, rfl, rfl⟩
                          refine z_ws (ws2 := [(h, .inr (8, [vZ (M4.2 0), .ref (a 1), .ref (a 2), vZ (M4.2 3), vZ (M4.2 4), .ref (a 5), .ref (a 6), .ref (a 7), .ref (a 8), .ref (a 9), .ref (a 10), .ref (a 11), vZ (M4.2 12), .ref (a 13), .ref (a 14), .ref (a 15), .ref (a 16), .ref (a 17), .ref (a 18), .ref (a 19), vZ (M4.2 20), vZ (M4.2 21), .ref (a 22), .ref (a 23), .ref (a 24), .ref (a 25), .ref (a 26), .ref (a 27), .ref (a 28), .ref (a 29), .ref (a 30), .ref (a 31), .ref (a 32), .ref (a 33), vZ wt, .ref (a 35), vZ (M4.2 36), vZ (M4.2 37), vZ (M4.2 38), .ref (a 39), .ref (a 40), vZ (M4.2 41), vZ (M4.2 42), vZ (M4.2 43)])), ((a 1), .inl (K.1, 10, .inl (ar (M4.1 1)))), ((a 2), .inl (K.1, 10, .inl (ar (M4.1 2)))), ((a 5), .inl (K.1, 16, .inl (ar (M4.1 5)))), ((a 6), .inl (K.1, 16, .inl (ar (M4.1 6)))), ((a 7), .inl (K.1, 16, .inl (ar (M4.1 7)))), ((a 8), .inl (K.1, 16, .inl (ar (M4.1 8)))), ((a 9), .inl (K.1, 16, .inl (ar (M4.1 9)))), ((a 10), .inl (K.1, 16, .inl (ar (M4.1 10)))), ((a 11), .inl (K.1, 100, .inl (ar (M4.1 11)))), ((a 13), .inl (K.1, 8, .inl (ar (M4.1 13)))), ((a 14), .inl (K.1, 8, .inl (ar (M4.1 14)))), ((a 15), .inl (K.1, 8, .inl (ar (M4.1 15)))), ((a 16), .inl (K.1, 8, .inl (ar (M4.1 16)))), ((a 17), .inl (K.1, 3200, .inl (ar (M4.1 17)))), ((a 18), .inl (K.1, 3200, .inl (ar (M4.1 18)))), ((a 19), .inl (K.2.1, 3200, .inl (ar (M4.1 19)))), ((a 22), .inl (K.1, 3400, .inl (ar (M4.1 22)))), ((a 23), .inl (K.1, 3400, .inl (ar (M4.1 23)))), ((a 24), .inl (K.1, 3400, .inl (ar (M4.1 24)))), ((a 25), .inl (K.1, 3400, .inl (ar (M4.1 25)))), ((a 26), .inl (K.1, 32, .inl (ar (M4.1 26)))), ((a 27), .inl (K.1, 32, .inl (ar (M4.1 27)))), ((a 28), .inl (K.2.1, 8, .inl (ar (M4.1 28)))), ((a 29), .inl (K.1, 8, .inl (ar (M4.1 29)))), ((a 30), .inl (K.1, 8, .inl (ar (M4.1 30)))), ((a 31), .inl (K.1, 10, .inl (ar (M4.1 31)))), ((a 32), .inl (K.1, 10, .inl (ar (M4.1 32)))), ((a 33), .inl (K.1, 10, .inl (ar (M4.1 33)))), ((a 35), .inl (K.1, 13711, .inl (ar (M4.1 35)))), ((a 39), .inl (K.1, 4, .inl (ar (M4.1 39)))), ((a 40), .inl (K.1, 4, .inl (ar (M4.1 40))))]) rfl (z_lv (lv2 := [(0, .ref h), (1, vZ tl), (2, vZ 0)]) ⟨rfl, rfl, rfl, trivial⟩ ?_)
                          refine lp_260 _ 0 (M4.1 31) (M4.1 32) (M4.1 33) ?_ ?_ (Nat.lt_succ_self _)
                          · skip
                            omega
                          · skip
                            intro x x1 x2
                            rw [if_neg (by omega), if_neg (by omega), if_neg (by omega), f3.1 31 rfl, f3.1 32 rfl, f3.1 33 rfl]
                            exact ⟨(hmx.2.2.1 x x1 x2).1, (hmx.2.2.1 x x1 x2).2, rfl⟩
                        · skip
                          have hq1 : csum (C4 rq) = ((A4.2.2.1 rq).length : Int) := by rw [csum_fq _ (mo_pos f1.1 (k := rq) (by omega)), (f1.2.1 rq e0q.1 (by omega)).1]
                          have hocl2 : 0 ≤ oc Cr A4 ∧ oc Cr A4 ≤ 8 := oc_rng hcf f4
                          have eoc2 : oc Cr A4 = oc Cr (aLet Ne Cr (aCome Ne Cr A (Ne.2 8).toNat) (Cr.2 3).toNat) := by unfold oc; rw [f2, (aOut_keep Ne _ _).1]
                          refine z_aload_n ZC 0 dX8_hour_238 rfl rfl ?_
                          refine z_dup ZC dX8_hour_239 rfl ?_
                          refine z_get ZC inUX8 0 rfl rfl 34 (by decide) uF_X8_176 rfl dX8_hour_240 ?_
                          refine z_aload_n ZC 0 dX8_hour_243 rfl rfl ?_
                          refine z_iload_n ZC 2 dX8_hour_244 rfl rfl ?_
                          have hy_hch_245_0 : 0 ≤ rq ∧ rq < 32 := by omega
                          have hy_hmo_245_0 : MO ((M4.2 21)) ((M4.1 22)) ((M4.1 23)) ((M4.1 24)) ((M4.1 25)) ((M4.1 26)) ((M4.1 27)) C4 [] := f1.1
                          have hy_hus_245_0 : (M4.2 21) ≤ 3400 := by show M4.2 21 ≤ 3400; omega
                          refine z_callV ZC 1 (c_X8_carsIn zl D K h a (M4.1, (upf M4.2 34 wt)) C4 rq (hy_hch_245_0) (hy_hmo_245_0) (hy_hus_245_0)) (gdV uM_X8_164 uI_X8_carsIn uS_X8_carsIn uN_X8 uC_X8_carsIn) (by decide +kernel) rfl ⟨by omega, by omega⟩ ⟨by omega, by omega⟩ (Nat.le_of_ble_eq_true rfl) [0, 1, 2, 3, 4, 5, 6, 7, 8, 9, 10, 11, 12, 13, 14, 15, 16, 17, 18, 19, 20, 21, 22, 23, 24, 25, 26, 27, 28, 29, 30, 31] rfl (by decide) rfl rfl rfl rfl dX8_hour_245 (fun r w2 gc_245 gs_245 hp => ?_)
                          obtain ⟨rfl, rfl, rfl, rfl⟩ := hp
                          refine z_top (y := (csum (C4 rq))) rfl ?_
                          refine z_ws (ws2 := [(h, .inr (8, [vZ (M4.2 0), .ref (a 1), .ref (a 2), vZ (M4.2 3), vZ (M4.2 4), .ref (a 5), .ref (a 6), .ref (a 7), .ref (a 8), .ref (a 9), .ref (a 10), .ref (a 11), vZ (M4.2 12), .ref (a 13), .ref (a 14), .ref (a 15), .ref (a 16), .ref (a 17), .ref (a 18), .ref (a 19), vZ (M4.2 20), vZ (M4.2 21), .ref (a 22), .ref (a 23), .ref (a 24), .ref (a 25), .ref (a 26), .ref (a 27), .ref (a 28), .ref (a 29), .ref (a 30), .ref (a 31), .ref (a 32), .ref (a 33), vZ wt, .ref (a 35), vZ (M4.2 36), vZ (M4.2 37), vZ (M4.2 38), .ref (a 39), .ref (a 40), vZ (M4.2 41), vZ (M4.2 42), vZ (M4.2 43)])), ((a 1), .inl (K.1, 10, .inl (ar (M4.1 1)))), ((a 2), .inl (K.1, 10, .inl (ar (M4.1 2)))), ((a 5), .inl (K.1, 16, .inl (ar (M4.1 5)))), ((a 6), .inl (K.1, 16, .inl (ar (M4.1 6)))), ((a 7), .inl (K.1, 16, .inl (ar (M4.1 7)))), ((a 8), .inl (K.1, 16, .inl (ar (M4.1 8)))), ((a 9), .inl (K.1, 16, .inl (ar (M4.1 9)))), ((a 10), .inl (K.1, 16, .inl (ar (M4.1 10)))), ((a 11), .inl (K.1, 100, .inl (ar (M4.1 11)))), ((a 13), .inl (K.1, 8, .inl (ar (M4.1 13)))), ((a 14), .inl (K.1, 8, .inl (ar (M4.1 14)))), ((a 15), .inl (K.1, 8, .inl (ar (M4.1 15)))), ((a 16), .inl (K.1, 8, .inl (ar (M4.1 16)))), ((a 17), .inl (K.1, 3200, .inl (ar (M4.1 17)))), ((a 18), .inl (K.1, 3200, .inl (ar (M4.1 18)))), ((a 19), .inl (K.2.1, 3200, .inl (ar (M4.1 19)))), ((a 22), .inl (K.1, 3400, .inl (ar (M4.1 22)))), ((a 23), .inl (K.1, 3400, .inl (ar (M4.1 23)))), ((a 24), .inl (K.1, 3400, .inl (ar (M4.1 24)))), ((a 25), .inl (K.1, 3400, .inl (ar (M4.1 25)))), ((a 26), .inl (K.1, 32, .inl (ar (M4.1 26)))), ((a 27), .inl (K.1, 32, .inl (ar (M4.1 27)))), ((a 28), .inl (K.2.1, 8, .inl (ar (M4.1 28)))), ((a 29), .inl (K.1, 8, .inl (ar (M4.1 29)))), ((a 30), .inl (K.1, 8, .inl (ar (M4.1 30)))), ((a 31), .inl (K.1, 10, .inl (ar (M4.1 31)))), ((a 32), .inl (K.1, 10, .inl (ar (M4.1 32)))), ((a 33), .inl (K.1, 10, .inl (ar (M4.1 33)))), ((a 35), .inl (K.1, 13711, .inl (ar (M4.1 35)))), ((a 39), .inl (K.1, 4, .inl (ar (M4.1 39)))), ((a 40), .inl (K.1, 4, .inl (ar (M4.1 40))))]) rfl ?_
                          refine z_st (st2 := [vZ (csum (C4 rq)), vZ wt, .ref h]) rfl ?_
                          refine z_iadd ZC dX8_hour_248 ?_
                          refine z_put ZC inUX8 tyX8_ok nmX8 0 rfl rfl 34 (by decide) uF_X8_176 rfl (rfl) (rfl) (Nat.le_of_ble_eq_true rfl) dX8_hour_249 ?_
                          refine z_iinc ZC dX8_hour_252 rfl (by decide) ?_
                          refine z_goto ZC 230 dX8_hour_255 (by decide) ?_
                          refine z_ws (ws2 := [(h, .inr (8, [vZ (M4.2 0), .ref (a 1), .ref (a 2), vZ (M4.2 3), vZ (M4.2 4), .ref (a 5), .ref (a 6), .ref (a 7), .ref (a 8), .ref (a 9), .ref (a 10), .ref (a 11), vZ (M4.2 12), .ref (a 13), .ref (a 14), .ref (a 15), .ref (a 16), .ref (a 17), .ref (a 18), .ref (a 19), vZ (M4.2 20), vZ (M4.2 21), .ref (a 22), .ref (a 23), .ref (a 24), .ref (a 25), .ref (a 26), .ref (a 27), .ref (a 28), .ref (a 29), .ref (a 30), .ref (a 31), .ref (a 32), .ref (a 33), vZ (wt + (csum (C4 rq))), .ref (a 35), vZ (M4.2 36), vZ (M4.2 37), vZ (M4.2 38), .ref (a 39), .ref (a 40), vZ (M4.2 41), vZ (M4.2 42), vZ (M4.2 43)])), ((a 1), .inl (K.1, 10, .inl (ar (M4.1 1)))), ((a 2), .inl (K.1, 10, .inl (ar (M4.1 2)))), ((a 5), .inl (K.1, 16, .inl (ar (M4.1 5)))), ((a 6), .inl (K.1, 16, .inl (ar (M4.1 6)))), ((a 7), .inl (K.1, 16, .inl (ar (M4.1 7)))), ((a 8), .inl (K.1, 16, .inl (ar (M4.1 8)))), ((a 9), .inl (K.1, 16, .inl (ar (M4.1 9)))), ((a 10), .inl (K.1, 16, .inl (ar (M4.1 10)))), ((a 11), .inl (K.1, 100, .inl (ar (M4.1 11)))), ((a 13), .inl (K.1, 8, .inl (ar (M4.1 13)))), ((a 14), .inl (K.1, 8, .inl (ar (M4.1 14)))), ((a 15), .inl (K.1, 8, .inl (ar (M4.1 15)))), ((a 16), .inl (K.1, 8, .inl (ar (M4.1 16)))), ((a 17), .inl (K.1, 3200, .inl (ar (M4.1 17)))), ((a 18), .inl (K.1, 3200, .inl (ar (M4.1 18)))), ((a 19), .inl (K.2.1, 3200, .inl (ar (M4.1 19)))), ((a 22), .inl (K.1, 3400, .inl (ar (M4.1 22)))), ((a 23), .inl (K.1, 3400, .inl (ar (M4.1 23)))), ((a 24), .inl (K.1, 3400, .inl (ar (M4.1 24)))), ((a 25), .inl (K.1, 3400, .inl (ar (M4.1 25)))), ((a 26), .inl (K.1, 32, .inl (ar (M4.1 26)))), ((a 27), .inl (K.1, 32, .inl (ar (M4.1 27)))), ((a 28), .inl (K.2.1, 8, .inl (ar (M4.1 28)))), ((a 29), .inl (K.1, 8, .inl (ar (M4.1 29)))), ((a 30), .inl (K.1, 8, .inl (ar (M4.1 30)))), ((a 31), .inl (K.1, 10, .inl (ar (M4.1 31)))), ((a 32), .inl (K.1, 10, .inl (ar (M4.1 32)))), ((a 33), .inl (K.1, 10, .inl (ar (M4.1 33)))), ((a 35), .inl (K.1, 13711, .inl (ar (M4.1 35)))), ((a 39), .inl (K.1, 4, .inl (ar (M4.1 39)))), ((a 40), .inl (K.1, 4, .inl (ar (M4.1 40))))]) rfl (z_lv (lv2 := [(0, .ref h), (1, vZ tl), (2, vZ (rq + 1))]) ⟨rfl, rfl, rfl, trivial⟩ ?_)
                          refine ih_230 (rq + 1) (wt + (csum (C4 rq))) ?_ ?_ (dec_lt hm_230 (by omega))
                          · skip
                            omega
                          · skip
                            rw [smI_s e0q.1, ← Int.add_assoc, ← e1q, hq1]
                    refine z_ws (ws2 := [(h, .inr (8, [vZ (M4.2 0), .ref (a 1), .ref (a 2), vZ (M4.2 3), vZ (M4.2 4), .ref (a 5), .ref (a 6), .ref (a 7), .ref (a 8), .ref (a 9), .ref (a 10), .ref (a 11), vZ (M4.2 12), .ref (a 13), .ref (a 14), .ref (a 15), .ref (a 16), .ref (a 17), .ref (a 18), .ref (a 19), vZ (M4.2 20), vZ (M4.2 21), .ref (a 22), .ref (a 23), .ref (a 24), .ref (a 25), .ref (a 26), .ref (a 27), .ref (a 28), .ref (a 29), .ref (a 30), .ref (a 31), .ref (a 32), .ref (a 33), vZ (M4.2 34), .ref (a 35), vZ (M4.2 36), vZ (M4.2 37), vZ (M4.2 38), .ref (a 39), .ref (a 40), vZ (M4.2 41), vZ (M4.2 42), vZ (M4.2 43)])), ((a 1), .inl (K.1, 10, .inl (ar (M4.1 1)))), ((a 2), .inl (K.1, 10, .inl (ar (M4.1 2)))), ((a 5), .inl (K.1, 16, .inl (ar (M4.1 5)))), ((a 6), .inl (K.1, 16, .inl (ar (M4.1 6)))), ((a 7), .inl (K.1, 16, .inl (ar (M4.1 7)))), ((a 8), .inl (K.1, 16, .inl (ar (M4.1 8)))), ((a 9), .inl (K.1, 16, .inl (ar (M4.1 9)))), ((a 10), .inl (K.1, 16, .inl (ar (M4.1 10)))), ((a 11), .inl (K.1, 100, .inl (ar (M4.1 11)))), ((a 13), .inl (K.1, 8, .inl (ar (M4.1 13)))), ((a 14), .inl (K.1, 8, .inl (ar (M4.1 14)))), ((a 15), .inl (K.1, 8, .inl (ar (M4.1 15)))), ((a 16), .inl (K.1, 8, .inl (ar (M4.1 16)))), ((a 17), .inl (K.1, 3200, .inl (ar (M4.1 17)))), ((a 18), .inl (K.1, 3200, .inl (ar (M4.1 18)))), ((a 19), .inl (K.2.1, 3200, .inl (ar (M4.1 19)))), ((a 22), .inl (K.1, 3400, .inl (ar (M4.1 22)))), ((a 23), .inl (K.1, 3400, .inl (ar (M4.1 23)))), ((a 24), .inl (K.1, 3400, .inl (ar (M4.1 24)))), ((a 25), .inl (K.1, 3400, .inl (ar (M4.1 25)))), ((a 26), .inl (K.1, 32, .inl (ar (M4.1 26)))), ((a 27), .inl (K.1, 32, .inl (ar (M4.1 27)))), ((a 28), .inl (K.2.1, 8, .inl (ar (M4.1 28)))), ((a 29), .inl (K.1, 8, .inl (ar (M4.1 29)))), ((a 30), .inl (K.1, 8, .inl (ar (M4.1 30)))), ((a 31), .inl (K.1, 10, .inl (ar (M4.1 31)))), ((a 32), .inl (K.1, 10, .inl (ar (M4.1 32)))), ((a 33), .inl (K.1, 10, .inl (ar (M4.1 33)))), ((a 35), .inl (K.1, 13711, .inl (ar (M4.1 35)))), ((a 39), .inl (K.1, 4, .inl (ar (M4.1 39)))), ((a 40), .inl (K.1, 4, .inl (ar (M4.1 40))))]) rfl (z_lv (lv2 := [(0, .ref h), (1, vZ tl), (2, vZ 0)]) ⟨rfl, rfl, rfl, trivial⟩ ?_)
                    refine lp_230 _ 0 (M4.2 34) ?_ ?_ (Nat.lt_succ_self _)
                    · skip
                      omega
                    · skip
                      rw [f3.2 34 rfl, e34]
                      show _ = _ + 0
                      omega
                  · skip
                    have hms4 : MS To Ne Cr M4 := ms_keep hms f3 rfl rfl
                    have hsh := hms4.2.1.2.2.1 rr f0.1 (by omega)
                    have hrr4 := hcf.2.2.1 rr f0.1 (by omega)
                    have e20c : M4.2 20 = A.2.1 0 := (f3.2 20 rfl).trans e20
                    have eA4 : A4.2.1 0 = A.2.1 0 := by
                      rw [f2, (aOut_keep Ne _ _).2.1, (aLet_keep Ne Cr _ _).1, (aCome_keep Ne Cr A _).1]
                    have hocl : 0 ≤ oc Cr A4 ∧ oc Cr A4 ≤ 8 := oc_rng hcf f4
                    have eoc : oc Cr A4 = oc Cr (aLet Ne Cr (aCome Ne Cr A (Ne.2 8).toNat) (Cr.2 3).toNat) := by unfold oc; rw [f2, (aOut_keep Ne _ _).1]
                    have hql := qlen_le hcf f4
                    have hql1 := smI_le (f := fun q => ((A4.2.2.1 q).length : Int)) (k := rr) (n := 16) (fun j _ _ => by omega) f0.1 (by omega)
                    have hkk : aK Ne A4 rr = aK Ne (aLet Ne Cr (aCome Ne Cr A (Ne.2 8).toNat) (Cr.2 3).toNat) rr := by rw [f2]; exact aK_keep (by omega)
                    refine z_aload_n ZC 0 dX8_hour_160 rfl rfl ?_
                    refine z_iload_n ZC 2 dX8_hour_161 rfl rfl ?_
                    refine z_callV ZC 1 (c_X8_isShut zl D K h a M4 rr (by omega) (by omega) (by omega) (by omega)) (gdV uM_X8_170 uI_X8_isShut uS_X8_isShut uN_X8 uC_X8_isShut) (by decide +kernel) rfl ⟨by omega, by omega⟩ ⟨by omega, by omega⟩ (Nat.le_of_ble_eq_true rfl) [0, 1, 2, 3, 4, 5, 6, 7, 8, 9, 10, 11, 12, 13, 14, 15, 16, 17, 18, 19, 20, 21, 22, 23, 24, 25, 26, 27, 28, 29, 30, 31] rfl (by decide) rfl rfl rfl rfl dX8_hour_162 (fun r w2 gc_162 gs_162 hp => ?_)
                    obtain ⟨v_162, rfl, rfl, rfl, rfl, hb_162⟩ := hp
                    refine z_ws (ws2 := [(h, .inr (8, [vZ (M4.2 0), .ref (a 1), .ref (a 2), vZ (M4.2 3), vZ (M4.2 4), .ref (a 5), .ref (a 6), .ref (a 7), .ref (a 8), .ref (a 9), .ref (a 10), .ref (a 11), vZ (M4.2 12), .ref (a 13), .ref (a 14), .ref (a 15), .ref (a 16), .ref (a 17), .ref (a 18), .ref (a 19), vZ (M4.2 20), vZ (M4.2 21), .ref (a 22), .ref (a 23), .ref (a 24), .ref (a 25), .ref (a 26), .ref (a 27), .ref (a 28), .ref (a 29), .ref (a 30), .ref (a 31), .ref (a 32), .ref (a 33), vZ (M4.2 34), .ref (a 35), vZ (M4.2 36), vZ (M4.2 37), vZ (M4.2 38), .ref (a 39), .ref (a 40), vZ (M4.2 41), vZ (M4.2 42), vZ (M4.2 43)])), ((a 1), .inl (K.1, 10, .inl (ar (M4.1 1)))), ((a 2), .inl (K.1, 10, .inl (ar (M4.1 2)))), ((a 5), .inl (K.1, 16, .inl (ar (M4.1 5)))), ((a 6), .inl (K.1, 16, .inl (ar (M4.1 6)))), ((a 7), .inl (K.1, 16, .inl (ar (M4.1 7)))), ((a 8), .inl (K.1, 16, .inl (ar (M4.1 8)))), ((a 9), .inl (K.1, 16, .inl (ar (M4.1 9)))), ((a 10), .inl (K.1, 16, .inl (ar (M4.1 10)))), ((a 11), .inl (K.1, 100, .inl (ar (M4.1 11)))), ((a 13), .inl (K.1, 8, .inl (ar (M4.1 13)))), ((a 14), .inl (K.1, 8, .inl (ar (M4.1 14)))), ((a 15), .inl (K.1, 8, .inl (ar (M4.1 15)))), ((a 16), .inl (K.1, 8, .inl (ar (M4.1 16)))), ((a 17), .inl (K.1, 3200, .inl (ar (M4.1 17)))), ((a 18), .inl (K.1, 3200, .inl (ar (M4.1 18)))), ((a 19), .inl (K.2.1, 3200, .inl (ar (M4.1 19)))), ((a 22), .inl (K.1, 3400, .inl (ar (M4.1 22)))), ((a 23), .inl (K.1, 3400, .inl (ar (M4.1 23)))), ((a 24), .inl (K.1, 3400, .inl (ar (M4.1 24)))), ((a 25), .inl (K.1, 3400, .inl (ar (M4.1 25)))), ((a 26), .inl (K.1, 32, .inl (ar (M4.1 26)))), ((a 27), .inl (K.1, 32, .inl (ar (M4.1 27)))), ((a 28), .inl (K.2.1, 8, .inl (ar (M4.1 28)))), ((a 29), .inl (K.1, 8, .inl (ar (M4.1 29)))), ((a 30), .inl (K.1, 8, .inl (ar (M4.1 30)))), ((a 31), .inl (K.1, 10, .inl (ar (M4.1 31)))), ((a 32), .inl (K.1, 10, .inl (ar (M4.1 32)))), ((a 33), .inl (K.1, 10, .inl (ar (M4.1 33)))), ((a 35), .inl (K.1, 13711, .inl (ar (M4.1 35)))), ((a 39), .inl (K.1, 4, .inl (ar (M4.1 39)))), ((a 40), .inl (K.1, 4, .inl (ar (M4.1 40))))]) rfl ?_
                    refine z_st (st2 := [vZ v_162]) rfl ?_
                    refine z_if_eq ZC 172 dX8_hour_165 (by decide) (by omega) (fun c_165 => ?_) (fun c_165 => ?_)
                    · skip
                      refine z_aload_n ZC 0 dX8_hour_172 rfl rfl ?_
                      refine z_iload_n ZC 2 dX8_hour_173 rfl rfl ?_
                      refine z_callV ZC 1 (c_X8_setsOut zl D K h a M4 Ne Cr A4 C4 rr (hcf) (hnw) (hms4.2.1) (hms4.2.2) (f1) (by omega) (by omega) (by omega) (by omega) (by omega)) (gdV uM_X8_173 uI_X8_setsOut uS_X8_setsOut uN_X8 uC_X8_setsOut) (by decide +kernel) rfl ⟨by omega, by omega⟩ ⟨by omega, by omega⟩ (Nat.le_of_ble_eq_true rfl) [0, 1, 2, 3, 4, 5, 6, 7, 8, 9, 10, 11, 12, 13, 14, 15, 16, 17, 18, 19, 20, 21, 22, 23, 24, 25, 26, 27, 28, 29, 30, 31] rfl (by decide) rfl rfl rfl rfl dX8_hour_174 (fun r w2 gc_174 gs_174 hp => ?_)
                      obtain ⟨M2_174, C2_174, v_174, rfl, rfl, rfl, rfl, hmd2_174, hv_174, hkp_174, hus2_174⟩ := hp
                      refine z_ws (ws2 := [(h, .inr (8, [vZ (M2_174.2 0), .ref (a 1), .ref (a 2), vZ (M2_174.2 3), vZ (M2_174.2 4), .ref (a 5), .ref (a 6), .ref (a 7), .ref (a 8), .ref (a 9), .ref (a 10), .ref (a 11), vZ (M2_174.2 12), .ref (a 13), .ref (a 14), .ref (a 15), .ref (a 16), .ref (a 17), .ref (a 18), .ref (a 19), vZ (M2_174.2 20), vZ (M2_174.2 21), .ref (a 22), .ref (a 23), .ref (a 24), .ref (a 25), .ref (a 26), .ref (a 27), .ref (a 28), .ref (a 29), .ref (a 30), .ref (a 31), .ref (a 32), .ref (a 33), vZ (M2_174.2 34), .ref (a 35), vZ (M2_174.2 36), vZ (M2_174.2 37), vZ (M2_174.2 38), .ref (a 39), .ref (a 40), vZ (M2_174.2 41), vZ (M2_174.2 42), vZ (M2_174.2 43)])), ((a 1), .inl (K.1, 10, .inl (ar (M2_174.1 1)))), ((a 2), .inl (K.1, 10, .inl (ar (M2_174.1 2)))), ((a 5), .inl (K.1, 16, .inl (ar (M2_174.1 5)))), ((a 6), .inl (K.1, 16, .inl (ar (M2_174.1 6)))), ((a 7), .inl (K.1, 16, .inl (ar (M2_174.1 7)))), ((a 8), .inl (K.1, 16, .inl (ar (M2_174.1 8)))), ((a 9), .inl (K.1, 16, .inl (ar (M2_174.1 9)))), ((a 10), .inl (K.1, 16, .inl (ar (M2_174.1 10)))), ((a 11), .inl (K.1, 100, .inl (ar (M2_174.1 11)))), ((a 13), .inl (K.1, 8, .inl (ar (M2_174.1 13)))), ((a 14), .inl (K.1, 8, .inl (ar (M2_174.1 14)))), ((a 15), .inl (K.1, 8, .inl (ar (M2_174.1 15)))), ((a 16), .inl (K.1, 8, .inl (ar (M2_174.1 16)))), ((a 17), .inl (K.1, 3200, .inl (ar (M2_174.1 17)))), ((a 18), .inl (K.1, 3200, .inl (ar (M2_174.1 18)))), ((a 19), .inl (K.2.1, 3200, .inl (ar (M2_174.1 19)))), ((a 22), .inl (K.1, 3400, .inl (ar (M2_174.1 22)))), ((a 23), .inl (K.1, 3400, .inl (ar (M2_174.1 23)))), ((a 24), .inl (K.1, 3400, .inl (ar (M2_174.1 24)))), ((a 25), .inl (K.1, 3400, .inl (ar (M2_174.1 25)))), ((a 26), .inl (K.1, 32, .inl (ar (M2_174.1 26)))), ((a 27), .inl (K.1, 32, .inl (ar (M2_174.1 27)))), ((a 28), .inl (K.2.1, 8, .inl (ar (M2_174.1 28)))), ((a 29), .inl (K.1, 8, .inl (ar (M2_174.1 29)))), ((a 30), .inl (K.1, 8, .inl (ar (M2_174.1 30)))), ((a 31), .inl (K.1, 10, .inl (ar (M2_174.1 31)))), ((a 32), .inl (K.1, 10, .inl (ar (M2_174.1 32)))), ((a 33), .inl (K.1, 10, .inl (ar (M2_174.1 33)))), ((a 35), .inl (K.1, 13711, .inl (ar (M2_174.1 35)))), ((a 39), .inl (K.1, 4, .inl (ar (M2_174.1 39)))), ((a 40), .inl (K.1, 4, .inl (ar (M2_174.1 40))))]) rfl ?_
                      refine z_st (st2 := [vZ v_174]) rfl ?_
                      have hvk : v_174 = (aK Ne (aLet Ne Cr (aCome Ne Cr A (Ne.2 8).toNat) (Cr.2 3).toNat) rr : Int) := by rw [hv_174, hkk]
                      have e20d : M2_174.2 20 = A.2.1 0 := (hkp_174.2 20 rfl).trans e20c
                      have e9d : M2_174.1 9 = M4.1 9 ∧ M2_174.1 10 = M4.1 10 := ⟨hkp_174.1 9 rfl, hkp_174.1 10 rfl⟩
                      refine z_istore_n ZC 3 dX8_hour_177 rfl (by decide) ?_
                      refine z_iload_n ZC 1 dX8_hour_178 rfl rfl ?_
                      refine z_if_eq ZC 198 dX8_hour_179 (by decide) (by omega) (fun c_179 => ?_) (fun c_179 => ?_)
                      · skip
                        refine z_iload_n ZC 1 dX8_hour_198 rfl rfl ?_
                        refine z_if_eq ZC 222 dX8_hour_199 (by decide) (by omega) (fun c_199 => ?_) (fun c_199 => ?_)
                        · skip
                          refine z_iinc ZC dX8_hour_222 rfl (by decide) ?_
                          refine z_goto ZC 152 dX8_hour_225 (by decide) ?_
                          refine z_ws (ws2 := [(h, .inr (8, [vZ (M2_174.2 0), .ref (a 1), .ref (a 2), vZ (M2_174.2 3), vZ (M2_174.2 4), .ref (a 5), .ref (a 6), .ref (a 7), .ref (a 8), .ref (a 9), .ref (a 10), .ref (a 11), vZ (M2_174.2 12), .ref (a 13), .ref (a 14), .ref (a 15), .ref (a 16), .ref (a 17), .ref (a 18), .ref (a 19), vZ (M2_174.2 20), vZ (M2_174.2 21), .ref (a 22), .ref (a 23), .ref (a 24), .ref (a 25), .ref (a 26), .ref (a 27), .ref (a 28), .ref (a 29), .ref (a 30), .ref (a 31), .ref (a 32), .ref (a 33), vZ (M2_174.2 34), .ref (a 35), vZ (M2_174.2 36), vZ (M2_174.2 37), vZ (M2_174.2 38), .ref (a 39), .ref (a 40), vZ (M2_174.2 41), vZ (M2_174.2 42), vZ (M2_174.2 43)])), ((a 1), .inl (K.1, 10, .inl (ar (M2_174.1 1)))), ((a 2), .inl (K.1, 10, .inl (ar (M2_174.1 2)))), ((a 5), .inl (K.1, 16, .inl (ar (M2_174.1 5)))), ((a 6), .inl (K.1, 16, .inl (ar (M2_174.1 6)))), ((a 7), .inl (K.1, 16, .inl (ar (M2_174.1 7)))), ((a 8), .inl (K.1, 16, .inl (ar (M2_174.1 8)))), ((a 9), .inl (K.1, 16, .inl (ar (M2_174.1 9)))), ((a 10), .inl (K.1, 16, .inl (ar (M2_174.1 10)))), ((a 11), .inl (K.1, 100, .inl (ar (M2_174.1 11)))), ((a 13), .inl (K.1, 8, .inl (ar (M2_174.1 13)))), ((a 14), .inl (K.1, 8, .inl (ar (M2_174.1 14)))), ((a 15), .inl (K.1, 8, .inl (ar (M2_174.1 15)))), ((a 16), .inl (K.1, 8, .inl (ar (M2_174.1 16)))), ((a 17), .inl (K.1, 3200, .inl (ar (M2_174.1 17)))), ((a 18), .inl (K.1, 3200, .inl (ar (M2_174.1 18)))), ((a 19), .inl (K.2.1, 3200, .inl (ar (M2_174.1 19)))), ((a 22), .inl (K.1, 3400, .inl (ar (M2_174.1 22)))), ((a 23), .inl (K.1, 3400, .inl (ar (M2_174.1 23)))), ((a 24), .inl (K.1, 3400, .inl (ar (M2_174.1 24)))), ((a 25), .inl (K.1, 3400, .inl (ar (M2_174.1 25)))), ((a 26), .inl (K.1, 32, .inl (ar (M2_174.1 26)))), ((a 27), .inl (K.1, 32, .inl (ar (M2_174.1 27)))), ((a 28), .inl (K.2.1, 8, .inl (ar (M2_174.1 28)))), ((a 29), .inl (K.1, 8, .inl (ar (M2_174.1 29)))), ((a 30), .inl (K.1, 8, .inl (ar (M2_174.1 30)))), ((a 31), .inl (K.1, 10, .inl (ar (M2_174.1 31)))), ((a 32), .inl (K.1, 10, .inl (ar (M2_174.1 32)))), ((a 33), .inl (K.1, 10, .inl (ar (M2_174.1 33)))), ((a 35), .inl (K.1, 13711, .inl (ar (M2_174.1 35)))), ((a 39), .inl (K.1, 4, .inl (ar (M2_174.1 39)))), ((a 40), .inl (K.1, 4, .inl (ar (M2_174.1 40))))]) rfl (z_lv (lv2 := [(0, .ref h), (1, vZ tl), (2, vZ (rr + 1))]) ⟨rfl, rfl, rfl, trivial⟩ ?_)
                          refine ih_152 (rr + 1) M2_174 (aOut1 Ne A4 rr) C2_174 ?_ ?_ ?_ ?_ ?_ ?_ ?_ ?_ (dec_lt hm_152 (by omega))
                          · skip
                            omega
                          · skip
                            exact hmd2_174
                          · skip
                            rw [aOut_next f0.1, ← f2]
                          · skip
                            exact (KP.trans (la := [18, 19, 22, 23, 24, 25, 26, 27, 28, 29, 30]) (lz := [21]) f3 hkp_174 rfl rfl rfl rfl)
                          · skip
                            exact aok_out hcf f4 ⟨f0.1, by omega⟩ (by omega)
                          · skip
                            show M2_174.2 21 ≤ _
                            omega
                          · skip
                            intro q
                            rw [hkp_174.1 18 rfl, hkp_174.1 19 rfl]
                            exact f6 q
                          · skip
                            intro q; omega
                        · skip
                          omega
                      · skip
                        refine z_aload_n ZC 0 dX8_hour_182 rfl rfl ?_
                        refine z_get ZC inUX8 0 rfl rfl 18 (by decide) uF_X8_56 rfl dX8_hour_183 ?_
                        refine z_sipush ZC dX8_hour_186 (by decide) ?_
                        refine z_iload_n ZC 2 dX8_hour_189 rfl rfl ?_
                        refine z_imul ZC dX8_hour_190 ?_
                        refine z_aload_n ZC 0 dX8_hour_191 rfl rfl ?_
                        refine z_get ZC inUX8 0 rfl rfl 20 (by decide) uF_X8_129 rfl dX8_hour_192 ?_
                        refine z_iadd ZC dX8_hour_195 ?_
                        refine z_top (y := (200 * rr + A.2.1 0)) (by omega) ?_
                        refine z_iload_n ZC 3 dX8_hour_196 rfl rfl ?_
                        refine z_iast ZC 15 rfl dX8_hour_197 (by omega) ?_
                        refine z_iload_n ZC 1 dX8_hour_198 rfl rfl ?_
                        refine z_if_eq ZC 222 dX8_hour_199 (by decide) (by omega) (fun c_199 => ?_) (fun c_199 => ?_)
                        · skip
                          omega
                        · skip
                          refine z_aload_n ZC 0 dX8_hour_202 rfl rfl ?_
                          refine z_get ZC inUX8 0 rfl rfl 19 (by decide) uF_X8_59 rfl dX8_hour_203 ?_
                          refine z_sipush ZC dX8_hour_206 (by decide) ?_
                          refine z_iload_n ZC 2 dX8_hour_209 rfl rfl ?_
                          refine z_imul ZC dX8_hour_210 ?_
                          refine z_aload_n ZC 0 dX8_hour_211 rfl rfl ?_
                          refine z_get ZC inUX8 0 rfl rfl 20 (by decide) uF_X8_129 rfl dX8_hour_212 ?_
                          refine z_iadd ZC dX8_hour_215 ?_
                          refine z_top (y := (200 * rr + A.2.1 0)) (by omega) ?_
                          refine z_aload_n ZC 0 dX8_hour_216 rfl rfl ?_
                          refine z_iload_n ZC 2 dX8_hour_217 rfl rfl ?_
                          refine z_ws (ws2 := [(h, .inr (8, [vZ (M2_174.2 0), .ref (a 1), .ref (a 2), vZ (M2_174.2 3), vZ (M2_174.2 4), .ref (a 5), .ref (a 6), .ref (a 7), .ref (a 8), .ref (a 9), .ref (a 10), .ref (a 11), vZ (M2_174.2 12), .ref (a 13), .ref (a 14), .ref (a 15), .ref (a 16), .ref (a 17), .ref (a 18), .ref (a 19), vZ (M2_174.2 20), vZ (M2_174.2 21), .ref (a 22), .ref (a 23), .ref (a 24), .ref (a 25), .ref (a 26), .ref (a 27), .ref (a 28), .ref (a 29), .ref (a 30), .ref (a 31), .ref (a 32), .ref (a 33), vZ (M2_174.2 34), .ref (a 35), vZ (M2_174.2 36), vZ (M2_174.2 37), vZ (M2_174.2 38), .ref (a 39), .ref (a 40), vZ (M2_174.2 41), vZ (M2_174.2 42), vZ (M2_174.2 43)])), ((a 1), .inl (K.1, 10, .inl (ar (M2_174.1 1)))), ((a 2), .inl (K.1, 10, .inl (ar (M2_174.1 2)))), ((a 5), .inl (K.1, 16, .inl (ar (M2_174.1 5)))), ((a 6), .inl (K.1, 16, .inl (ar (M2_174.1 6)))), ((a 7), .inl (K.1, 16, .inl (ar (M2_174.1 7)))), ((a 8), .inl (K.1, 16, .inl (ar (M2_174.1 8)))), ((a 9), .inl (K.1, 16, .inl (ar (M2_174.1 9)))), ((a 10), .inl (K.1, 16, .inl (ar (M2_174.1 10)))), ((a 11), .inl (K.1, 100, .inl (ar (M2_174.1 11)))), ((a 13), .inl (K.1, 8, .inl (ar (M2_174.1 13)))), ((a 14), .inl (K.1, 8, .inl (ar (M2_174.1 14)))), ((a 15), .inl (K.1, 8, .inl (ar (M2_174.1 15)))), ((a 16), .inl (K.1, 8, .inl (ar (M2_174.1 16)))), ((a 17), .inl (K.1, 3200, .inl (ar (M2_174.1 17)))), ((a 18), .inl (K.1, 3200, .inl (ar (upz (M2_174.1 18) (200 * rr + A.2.1 0) v_174)))), ((a 19), .inl (K.2.1, 3200, .inl (ar (M2_174.1 19)))), ((a 22), .inl (K.1, 3400, .inl (ar (M2_174.1 22)))), ((a 23), .inl (K.1, 3400, .inl (ar (M2_174.1 23)))), ((a 24), .inl (K.1, 3400, .inl (ar (M2_174.1 24)))), ((a 25), .inl (K.1, 3400, .inl (ar (M2_174.1 25)))), ((a 26), .inl (K.1, 32, .inl (ar (M2_174.1 26)))), ((a 27), .inl (K.1, 32, .inl (ar (M2_174.1 27)))), ((a 28), .inl (K.2.1, 8, .inl (ar (M2_174.1 28)))), ((a 29), .inl (K.1, 8, .inl (ar (M2_174.1 29)))), ((a 30), .inl (K.1, 8, .inl (ar (M2_174.1 30)))), ((a 31), .inl (K.1, 10, .inl (ar (M2_174.1 31)))), ((a 32), .inl (K.1, 10, .inl (ar (M2_174.1 32)))), ((a 33), .inl (K.1, 10, .inl (ar (M2_174.1 33)))), ((a 35), .inl (K.1, 13711, .inl (ar (M2_174.1 35)))), ((a 39), .inl (K.1, 4, .inl (ar (M2_174.1 39)))), ((a 40), .inl (K.1, 4, .inl (ar (M2_174.1 40))))]) rfl ?_
                          have hy_hz_r_218_0 : -2147483648 ≤ rr ∧ rr < 2147483648 := by omega
                          have hy_hn8_218_0 : 0 ≤ (M2_174.2 20) ∧ (M2_174.2 20) ≤ 200 := by show 0 ≤ M2_174.2 20 ∧ M2_174.2 20 ≤ 200; omega
                          have hy_hr16_218_0 : 0 ≤ rr ∧ rr < 16 := by omega
                          have hy_hsh_218_0 : (0 ≤ (M2_174.1 9) rr ∧ (M2_174.1 9) rr < 2147483648) ∧ (0 ≤ (M2_174.1 10) rr ∧ (M2_174.1 10) rr < 2147483648) := by show (0 ≤ M2_174.1 9 rr ∧ M2_174.1 9 rr < 2147483648) ∧ (0 ≤ M2_174.1 10 rr ∧ M2_174.1 10 rr < 2147483648); rw [e9d.1, e9d.2]; omega
                          refine z_callV ZC 1 (c_X8_isShut zl D K h a ((upf M2_174.1 18 (upz (M2_174.1 18) (200 * rr + A.2.1 0) v_174)), M2_174.2) rr (hy_hz_r_218_0) (hy_hn8_218_0) (hy_hr16_218_0) (hy_hsh_218_0)) (gdV uM_X8_170 uI_X8_isShut uS_X8_isShut uN_X8 uC_X8_isShut) (by decide +kernel) rfl ⟨by omega, by omega⟩ ⟨by omega, by omega⟩ (Nat.le_of_ble_eq_true rfl) [0, 1, 2, 3, 4, 5, 6, 7, 8, 9, 10, 11, 12, 13, 14, 15, 16, 17, 18, 19, 20, 21, 22, 23, 24, 25, 26, 27, 28, 29, 30, 31] rfl (by decide) rfl rfl rfl rfl dX8_hour_218 (fun r w2 gc_218 gs_218 hp => ?_)
                          obtain ⟨v_218, rfl, rfl, rfl, rfl, hb_218⟩ := hp
                          have hb_218 : (v_218 = 1 ∧ ((M2_174.1 9) rr ≤ (M2_174.2 20) ∧ (M2_174.2 20) < (M2_174.1 10) rr)) ∨ (v_218 = 0 ∧ ¬ ((M2_174.1 9) rr ≤ (M2_174.2 20) ∧ (M2_174.2 20) < (M2_174.1 10) rr)) := hb_218
                          refine z_top (y := v_218) rfl ?_
                          rw [e9d.1, e9d.2] at hb_218
                          refine z_ws (ws2 := [(h, .inr (8, [vZ (M2_174.2 0), .ref (a 1), .ref (a 2), vZ (M2_174.2 3), vZ (M2_174.2 4), .ref (a 5), .ref (a 6), .ref (a 7), .ref (a 8), .ref (a 9), .ref (a 10), .ref (a 11), vZ (M2_174.2 12), .ref (a 13), .ref (a 14), .ref (a 15), .ref (a 16), .ref (a 17), .ref (a 18), .ref (a 19), vZ (M2_174.2 20), vZ (M2_174.2 21), .ref (a 22), .ref (a 23), .ref (a 24), .ref (a 25), .ref (a 26), .ref (a 27), .ref (a 28), .ref (a 29), .ref (a 30), .ref (a 31), .ref (a 32), .ref (a 33), vZ (M2_174.2 34), .ref (a 35), vZ (M2_174.2 36), vZ (M2_174.2 37), vZ (M2_174.2 38), .ref (a 39), .ref (a 40), vZ (M2_174.2 41), vZ (M2_174.2 42), vZ (M2_174.2 43)])), ((a 1), .inl (K.1, 10, .inl (ar (M2_174.1 1)))), ((a 2), .inl (K.1, 10, .inl (ar (M2_174.1 2)))), ((a 5), .inl (K.1, 16, .inl (ar (M2_174.1 5)))), ((a 6), .inl (K.1, 16, .inl (ar (M2_174.1 6)))), ((a 7), .inl (K.1, 16, .inl (ar (M2_174.1 7)))), ((a 8), .inl (K.1, 16, .inl (ar (M2_174.1 8)))), ((a 9), .inl (K.1, 16, .inl (ar (M2_174.1 9)))), ((a 10), .inl (K.1, 16, .inl (ar (M2_174.1 10)))), ((a 11), .inl (K.1, 100, .inl (ar (M2_174.1 11)))), ((a 13), .inl (K.1, 8, .inl (ar (M2_174.1 13)))), ((a 14), .inl (K.1, 8, .inl (ar (M2_174.1 14)))), ((a 15), .inl (K.1, 8, .inl (ar (M2_174.1 15)))), ((a 16), .inl (K.1, 8, .inl (ar (M2_174.1 16)))), ((a 17), .inl (K.1, 3200, .inl (ar (M2_174.1 17)))), ((a 18), .inl (K.1, 3200, .inl (ar (upz (M2_174.1 18) (200 * rr + A.2.1 0) v_174)))), ((a 19), .inl (K.2.1, 3200, .inl (ar (M2_174.1 19)))), ((a 22), .inl (K.1, 3400, .inl (ar (M2_174.1 22)))), ((a 23), .inl (K.1, 3400, .inl (ar (M2_174.1 23)))), ((a 24), .inl (K.1, 3400, .inl (ar (M2_174.1 24)))), ((a 25), .inl (K.1, 3400, .inl (ar (M2_174.1 25)))), ((a 26), .inl (K.1, 32, .inl (ar (M2_174.1 26)))), ((a 27), .inl (K.1, 32, .inl (ar (M2_174.1 27)))), ((a 28), .inl (K.2.1, 8, .inl (ar (M2_174.1 28)))), ((a 29), .inl (K.1, 8, .inl (ar (M2_174.1 29)))), ((a 30), .inl (K.1, 8, .inl (ar (M2_174.1 30)))), ((a 31), .inl (K.1, 10, .inl (ar (M2_174.1 31)))), ((a 32), .inl (K.1, 10, .inl (ar (M2_174.1 32)))), ((a 33), .inl (K.1, 10, .inl (ar (M2_174.1 33)))), ((a 35), .inl (K.1, 13711, .inl (ar (M2_174.1 35)))), ((a 39), .inl (K.1, 4, .inl (ar (M2_174.1 39)))), ((a 40), .inl (K.1, 4, .inl (ar (M2_174.1 40))))]) rfl ?_
                          refine z_st (st2 := [vZ v_218, vZ (200 * rr + A.2.1 0), .ref (a 19)]) rfl ?_
                          refine z_zast ZC 16 rfl dX8_hour_221 (by omega) (by omega) ?_
                          refine z_iinc ZC dX8_hour_222 rfl (by decide) ?_
                          refine z_goto ZC 152 dX8_hour_225 (by decide) ?_
                          refine z_ws (ws2 := [(h, .inr (8, [vZ (M2_174.2 0), .ref (a 1), .ref (a 2), vZ (M2_174.2 3), vZ (M2_174.2 4), .ref (a 5), .ref (a 6), .ref (a 7), .ref (a 8), .ref (a 9), .ref (a 10), .ref (a 11), vZ (M2_174.2 12), .ref (a 13), .ref (a 14), .ref (a 15), .ref (a 16), .ref (a 17), .ref (a 18), .ref (a 19), vZ (M2_174.2 20), vZ (M2_174.2 21), .ref (a 22), .ref (a 23), .ref (a 24), .ref (a 25), .ref (a 26), .ref (a 27), .ref (a 28), .ref (a 29), .ref (a 30), .ref (a 31), .ref (a 32), .ref (a 33), vZ (M2_174.2 34), .ref (a 35), vZ (M2_174.2 36), vZ (M2_174.2 37), vZ (M2_174.2 38), .ref (a 39), .ref (a 40), vZ (M2_174.2 41), vZ (M2_174.2 42), vZ (M2_174.2 43)])), ((a 1), .inl (K.1, 10, .inl (ar (M2_174.1 1)))), ((a 2), .inl (K.1, 10, .inl (ar (M2_174.1 2)))), ((a 5), .inl (K.1, 16, .inl (ar (M2_174.1 5)))), ((a 6), .inl (K.1, 16, .inl (ar (M2_174.1 6)))), ((a 7), .inl (K.1, 16, .inl (ar (M2_174.1 7)))), ((a 8), .inl (K.1, 16, .inl (ar (M2_174.1 8)))), ((a 9), .inl (K.1, 16, .inl (ar (M2_174.1 9)))), ((a 10), .inl (K.1, 16, .inl (ar (M2_174.1 10)))), ((a 11), .inl (K.1, 100, .inl (ar (M2_174.1 11)))), ((a 13), .inl (K.1, 8, .inl (ar (M2_174.1 13)))), ((a 14), .inl (K.1, 8, .inl (ar (M2_174.1 14)))), ((a 15), .inl (K.1, 8, .inl (ar (M2_174.1 15)))), ((a 16), .inl (K.1, 8, .inl (ar (M2_174.1 16)))), ((a 17), .inl (K.1, 3200, .inl (ar (M2_174.1 17)))), ((a 18), .inl (K.1, 3200, .inl (ar (upz (M2_174.1 18) (200 * rr + A.2.1 0) v_174)))), ((a 19), .inl (K.2.1, 3200, .inl (ar (upz (M2_174.1 19) (200 * rr + A.2.1 0) v_218)))), ((a 22), .inl (K.1, 3400, .inl (ar (M2_174.1 22)))), ((a 23), .inl (K.1, 3400, .inl (ar (M2_174.1 23)))), ((a 24), .inl (K.1, 3400, .inl (ar (M2_174.1 24)))), ((a 25), .inl (K.1, 3400, .inl (ar (M2_174.1 25)))), ((a 26), .inl (K.1, 32, .inl (ar (M2_174.1 26)))), ((a 27), .inl (K.1, 32, .inl (ar (M2_174.1 27)))), ((a 28), .inl (K.2.1, 8, .inl (ar (M2_174.1 28)))), ((a 29), .inl (K.1, 8, .inl (ar (M2_174.1 29)))), ((a 30), .inl (K.1, 8, .inl (ar (M2_174.1 30)))), ((a 31), .inl (K.1, 10, .inl (ar (M2_174.1 31)))), ((a 32), .inl (K.1, 10, .inl (ar (M2_174.1 32)))), ((a 33), .inl (K.1, 10, .inl (ar (M2_174.1 33)))), ((a 35), .inl (K.1, 13711, .inl (ar (M2_174.1 35)))), ((a 39), .inl (K.1, 4, .inl (ar (M2_174.1 39)))), ((a 40), .inl (K.1, 4, .inl (ar (M2_174.1 40))))]) rfl (z_lv (lv2 := [(0, .ref h), (1, vZ tl), (2, vZ (rr + 1))]) ⟨rfl, rfl, rfl, trivial⟩ ?_)
                          refine ih_152 (rr + 1) ((upf (upf M2_174.1 18 (upz (M2_174.1 18) (200 * rr + A.2.1 0) v_174)) 19 (upz (M2_174.1 19) (200 * rr + A.2.1 0) v_218)), M2_174.2) (aOut1 Ne A4 rr) C2_174 ?_ ?_ ?_ ?_ ?_ ?_ ?_ ?_ (dec_lt hm_152 (by omega))
                          · skip
                            omega
                          · skip
                            exact hmd2_174
                          · skip
                            rw [aOut_next f0.1, ← f2]
                          · skip
                            exact KP.trans (KP.trans (la := [18, 19, 22, 23, 24, 25, 26, 27, 28, 29, 30]) (lz := [21]) f3 hkp_174 rfl rfl rfl rfl) (show KP [18, 19, 22, 23, 24, 25, 26, 27, 28, 29, 30] [21] M2_174 _ from ⟨fun k hk => (upf_out hk rfl).trans (upf_out hk rfl), fun k hk => rfl⟩) rfl rfl rfl rfl
                          · skip
                            exact aok_out hcf f4 ⟨f0.1, by omega⟩ (by omega)
                          · skip
                            show M2_174.2 21 ≤ _
                            omega
                          · skip
                            intro q; omega
                          · skip
                            intro q0
                            refine ⟨fun q q1 q2 => ?_, fun x hx => ?_⟩
                            · show upz (M2_174.1 18) (200 * rr + A.2.1 0) v_174 (200 * q + A.2.1 0) = _ ∧ upz (M2_174.1 19) (200 * rr + A.2.1 0) v_218 (200 * q + A.2.1 0) = _
                              by_cases z : q = rr
                              · rw [z, upz_self, upz_self]
                                refine ⟨by rw [hvk], ?_⟩
                                rcases hb_218 with z2 | z2
                                · rw [if_pos (by omega)]; exact z2.1
                                · rw [if_neg (by omega)]; exact z2.1
                              · rw [upz_ne _ _ (by omega), upz_ne _ _ (by omega)]
                                rw [hkp_174.1 18 rfl, hkp_174.1 19 rfl]
                                exact (f7 (by omega)).1 q q1 (by omega)
                            · show upz (M2_174.1 18) (200 * rr + A.2.1 0) v_174 x = _ ∧ upz (M2_174.1 19) (200 * rr + A.2.1 0) v_218 x = _
                              rw [upz_ne _ _ (hx rr f0.1 (by omega)), upz_ne _ _ (hx rr f0.1 (by omega))]
                              rw [hkp_174.1 18 rfl, hkp_174.1 19 rfl]
                              exact (f7 (by omega)).2 x (fun q q1 q2 => hx q q1 (by omega))
                    · skip
                      have hk0 : aK Ne A4 rr = 0 := if_pos (by omega)
                      have hk1 : aK Ne (aLet Ne Cr (aCome Ne Cr A (Ne.2 8).toNat) (Cr.2 3).toNat) rr = 0 := by rw [← hkk]; exact hk0
                      refine z_iconst ZC dX8_hour_168 ?_
                      refine z_goto ZC 177 dX8_hour_169 (by decide) ?_
                      refine z_istore_n ZC 3 dX8_hour_177 rfl (by decide) ?_
                      refine z_iload_n ZC 1 dX8_hour_178 rfl rfl ?_
                      refine z_if_eq ZC 198 dX8_hour_179 (by decide) (by omega) (fun c_179 => ?_) (fun c_179 => ?_)
                      · skip
                        refine z_iload_n ZC 1 dX8_hour_198 rfl rfl ?_
                        refine z_if_eq ZC 222 dX8_hour_199 (by decide) (by omega) (fun c_199 => ?_) (fun c_199 => ?_)
                        · skip
                          refine z_iinc ZC dX8_hour_222 rfl (by decide) ?_
                          refine z_goto ZC 152 dX8_hour_225 (by decide) ?_
                          refine z_ws (ws2 := [(h, .inr (8, [vZ (M4.2 0), .ref (a 1), .ref (a 2), vZ (M4.2 3), vZ (M4.2 4), .ref (a 5), .ref (a 6), .ref (a 7), .ref (a 8), .ref (a 9), .ref (a 10), .ref (a 11), vZ (M4.2 12), .ref (a 13), .ref (a 14), .ref (a 15), .ref (a 16), .ref (a 17), .ref (a 18), .ref (a 19), vZ (M4.2 20), vZ (M4.2 21), .ref (a 22), .ref (a 23), .ref (a 24), .ref (a 25), .ref (a 26), .ref (a 27), .ref (a 28), .ref (a 29), .ref (a 30), .ref (a 31), .ref (a 32), .ref (a 33), vZ (M4.2 34), .ref (a 35), vZ (M4.2 36), vZ (M4.2 37), vZ (M4.2 38), .ref (a 39), .ref (a 40), vZ (M4.2 41), vZ (M4.2 42), vZ (M4.2 43)])), ((a 1), .inl (K.1, 10, .inl (ar (M4.1 1)))), ((a 2), .inl (K.1, 10, .inl (ar (M4.1 2)))), ((a 5), .inl (K.1, 16, .inl (ar (M4.1 5)))), ((a 6), .inl (K.1, 16, .inl (ar (M4.1 6)))), ((a 7), .inl (K.1, 16, .inl (ar (M4.1 7)))), ((a 8), .inl (K.1, 16, .inl (ar (M4.1 8)))), ((a 9), .inl (K.1, 16, .inl (ar (M4.1 9)))), ((a 10), .inl (K.1, 16, .inl (ar (M4.1 10)))), ((a 11), .inl (K.1, 100, .inl (ar (M4.1 11)))), ((a 13), .inl (K.1, 8, .inl (ar (M4.1 13)))), ((a 14), .inl (K.1, 8, .inl (ar (M4.1 14)))), ((a 15), .inl (K.1, 8, .inl (ar (M4.1 15)))), ((a 16), .inl (K.1, 8, .inl (ar (M4.1 16)))), ((a 17), .inl (K.1, 3200, .inl (ar (M4.1 17)))), ((a 18), .inl (K.1, 3200, .inl (ar (M4.1 18)))), ((a 19), .inl (K.2.1, 3200, .inl (ar (M4.1 19)))), ((a 22), .inl (K.1, 3400, .inl (ar (M4.1 22)))), ((a 23), .inl (K.1, 3400, .inl (ar (M4.1 23)))), ((a 24), .inl (K.1, 3400, .inl (ar (M4.1 24)))), ((a 25), .inl (K.1, 3400, .inl (ar (M4.1 25)))), ((a 26), .inl (K.1, 32, .inl (ar (M4.1 26)))), ((a 27), .inl (K.1, 32, .inl (ar (M4.1 27)))), ((a 28), .inl (K.2.1, 8, .inl (ar (M4.1 28)))), ((a 29), .inl (K.1, 8, .inl (ar (M4.1 29)))), ((a 30), .inl (K.1, 8, .inl (ar (M4.1 30)))), ((a 31), .inl (K.1, 10, .inl (ar (M4.1 31)))), ((a 32), .inl (K.1, 10, .inl (ar (M4.1 32)))), ((a 33), .inl (K.1, 10, .inl (ar (M4.1 33)))), ((a 35), .inl (K.1, 13711, .inl (ar (M4.1 35)))), ((a 39), .inl (K.1, 4, .inl (ar (M4.1 39)))), ((a 40), .inl (K.1, 4, .inl (ar (M4.1 40))))]) rfl (z_lv (lv2 := [(0, .ref h), (1, vZ tl), (2, vZ (rr + 1))]) ⟨rfl, rfl, rfl, trivial⟩ ?_)
                          refine ih_152 (rr + 1) M4 (aOut1 Ne A4 rr) C4 ?_ ?_ ?_ ?_ ?_ ?_ ?_ ?_ (dec_lt hm_152 (by omega))
                          · skip
                            omega
                          · skip
                            exact md_out (md_ok0 f1) hk0
                          · skip
                            rw [aOut_next f0.1, ← f2]
                          · skip
                            exact f3
                          · skip
                            exact aok_out hcf f4 ⟨f0.1, by omega⟩ (by omega)
                          · skip
                            show M4.2 21 ≤ _
                            omega
                          · skip
                            exact f6
                          · skip
                            intro q; omega
                        · skip
                          omega
                      · skip
                        refine z_aload_n ZC 0 dX8_hour_182 rfl rfl ?_
                        refine z_get ZC inUX8 0 rfl rfl 18 (by decide) uF_X8_56 rfl dX8_hour_183 ?_
                        refine z_sipush ZC dX8_hour_186 (by decide) ?_
                        refine z_iload_n ZC 2 dX8_hour_189 rfl rfl ?_
                        refine z_imul ZC dX8_hour_190 ?_
                        refine z_aload_n ZC 0 dX8_hour_191 rfl rfl ?_
                        refine z_get ZC inUX8 0 rfl rfl 20 (by decide) uF_X8_129 rfl dX8_hour_192 ?_
                        refine z_iadd ZC dX8_hour_195 ?_
                        refine z_top (y := (200 * rr + A.2.1 0)) (by omega) ?_
                        refine z_iload_n ZC 3 dX8_hour_196 rfl rfl ?_
                        refine z_iast ZC 15 rfl dX8_hour_197 (by omega) ?_
                        refine z_iload_n ZC 1 dX8_hour_198 rfl rfl ?_
                        refine z_if_eq ZC 222 dX8_hour_199 (by decide) (by omega) (fun c_199 => ?_) (fun c_199 => ?_)
                        · skip
                          omega
                        · skip
                          refine z_aload_n ZC 0 dX8_hour_202 rfl rfl ?_
                          refine z_get ZC inUX8 0 rfl rfl 19 (by decide) uF_X8_59 rfl dX8_hour_203 ?_
                          refine z_sipush ZC dX8_hour_206 (by decide) ?_
                          refine z_iload_n ZC 2 dX8_hour_209 rfl rfl ?_
                          refine z_imul ZC dX8_hour_210 ?_
                          refine z_aload_n ZC 0 dX8_hour_211 rfl rfl ?_
                          refine z_get ZC inUX8 0 rfl rfl 20 (by decide) uF_X8_129 rfl dX8_hour_212 ?_
                          refine z_iadd ZC dX8_hour_215 ?_
                          refine z_top (y := (200 * rr + A.2.1 0)) (by omega) ?_
                          refine z_aload_n ZC 0 dX8_hour_216 rfl rfl ?_
                          refine z_iload_n ZC 2 dX8_hour_217 rfl rfl ?_
                          refine z_ws (ws2 := [(h, .inr (8, [vZ (M4.2 0), .ref (a 1), .ref (a 2), vZ (M4.2 3), vZ (M4.2 4), .ref (a 5), .ref (a 6), .ref (a 7), .ref (a 8), .ref (a 9), .ref (a 10), .ref (a 11), vZ (M4.2 12), .ref (a 13), .ref (a 14), .ref (a 15), .ref (a 16), .ref (a 17), .ref (a 18), .ref (a 19), vZ (M4.2 20), vZ (M4.2 21), .ref (a 22), .ref (a 23), .ref (a 24), .ref (a 25), .ref (a 26), .ref (a 27), .ref (a 28), .ref (a 29), .ref (a 30), .ref (a 31), .ref (a 32), .ref (a 33), vZ (M4.2 34), .ref (a 35), vZ (M4.2 36), vZ (M4.2 37), vZ (M4.2 38), .ref (a 39), .ref (a 40), vZ (M4.2 41), vZ (M4.2 42), vZ (M4.2 43)])), ((a 1), .inl (K.1, 10, .inl (ar (M4.1 1)))), ((a 2), .inl (K.1, 10, .inl (ar (M4.1 2)))), ((a 5), .inl (K.1, 16, .inl (ar (M4.1 5)))), ((a 6), .inl (K.1, 16, .inl (ar (M4.1 6)))), ((a 7), .inl (K.1, 16, .inl (ar (M4.1 7)))), ((a 8), .inl (K.1, 16, .inl (ar (M4.1 8)))), ((a 9), .inl (K.1, 16, .inl (ar (M4.1 9)))), ((a 10), .inl (K.1, 16, .inl (ar (M4.1 10)))), ((a 11), .inl (K.1, 100, .inl (ar (M4.1 11)))), ((a 13), .inl (K.1, 8, .inl (ar (M4.1 13)))), ((a 14), .inl (K.1, 8, .inl (ar (M4.1 14)))), ((a 15), .inl (K.1, 8, .inl (ar (M4.1 15)))), ((a 16), .inl (K.1, 8, .inl (ar (M4.1 16)))), ((a 17), .inl (K.1, 3200, .inl (ar (M4.1 17)))), ((a 18), .inl (K.1, 3200, .inl (ar (upz (M4.1 18) (200 * rr + A.2.1 0) 0)))), ((a 19), .inl (K.2.1, 3200, .inl (ar (M4.1 19)))), ((a 22), .inl (K.1, 3400, .inl (ar (M4.1 22)))), ((a 23), .inl (K.1, 3400, .inl (ar (M4.1 23)))), ((a 24), .inl (K.1, 3400, .inl (ar (M4.1 24)))), ((a 25), .inl (K.1, 3400, .inl (ar (M4.1 25)))), ((a 26), .inl (K.1, 32, .inl (ar (M4.1 26)))), ((a 27), .inl (K.1, 32, .inl (ar (M4.1 27)))), ((a 28), .inl (K.2.1, 8, .inl (ar (M4.1 28)))), ((a 29), .inl (K.1, 8, .inl (ar (M4.1 29)))), ((a 30), .inl (K.1, 8, .inl (ar (M4.1 30)))), ((a 31), .inl (K.1, 10, .inl (ar (M4.1 31)))), ((a 32), .inl (K.1, 10, .inl (ar (M4.1 32)))), ((a 33), .inl (K.1, 10, .inl (ar (M4.1 33)))), ((a 35), .inl (K.1, 13711, .inl (ar (M4.1 35)))), ((a 39), .inl (K.1, 4, .inl (ar (M4.1 39)))), ((a 40), .inl (K.1, 4, .inl (ar (M4.1 40))))]) rfl ?_
                          have hy_hz_r_218_1 : -2147483648 ≤ rr ∧ rr < 2147483648 := by omega
                          have hy_hn8_218_1 : 0 ≤ (M4.2 20) ∧ (M4.2 20) ≤ 200 := by show 0 ≤ M4.2 20 ∧ M4.2 20 ≤ 200; omega
                          have hy_hr16_218_1 : 0 ≤ rr ∧ rr < 16 := by omega
                          have hy_hsh_218_1 : (0 ≤ (M4.1 9) rr ∧ (M4.1 9) rr < 2147483648) ∧ (0 ≤ (M4.1 10) rr ∧ (M4.1 10) rr < 2147483648) := by show (0 ≤ M4.1 9 rr ∧ M4.1 9 rr < 2147483648) ∧ (0 ≤ M4.1 10 rr ∧ M4.1 10 rr < 2147483648); omega
                          refine z_callV ZC 1 (c_X8_isShut zl D K h a ((upf M4.1 18 (upz (M4.1 18) (200 * rr + A.2.1 0) 0)), M4.2) rr (hy_hz_r_218_1) (hy_hn8_218_1) (hy_hr16_218_1) (hy_hsh_218_1)) (gdV uM_X8_170 uI_X8_isShut uS_X8_isShut uN_X8 uC_X8_isShut) (by decide +kernel) rfl ⟨by omega, by omega⟩ ⟨by omega, by omega⟩ (Nat.le_of_ble_eq_true rfl) [0, 1, 2, 3, 4, 5, 6, 7, 8, 9, 10, 11, 12, 13, 14, 15, 16, 17, 18, 19, 20, 21, 22, 23, 24, 25, 26, 27, 28, 29, 30, 31] rfl (by decide) rfl rfl rfl rfl dX8_hour_218 (fun r w2 gc_218_1 gs_218_1 hp => ?_)
                          obtain ⟨v_218_1, rfl, rfl, rfl, rfl, hb_218_1⟩ := hp
                          have hb_218_1 : (v_218_1 = 1 ∧ ((M4.1 9) rr ≤ (M4.2 20) ∧ (M4.2 20) < (M4.1 10) rr)) ∨ (v_218_1 = 0 ∧ ¬ ((M4.1 9) rr ≤ (M4.2 20) ∧ (M4.2 20) < (M4.1 10) rr)) := hb_218_1
                          refine z_top (y := v_218_1) rfl ?_
                          refine z_ws (ws2 := [(h, .inr (8, [vZ (M4.2 0), .ref (a 1), .ref (a 2), vZ (M4.2 3), vZ (M4.2 4), .ref (a 5), .ref (a 6), .ref (a 7), .ref (a 8), .ref (a 9), .ref (a 10), .ref (a 11), vZ (M4.2 12), .ref (a 13), .ref (a 14), .ref (a 15), .ref (a 16), .ref (a 17), .ref (a 18), .ref (a 19), vZ (M4.2 20), vZ (M4.2 21), .ref (a 22), .ref (a 23), .ref (a 24), .ref (a 25), .ref (a 26), .ref (a 27), .ref (a 28), .ref (a 29), .ref (a 30), .ref (a 31), .ref (a 32), .ref (a 33), vZ (M4.2 34), .ref (a 35), vZ (M4.2 36), vZ (M4.2 37), vZ (M4.2 38), .ref (a 39), .ref (a 40), vZ (M4.2 41), vZ (M4.2 42), vZ (M4.2 43)])), ((a 1), .inl (K.1, 10, .inl (ar (M4.1 1)))), ((a 2), .inl (K.1, 10, .inl (ar (M4.1 2)))), ((a 5), .inl (K.1, 16, .inl (ar (M4.1 5)))), ((a 6), .inl (K.1, 16, .inl (ar (M4.1 6)))), ((a 7), .inl (K.1, 16, .inl (ar (M4.1 7)))), ((a 8), .inl (K.1, 16, .inl (ar (M4.1 8)))), ((a 9), .inl (K.1, 16, .inl (ar (M4.1 9)))), ((a 10), .inl (K.1, 16, .inl (ar (M4.1 10)))), ((a 11), .inl (K.1, 100, .inl (ar (M4.1 11)))), ((a 13), .inl (K.1, 8, .inl (ar (M4.1 13)))), ((a 14), .inl (K.1, 8, .inl (ar (M4.1 14)))), ((a 15), .inl (K.1, 8, .inl (ar (M4.1 15)))), ((a 16), .inl (K.1, 8, .inl (ar (M4.1 16)))), ((a 17), .inl (K.1, 3200, .inl (ar (M4.1 17)))), ((a 18), .inl (K.1, 3200, .inl (ar (upz (M4.1 18) (200 * rr + A.2.1 0) 0)))), ((a 19), .inl (K.2.1, 3200, .inl (ar (M4.1 19)))), ((a 22), .inl (K.1, 3400, .inl (ar (M4.1 22)))), ((a 23), .inl (K.1, 3400, .inl (ar (M4.1 23)))), ((a 24), .inl (K.1, 3400, .inl (ar (M4.1 24)))), ((a 25), .inl (K.1, 3400, .inl (ar (M4.1 25)))), ((a 26), .inl (K.1, 32, .inl (ar (M4.1 26)))), ((a 27), .inl (K.1, 32, .inl (ar (M4.1 27)))), ((a 28), .inl (K.2.1, 8, .inl (ar (M4.1 28)))), ((a 29), .inl (K.1, 8, .inl (ar (M4.1 29)))), ((a 30), .inl (K.1, 8, .inl (ar (M4.1 30)))), ((a 31), .inl (K.1, 10, .inl (ar (M4.1 31)))), ((a 32), .inl (K.1, 10, .inl (ar (M4.1 32)))), ((a 33), .inl (K.1, 10, .inl (ar (M4.1 33)))), ((a 35), .inl (K.1, 13711, .inl (ar (M4.1 35)))), ((a 39), .inl (K.1, 4, .inl (ar (M4.1 39)))), ((a 40), .inl (K.1, 4, .inl (ar (M4.1 40))))]) rfl ?_
                          refine z_st (st2 := [vZ v_218_1, vZ (200 * rr + A.2.1 0), .ref (a 19)]) rfl ?_
                          refine z_zast ZC 16 rfl dX8_hour_221 (by omega) (by omega) ?_
                          refine z_iinc ZC dX8_hour_222 rfl (by decide) ?_
                          refine z_goto ZC 152 dX8_hour_225 (by decide) ?_
                          refine z_ws (ws2 := [(h, .inr (8, [vZ (M4.2 0), .ref (a 1), .ref (a 2), vZ (M4.2 3), vZ (M4.2 4), .ref (a 5), .ref (a 6), .ref (a 7), .ref (a 8), .ref (a 9), .ref (a 10), .ref (a 11), vZ (M4.2 12), .ref (a 13), .ref (a 14), .ref (a 15), .ref (a 16), .ref (a 17), .ref (a 18), .ref (a 19), vZ (M4.2 20), vZ (M4.2 21), .ref (a 22), .ref (a 23), .ref (a 24), .ref (a 25), .ref (a 26), .ref (a 27), .ref (a 28), .ref (a 29), .ref (a 30), .ref (a 31), .ref (a 32), .ref (a 33), vZ (M4.2 34), .ref (a 35), vZ (M4.2 36), vZ (M4.2 37), vZ (M4.2 38), .ref (a 39), .ref (a 40), vZ (M4.2 41), vZ (M4.2 42), vZ (M4.2 43)])), ((a 1), .inl (K.1, 10, .inl (ar (M4.1 1)))), ((a 2), .inl (K.1, 10, .inl (ar (M4.1 2)))), ((a 5), .inl (K.1, 16, .inl (ar (M4.1 5)))), ((a 6), .inl (K.1, 16, .inl (ar (M4.1 6)))), ((a 7), .inl (K.1, 16, .inl (ar (M4.1 7)))), ((a 8), .inl (K.1, 16, .inl (ar (M4.1 8)))), ((a 9), .inl (K.1, 16, .inl (ar (M4.1 9)))), ((a 10), .inl (K.1, 16, .inl (ar (M4.1 10)))), ((a 11), .inl (K.1, 100, .inl (ar (M4.1 11)))), ((a 13), .inl (K.1, 8, .inl (ar (M4.1 13)))), ((a 14), .inl (K.1, 8, .inl (ar (M4.1 14)))), ((a 15), .inl (K.1, 8, .inl (ar (M4.1 15)))), ((a 16), .inl (K.1, 8, .inl (ar (M4.1 16)))), ((a 17), .inl (K.1, 3200, .inl (ar (M4.1 17)))), ((a 18), .inl (K.1, 3200, .inl (ar (upz (M4.1 18) (200 * rr + A.2.1 0) 0)))), ((a 19), .inl (K.2.1, 3200, .inl (ar (upz (M4.1 19) (200 * rr + A.2.1 0) v_218_1)))), ((a 22), .inl (K.1, 3400, .inl (ar (M4.1 22)))), ((a 23), .inl (K.1, 3400, .inl (ar (M4.1 23)))), ((a 24), .inl (K.1, 3400, .inl (ar (M4.1 24)))), ((a 25), .inl (K.1, 3400, .inl (ar (M4.1 25)))), ((a 26), .inl (K.1, 32, .inl (ar (M4.1 26)))), ((a 27), .inl (K.1, 32, .inl (ar (M4.1 27)))), ((a 28), .inl (K.2.1, 8, .inl (ar (M4.1 28)))), ((a 29), .inl (K.1, 8, .inl (ar (M4.1 29)))), ((a 30), .inl (K.1, 8, .inl (ar (M4.1 30)))), ((a 31), .inl (K.1, 10, .inl (ar (M4.1 31)))), ((a 32), .inl (K.1, 10, .inl (ar (M4.1 32)))), ((a 33), .inl (K.1, 10, .inl (ar (M4.1 33)))), ((a 35), .inl (K.1, 13711, .inl (ar (M4.1 35)))), ((a 39), .inl (K.1, 4, .inl (ar (M4.1 39)))), ((a 40), .inl (K.1, 4, .inl (ar (M4.1 40))))]) rfl (z_lv (lv2 := [(0, .ref h), (1, vZ tl), (2, vZ (rr + 1))]) ⟨rfl, rfl, rfl, trivial⟩ ?_)
                          refine ih_152 (rr + 1) ((upf (upf M4.1 18 (upz (M4.1 18) (200 * rr + A.2.1 0) 0)) 19 (upz (M4.1 19) (200 * rr + A.2.1 0) v_218_1)), M4.2) (aOut1 Ne A4 rr) C4 ?_ ?_ ?_ ?_ ?_ ?_ ?_ ?_ (dec_lt hm_152 (by omega))
                          · skip
                            omega
                          · skip
                            exact md_out (md_ok0 f1) hk0
                          · skip
                            rw [aOut_next f0.1, ← f2]
                          · skip
                            exact KP.trans f3 (show KP [18, 19, 22, 23, 24, 25, 26, 27, 28, 29, 30] [21] M4 _ from ⟨fun k hk => (upf_out hk rfl).trans (upf_out hk rfl), fun k hk => rfl⟩) rfl rfl rfl rfl
                          · skip
                            exact aok_out hcf f4 ⟨f0.1, by omega⟩ (by omega)
                          · skip
                            show M4.2 21 ≤ _
                            omega
                          · skip
                            intro q; omega
                          · skip
                            intro q0
                            refine ⟨fun q q1 q2 => ?_, fun x hx => ?_⟩
                            · show upz (M4.1 18) (200 * rr + A.2.1 0) 0 (200 * q + A.2.1 0) = _ ∧ upz (M4.1 19) (200 * rr + A.2.1 0) v_218_1 (200 * q + A.2.1 0) = _
                              by_cases z : q = rr
                              · rw [z, upz_self, upz_self]
                                refine ⟨by rw [hk1]; rfl, ?_⟩
                                rcases hb_218_1 with z2 | z2
                                · rw [if_pos (by omega)]; exact z2.1
                                · rw [if_neg (by omega)]; exact z2.1
                              · rw [upz_ne _ _ (by omega), upz_ne _ _ (by omega)]
                                skip
                                exact (f7 (by omega)).1 q q1 (by omega)
                            · show upz (M4.1 18) (200 * rr + A.2.1 0) 0 x = _ ∧ upz (M4.1 19) (200 * rr + A.2.1 0) v_218_1 x = _
                              rw [upz_ne _ _ (hx rr f0.1 (by omega)), upz_ne _ _ (hx rr f0.1 (by omega))]
                              skip
                              exact (f7 (by omega)).2 x (fun q q1 q2 => hx q q1 (by omega))
              refine z_ws (ws2 := [(h, .inr (8, [vZ (M3.2 0), .ref (a 1), .ref (a 2), vZ (M3.2 3), vZ (M3.2 4), .ref (a 5), .ref (a 6), .ref (a 7), .ref (a 8), .ref (a 9), .ref (a 10), .ref (a 11), vZ (M3.2 12), .ref (a 13), .ref (a 14), .ref (a 15), .ref (a 16), .ref (a 17), .ref (a 18), .ref (a 19), vZ (M3.2 20), vZ (M3.2 21), .ref (a 22), .ref (a 23), .ref (a 24), .ref (a 25), .ref (a 26), .ref (a 27), .ref (a 28), .ref (a 29), .ref (a 30), .ref (a 31), .ref (a 32), .ref (a 33), vZ (M3.2 34), .ref (a 35), vZ (M3.2 36), vZ (M3.2 37), vZ (M3.2 38), .ref (a 39), .ref (a 40), vZ (M3.2 41), vZ (M3.2 42), vZ (M3.2 43)])), ((a 1), .inl (K.1, 10, .inl (ar (M3.1 1)))), ((a 2), .inl (K.1, 10, .inl (ar (M3.1 2)))), ((a 5), .inl (K.1, 16, .inl (ar (M3.1 5)))), ((a 6), .inl (K.1, 16, .inl (ar (M3.1 6)))), ((a 7), .inl (K.1, 16, .inl (ar (M3.1 7)))), ((a 8), .inl (K.1, 16, .inl (ar (M3.1 8)))), ((a 9), .inl (K.1, 16, .inl (ar (M3.1 9)))), ((a 10), .inl (K.1, 16, .inl (ar (M3.1 10)))), ((a 11), .inl (K.1, 100, .inl (ar (M3.1 11)))), ((a 13), .inl (K.1, 8, .inl (ar (M3.1 13)))), ((a 14), .inl (K.1, 8, .inl (ar (M3.1 14)))), ((a 15), .inl (K.1, 8, .inl (ar (M3.1 15)))), ((a 16), .inl (K.1, 8, .inl (ar (M3.1 16)))), ((a 17), .inl (K.1, 3200, .inl (ar (M3.1 17)))), ((a 18), .inl (K.1, 3200, .inl (ar (M3.1 18)))), ((a 19), .inl (K.2.1, 3200, .inl (ar (M3.1 19)))), ((a 22), .inl (K.1, 3400, .inl (ar (M3.1 22)))), ((a 23), .inl (K.1, 3400, .inl (ar (M3.1 23)))), ((a 24), .inl (K.1, 3400, .inl (ar (M3.1 24)))), ((a 25), .inl (K.1, 3400, .inl (ar (M3.1 25)))), ((a 26), .inl (K.1, 32, .inl (ar (M3.1 26)))), ((a 27), .inl (K.1, 32, .inl (ar (M3.1 27)))), ((a 28), .inl (K.2.1, 8, .inl (ar (M3.1 28)))), ((a 29), .inl (K.1, 8, .inl (ar (M3.1 29)))), ((a 30), .inl (K.1, 8, .inl (ar (M3.1 30)))), ((a 31), .inl (K.1, 10, .inl (ar (M3.1 31)))), ((a 32), .inl (K.1, 10, .inl (ar (M3.1 32)))), ((a 33), .inl (K.1, 10, .inl (ar (M3.1 33)))), ((a 35), .inl (K.1, 13711, .inl (ar (M3.1 35)))), ((a 39), .inl (K.1, 4, .inl (ar (M3.1 39)))), ((a 40), .inl (K.1, 4, .inl (ar (M3.1 40))))]) rfl (z_lv (lv2 := [(0, .ref h), (1, vZ tl), (2, vZ 0)]) ⟨rfl, rfl, rfl, trivial⟩ ?_)
              refine lp_152 _ 0 M3 A3 C3 ?_ ?_ ?_ ?_ ?_ ?_ ?_ ?_ (Nat.lt_succ_self _)
              · skip
                omega
              · skip
                exact g1
              · skip
                rw [show Cr.2 3 = c by omega]; exact g2
              · skip
                exact KP.trans g3 (KP.refl [] [] _) rfl rfl rfl rfl
              · skip
                exact g4
              · skip
                rw [show Cr.2 3 = c by omega, ← g2]; omega
              · skip
                intro _; exact ⟨g3.1 18 rfl, g3.1 19 rfl⟩
              · skip
                intro _; exact ⟨fun q q1 q2 => by omega, fun x _ => by rw [g3.1 18 rfl, g3.1 19 rfl]; exact ⟨rfl, rfl⟩⟩
            · skip
              have hms3 : MS To Ne Cr M3 := ms_keep hms g3 rfl rfl
              have hmcc := hms3.2.2.2 c g0.1 (by omega)
              have hof := g1.2.2.1 c g0.1 (by omega)
              have hoo := (g4.2 c g0.1 (by omega)).2.2.1
              have e16 : M3.1 16 c = A.1 0 c := by rw [g3.1 16 rfl]; exact hmx.2.1 c g0.1 (by omega)
              have e20b : M3.2 20 = A.2.1 0 := (g3.2 20 rfl).trans e20
              have eA0 : A3.1 0 c = A.1 0 c ∧ A3.2.1 0 = A.2.1 0 := by
                rw [g2, (aLet_keep Ne Cr _ _).2.1, (aLet_keep Ne Cr _ _).1, (aCome_keep Ne Cr A _).2.1, (aCome_keep Ne Cr A _).1]; exact ⟨rfl, rfl⟩
              have hlg := (hab.2.2.1 c g0.1 (by omega)).1
              have hoc3 := oc_rng hcf g4
              have hcc := hcf.2.2.2.1 c g0.1 (by omega)
              refine z_aload_n ZC 0 dX8_hour_81 rfl rfl ?_
              refine z_get ZC inUX8 0 rfl rfl 28 (by decide) uF_X8_81 rfl dX8_hour_82 ?_
              refine z_iload_n ZC 2 dX8_hour_85 rfl rfl ?_
              refine z_zald ZC 23 rfl dX8_hour_86 (by omega) ?_
              refine z_if_ne ZC 144 dX8_hour_87 (by decide) (by omega) (fun c_87 => ?_) (fun c_87 => ?_)
              · skip
                refine z_iinc ZC dX8_hour_144 rfl (by decide) ?_
                refine z_goto ZC 73 dX8_hour_147 (by decide) ?_
                refine z_ws (ws2 := [(h, .inr (8, [vZ (M3.2 0), .ref (a 1), .ref (a 2), vZ (M3.2 3), vZ (M3.2 4), .ref (a 5), .ref (a 6), .ref (a 7), .ref (a 8), .ref (a 9), .ref (a 10), .ref (a 11), vZ (M3.2 12), .ref (a 13), .ref (a 14), .ref (a 15), .ref (a 16), .ref (a 17), .ref (a 18), .ref (a 19), vZ (M3.2 20), vZ (M3.2 21), .ref (a 22), .ref (a 23), .ref (a 24), .ref (a 25), .ref (a 26), .ref (a 27), .ref (a 28), .ref (a 29), .ref (a 30), .ref (a 31), .ref (a 32), .ref (a 33), vZ (M3.2 34), .ref (a 35), vZ (M3.2 36), vZ (M3.2 37), vZ (M3.2 38), .ref (a 39), .ref (a 40), vZ (M3.2 41), vZ (M3.2 42), vZ (M3.2 43)])), ((a 1), .inl (K.1, 10, .inl (ar (M3.1 1)))), ((a 2), .inl (K.1, 10, .inl (ar (M3.1 2)))), ((a 5), .inl (K.1, 16, .inl (ar (M3.1 5)))), ((a 6), .inl (K.1, 16, .inl (ar (M3.1 6)))), ((a 7), .inl (K.1, 16, .inl (ar (M3.1 7)))), ((a 8), .inl (K.1, 16, .inl (ar (M3.1 8)))), ((a 9), .inl (K.1, 16, .inl (ar (M3.1 9)))), ((a 10), .inl (K.1, 16, .inl (ar (M3.1 10)))), ((a 11), .inl (K.1, 100, .inl (ar (M3.1 11)))), ((a 13), .inl (K.1, 8, .inl (ar (M3.1 13)))), ((a 14), .inl (K.1, 8, .inl (ar (M3.1 14)))), ((a 15), .inl (K.1, 8, .inl (ar (M3.1 15)))), ((a 16), .inl (K.1, 8, .inl (ar (M3.1 16)))), ((a 17), .inl (K.1, 3200, .inl (ar (M3.1 17)))), ((a 18), .inl (K.1, 3200, .inl (ar (M3.1 18)))), ((a 19), .inl (K.2.1, 3200, .inl (ar (M3.1 19)))), ((a 22), .inl (K.1, 3400, .inl (ar (M3.1 22)))), ((a 23), .inl (K.1, 3400, .inl (ar (M3.1 23)))), ((a 24), .inl (K.1, 3400, .inl (ar (M3.1 24)))), ((a 25), .inl (K.1, 3400, .inl (ar (M3.1 25)))), ((a 26), .inl (K.1, 32, .inl (ar (M3.1 26)))), ((a 27), .inl (K.1, 32, .inl (ar (M3.1 27)))), ((a 28), .inl (K.2.1, 8, .inl (ar (M3.1 28)))), ((a 29), .inl (K.1, 8, .inl (ar (M3.1 29)))), ((a 30), .inl (K.1, 8, .inl (ar (M3.1 30)))), ((a 31), .inl (K.1, 10, .inl (ar (M3.1 31)))), ((a 32), .inl (K.1, 10, .inl (ar (M3.1 32)))), ((a 33), .inl (K.1, 10, .inl (ar (M3.1 33)))), ((a 35), .inl (K.1, 13711, .inl (ar (M3.1 35)))), ((a 39), .inl (K.1, 4, .inl (ar (M3.1 39)))), ((a 40), .inl (K.1, 4, .inl (ar (M3.1 40))))]) rfl (z_lv (lv2 := [(0, .ref h), (1, vZ tl), (2, vZ (c + 1))]) ⟨rfl, rfl, rfl, trivial⟩ ?_)
                refine ih_73 (c + 1) M3 A3 C3 ?_ ?_ ?_ ?_ ?_ ?_ (dec_lt hm_73 (by omega))
                · skip
                  omega
                · skip
                  exact g1
                · skip
                  rw [aLet_next g0.1, ← g2]
                  exact (if_neg (fun q => by omega)).symm
                · skip
                  exact g3
                · skip
                  exact g4
                · skip
                  exact g5
              · skip
                refine z_aload_n ZC 0 dX8_hour_90 rfl rfl ?_
                refine z_get ZC inUX8 0 rfl rfl 16 (by decide) uF_X8_50 rfl dX8_hour_91 ?_
                refine z_iload_n ZC 2 dX8_hour_94 rfl rfl ?_
                refine z_iald ZC 13 rfl dX8_hour_95 (by omega) ?_
                refine z_aload_n ZC 0 dX8_hour_96 rfl rfl ?_
                refine z_get ZC inUX8 0 rfl rfl 20 (by decide) uF_X8_129 rfl dX8_hour_97 ?_
                refine z_icmp_eq ZC 106 dX8_hour_100 (by decide) (by omega) (by omega) (fun c_100 => ?_) (fun c_100 => ?_)
                · skip
                  obtain ⟨w1, w2, w3⟩ := cfg_way0 hcf g0.1 (by omega)
                  have hta := mo_ta g1.1 (k := (aWay Ne Cr (Cr.1 0 c) c)) (by omega)
                  have hus3 := mo_us g1.1
                  refine z_aload_n ZC 0 dX8_hour_106 rfl rfl ?_
                  refine z_get ZC inUX8 0 rfl rfl 28 (by decide) uF_X8_81 rfl dX8_hour_107 ?_
                  refine z_iload_n ZC 2 dX8_hour_110 rfl rfl ?_
                  refine z_iconst ZC dX8_hour_111 ?_
                  refine z_zast ZC 23 rfl dX8_hour_112 (by omega) (by omega) ?_
                  refine z_aload_n ZC 0 dX8_hour_113 rfl rfl ?_
                  refine z_aload_n ZC 0 dX8_hour_114 rfl rfl ?_
                  refine z_aload_n ZC 0 dX8_hour_115 rfl rfl ?_
                  refine z_get ZC inUX8 0 rfl rfl 13 (by decide) uF_X8_41 rfl dX8_hour_116 ?_
                  refine z_iload_n ZC 2 dX8_hour_119 rfl rfl ?_
                  refine z_iald ZC 10 rfl dX8_hour_120 (by omega) ?_
                  refine z_top (y := (Cr.1 0 c)) (hmcc.1) ?_
                  refine z_aload_n ZC 0 dX8_hour_121 rfl rfl ?_
                  refine z_get ZC inUX8 0 rfl rfl 15 (by decide) uF_X8_47 rfl dX8_hour_122 ?_
                  refine z_iload_n ZC 2 dX8_hour_125 rfl rfl ?_
                  refine z_iald ZC 12 rfl dX8_hour_126 (by omega) ?_
                  refine z_top (y := (Cr.1 2 c)) (hmcc.2.2) ?_
                  refine z_ws (ws2 := [(h, .inr (8, [vZ (M3.2 0), .ref (a 1), .ref (a 2), vZ (M3.2 3), vZ (M3.2 4), .ref (a 5), .ref (a 6), .ref (a 7), .ref (a 8), .ref (a 9), .ref (a 10), .ref (a 11), vZ (M3.2 12), .ref (a 13), .ref (a 14), .ref (a 15), .ref (a 16), .ref (a 17), .ref (a 18), .ref (a 19), vZ (M3.2 20), vZ (M3.2 21), .ref (a 22), .ref (a 23), .ref (a 24), .ref (a 25), .ref (a 26), .ref (a 27), .ref (a 28), .ref (a 29), .ref (a 30), .ref (a 31), .ref (a 32), .ref (a 33), vZ (M3.2 34), .ref (a 35), vZ (M3.2 36), vZ (M3.2 37), vZ (M3.2 38), .ref (a 39), .ref (a 40), vZ (M3.2 41), vZ (M3.2 42), vZ (M3.2 43)])), ((a 1), .inl (K.1, 10, .inl (ar (M3.1 1)))), ((a 2), .inl (K.1, 10, .inl (ar (M3.1 2)))), ((a 5), .inl (K.1, 16, .inl (ar (M3.1 5)))), ((a 6), .inl (K.1, 16, .inl (ar (M3.1 6)))), ((a 7), .inl (K.1, 16, .inl (ar (M3.1 7)))), ((a 8), .inl (K.1, 16, .inl (ar (M3.1 8)))), ((a 9), .inl (K.1, 16, .inl (ar (M3.1 9)))), ((a 10), .inl (K.1, 16, .inl (ar (M3.1 10)))), ((a 11), .inl (K.1, 100, .inl (ar (M3.1 11)))), ((a 13), .inl (K.1, 8, .inl (ar (M3.1 13)))), ((a 14), .inl (K.1, 8, .inl (ar (M3.1 14)))), ((a 15), .inl (K.1, 8, .inl (ar (M3.1 15)))), ((a 16), .inl (K.1, 8, .inl (ar (M3.1 16)))), ((a 17), .inl (K.1, 3200, .inl (ar (M3.1 17)))), ((a 18), .inl (K.1, 3200, .inl (ar (M3.1 18)))), ((a 19), .inl (K.2.1, 3200, .inl (ar (M3.1 19)))), ((a 22), .inl (K.1, 3400, .inl (ar (M3.1 22)))), ((a 23), .inl (K.1, 3400, .inl (ar (M3.1 23)))), ((a 24), .inl (K.1, 3400, .inl (ar (M3.1 24)))), ((a 25), .inl (K.1, 3400, .inl (ar (M3.1 25)))), ((a 26), .inl (K.1, 32, .inl (ar (M3.1 26)))), ((a 27), .inl (K.1, 32, .inl (ar (M3.1 27)))), ((a 28), .inl (K.2.1, 8, .inl (ar (upz (M3.1 28) c 1)))), ((a 29), .inl (K.1, 8, .inl (ar (M3.1 29)))), ((a 30), .inl (K.1, 8, .inl (ar (M3.1 30)))), ((a 31), .inl (K.1, 10, .inl (ar (M3.1 31)))), ((a 32), .inl (K.1, 10, .inl (ar (M3.1 32)))), ((a 33), .inl (K.1, 10, .inl (ar (M3.1 33)))), ((a 35), .inl (K.1, 13711, .inl (ar (M3.1 35)))), ((a 39), .inl (K.1, 4, .inl (ar (M3.1 39)))), ((a 40), .inl (K.1, 4, .inl (ar (M3.1 40))))]) rfl ?_
                  have hy_hr8_127_0 : 0 ≤ (M3.2 4) ∧ (M3.2 4) ≤ 16 := by show 0 ≤ M3.2 4 ∧ M3.2 4 ≤ 16; have := g3.2 4 rfl; omega
                  have hy_hmn_127_0 : MSn Ne ((upf M3.1 28 (upz (M3.1 28) c 1)), M3.2) := hms3.2.1
                  have hy_hnw_127_0 : NW Ne := hnw
                  have hy_hrv_127_0 : RV (Ne.1 0) (Ne.1 1) (Ne.1 3) (Ne.2 8) := cfg_rv hcf
                  have hy_ha_127_0 : 0 ≤ (Cr.1 0 c) ∧ (Cr.1 0 c) < 10 := hcc.1
                  have hy_hw_127_0 : 0 ≤ (Cr.1 2 c) ∧ (Cr.1 2 c) < 10 := hcc.2.1
                  have hy_hne_127_0 : (Cr.1 0 c) ≠ (Cr.1 2 c) := hcc.2.2.1
                  have hy_hfi_127_0 : Ne.1 6 ((Cr.1 0 c) * 10 + (Cr.1 2 c)) ≠ -1 := hcc.2.2.2.2
                  refine z_callV ZC 2 (c_X8_way zl D K h a ((upf M3.1 28 (upz (M3.1 28) c 1)), M3.2) Ne (Cr.1 0 c) (Cr.1 2 c) (hy_hr8_127_0) (hy_hmn_127_0) (hy_hnw_127_0) (hy_hrv_127_0) (hy_ha_127_0) (hy_hw_127_0) (hy_hne_127_0) (hy_hfi_127_0)) (gdV uM_X8_151 uI_X8_way uS_X8_way uN_X8 uC_X8_way) (by decide +kernel) rfl ⟨by omega, by omega⟩ ⟨by omega, by omega⟩ (Nat.le_of_ble_eq_true rfl) [0, 1, 2, 3, 4, 5, 6, 7, 8, 9, 10, 11, 12, 13, 14, 15, 16, 17, 18, 19, 20, 21, 22, 23, 24, 25, 26, 27, 28, 29, 30, 31] rfl (by decide) rfl rfl rfl rfl dX8_hour_127 (fun r w2 gc_127 gs_127 hp => ?_)
                  obtain ⟨rfl, rfl, rfl, rfl⟩ := hp
                  refine z_top (y := (Ne.1 7 ((Cr.1 0 c) * 10 + (Cr.1 2 c)))) rfl ?_
                  refine z_ws (ws2 := [(h, .inr (8, [vZ (M3.2 0), .ref (a 1), .ref (a 2), vZ (M3.2 3), vZ (M3.2 4), .ref (a 5), .ref (a 6), .ref (a 7), .ref (a 8), .ref (a 9), .ref (a 10), .ref (a 11), vZ (M3.2 12), .ref (a 13), .ref (a 14), .ref (a 15), .ref (a 16), .ref (a 17), .ref (a 18), .ref (a 19), vZ (M3.2 20), vZ (M3.2 21), .ref (a 22), .ref (a 23), .ref (a 24), .ref (a 25), .ref (a 26), .ref (a 27), .ref (a 28), .ref (a 29), .ref (a 30), .ref (a 31), .ref (a 32), .ref (a 33), vZ (M3.2 34), .ref (a 35), vZ (M3.2 36), vZ (M3.2 37), vZ (M3.2 38), .ref (a 39), .ref (a 40), vZ (M3.2 41), vZ (M3.2 42), vZ (M3.2 43)])), ((a 1), .inl (K.1, 10, .inl (ar (M3.1 1)))), ((a 2), .inl (K.1, 10, .inl (ar (M3.1 2)))), ((a 5), .inl (K.1, 16, .inl (ar (M3.1 5)))), ((a 6), .inl (K.1, 16, .inl (ar (M3.1 6)))), ((a 7), .inl (K.1, 16, .inl (ar (M3.1 7)))), ((a 8), .inl (K.1, 16, .inl (ar (M3.1 8)))), ((a 9), .inl (K.1, 16, .inl (ar (M3.1 9)))), ((a 10), .inl (K.1, 16, .inl (ar (M3.1 10)))), ((a 11), .inl (K.1, 100, .inl (ar (M3.1 11)))), ((a 13), .inl (K.1, 8, .inl (ar (M3.1 13)))), ((a 14), .inl (K.1, 8, .inl (ar (M3.1 14)))), ((a 15), .inl (K.1, 8, .inl (ar (M3.1 15)))), ((a 16), .inl (K.1, 8, .inl (ar (M3.1 16)))), ((a 17), .inl (K.1, 3200, .inl (ar (M3.1 17)))), ((a 18), .inl (K.1, 3200, .inl (ar (M3.1 18)))), ((a 19), .inl (K.2.1, 3200, .inl (ar (M3.1 19)))), ((a 22), .inl (K.1, 3400, .inl (ar (M3.1 22)))), ((a 23), .inl (K.1, 3400, .inl (ar (M3.1 23)))), ((a 24), .inl (K.1, 3400, .inl (ar (M3.1 24)))), ((a 25), .inl (K.1, 3400, .inl (ar (M3.1 25)))), ((a 26), .inl (K.1, 32, .inl (ar (M3.1 26)))), ((a 27), .inl (K.1, 32, .inl (ar (M3.1 27)))), ((a 28), .inl (K.2.1, 8, .inl (ar (upz (M3.1 28) c 1)))), ((a 29), .inl (K.1, 8, .inl (ar (M3.1 29)))), ((a 30), .inl (K.1, 8, .inl (ar (M3.1 30)))), ((a 31), .inl (K.1, 10, .inl (ar (M3.1 31)))), ((a 32), .inl (K.1, 10, .inl (ar (M3.1 32)))), ((a 33), .inl (K.1, 10, .inl (ar (M3.1 33)))), ((a 35), .inl (K.1, 13711, .inl (ar (M3.1 35)))), ((a 39), .inl (K.1, 4, .inl (ar (M3.1 39)))), ((a 40), .inl (K.1, 4, .inl (ar (M3.1 40))))]) rfl ?_
                  refine z_st (st2 := [vZ (Ne.1 7 ((Cr.1 0 c) * 10 + (Cr.1 2 c))), .ref h]) rfl ?_
                  refine z_top (y := (aWay Ne Cr (Cr.1 0 c) c)) (rfl) ?_
                  refine z_aload_n ZC 0 dX8_hour_130 rfl rfl ?_
                  refine z_iload_n ZC 2 dX8_hour_131 rfl rfl ?_
                  refine z_aload_n ZC 0 dX8_hour_132 rfl rfl ?_
                  refine z_get ZC inUX8 0 rfl rfl 14 (by decide) uF_X8_44 rfl dX8_hour_133 ?_
                  refine z_iload_n ZC 2 dX8_hour_136 rfl rfl ?_
                  refine z_iald ZC 11 rfl dX8_hour_137 (by omega) ?_
                  refine z_top (y := (Cr.1 1 c)) (hmcc.2.1) ?_
                  have hy_hus_138_0 : 0 ≤ (M3.2 21) ∧ (M3.2 21) < 3400 := by show 0 ≤ M3.2 21 ∧ M3.2 21 < 3400; omega
                  refine z_callV ZC 2 (c_X8_newLump zl D K h a ((upf M3.1 28 (upz (M3.1 28) c 1)), M3.2) c (Cr.1 1 c) (hy_hus_138_0)) (gdV uM_X8_158 uI_X8_newLump uS_X8_newLump uN_X8 uC_X8_newLump) (by decide +kernel) rfl ⟨by omega, by omega⟩ ⟨by omega, by omega⟩ (Nat.le_of_ble_eq_true rfl) [0, 1, 2, 3, 4, 5, 6, 7, 8, 9, 10, 11, 12, 13, 14, 15, 16, 17, 18, 19, 20, 21, 22, 23, 24, 25, 26, 27, 28, 29, 30, 31] rfl (by decide) rfl rfl rfl rfl dX8_hour_138 (fun r w2 gc_138 gs_138 hp => ?_)
                  obtain ⟨rfl, rfl, rfl, rfl⟩ := hp
                  refine z_top (y := ((M3.2 21))) rfl ?_
                  refine z_ws (ws2 := [(h, .inr (8, [vZ (M3.2 0), .ref (a 1), .ref (a 2), vZ (M3.2 3), vZ (M3.2 4), .ref (a 5), .ref (a 6), .ref (a 7), .ref (a 8), .ref (a 9), .ref (a 10), .ref (a 11), vZ (M3.2 12), .ref (a 13), .ref (a 14), .ref (a 15), .ref (a 16), .ref (a 17), .ref (a 18), .ref (a 19), vZ (M3.2 20), vZ ((M3.2 21) + 1), .ref (a 22), .ref (a 23), .ref (a 24), .ref (a 25), .ref (a 26), .ref (a 27), .ref (a 28), .ref (a 29), .ref (a 30), .ref (a 31), .ref (a 32), .ref (a 33), vZ (M3.2 34), .ref (a 35), vZ (M3.2 36), vZ (M3.2 37), vZ (M3.2 38), .ref (a 39), .ref (a 40), vZ (M3.2 41), vZ (M3.2 42), vZ (M3.2 43)])), ((a 1), .inl (K.1, 10, .inl (ar (M3.1 1)))), ((a 2), .inl (K.1, 10, .inl (ar (M3.1 2)))), ((a 5), .inl (K.1, 16, .inl (ar (M3.1 5)))), ((a 6), .inl (K.1, 16, .inl (ar (M3.1 6)))), ((a 7), .inl (K.1, 16, .inl (ar (M3.1 7)))), ((a 8), .inl (K.1, 16, .inl (ar (M3.1 8)))), ((a 9), .inl (K.1, 16, .inl (ar (M3.1 9)))), ((a 10), .inl (K.1, 16, .inl (ar (M3.1 10)))), ((a 11), .inl (K.1, 100, .inl (ar (M3.1 11)))), ((a 13), .inl (K.1, 8, .inl (ar (M3.1 13)))), ((a 14), .inl (K.1, 8, .inl (ar (M3.1 14)))), ((a 15), .inl (K.1, 8, .inl (ar (M3.1 15)))), ((a 16), .inl (K.1, 8, .inl (ar (M3.1 16)))), ((a 17), .inl (K.1, 3200, .inl (ar (M3.1 17)))), ((a 18), .inl (K.1, 3200, .inl (ar (M3.1 18)))), ((a 19), .inl (K.2.1, 3200, .inl (ar (M3.1 19)))), ((a 22), .inl (K.1, 3400, .inl (ar (upz ((M3.1 22)) ((M3.2 21)) c)))), ((a 23), .inl (K.1, 3400, .inl (ar (upz ((M3.1 23)) ((M3.2 21)) (Cr.1 1 c))))), ((a 24), .inl (K.1, 3400, .inl (ar (M3.1 24)))), ((a 25), .inl (K.1, 3400, .inl (ar (M3.1 25)))), ((a 26), .inl (K.1, 32, .inl (ar (M3.1 26)))), ((a 27), .inl (K.1, 32, .inl (ar (M3.1 27)))), ((a 28), .inl (K.2.1, 8, .inl (ar (upz (M3.1 28) c 1)))), ((a 29), .inl (K.1, 8, .inl (ar (M3.1 29)))), ((a 30), .inl (K.1, 8, .inl (ar (M3.1 30)))), ((a 31), .inl (K.1, 10, .inl (ar (M3.1 31)))), ((a 32), .inl (K.1, 10, .inl (ar (M3.1 32)))), ((a 33), .inl (K.1, 10, .inl (ar (M3.1 33)))), ((a 35), .inl (K.1, 13711, .inl (ar (M3.1 35)))), ((a 39), .inl (K.1, 4, .inl (ar (M3.1 39)))), ((a 40), .inl (K.1, 4, .inl (ar (M3.1 40))))]) rfl ?_
                  refine z_st (st2 := [vZ ((M3.2 21)), vZ (aWay Ne Cr (Cr.1 0 c) c), .ref h]) rfl ?_
                  have hy_hch_141_0 : 0 ≤ (aWay Ne Cr (Cr.1 0 c) c) ∧ (aWay Ne Cr (Cr.1 0 c) c) < 32 := by omega
                  have hy_hlu_141_0 : 0 ≤ ((M3.2 21)) ∧ ((M3.2 21)) < 3400 := by omega
                  have hy_hhe_141_0 : -1 ≤ (M3.1 26) (aWay Ne Cr (Cr.1 0 c) c) ∧ (M3.1 26) (aWay Ne Cr (Cr.1 0 c) c) ≤ 3400 := ⟨hta.1, by have := hta.2.1; show M3.1 26 _ ≤ 3400; omega⟩
                  have hy_hta_141_0 : (M3.1 26) (aWay Ne Cr (Cr.1 0 c) c) ≠ -1 → 0 ≤ (M3.1 27) (aWay Ne Cr (Cr.1 0 c) c) ∧ (M3.1 27) (aWay Ne Cr (Cr.1 0 c) c) < 3400 := fun q => ⟨(hta.2.2 q).1, by have := (hta.2.2 q).2; show M3.1 27 _ < 3400; omega⟩
                  refine z_callV ZC 2 (c_X8_adds zl D K h a ((upf (upf (upf M3.1 22 (upz ((M3.1 22)) ((M3.2 21)) c)) 23 (upz ((M3.1 23)) ((M3.2 21)) (Cr.1 1 c))) 28 (upz (M3.1 28) c 1)), (upf M3.2 21 ((M3.2 21) + 1))) (aWay Ne Cr (Cr.1 0 c) c) ((M3.2 21)) (hy_hch_141_0) (hy_hlu_141_0) (hy_hhe_141_0) (hy_hta_141_0)) (gdV uM_X8_154 uI_X8_adds uS_X8_adds uN_X8 uC_X8_adds) (by decide +kernel) rfl ⟨by omega, by omega⟩ ⟨by omega, by omega⟩ (Nat.le_of_ble_eq_true rfl) [0, 1, 2, 3, 4, 5, 6, 7, 8, 9, 10, 11, 12, 13, 14, 15, 16, 17, 18, 19, 20, 21, 22, 23, 24, 25, 26, 27, 28, 29, 30, 31] rfl (by decide) rfl rfl rfl rfl dX8_hour_141 (fun r w2 gc_141 gs_141 hp => ?_)
                  obtain ⟨nx2_141, he2_141, rfl, rfl, rfl, rfl, hh_141⟩ := hp
                  have hh_141 : ((M3.1 26) (aWay Ne Cr (Cr.1 0 c) c) = -1 ∧ he2_141 = upz ((M3.1 26)) (aWay Ne Cr (Cr.1 0 c) c) ((M3.2 21)) ∧ nx2_141 = upz ((M3.1 25)) ((M3.2 21)) (-1)) ∨ ((M3.1 26) (aWay Ne Cr (Cr.1 0 c) c) ≠ -1 ∧ he2_141 = (M3.1 26) ∧ nx2_141 = upz (upz ((M3.1 25)) ((M3.2 21)) (-1)) ((M3.1 27) (aWay Ne Cr (Cr.1 0 c) c)) ((M3.2 21))) := hh_141
                  refine z_ws (ws2 := [(h, .inr (8, [vZ (M3.2 0), .ref (a 1), .ref (a 2), vZ (M3.2 3), vZ (M3.2 4), .ref (a 5), .ref (a 6), .ref (a 7), .ref (a 8), .ref (a 9), .ref (a 10), .ref (a 11), vZ (M3.2 12), .ref (a 13), .ref (a 14), .ref (a 15), .ref (a 16), .ref (a 17), .ref (a 18), .ref (a 19), vZ (M3.2 20), vZ ((M3.2 21) + 1), .ref (a 22), .ref (a 23), .ref (a 24), .ref (a 25), .ref (a 26), .ref (a 27), .ref (a 28), .ref (a 29), .ref (a 30), .ref (a 31), .ref (a 32), .ref (a 33), vZ (M3.2 34), .ref (a 35), vZ (M3.2 36), vZ (M3.2 37), vZ (M3.2 38), .ref (a 39), .ref (a 40), vZ (M3.2 41), vZ (M3.2 42), vZ (M3.2 43)])), ((a 1), .inl (K.1, 10, .inl (ar (M3.1 1)))), ((a 2), .inl (K.1, 10, .inl (ar (M3.1 2)))), ((a 5), .inl (K.1, 16, .inl (ar (M3.1 5)))), ((a 6), .inl (K.1, 16, .inl (ar (M3.1 6)))), ((a 7), .inl (K.1, 16, .inl (ar (M3.1 7)))), ((a 8), .inl (K.1, 16, .inl (ar (M3.1 8)))), ((a 9), .inl (K.1, 16, .inl (ar (M3.1 9)))), ((a 10), .inl (K.1, 16, .inl (ar (M3.1 10)))), ((a 11), .inl (K.1, 100, .inl (ar (M3.1 11)))), ((a 13), .inl (K.1, 8, .inl (ar (M3.1 13)))), ((a 14), .inl (K.1, 8, .inl (ar (M3.1 14)))), ((a 15), .inl (K.1, 8, .inl (ar (M3.1 15)))), ((a 16), .inl (K.1, 8, .inl (ar (M3.1 16)))), ((a 17), .inl (K.1, 3200, .inl (ar (M3.1 17)))), ((a 18), .inl (K.1, 3200, .inl (ar (M3.1 18)))), ((a 19), .inl (K.2.1, 3200, .inl (ar (M3.1 19)))), ((a 22), .inl (K.1, 3400, .inl (ar (upz ((M3.1 22)) ((M3.2 21)) c)))), ((a 23), .inl (K.1, 3400, .inl (ar (upz ((M3.1 23)) ((M3.2 21)) (Cr.1 1 c))))), ((a 24), .inl (K.1, 3400, .inl (ar (M3.1 24)))), ((a 25), .inl (K.1, 3400, .inl (ar nx2_141))), ((a 26), .inl (K.1, 32, .inl (ar he2_141))), ((a 27), .inl (K.1, 32, .inl (ar (upz ((M3.1 27)) (aWay Ne Cr (Cr.1 0 c) c) ((M3.2 21)))))), ((a 28), .inl (K.2.1, 8, .inl (ar (upz (M3.1 28) c 1)))), ((a 29), .inl (K.1, 8, .inl (ar (M3.1 29)))), ((a 30), .inl (K.1, 8, .inl (ar (M3.1 30)))), ((a 31), .inl (K.1, 10, .inl (ar (M3.1 31)))), ((a 32), .inl (K.1, 10, .inl (ar (M3.1 32)))), ((a 33), .inl (K.1, 10, .inl (ar (M3.1 33)))), ((a 35), .inl (K.1, 13711, .inl (ar (M3.1 35)))), ((a 39), .inl (K.1, 4, .inl (ar (M3.1 39)))), ((a 40), .inl (K.1, 4, .inl (ar (M3.1 40))))]) rfl ?_
                  refine z_st (st2 := []) rfl ?_
                  refine z_iinc ZC dX8_hour_144 rfl (by decide) ?_
                  refine z_goto ZC 73 dX8_hour_147 (by decide) ?_
                  refine z_ws (ws2 := [(h, .inr (8, [vZ (M3.2 0), .ref (a 1), .ref (a 2), vZ (M3.2 3), vZ (M3.2 4), .ref (a 5), .ref (a 6), .ref (a 7), .ref (a 8), .ref (a 9), .ref (a 10), .ref (a 11), vZ (M3.2 12), .ref (a 13), .ref (a 14), .ref (a 15), .ref (a 16), .ref (a 17), .ref (a 18), .ref (a 19), vZ (M3.2 20), vZ ((M3.2 21) + 1), .ref (a 22), .ref (a 23), .ref (a 24), .ref (a 25), .ref (a 26), .ref (a 27), .ref (a 28), .ref (a 29), .ref (a 30), .ref (a 31), .ref (a 32), .ref (a 33), vZ (M3.2 34), .ref (a 35), vZ (M3.2 36), vZ (M3.2 37), vZ (M3.2 38), .ref (a 39), .ref (a 40), vZ (M3.2 41), vZ (M3.2 42), vZ (M3.2 43)])), ((a 1), .inl (K.1, 10, .inl (ar (M3.1 1)))), ((a 2), .inl (K.1, 10, .inl (ar (M3.1 2)))), ((a 5), .inl (K.1, 16, .inl (ar (M3.1 5)))), ((a 6), .inl (K.1, 16, .inl (ar (M3.1 6)))), ((a 7), .inl (K.1, 16, .inl (ar (M3.1 7)))), ((a 8), .inl (K.1, 16, .inl (ar (M3.1 8)))), ((a 9), .inl (K.1, 16, .inl (ar (M3.1 9)))), ((a 10), .inl (K.1, 16, .inl (ar (M3.1 10)))), ((a 11), .inl (K.1, 100, .inl (ar (M3.1 11)))), ((a 13), .inl (K.1, 8, .inl (ar (M3.1 13)))), ((a 14), .inl (K.1, 8, .inl (ar (M3.1 14)))), ((a 15), .inl (K.1, 8, .inl (ar (M3.1 15)))), ((a 16), .inl (K.1, 8, .inl (ar (M3.1 16)))), ((a 17), .inl (K.1, 3200, .inl (ar (M3.1 17)))), ((a 18), .inl (K.1, 3200, .inl (ar (M3.1 18)))), ((a 19), .inl (K.2.1, 3200, .inl (ar (M3.1 19)))), ((a 22), .inl (K.1, 3400, .inl (ar (upz ((M3.1 22)) ((M3.2 21)) c)))), ((a 23), .inl (K.1, 3400, .inl (ar (upz ((M3.1 23)) ((M3.2 21)) (Cr.1 1 c))))), ((a 24), .inl (K.1, 3400, .inl (ar (M3.1 24)))), ((a 25), .inl (K.1, 3400, .inl (ar nx2_141))), ((a 26), .inl (K.1, 32, .inl (ar he2_141))), ((a 27), .inl (K.1, 32, .inl (ar (upz ((M3.1 27)) (aWay Ne Cr (Cr.1 0 c) c) ((M3.2 21)))))), ((a 28), .inl (K.2.1, 8, .inl (ar (upz (M3.1 28) c 1)))), ((a 29), .inl (K.1, 8, .inl (ar (M3.1 29)))), ((a 30), .inl (K.1, 8, .inl (ar (M3.1 30)))), ((a 31), .inl (K.1, 10, .inl (ar (M3.1 31)))), ((a 32), .inl (K.1, 10, .inl (ar (M3.1 32)))), ((a 33), .inl (K.1, 10, .inl (ar (M3.1 33)))), ((a 35), .inl (K.1, 13711, .inl (ar (M3.1 35)))), ((a 39), .inl (K.1, 4, .inl (ar (M3.1 39)))), ((a 40), .inl (K.1, 4, .inl (ar (M3.1 40))))]) rfl (z_lv (lv2 := [(0, .ref h), (1, vZ tl), (2, vZ (c + 1))]) ⟨rfl, rfl, rfl, trivial⟩ ?_)
                  refine ih_73 (c + 1) ((upf (upf (upf (upf (upf (upf M3.1 22 (upz ((M3.1 22)) ((M3.2 21)) c)) 23 (upz ((M3.1 23)) ((M3.2 21)) (Cr.1 1 c))) 25 nx2_141) 26 he2_141) 27 (upz ((M3.1 27)) (aWay Ne Cr (Cr.1 0 c) c) ((M3.2 21)))) 28 (upz (M3.1 28) c 1)), (upf M3.2 21 ((M3.2 21) + 1))) (aLet1 Ne Cr A3 c) (upL C3 (aWay Ne Cr (Cr.1 0 c) c) (C3 (aWay Ne Cr (Cr.1 0 c) c) ++ [(c, Cr.1 1 c, M3.1 24 (M3.2 21))])) ?_ ?_ ?_ ?_ ?_ ?_ (dec_lt hm_73 (by omega))
                  · skip
                    omega
                  · skip
                    exact md_let g1 ⟨by omega, by omega⟩ hcc.2.2.2.1.1 ⟨w1.1, w1.2.2⟩ hh_141
                  · skip
                    rw [aLet_next g0.1, ← g2]
                  · skip
                    exact KP.trans g3 (show KP [22, 23, 24, 25, 26, 27, 28, 29, 30] [21] M3 _ from ⟨fun k hk => (upf_out hk rfl).trans ((upf_out hk rfl).trans ((upf_out hk rfl).trans ((upf_out hk rfl).trans ((upf_out hk rfl).trans (upf_out hk rfl))))), fun k hk => upf_out hk rfl⟩) rfl rfl rfl rfl
                  · skip
                    exact aok_let hcf g4 g0.1 (by omega)
                  · skip
                    show M3.2 21 + 1 ≤ _
                    rw [oc_let g0.1 (by omega) ⟨by omega, by omega⟩]
                    omega
                · skip
                  refine z_goto ZC 144 dX8_hour_103 (by decide) ?_
                  refine z_iinc ZC dX8_hour_144 rfl (by decide) ?_
                  refine z_goto ZC 73 dX8_hour_147 (by decide) ?_
                  refine z_ws (ws2 := [(h, .inr (8, [vZ (M3.2 0), .ref (a 1), .ref (a 2), vZ (M3.2 3), vZ (M3.2 4), .ref (a 5), .ref (a 6), .ref (a 7), .ref (a 8), .ref (a 9), .ref (a 10), .ref (a 11), vZ (M3.2 12), .ref (a 13), .ref (a 14), .ref (a 15), .ref (a 16), .ref (a 17), .ref (a 18), .ref (a 19), vZ (M3.2 20), vZ (M3.2 21), .ref (a 22), .ref (a 23), .ref (a 24), .ref (a 25), .ref (a 26), .ref (a 27), .ref (a 28), .ref (a 29), .ref (a 30), .ref (a 31), .ref (a 32), .ref (a 33), vZ (M3.2 34), .ref (a 35), vZ (M3.2 36), vZ (M3.2 37), vZ (M3.2 38), .ref (a 39), .ref (a 40), vZ (M3.2 41), vZ (M3.2 42), vZ (M3.2 43)])), ((a 1), .inl (K.1, 10, .inl (ar (M3.1 1)))), ((a 2), .inl (K.1, 10, .inl (ar (M3.1 2)))), ((a 5), .inl (K.1, 16, .inl (ar (M3.1 5)))), ((a 6), .inl (K.1, 16, .inl (ar (M3.1 6)))), ((a 7), .inl (K.1, 16, .inl (ar (M3.1 7)))), ((a 8), .inl (K.1, 16, .inl (ar (M3.1 8)))), ((a 9), .inl (K.1, 16, .inl (ar (M3.1 9)))), ((a 10), .inl (K.1, 16, .inl (ar (M3.1 10)))), ((a 11), .inl (K.1, 100, .inl (ar (M3.1 11)))), ((a 13), .inl (K.1, 8, .inl (ar (M3.1 13)))), ((a 14), .inl (K.1, 8, .inl (ar (M3.1 14)))), ((a 15), .inl (K.1, 8, .inl (ar (M3.1 15)))), ((a 16), .inl (K.1, 8, .inl (ar (M3.1 16)))), ((a 17), .inl (K.1, 3200, .inl (ar (M3.1 17)))), ((a 18), .inl (K.1, 3200, .inl (ar (M3.1 18)))), ((a 19), .inl (K.2.1, 3200, .inl (ar (M3.1 19)))), ((a 22), .inl (K.1, 3400, .inl (ar (M3.1 22)))), ((a 23), .inl (K.1, 3400, .inl (ar (M3.1 23)))), ((a 24), .inl (K.1, 3400, .inl (ar (M3.1 24)))), ((a 25), .inl (K.1, 3400, .inl (ar (M3.1 25)))), ((a 26), .inl (K.1, 32, .inl (ar (M3.1 26)))), ((a 27), .inl (K.1, 32, .inl (ar (M3.1 27)))), ((a 28), .inl (K.2.1, 8, .inl (ar (M3.1 28)))), ((a 29), .inl (K.1, 8, .inl (ar (M3.1 29)))), ((a 30), .inl (K.1, 8, .inl (ar (M3.1 30)))), ((a 31), .inl (K.1, 10, .inl (ar (M3.1 31)))), ((a 32), .inl (K.1, 10, .inl (ar (M3.1 32)))), ((a 33), .inl (K.1, 10, .inl (ar (M3.1 33)))), ((a 35), .inl (K.1, 13711, .inl (ar (M3.1 35)))), ((a 39), .inl (K.1, 4, .inl (ar (M3.1 39)))), ((a 40), .inl (K.1, 4, .inl (ar (M3.1 40))))]) rfl (z_lv (lv2 := [(0, .ref h), (1, vZ tl), (2, vZ (c + 1))]) ⟨rfl, rfl, rfl, trivial⟩ ?_)
                  refine ih_73 (c + 1) M3 A3 C3 ?_ ?_ ?_ ?_ ?_ ?_ (dec_lt hm_73 (by omega))
                  · skip
                    omega
                  · skip
                    exact g1
                  · skip
                    rw [aLet_next g0.1, ← g2]
                    exact (if_neg (fun q => by omega)).symm
                  · skip
                    exact g3
                  · skip
                    exact g4
                  · skip
                    exact g5
        refine z_ws (ws2 := [(h, .inr (8, [vZ (M1.2 0), .ref (a 1), .ref (a 2), vZ (M1.2 3), vZ (M1.2 4), .ref (a 5), .ref (a 6), .ref (a 7), .ref (a 8), .ref (a 9), .ref (a 10), .ref (a 11), vZ (M1.2 12), .ref (a 13), .ref (a 14), .ref (a 15), .ref (a 16), .ref (a 17), .ref (a 18), .ref (a 19), vZ (M1.2 20), vZ (M1.2 21), .ref (a 22), .ref (a 23), .ref (a 24), .ref (a 25), .ref (a 26), .ref (a 27), .ref (a 28), .ref (a 29), .ref (a 30), .ref (a 31), .ref (a 32), .ref (a 33), vZ (M1.2 34), .ref (a 35), vZ (M1.2 36), vZ (M1.2 37), vZ (M1.2 38), .ref (a 39), .ref (a 40), vZ (M1.2 41), vZ (M1.2 42), vZ (M1.2 43)])), ((a 1), .inl (K.1, 10, .inl (ar (M1.1 1)))), ((a 2), .inl (K.1, 10, .inl (ar (M1.1 2)))), ((a 5), .inl (K.1, 16, .inl (ar (M1.1 5)))), ((a 6), .inl (K.1, 16, .inl (ar (M1.1 6)))), ((a 7), .inl (K.1, 16, .inl (ar (M1.1 7)))), ((a 8), .inl (K.1, 16, .inl (ar (M1.1 8)))), ((a 9), .inl (K.1, 16, .inl (ar (M1.1 9)))), ((a 10), .inl (K.1, 16, .inl (ar (M1.1 10)))), ((a 11), .inl (K.1, 100, .inl (ar (M1.1 11)))), ((a 13), .inl (K.1, 8, .inl (ar (M1.1 13)))), ((a 14), .inl (K.1, 8, .inl (ar (M1.1 14)))), ((a 15), .inl (K.1, 8, .inl (ar (M1.1 15)))), ((a 16), .inl (K.1, 8, .inl (ar (M1.1 16)))), ((a 17), .inl (K.1, 3200, .inl (ar (M1.1 17)))), ((a 18), .inl (K.1, 3200, .inl (ar (M1.1 18)))), ((a 19), .inl (K.2.1, 3200, .inl (ar (M1.1 19)))), ((a 22), .inl (K.1, 3400, .inl (ar (M1.1 22)))), ((a 23), .inl (K.1, 3400, .inl (ar (M1.1 23)))), ((a 24), .inl (K.1, 3400, .inl (ar (M1.1 24)))), ((a 25), .inl (K.1, 3400, .inl (ar (M1.1 25)))), ((a 26), .inl (K.1, 32, .inl (ar (M1.1 26)))), ((a 27), .inl (K.1, 32, .inl (ar (M1.1 27)))), ((a 28), .inl (K.2.1, 8, .inl (ar (M1.1 28)))), ((a 29), .inl (K.1, 8, .inl (ar (M1.1 29)))), ((a 30), .inl (K.1, 8, .inl (ar (M1.1 30)))), ((a 31), .inl (K.1, 10, .inl (ar (M1.1 31)))), ((a 32), .inl (K.1, 10, .inl (ar (M1.1 32)))), ((a 33), .inl (K.1, 10, .inl (ar (M1.1 33)))), ((a 35), .inl (K.1, 13711, .inl (ar (M1.1 35)))), ((a 39), .inl (K.1, 4, .inl (ar (M1.1 39)))), ((a 40), .inl (K.1, 4, .inl (ar (M1.1 40))))]) rfl (z_lv (lv2 := [(0, .ref h), (1, vZ tl), (2, vZ 0)]) ⟨rfl, rfl, rfl, trivial⟩ ?_)
        refine lp_73 _ 0 M1 A1 C1 ?_ ?_ ?_ ?_ ?_ ?_ (Nat.lt_succ_self _)
        · skip
          omega
        · skip
          exact j1
        · skip
          rw [show Ne.2 8 = r by omega]; exact j2
        · skip
          exact KP.trans j3 (KP.refl [] [] _) rfl rfl rfl rfl
        · skip
          exact j4
        · skip
          have q1 : M1.2 21 = M.2 21 := j3.2 21 rfl
          have q2 : oc Cr A1 = oc Cr A := by unfold oc; rw [j2, (aCome_keep Ne Cr A _).2.2.1]
          omega
      · skip
        have lp_10 : ∀ (n_10 : Nat) (M2 : Bd) (A2 : Ab) (C2 : Int → List Pt3), (MD Cr A2 M2 C2 []) → (aCome1 Ne Cr r A2 = aCome1 Ne Cr r A1) → (KP [25, 26, 27, 29, 30] [] M M2) → (AOK Ne Cr A2) → (A2.2.1 = A.2.1) → ((A2.2.2.2 r).length) < n_10 → Zw zp zl ze zR zs zm zargs zbelow zmeth zc D zA 4 zQ 0 0 ([(h, .inr (8, [vZ (M2.2 0), .ref (a 1), .ref (a 2), vZ (M2.2 3), vZ (M2.2 4), .ref (a 5), .ref (a 6), .ref (a 7), .ref (a 8), .ref (a 9), .ref (a 10), .ref (a 11), vZ (M2.2 12), .ref (a 13), .ref (a 14), .ref (a 15), .ref (a 16), .ref (a 17), .ref (a 18), .ref (a 19), vZ (M2.2 20), vZ (M2.2 21), .ref (a 22), .ref (a 23), .ref (a 24), .ref (a 25), .ref (a 26), .ref (a 27), .ref (a 28), .ref (a 29), .ref (a 30), .ref (a 31), .ref (a 32), .ref (a 33), vZ (M2.2 34), .ref (a 35), vZ (M2.2 36), vZ (M2.2 37), vZ (M2.2 38), .ref (a 39), .ref (a 40), vZ (M2.2 41), vZ (M2.2 42), vZ (M2.2 43)])), ((a 1), .inl (K.1, 10, .inl (ar (M2.1 1)))), ((a 2), .inl (K.1, 10, .inl (ar (M2.1 2)))), ((a 5), .inl (K.1, 16, .inl (ar (M2.1 5)))), ((a 6), .inl (K.1, 16, .inl (ar (M2.1 6)))), ((a 7), .inl (K.1, 16, .inl (ar (M2.1 7)))), ((a 8), .inl (K.1, 16, .inl (ar (M2.1 8)))), ((a 9), .inl (K.1, 16, .inl (ar (M2.1 9)))), ((a 10), .inl (K.1, 16, .inl (ar (M2.1 10)))), ((a 11), .inl (K.1, 100, .inl (ar (M2.1 11)))), ((a 13), .inl (K.1, 8, .inl (ar (M2.1 13)))), ((a 14), .inl (K.1, 8, .inl (ar (M2.1 14)))), ((a 15), .inl (K.1, 8, .inl (ar (M2.1 15)))), ((a 16), .inl (K.1, 8, .inl (ar (M2.1 16)))), ((a 17), .inl (K.1, 3200, .inl (ar (M2.1 17)))), ((a 18), .inl (K.1, 3200, .inl (ar (M2.1 18)))), ((a 19), .inl (K.2.1, 3200, .inl (ar (M2.1 19)))), ((a 22), .inl (K.1, 3400, .inl (ar (M2.1 22)))), ((a 23), .inl (K.1, 3400, .inl (ar (M2.1 23)))), ((a 24), .inl (K.1, 3400, .inl (ar (M2.1 24)))), ((a 25), .inl (K.1, 3400, .inl (ar (M2.1 25)))), ((a 26), .inl (K.1, 32, .inl (ar (M2.1 26)))), ((a 27), .inl (K.1, 32, .inl (ar (M2.1 27)))), ((a 28), .inl (K.2.1, 8, .inl (ar (M2.1 28)))), ((a 29), .inl (K.1, 8, .inl (ar (M2.1 29)))), ((a 30), .inl (K.1, 8, .inl (ar (M2.1 30)))), ((a 31), .inl (K.1, 10, .inl (ar (M2.1 31)))), ((a 32), .inl (K.1, 10, .inl (ar (M2.1 32)))), ((a 33), .inl (K.1, 10, .inl (ar (M2.1 33)))), ((a 35), .inl (K.1, 13711, .inl (ar (M2.1 35)))), ((a 39), .inl (K.1, 4, .inl (ar (M2.1 39)))), ((a 40), .inl (K.1, 4, .inl (ar (M2.1 40))))]) 10 [(0, .ref h), (1, vZ tl), (2, vZ r)] [] := by
          intro n_10
          induction n_10 with
          | zero => intro M2 A2 C2 k1 k2 k3 k4 k5 hm_10; exact absurd hm_10 (Nat.not_lt_zero _)
          | succ n_10 ih_10 =>
            intro M2 A2 C2 k1 k2 k3 k4 k5 hm_10
            have hfi := mo_first k1.1 (k := 16 + r) (by omega)
            have hus1 := mo_us k1.1
            have e21 : M2.2 21 = M.2 21 := k3.2 21 rfl
            have e20a : M2.2 20 = A.2.1 0 := (k3.2 20 rfl).trans e20
            have hms2 : MS To Ne Cr M2 := ms_keep hms k3 rfl rfl
            have hfi0 : -1 ≤ M2.1 26 (16 + r) ∧ M2.1 26 (16 + r) < 3400 := by
              rcases hfi with z | ⟨l, z⟩ <;> omega
            have hmnn := hms2.2.1.2.1 r h0.1 (by omega)
            have hrr := hcf.2.2.1 r h0.1 (by omega)
            refine z_aload_n ZC 0 dX8_hour_10 rfl rfl ?_
            refine z_get ZC inUX8 0 rfl rfl 26 (by decide) uF_X8_75 rfl dX8_hour_11 ?_
            refine z_bipush ZC dX8_hour_14 (by decide) ?_
            refine z_iload_n ZC 2 dX8_hour_16 rfl rfl ?_
            refine z_iadd ZC dX8_hour_17 ?_
            refine z_iald ZC 21 rfl dX8_hour_18 (by omega) ?_
            refine z_iconst ZC dX8_hour_19 ?_
            refine z_icmp_eq ZC 65 dX8_hour_20 (by decide) (by omega) (by omega) (fun c_20 => ?_) (fun c_20 => ?_)
            · skip
              have hdn : aCome1 Ne Cr r A2 = A2 := aCome1_done (fun q l e => by
                rcases hfi with z | ⟨l2, z⟩
                · rw [← (k1.2.1 r h0.1 (by omega)).2, z.1] at e; cases e
                · omega)
              refine z_iinc ZC dX8_hour_65 rfl (by decide) ?_
              refine z_goto ZC 2 dX8_hour_68 (by decide) ?_
              refine z_ws (ws2 := [(h, .inr (8, [vZ (M2.2 0), .ref (a 1), .ref (a 2), vZ (M2.2 3), vZ (M2.2 4), .ref (a 5), .ref (a 6), .ref (a 7), .ref (a 8), .ref (a 9), .ref (a 10), .ref (a 11), vZ (M2.2 12), .ref (a 13), .ref (a 14), .ref (a 15), .ref (a 16), .ref (a 17), .ref (a 18), .ref (a 19), vZ (M2.2 20), vZ (M2.2 21), .ref (a 22), .ref (a 23), .ref (a 24), .ref (a 25), .ref (a 26), .ref (a 27), .ref (a 28), .ref (a 29), .ref (a 30), .ref (a 31), .ref (a 32), .ref (a 33), vZ (M2.2 34), .ref (a 35), vZ (M2.2 36), vZ (M2.2 37), vZ (M2.2 38), .ref (a 39), .ref (a 40), vZ (M2.2 41), vZ (M2.2 42), vZ (M2.2 43)])), ((a 1), .inl (K.1, 10, .inl (ar (M2.1 1)))), ((a 2), .inl (K.1, 10, .inl (ar (M2.1 2)))), ((a 5), .inl (K.1, 16, .inl (ar (M2.1 5)))), ((a 6), .inl (K.1, 16, .inl (ar (M2.1 6)))), ((a 7), .inl (K.1, 16, .inl (ar (M2.1 7)))), ((a 8), .inl (K.1, 16, .inl (ar (M2.1 8)))), ((a 9), .inl (K.1, 16, .inl (ar (M2.1 9)))), ((a 10), .inl (K.1, 16, .inl (ar (M2.1 10)))), ((a 11), .inl (K.1, 100, .inl (ar (M2.1 11)))), ((a 13), .inl (K.1, 8, .inl (ar (M2.1 13)))), ((a 14), .inl (K.1, 8, .inl (ar (M2.1 14)))), ((a 15), .inl (K.1, 8, .inl (ar (M2.1 15)))), ((a 16), .inl (K.1, 8, .inl (ar (M2.1 16)))), ((a 17), .inl (K.1, 3200, .inl (ar (M2.1 17)))), ((a 18), .inl (K.1, 3200, .inl (ar (M2.1 18)))), ((a 19), .inl (K.2.1, 3200, .inl (ar (M2.1 19)))), ((a 22), .inl (K.1, 3400, .inl (ar (M2.1 22)))), ((a 23), .inl (K.1, 3400, .inl (ar (M2.1 23)))), ((a 24), .inl (K.1, 3400, .inl (ar (M2.1 24)))), ((a 25), .inl (K.1, 3400, .inl (ar (M2.1 25)))), ((a 26), .inl (K.1, 32, .inl (ar (M2.1 26)))), ((a 27), .inl (K.1, 32, .inl (ar (M2.1 27)))), ((a 28), .inl (K.2.1, 8, .inl (ar (M2.1 28)))), ((a 29), .inl (K.1, 8, .inl (ar (M2.1 29)))), ((a 30), .inl (K.1, 8, .inl (ar (M2.1 30)))), ((a 31), .inl (K.1, 10, .inl (ar (M2.1 31)))), ((a 32), .inl (K.1, 10, .inl (ar (M2.1 32)))), ((a 33), .inl (K.1, 10, .inl (ar (M2.1 33)))), ((a 35), .inl (K.1, 13711, .inl (ar (M2.1 35)))), ((a 39), .inl (K.1, 4, .inl (ar (M2.1 39)))), ((a 40), .inl (K.1, 4, .inl (ar (M2.1 40))))]) rfl (z_lv (lv2 := [(0, .ref h), (1, vZ tl), (2, vZ (r + 1))]) ⟨rfl, rfl, rfl, trivial⟩ ?_)
              refine ih_2 (r + 1) M2 A2 C2 ?_ ?_ ?_ ?_ ?_ (dec_lt hm_2 (by omega))
              · skip
                omega
              · skip
                exact k1
              · skip
                rw [aCome_next h0.1, ← j2, ← k2, hdn]
              · skip
                exact k3
              · skip
                exact k4
            · skip
              obtain ⟨l, hq, g1, g2, g3⟩ : ∃ l : List Pt3, C2 (16 + r) = (M2.1 22 (M2.1 26 (16 + r)), M2.1 23 (M2.1 26 (16 + r)), M2.1 24 (M2.1 26 (16 + r))) :: l ∧ 0 ≤ (M2.1 26 (16 + r)) ∧ (M2.1 26 (16 + r)) < M2.2 21 ∧ 1 ≤ M2.1 23 (M2.1 26 (16 + r)) := by
                rcases hfi with z | z
                · exact absurd z.2 c_20
                · exact z
              have hfd : A2.2.2.2 r = List.replicate (M2.1 23 (M2.1 26 (16 + r))).toNat (M2.1 22 (M2.1 26 (16 + r)), M2.1 24 (M2.1 26 (16 + r))) ++ fd l := by
                rw [← (k1.2.1 r h0.1 (by omega)).2, hq]; rfl
              have harr := aok_arr hcf k4 ⟨h0.1, by omega⟩ (n := (M2.1 23 (M2.1 26 (16 + r))).toNat) (by omega) hfd
              have hln : (A2.2.2.2 r).length = (M2.1 23 (M2.1 26 (16 + r))).toNat + (fd l).length := by rw [hfd, List.length_append, List.length_replicate]
              refine z_aload_n ZC 0 dX8_hour_23 rfl rfl ?_
              refine z_get ZC inUX8 0 rfl rfl 24 (by decide) uF_X8_69 rfl dX8_hour_24 ?_
              refine z_aload_n ZC 0 dX8_hour_27 rfl rfl ?_
              refine z_get ZC inUX8 0 rfl rfl 26 (by decide) uF_X8_75 rfl dX8_hour_28 ?_
              refine z_bipush ZC dX8_hour_31 (by decide) ?_
              refine z_iload_n ZC 2 dX8_hour_33 rfl rfl ?_
              refine z_iadd ZC dX8_hour_34 ?_
              refine z_iald ZC 21 rfl dX8_hour_35 (by omega) ?_
              refine z_iald ZC 19 rfl dX8_hour_36 (by omega) ?_
              refine z_aload_n ZC 0 dX8_hour_37 rfl rfl ?_
              refine z_get ZC inUX8 0 rfl rfl 20 (by decide) uF_X8_129 rfl dX8_hour_38 ?_
              refine z_icmp_ne ZC 65 dX8_hour_41 (by decide) (by omega) (by omega) (fun c_41 => ?_) (fun c_41 => ?_)
              · skip
                have hdn : aCome1 Ne Cr r A2 = A2 := aCome1_done (fun q l2 e => by
                  rw [hfd] at e
                  obtain ⟨m, hm⟩ : ∃ m, (M2.1 23 (M2.1 26 (16 + r))).toNat = m + 1 := ⟨(M2.1 23 (M2.1 26 (16 + r))).toNat - 1, by omega⟩
                  rw [hm, List.replicate_succ, List.cons_append] at e
                  have e1 := (List.cons.inj e).1
                  rw [← e1]
                  show M2.1 24 (M2.1 26 (16 + r)) ≠ _
                  rw [k5]
                  omega)
                refine z_iinc ZC dX8_hour_65 rfl (by decide) ?_
                refine z_goto ZC 2 dX8_hour_68 (by decide) ?_
                refine z_ws (ws2 := [(h, .inr (8, [vZ (M2.2 0), .ref (a 1), .ref (a 2), vZ (M2.2 3), vZ (M2.2 4), .ref (a 5), .ref (a 6), .ref (a 7), .ref (a 8), .ref (a 9), .ref (a 10), .ref (a 11), vZ (M2.2 12), .ref (a 13), .ref (a 14), .ref (a 15), .ref (a 16), .ref (a 17), .ref (a 18), .ref (a 19), vZ (M2.2 20), vZ (M2.2 21), .ref (a 22), .ref (a 23), .ref (a 24), .ref (a 25), .ref (a 26), .ref (a 27), .ref (a 28), .ref (a 29), .ref (a 30), .ref (a 31), .ref (a 32), .ref (a 33), vZ (M2.2 34), .ref (a 35), vZ (M2.2 36), vZ (M2.2 37), vZ (M2.2 38), .ref (a 39), .ref (a 40), vZ (M2.2 41), vZ (M2.2 42), vZ (M2.2 43)])), ((a 1), .inl (K.1, 10, .inl (ar (M2.1 1)))), ((a 2), .inl (K.1, 10, .inl (ar (M2.1 2)))), ((a 5), .inl (K.1, 16, .inl (ar (M2.1 5)))), ((a 6), .inl (K.1, 16, .inl (ar (M2.1 6)))), ((a 7), .inl (K.1, 16, .inl (ar (M2.1 7)))), ((a 8), .inl (K.1, 16, .inl (ar (M2.1 8)))), ((a 9), .inl (K.1, 16, .inl (ar (M2.1 9)))), ((a 10), .inl (K.1, 16, .inl (ar (M2.1 10)))), ((a 11), .inl (K.1, 100, .inl (ar (M2.1 11)))), ((a 13), .inl (K.1, 8, .inl (ar (M2.1 13)))), ((a 14), .inl (K.1, 8, .inl (ar (M2.1 14)))), ((a 15), .inl (K.1, 8, .inl (ar (M2.1 15)))), ((a 16), .inl (K.1, 8, .inl (ar (M2.1 16)))), ((a 17), .inl (K.1, 3200, .inl (ar (M2.1 17)))), ((a 18), .inl (K.1, 3200, .inl (ar (M2.1 18)))), ((a 19), .inl (K.2.1, 3200, .inl (ar (M2.1 19)))), ((a 22), .inl (K.1, 3400, .inl (ar (M2.1 22)))), ((a 23), .inl (K.1, 3400, .inl (ar (M2.1 23)))), ((a 24), .inl (K.1, 3400, .inl (ar (M2.1 24)))), ((a 25), .inl (K.1, 3400, .inl (ar (M2.1 25)))), ((a 26), .inl (K.1, 32, .inl (ar (M2.1 26)))), ((a 27), .inl (K.1, 32, .inl (ar (M2.1 27)))), ((a 28), .inl (K.2.1, 8, .inl (ar (M2.1 28)))), ((a 29), .inl (K.1, 8, .inl (ar (M2.1 29)))), ((a 30), .inl (K.1, 8, .inl (ar (M2.1 30)))), ((a 31), .inl (K.1, 10, .inl (ar (M2.1 31)))), ((a 32), .inl (K.1, 10, .inl (ar (M2.1 32)))), ((a 33), .inl (K.1, 10, .inl (ar (M2.1 33)))), ((a 35), .inl (K.1, 13711, .inl (ar (M2.1 35)))), ((a 39), .inl (K.1, 4, .inl (ar (M2.1 39)))), ((a 40), .inl (K.1, 4, .inl (ar (M2.1 40))))]) rfl (z_lv (lv2 := [(0, .ref h), (1, vZ tl), (2, vZ (r + 1))]) ⟨rfl, rfl, rfl, trivial⟩ ?_)
                refine ih_2 (r + 1) M2 A2 C2 ?_ ?_ ?_ ?_ ?_ (dec_lt hm_2 (by omega))
                · skip
                  omega
                · skip
                  exact k1
                · skip
                  rw [aCome_next h0.1, ← j2, ← k2, hdn]
                · skip
                  exact k3
                · skip
                  exact k4
              · skip
                have hfd2 : A2.2.2.2 r = List.replicate (M2.1 23 (M2.1 26 (16 + r))).toNat (M2.1 22 (M2.1 26 (16 + r)), A2.2.1 0) ++ fd l := by rw [hfd, show M2.1 24 (M2.1 26 (16 + r)) = A2.2.1 0 by rw [k5]; omega]
                have hho := (k4.2 (M2.1 22 (M2.1 26 (16 + r))) harr.1.1 harr.1.2.1).2.1
                refine z_aload_n ZC 0 dX8_hour_44 rfl rfl ?_
                refine z_aload_n ZC 0 dX8_hour_45 rfl rfl ?_
                refine z_bipush ZC dX8_hour_46 (by decide) ?_
                refine z_iload_n ZC 2 dX8_hour_48 rfl rfl ?_
                refine z_iadd ZC dX8_hour_49 ?_
                refine z_callV ZC 1 (c_X8_takes zl D K h a M2 (16 + r) (by omega) (by omega)) (gdV uM_X8_161 uI_X8_takes uS_X8_takes uN_X8 uC_X8_takes) (by decide +kernel) rfl ⟨by omega, by omega⟩ ⟨by omega, by omega⟩ (Nat.le_of_ble_eq_true rfl) [0, 1, 2, 3, 4, 5, 6, 7, 8, 9, 10, 11, 12, 13, 14, 15, 16, 17, 18, 19, 20, 21, 22, 23, 24, 25, 26, 27, 28, 29, 30, 31] rfl (by decide) rfl rfl rfl rfl dX8_hour_50 (fun r w2 gc_50 gs_50 hp => ?_)
                obtain ⟨rfl, rfl, rfl, rfl⟩ := hp
                refine z_ws (ws2 := [(h, .inr (8, [vZ (M2.2 0), .ref (a 1), .ref (a 2), vZ (M2.2 3), vZ (M2.2 4), .ref (a 5), .ref (a 6), .ref (a 7), .ref (a 8), .ref (a 9), .ref (a 10), .ref (a 11), vZ (M2.2 12), .ref (a 13), .ref (a 14), .ref (a 15), .ref (a 16), .ref (a 17), .ref (a 18), .ref (a 19), vZ (M2.2 20), vZ (M2.2 21), .ref (a 22), .ref (a 23), .ref (a 24), .ref (a 25), .ref (a 26), .ref (a 27), .ref (a 28), .ref (a 29), .ref (a 30), .ref (a 31), .ref (a 32), .ref (a 33), vZ (M2.2 34), .ref (a 35), vZ (M2.2 36), vZ (M2.2 37), vZ (M2.2 38), .ref (a 39), .ref (a 40), vZ (M2.2 41), vZ (M2.2 42), vZ (M2.2 43)])), ((a 1), .inl (K.1, 10, .inl (ar (M2.1 1)))), ((a 2), .inl (K.1, 10, .inl (ar (M2.1 2)))), ((a 5), .inl (K.1, 16, .inl (ar (M2.1 5)))), ((a 6), .inl (K.1, 16, .inl (ar (M2.1 6)))), ((a 7), .inl (K.1, 16, .inl (ar (M2.1 7)))), ((a 8), .inl (K.1, 16, .inl (ar (M2.1 8)))), ((a 9), .inl (K.1, 16, .inl (ar (M2.1 9)))), ((a 10), .inl (K.1, 16, .inl (ar (M2.1 10)))), ((a 11), .inl (K.1, 100, .inl (ar (M2.1 11)))), ((a 13), .inl (K.1, 8, .inl (ar (M2.1 13)))), ((a 14), .inl (K.1, 8, .inl (ar (M2.1 14)))), ((a 15), .inl (K.1, 8, .inl (ar (M2.1 15)))), ((a 16), .inl (K.1, 8, .inl (ar (M2.1 16)))), ((a 17), .inl (K.1, 3200, .inl (ar (M2.1 17)))), ((a 18), .inl (K.1, 3200, .inl (ar (M2.1 18)))), ((a 19), .inl (K.2.1, 3200, .inl (ar (M2.1 19)))), ((a 22), .inl (K.1, 3400, .inl (ar (M2.1 22)))), ((a 23), .inl (K.1, 3400, .inl (ar (M2.1 23)))), ((a 24), .inl (K.1, 3400, .inl (ar (M2.1 24)))), ((a 25), .inl (K.1, 3400, .inl (ar (M2.1 25)))), ((a 26), .inl (K.1, 32, .inl (ar (upz (M2.1 26) (16 + r) (M2.1 25 (M2.1 26 (16 + r))))))), ((a 27), .inl (K.1, 32, .inl (ar (M2.1 27)))), ((a 28), .inl (K.2.1, 8, .inl (ar (M2.1 28)))), ((a 29), .inl (K.1, 8, .inl (ar (M2.1 29)))), ((a 30), .inl (K.1, 8, .inl (ar (M2.1 30)))), ((a 31), .inl (K.1, 10, .inl (ar (M2.1 31)))), ((a 32), .inl (K.1, 10, .inl (ar (M2.1 32)))), ((a 33), .inl (K.1, 10, .inl (ar (M2.1 33)))), ((a 35), .inl (K.1, 13711, .inl (ar (M2.1 35)))), ((a 39), .inl (K.1, 4, .inl (ar (M2.1 39)))), ((a 40), .inl (K.1, 4, .inl (ar (M2.1 40))))]) rfl ?_
                refine z_st (st2 := [vZ (M2.1 26 (16 + r)), .ref h]) rfl ?_
                refine z_aload_n ZC 0 dX8_hour_53 rfl rfl ?_
                refine z_get ZC inUX8 0 rfl rfl 6 (by decide) uF_X8_23 rfl dX8_hour_54 ?_
                refine z_iload_n ZC 2 dX8_hour_57 rfl rfl ?_
                refine z_iald ZC 4 rfl dX8_hour_58 (by omega) ?_
                refine z_top (y := (Ne.1 1 r)) (hmnn.2.1) ?_
                have hy_hcf_59_0 : Cfg Ne Cr := hcf
                have hy_hnw_59_0 : NW Ne := hnw
                have hy_hmn_59_0 : MSn Ne ((upf M2.1 26 (upz (M2.1 26) (16 + r) (M2.1 25 (M2.1 26 (16 + r))))), M2.2) := hms2.2.1
                have hy_hmc_59_0 : MSc Cr ((upf M2.1 26 (upz (M2.1 26) (16 + r) (M2.1 25 (M2.1 26 (16 + r))))), M2.2) := hms2.2.2
                have hy_hmd_59_0 : MD Cr (aD A2 r (fd l)) ((upf M2.1 26 (upz (M2.1 26) (16 + r) (M2.1 25 (M2.1 26 (16 + r))))), M2.2) (upL C2 (16 + r) l) [(M2.1 26 (16 + r))] := md_take k1 ⟨h0.1, by omega⟩ hq
                have hy_hus_59_0 : (M2.2 21) ≤ 3400 := by show M2.2 21 ≤ 3400; omega
                have hy_htn_59_0 : 0 ≤ (Ne.1 1 r) ∧ (Ne.1 1 r) < 10 := hrr.2.1
                have hy_hc_59_0 : 0 ≤ ((M2.1 22) (M2.1 26 (16 + r))) ∧ ((M2.1 22) (M2.1 26 (16 + r))) < Cr.2 3 := ⟨harr.1.1, harr.1.2.1⟩
                have hy_hL_59_0 : Ne.1 6 ((Ne.1 1 r) * 10 + Cr.1 2 ((M2.1 22) (M2.1 26 (16 + r)))) ≠ -1 := harr.1.2.2.1
                have hy_hle_59_0 : (aD A2 r (fd l)).1 2 ((M2.1 22) (M2.1 26 (16 + r))) + (M2.1 23) (M2.1 26 (16 + r)) ≤ Cr.1 1 ((M2.1 22) (M2.1 26 (16 + r))) := by
                  have q := harr.2.1
                  show A2.1 2 (M2.1 22 (M2.1 26 (16 + r))) + M2.1 23 (M2.1 26 (16 + r)) ≤ _
                  omega
                have hy_hho_59_0 : 0 ≤ (aD A2 r (fd l)).1 2 ((M2.1 22) (M2.1 26 (16 + r))) := hho
                have hy_hnow_59_0 : (M2.2 20) = (aD A2 r (fd l)).2.1 0 := by show M2.2 20 = A2.2.1 0; rw [k5]; omega
                refine z_callV ZC 2 (c_X8_arrives zl D K h a ((upf M2.1 26 (upz (M2.1 26) (16 + r) (M2.1 25 (M2.1 26 (16 + r))))), M2.2) Ne Cr (aD A2 r (fd l)) (upL C2 (16 + r) l) (M2.1 26 (16 + r)) (Ne.1 1 r) (hy_hcf_59_0) (hy_hnw_59_0) (hy_hmn_59_0) (hy_hmc_59_0) (hy_hmd_59_0) (hy_hus_59_0) (hy_htn_59_0) (hy_hc_59_0) (hy_hL_59_0) (hy_hle_59_0) (hy_hho_59_0) (hy_hnow_59_0)) (gdV uM_X8_167 uI_X8_arrives uS_X8_arrives uN_X8 uC_X8_arrives) (by decide +kernel) rfl ⟨by omega, by omega⟩ ⟨by omega, by omega⟩ (Nat.le_of_ble_eq_true rfl) [0, 1, 2, 3, 4, 5, 6, 7, 8, 9, 10, 11, 12, 13, 14, 15, 16, 17, 18, 19, 20, 21, 22, 23, 24, 25, 26, 27, 28, 29, 30, 31] rfl (by decide) rfl rfl rfl rfl dX8_hour_59 (fun r w2 gc_59 gs_59 hp => ?_)
                obtain ⟨M2_59, C2_59, rfl, rfl, rfl, rfl, hmd2_59, hkp_59⟩ := hp
                have hmd2_59 : MD Cr (aArr Ne Cr (Ne.1 1 r) (aD A2 r (fd l)) ((M2.1 22) (M2.1 26 (16 + r))) ((M2.1 23) (M2.1 26 (16 + r))).toNat) M2_59 C2_59 [] := hmd2_59
                have hkp_59 : KP [25, 26, 27, 29, 30] [] ((upf M2.1 26 (upz (M2.1 26) (16 + r) (M2.1 25 (M2.1 26 (16 + r))))), M2.2) M2_59 := hkp_59
                refine z_ws (ws2 := [(h, .inr (8, [vZ (M2_59.2 0), .ref (a 1), .ref (a 2), vZ (M2_59.2 3), vZ (M2_59.2 4), .ref (a 5), .ref (a 6), .ref (a 7), .ref (a 8), .ref (a 9), .ref (a 10), .ref (a 11), vZ (M2_59.2 12), .ref (a 13), .ref (a 14), .ref (a 15), .ref (a 16), .ref (a 17), .ref (a 18), .ref (a 19), vZ (M2_59.2 20), vZ (M2_59.2 21), .ref (a 22), .ref (a 23), .ref (a 24), .ref (a 25), .ref (a 26), .ref (a 27), .ref (a 28), .ref (a 29), .ref (a 30), .ref (a 31), .ref (a 32), .ref (a 33), vZ (M2_59.2 34), .ref (a 35), vZ (M2_59.2 36), vZ (M2_59.2 37), vZ (M2_59.2 38), .ref (a 39), .ref (a 40), vZ (M2_59.2 41), vZ (M2_59.2 42), vZ (M2_59.2 43)])), ((a 1), .inl (K.1, 10, .inl (ar (M2_59.1 1)))), ((a 2), .inl (K.1, 10, .inl (ar (M2_59.1 2)))), ((a 5), .inl (K.1, 16, .inl (ar (M2_59.1 5)))), ((a 6), .inl (K.1, 16, .inl (ar (M2_59.1 6)))), ((a 7), .inl (K.1, 16, .inl (ar (M2_59.1 7)))), ((a 8), .inl (K.1, 16, .inl (ar (M2_59.1 8)))), ((a 9), .inl (K.1, 16, .inl (ar (M2_59.1 9)))), ((a 10), .inl (K.1, 16, .inl (ar (M2_59.1 10)))), ((a 11), .inl (K.1, 100, .inl (ar (M2_59.1 11)))), ((a 13), .inl (K.1, 8, .inl (ar (M2_59.1 13)))), ((a 14), .inl (K.1, 8, .inl (ar (M2_59.1 14)))), ((a 15), .inl (K.1, 8, .inl (ar (M2_59.1 15)))), ((a 16), .inl (K.1, 8, .inl (ar (M2_59.1 16)))), ((a 17), .inl (K.1, 3200, .inl (ar (M2_59.1 17)))), ((a 18), .inl (K.1, 3200, .inl (ar (M2_59.1 18)))), ((a 19), .inl (K.2.1, 3200, .inl (ar (M2_59.1 19)))), ((a 22), .inl (K.1, 3400, .inl (ar (M2_59.1 22)))), ((a 23), .inl (K.1, 3400, .inl (ar (M2_59.1 23)))), ((a 24), .inl (K.1, 3400, .inl (ar (M2_59.1 24)))), ((a 25), .inl (K.1, 3400, .inl (ar (M2_59.1 25)))), ((a 26), .inl (K.1, 32, .inl (ar (M2_59.1 26)))), ((a 27), .inl (K.1, 32, .inl (ar (M2_59.1 27)))), ((a 28), .inl (K.2.1, 8, .inl (ar (M2_59.1 28)))), ((a 29), .inl (K.1, 8, .inl (ar (M2_59.1 29)))), ((a 30), .inl (K.1, 8, .inl (ar (M2_59.1 30)))), ((a 31), .inl (K.1, 10, .inl (ar (M2_59.1 31)))), ((a 32), .inl (K.1, 10, .inl (ar (M2_59.1 32)))), ((a 33), .inl (K.1, 10, .inl (ar (M2_59.1 33)))), ((a 35), .inl (K.1, 13711, .inl (ar (M2_59.1 35)))), ((a 39), .inl (K.1, 4, .inl (ar (M2_59.1 39)))), ((a 40), .inl (K.1, 4, .inl (ar (M2_59.1 40))))]) rfl ?_
                refine z_st (st2 := []) rfl ?_
                have hlr : (((aArr Ne Cr (Ne.1 1 r) (aD A2 r (fd l)) (M2.1 22 (M2.1 26 (16 + r))) (M2.1 23 (M2.1 26 (16 + r))).toNat)).2.2.2 r).length = (fd l).length := by rw [aArr_r.1]
                refine z_goto ZC 10 dX8_hour_62 (by decide) ?_
                refine z_ws (ws2 := [(h, .inr (8, [vZ (M2_59.2 0), .ref (a 1), .ref (a 2), vZ (M2_59.2 3), vZ (M2_59.2 4), .ref (a 5), .ref (a 6), .ref (a 7), .ref (a 8), .ref (a 9), .ref (a 10), .ref (a 11), vZ (M2_59.2 12), .ref (a 13), .ref (a 14), .ref (a 15), .ref (a 16), .ref (a 17), .ref (a 18), .ref (a 19), vZ (M2_59.2 20), vZ (M2_59.2 21), .ref (a 22), .ref (a 23), .ref (a 24), .ref (a 25), .ref (a 26), .ref (a 27), .ref (a 28), .ref (a 29), .ref (a 30), .ref (a 31), .ref (a 32), .ref (a 33), vZ (M2_59.2 34), .ref (a 35), vZ (M2_59.2 36), vZ (M2_59.2 37), vZ (M2_59.2 38), .ref (a 39), .ref (a 40), vZ (M2_59.2 41), vZ (M2_59.2 42), vZ (M2_59.2 43)])), ((a 1), .inl (K.1, 10, .inl (ar (M2_59.1 1)))), ((a 2), .inl (K.1, 10, .inl (ar (M2_59.1 2)))), ((a 5), .inl (K.1, 16, .inl (ar (M2_59.1 5)))), ((a 6), .inl (K.1, 16, .inl (ar (M2_59.1 6)))), ((a 7), .inl (K.1, 16, .inl (ar (M2_59.1 7)))), ((a 8), .inl (K.1, 16, .inl (ar (M2_59.1 8)))), ((a 9), .inl (K.1, 16, .inl (ar (M2_59.1 9)))), ((a 10), .inl (K.1, 16, .inl (ar (M2_59.1 10)))), ((a 11), .inl (K.1, 100, .inl (ar (M2_59.1 11)))), ((a 13), .inl (K.1, 8, .inl (ar (M2_59.1 13)))), ((a 14), .inl (K.1, 8, .inl (ar (M2_59.1 14)))), ((a 15), .inl (K.1, 8, .inl (ar (M2_59.1 15)))), ((a 16), .inl (K.1, 8, .inl (ar (M2_59.1 16)))), ((a 17), .inl (K.1, 3200, .inl (ar (M2_59.1 17)))), ((a 18), .inl (K.1, 3200, .inl (ar (M2_59.1 18)))), ((a 19), .inl (K.2.1, 3200, .inl (ar (M2_59.1 19)))), ((a 22), .inl (K.1, 3400, .inl (ar (M2_59.1 22)))), ((a 23), .inl (K.1, 3400, .inl (ar (M2_59.1 23)))), ((a 24), .inl (K.1, 3400, .inl (ar (M2_59.1 24)))), ((a 25), .inl (K.1, 3400, .inl (ar (M2_59.1 25)))), ((a 26), .inl (K.1, 32, .inl (ar (M2_59.1 26)))), ((a 27), .inl (K.1, 32, .inl (ar (M2_59.1 27)))), ((a 28), .inl (K.2.1, 8, .inl (ar (M2_59.1 28)))), ((a 29), .inl (K.1, 8, .inl (ar (M2_59.1 29)))), ((a 30), .inl (K.1, 8, .inl (ar (M2_59.1 30)))), ((a 31), .inl (K.1, 10, .inl (ar (M2_59.1 31)))), ((a 32), .inl (K.1, 10, .inl (ar (M2_59.1 32)))), ((a 33), .inl (K.1, 10, .inl (ar (M2_59.1 33)))), ((a 35), .inl (K.1, 13711, .inl (ar (M2_59.1 35)))), ((a 39), .inl (K.1, 4, .inl (ar (M2_59.1 39)))), ((a 40), .inl (K.1, 4, .inl (ar (M2_59.1 40))))]) rfl (z_lv (lv2 := [(0, .ref h), (1, vZ tl), (2, vZ r)]) ⟨rfl, rfl, rfl, trivial⟩ ?_)
                refine ih_10 M2_59 (aArr Ne Cr (Ne.1 1 r) (aD A2 r (fd l)) (M2.1 22 (M2.1 26 (16 + r))) (M2.1 23 (M2.1 26 (16 + r))).toNat) C2_59 ?_ ?_ ?_ ?_ ?_ (by omega)
                · skip
                  exact hmd2_59
                · skip
                  rw [← aCome1_step hfd2]
                  exact k2
                · skip
                  exact KP.trans k3 (KP.trans (la := [25, 26, 27, 29, 30]) (lz := []) (show KP [25, 26, 27, 29, 30] [] M2 (upf M2.1 26 (upz (M2.1 26) (16 + r) (M2.1 25 (M2.1 26 (16 + r)))), M2.2) from ⟨fun k hk => upf_out hk rfl, fun k hk => rfl⟩) hkp_59 rfl rfl rfl rfl) rfl rfl rfl rfl
                · skip
                  exact harr.2.2
                · skip
                  rw [aArr_r.2]; exact k5
        refine z_ws (ws2 := [(h, .inr (8, [vZ (M1.2 0), .ref (a 1), .ref (a 2), vZ (M1.2 3), vZ (M1.2 4), .ref (a 5), .ref (a 6), .ref (a 7), .ref (a 8), .ref (a 9), .ref (a 10), .ref (a 11), vZ (M1.2 12), .ref (a 13), .ref (a 14), .ref (a 15), .ref (a 16), .ref (a 17), .ref (a 18), .ref (a 19), vZ (M1.2 20), vZ (M1.2 21), .ref (a 22), .ref (a 23), .ref (a 24), .ref (a 25), .ref (a 26), .ref (a 27), .ref (a 28), .ref (a 29), .ref (a 30), .ref (a 31), .ref (a 32), .ref (a 33), vZ (M1.2 34), .ref (a 35), vZ (M1.2 36), vZ (M1.2 37), vZ (M1.2 38), .ref (a 39), .ref (a 40), vZ (M1.2 41), vZ (M1.2 42), vZ (M1.2 43)])), ((a 1), .inl (K.1, 10, .inl (ar (M1.1 1)))), ((a 2), .inl (K.1, 10, .inl (ar (M1.1 2)))), ((a 5), .inl (K.1, 16, .inl (ar (M1.1 5)))), ((a 6), .inl (K.1, 16, .inl (ar (M1.1 6)))), ((a 7), .inl (K.1, 16, .inl (ar (M1.1 7)))), ((a 8), .inl (K.1, 16, .inl (ar (M1.1 8)))), ((a 9), .inl (K.1, 16, .inl (ar (M1.1 9)))), ((a 10), .inl (K.1, 16, .inl (ar (M1.1 10)))), ((a 11), .inl (K.1, 100, .inl (ar (M1.1 11)))), ((a 13), .inl (K.1, 8, .inl (ar (M1.1 13)))), ((a 14), .inl (K.1, 8, .inl (ar (M1.1 14)))), ((a 15), .inl (K.1, 8, .inl (ar (M1.1 15)))), ((a 16), .inl (K.1, 8, .inl (ar (M1.1 16)))), ((a 17), .inl (K.1, 3200, .inl (ar (M1.1 17)))), ((a 18), .inl (K.1, 3200, .inl (ar (M1.1 18)))), ((a 19), .inl (K.2.1, 3200, .inl (ar (M1.1 19)))), ((a 22), .inl (K.1, 3400, .inl (ar (M1.1 22)))), ((a 23), .inl (K.1, 3400, .inl (ar (M1.1 23)))), ((a 24), .inl (K.1, 3400, .inl (ar (M1.1 24)))), ((a 25), .inl (K.1, 3400, .inl (ar (M1.1 25)))), ((a 26), .inl (K.1, 32, .inl (ar (M1.1 26)))), ((a 27), .inl (K.1, 32, .inl (ar (M1.1 27)))), ((a 28), .inl (K.2.1, 8, .inl (ar (M1.1 28)))), ((a 29), .inl (K.1, 8, .inl (ar (M1.1 29)))), ((a 30), .inl (K.1, 8, .inl (ar (M1.1 30)))), ((a 31), .inl (K.1, 10, .inl (ar (M1.1 31)))), ((a 32), .inl (K.1, 10, .inl (ar (M1.1 32)))), ((a 33), .inl (K.1, 10, .inl (ar (M1.1 33)))), ((a 35), .inl (K.1, 13711, .inl (ar (M1.1 35)))), ((a 39), .inl (K.1, 4, .inl (ar (M1.1 39)))), ((a 40), .inl (K.1, 4, .inl (ar (M1.1 40))))]) rfl (z_lv (lv2 := [(0, .ref h), (1, vZ tl), (2, vZ r)]) ⟨rfl, rfl, rfl, trivial⟩ ?_)
        refine lp_10 _ M1 A1 C1 ?_ ?_ ?_ ?_ ?_ (Nat.lt_succ_self _)
        · skip
          exact j1
        · skip
          rfl
        · skip
          exact j3
        · skip
          exact j4
        · skip
          rw [j2]; exact (aCome_keep Ne Cr A _).1
  refine z_ws (ws2 := [(h, .inr (8, [vZ (M.2 0), .ref (a 1), .ref (a 2), vZ (M.2 3), vZ (M.2 4), .ref (a 5), .ref (a 6), .ref (a 7), .ref (a 8), .ref (a 9), .ref (a 10), .ref (a 11), vZ (M.2 12), .ref (a 13), .ref (a 14), .ref (a 15), .ref (a 16), .ref (a 17), .ref (a 18), .ref (a 19), vZ (M.2 20), vZ (M.2 21), .ref (a 22), .ref (a 23), .ref (a 24), .ref (a 25), .ref (a 26), .ref (a 27), .ref (a 28), .ref (a 29), .ref (a 30), .ref (a 31), .ref (a 32), .ref (a 33), vZ (M.2 34), .ref (a 35), vZ (M.2 36), vZ (M.2 37), vZ (M.2 38), .ref (a 39), .ref (a 40), vZ (M.2 41), vZ (M.2 42), vZ (M.2 43)])), ((a 1), .inl (K.1, 10, .inl (ar (M.1 1)))), ((a 2), .inl (K.1, 10, .inl (ar (M.1 2)))), ((a 5), .inl (K.1, 16, .inl (ar (M.1 5)))), ((a 6), .inl (K.1, 16, .inl (ar (M.1 6)))), ((a 7), .inl (K.1, 16, .inl (ar (M.1 7)))), ((a 8), .inl (K.1, 16, .inl (ar (M.1 8)))), ((a 9), .inl (K.1, 16, .inl (ar (M.1 9)))), ((a 10), .inl (K.1, 16, .inl (ar (M.1 10)))), ((a 11), .inl (K.1, 100, .inl (ar (M.1 11)))), ((a 13), .inl (K.1, 8, .inl (ar (M.1 13)))), ((a 14), .inl (K.1, 8, .inl (ar (M.1 14)))), ((a 15), .inl (K.1, 8, .inl (ar (M.1 15)))), ((a 16), .inl (K.1, 8, .inl (ar (M.1 16)))), ((a 17), .inl (K.1, 3200, .inl (ar (M.1 17)))), ((a 18), .inl (K.1, 3200, .inl (ar (M.1 18)))), ((a 19), .inl (K.2.1, 3200, .inl (ar (M.1 19)))), ((a 22), .inl (K.1, 3400, .inl (ar (M.1 22)))), ((a 23), .inl (K.1, 3400, .inl (ar (M.1 23)))), ((a 24), .inl (K.1, 3400, .inl (ar (M.1 24)))), ((a 25), .inl (K.1, 3400, .inl (ar (M.1 25)))), ((a 26), .inl (K.1, 32, .inl (ar (M.1 26)))), ((a 27), .inl (K.1, 32, .inl (ar (M.1 27)))), ((a 28), .inl (K.2.1, 8, .inl (ar (M.1 28)))), ((a 29), .inl (K.1, 8, .inl (ar (M.1 29)))), ((a 30), .inl (K.1, 8, .inl (ar (M.1 30)))), ((a 31), .inl (K.1, 10, .inl (ar (M.1 31)))), ((a 32), .inl (K.1, 10, .inl (ar (M.1 32)))), ((a 33), .inl (K.1, 10, .inl (ar (M.1 33)))), ((a 35), .inl (K.1, 13711, .inl (ar (M.1 35)))), ((a 39), .inl (K.1, 4, .inl (ar (M.1 39)))), ((a 40), .inl (K.1, 4, .inl (ar (M.1 40))))]) rfl (z_lv (lv2 := [(0, .ref h), (1, vZ tl), (2, vZ 0)]) ⟨rfl, rfl, rfl, trivial⟩ ?_)
  refine lp_2 _ 0 M A C ?_ ?_ ?_ ?_ ?_ (Nat.lt_succ_self _)
  · skip
    omega
  · skip
    exact hmd
  · skip
    rfl
  · skip
    exact KP.refl _ _ _
  · skip
    exact hok

