/-! ===== ShadowRoads: dawn; hours go ===== -/
def wth (To : Bd) (t : Int) : Int := drk (To.2 2) (To.1 0 t) * (100 - To.1 1 t)
theorem wth_rng {To : Bd} {t : Int} (h : 0 ≤ To.1 1 t ∧ To.1 1 t ≤ 100) : 0 ≤ wth To t ∧ wth To t ≤ 30000 := by
  have d := drk_rng (To.2 2) (To.1 0 t)
  unfold wth
  refine ⟨Int.mul_nonneg d.1 (by omega), ?_⟩
  have := Int.mul_le_mul d.2 (show 100 - To.1 1 t ≤ 100 by omega) (by omega) (by omega)
  omega
def bsS (To Ne : Bd) (here home hours best t : Int) : Int := if (Ne.1 6 (here * 10 + t) ≠ -1 ∧ Ne.1 6 (here * 10 + t) ≤ hours) ∧ t ≠ home ∧ Ne.1 6 (t * 10 + home) ≠ -1 ∧ (wth To best < wth To t ∨ (wth To t = wth To best ∧ Ne.1 6 (here * 10 + t) < Ne.1 6 (here * 10 + best))) then t else best
def bsF (To Ne : Bd) (here home hours : Int) : Nat → Int
  | 0 => here
  | n + 1 => bsS To Ne here home hours (bsF To Ne here home hours n) (n : Int)
theorem bsF_next {To Ne : Bd} {here home hours t : Int} (h : 0 ≤ t) : bsF To Ne here home hours (t + 1).toNat = bsS To Ne here home hours (bsF To Ne here home hours t.toNat) t := by
  rw [show (t + 1).toNat = t.toNat + 1 by omega]
  show bsS _ _ _ _ _ _ ((t.toNat : Nat) : Int) = _
  rw [show ((t.toNat : Nat) : Int) = t by omega]
theorem bsF_in {To Ne : Bd} {here home hours : Int} (h0 : Ne.1 6 (here * 10 + here) = 0) : ∀ n : Nat, (∀ t : Int, 0 ≤ t → t < n → -1 ≤ Ne.1 6 (here * 10 + t)) → bsF To Ne here home hours n = here ∨ ((0 ≤ bsF To Ne here home hours n ∧ bsF To Ne here home hours n < n) ∧ bsF To Ne here home hours n ≠ home ∧ Ne.1 6 (bsF To Ne here home hours n * 10 + home) ≠ -1 ∧ wth To here < wth To (bsF To Ne here home hours n))
  | 0, _ => Or.inl rfl
  | n + 1, hr => by
    have ih := bsF_in (To := To) (Ne := Ne) (here := here) (home := home) (hours := hours) h0 n (fun t a b => hr t a (by omega))
    have hrn := hr (n : Int) (by omega) (by omega)
    show bsS To Ne here home hours (bsF To Ne here home hours n) (n : Int) = here ∨ _
    have e : bsF To Ne here home hours (n + 1) = bsS To Ne here home hours (bsF To Ne here home hours n) (n : Int) := rfl
    rw [e]
    unfold bsS
    split
    · rename_i z
      by_cases q : (n : Int) = here
      · exact Or.inl q
      · right
        refine ⟨by omega, z.2.1, z.2.2.1, ?_⟩
        rcases ih with i | i
        · rcases z.2.2.2 with y | y
          · rw [i] at y; exact y
          · rw [i] at y
            rw [h0] at y
            have := z.1.1
            omega
        · rcases z.2.2.2 with y | y <;> omega
    · rcases ih with i | i
      · exact Or.inl i
      · exact Or.inr ⟨by omega, i.2⟩
def dwF (To Ne Cr : Bd) (hours : Int) : Nat → (Int → Int) × Int
  | 0 => (Cr.1 0, 0)
  | n + 1 => if bsF To Ne (Cr.1 0 (n : Int)) (Cr.1 2 (n : Int)) hours (To.2 3).toNat = Cr.1 0 (n : Int) then dwF To Ne Cr hours n else (upz (dwF To Ne Cr hours n).1 (n : Int) (bsF To Ne (Cr.1 0 (n : Int)) (Cr.1 2 (n : Int)) hours (To.2 3).toNat), (dwF To Ne Cr hours n).2 + 1)
theorem dwF_next {To Ne Cr : Bd} {hours c : Int} (h : 0 ≤ c) : dwF To Ne Cr hours (c + 1).toNat = if bsF To Ne (Cr.1 0 c) (Cr.1 2 c) hours (To.2 3).toNat = Cr.1 0 c then dwF To Ne Cr hours c.toNat else (upz (dwF To Ne Cr hours c.toNat).1 c (bsF To Ne (Cr.1 0 c) (Cr.1 2 c) hours (To.2 3).toNat), (dwF To Ne Cr hours c.toNat).2 + 1) := by
  obtain ⟨k, rfl⟩ : ∃ k : Nat, c = (k : Int) := ⟨c.toNat, by omega⟩
  rw [show ((k : Int) + 1).toNat = k + 1 by omega, show ((k : Int)).toNat = k by omega]
  rfl
theorem dwF_keep {To Ne Cr : Bd} {hours : Int} : ∀ (n : Nat) (c : Int), (n : Int) ≤ c → (dwF To Ne Cr hours n).1 c = Cr.1 0 c
  | 0, _, _ => rfl
  | n + 1, c, h => by
    show (if _ then dwF To Ne Cr hours n else (upz (dwF To Ne Cr hours n).1 (n : Int) _, _)).1 c = _
    split
    · exact dwF_keep n c (by omega)
    · show upz _ (n : Int) _ c = _
      rw [upz_ne _ _ (by omega)]
      exact dwF_keep n c (by omega)
theorem aAt_pl {Ne Cr : Bd} {A : Ab} {Pl : Int → Int} {c b t : Int} (h0 : 0 ≤ c) (h1 : c < Cr.2 3) (ho : A.1 1 c = 0) : aAt Ne (upf Cr.1 0 (upz Pl c b), Cr.2) A t = aAt Ne (upf Cr.1 0 Pl, Cr.2) A t + (if b = t then Cr.1 1 c else 0) - (if Pl c = t then Cr.1 1 c else 0) := by
  show smI (fun x => (if A.1 1 x = 0 ∧ upz Pl c b x = t then Cr.1 1 x else 0) + (if Cr.1 2 x = t then A.1 2 x else 0)) 0 (Cr.2 3).toNat + smI (fun r => if Ne.1 0 r = t then ((A.2.2.1 r).length : Int) else 0) 0 (Ne.2 8).toNat = smI (fun x => (if A.1 1 x = 0 ∧ Pl x = t then Cr.1 1 x else 0) + (if Cr.1 2 x = t then A.1 2 x else 0)) 0 (Cr.2 3).toNat + smI (fun r => if Ne.1 0 r = t then ((A.2.2.1 r).length : Int) else 0) 0 (Ne.2 8).toNat + _ - _
  rw [smI_pt2 (g := fun x => (if A.1 1 x = 0 ∧ Pl x = t then Cr.1 1 x else 0) + (if Cr.1 2 x = t then A.1 2 x else 0)) (k := c) (v := (if b = t then Cr.1 1 c else 0) - (if Pl c = t then Cr.1 1 c else 0)) h0 (by omega) (fun j _ _ e => by rw [upz_ne _ _ e]) (by
    rw [upz_self]
    simp only [ho, true_and]
    omega)]
  omega
/-- what an hour writes into the logs -/
def ntU (Ne U : Bd) (L : Bd) (k : Nat) : Bd := ((upf (upf L.1 0 (upz (L.1 0) (U.2 12) (U.1 11 (k : Int)))) 1 (upz (L.1 1) (U.2 12) (if Ne.1 4 (k : Int) ≤ U.2 12 ∧ U.2 12 < Ne.1 5 (k : Int) then 0 else Ne.1 2 (k : Int)))), L.2)
def ntA (Ne Cr : Bd) (A : Ab) (L : Bd) (k : Nat) : Bd := ((upf (upf L.1 0 (upz (L.1 0) (A.2.1 0) (aK Ne (aLet Ne Cr (aCome Ne Cr A (Ne.2 8).toNat) (Cr.2 3).toNat) (k : Int) : Int))) 1 (upz (L.1 1) (A.2.1 0) (if Ne.1 4 (k : Int) ≤ A.2.1 0 ∧ A.2.1 0 < Ne.1 5 (k : Int) then 0 else Ne.1 2 (k : Int)))), L.2)
def lgF (To Ne Cr : Bd) (A : Ab) (Lg : Nat → Bd) : Nat → Nat → Bd
  | 0, k => Lg k
  | n + 1, k => ntA Ne Cr (aHrs To Ne Cr A n) (lgF To Ne Cr A Lg n k) k
theorem lgF_next {To Ne Cr : Bd} {A : Ab} {Lg : Nat → Bd} {i : Int} (h : 0 ≤ i) (k : Nat) : lgF To Ne Cr A Lg (i + 1).toNat k = ntA Ne Cr (aHrs To Ne Cr A i.toNat) (lgF To Ne Cr A Lg i.toNat k) k := by
  rw [show (i + 1).toNat = i.toNat + 1 by omega]; rfl
theorem ntA_eq {Ne Cr U : Bd} {A : Ab} {L : Bd} {k : Nat} (h1 : U.2 12 = A.2.1 0) (h2 : U.1 11 (k : Int) = (aK Ne (aLet Ne Cr (aCome Ne Cr A (Ne.2 8).toNat) (Cr.2 3).toNat) (k : Int) : Int)) : ntU Ne U L k = ntA Ne Cr A L k := by
  unfold ntU ntA
  rw [h1, h2]
def goK (n now : Int) : Nat := if 0 ≤ n ∧ n ≤ 50 then (min n (200 - now)).toNat else 0

set_option maxHeartbeats 4000000 in
set_option maxRecDepth 100000 in
theorem c_X7_bestSight (zl : Launch) (D : va_G) (K : tyK) (h : Nat) (x : Nat → Nat) (ato : Nat → Nat) (To : Bd) (an : Nat → Nat) (Ne : Bd) (here : Int) (home : Int) (hours : Int) (hz_here : -2147483648 ≤ here ∧ here < 2147483648) (hz_home : -2147483648 ≤ home ∧ home < 2147483648) (hz_hours : -2147483648 ≤ hours ∧ hours < 2147483648) (hto : 0 ≤ To.2 3 ∧ To.2 3 ≤ 10) (htw : (1 ≤ To.2 2 ∧ To.2 2 ≤ 100) ∧ ∀ t : Int, 0 ≤ t → t < To.2 3 → (0 ≤ To.1 0 t ∧ To.1 0 t ≤ 99) ∧ (0 ≤ To.1 1 t ∧ To.1 1 t ≤ 100)) (hls : ∀ k : Int, 0 ≤ k → k < 100 → -1 ≤ Ne.1 6 k ∧ Ne.1 6 k ≤ 1000) (hhe : 0 ≤ here ∧ here < To.2 3) (hho : 0 ≤ home ∧ home < To.2 3) : Mz zl yX7_bestSight cX7_bestSight 9 (some .int) 2 44 0 0 D K [.ref h, vZ here, vZ home, vZ hours] ((wSh h x) ++ (wTo K (x 0) ato To) ++ (wNe K (x 1) an Ne)) (fun r_ w2_ gc gs => ∃ (v : Int), r_ = some (vZ v) ∧ w2_ = ((wSh h x) ++ (wTo K (x 0) ato To) ++ (wNe K (x 1) an Ne)) ∧ gc = 0 ∧ gs = 0 ∧ (v = bsF To Ne here home hours (To.2 3).toNat) ∧ (0 ≤ v ∧ v < To.2 3)) := by
  refine Mz.ofZ (by decide) rfl (Nat.le_of_ble_eq_true rfl) ?_
  intro zp ze zR zs zm zargs zbelow zmeth zc zA zQ ZC ZE hRf hRc hRs hRl
  refine z_iload_n ZC 1 dX7_bestSight_0 rfl rfl ?_
  refine z_istore ZC dX7_bestSight_1 (by decide) ?_
  refine z_iconst ZC dX7_bestSight_3 ?_
  refine z_istore ZC dX7_bestSight_4 (by decide) ?_
  have lp_6 : ∀ (n_6 : Nat) (best : Int) (t : Int), (0 ≤ t ∧ t ≤ To.2 3) → (best = bsF To Ne here home hours t.toNat) → (0 ≤ best ∧ best < To.2 3) → ((To.2 3 - t).toNat) < n_6 → Zw zp zl ze zR zs zm zargs zbelow zmeth zc D zA 9 zQ 0 0 ([(h, .inr (7, [.ref (x 0), .ref (x 1), .ref (x 2), .ref (x 3), .ref (x 4), .ref (x 5)])), ((x 0), .inr (5, [.ref (ato 0), .ref (ato 1), vZ (To.2 2), vZ (To.2 3)])), ((ato 0), .inl (K.1, 10, .inl (ar (To.1 0)))), ((ato 1), .inl (K.1, 10, .inl (ar (To.1 1)))), ((x 1), .inr (4, [.ref (an 0), .ref (an 1), .ref (an 2), .ref (an 3), .ref (an 4), .ref (an 5), .ref (an 6), .ref (an 7), vZ (Ne.2 8)])), ((an 0), .inl (K.1, 16, .inl (ar (Ne.1 0)))), ((an 1), .inl (K.1, 16, .inl (ar (Ne.1 1)))), ((an 2), .inl (K.1, 16, .inl (ar (Ne.1 2)))), ((an 3), .inl (K.1, 16, .inl (ar (Ne.1 3)))), ((an 4), .inl (K.1, 16, .inl (ar (Ne.1 4)))), ((an 5), .inl (K.1, 16, .inl (ar (Ne.1 5)))), ((an 6), .inl (K.1, 100, .inl (ar (Ne.1 6)))), ((an 7), .inl (K.1, 100, .inl (ar (Ne.1 7))))]) 6 [(0, .ref h), (1, vZ here), (2, vZ home), (3, vZ hours), (4, vZ best), (5, vZ t)] [] := by
    intro n_6
    induction n_6 with
    | zero => intro best t ht hb hbr hm_6; exact absurd hm_6 (Nat.not_lt_zero _)
    | succ n_6 ih_6 =>
      intro best t ht hb hbr hm_6
      refine z_iload ZC dX7_bestSight_6 rfl ?_
      refine z_aload_n ZC 0 dX7_bestSight_8 rfl rfl ?_
      refine z_get ZC inUX7 0 rfl rfl 0 (by decide) uF_X7_12 rfl dX7_bestSight_9 ?_
      refine z_get ZC inUX5 1 rfl rfl 3 (by decide) uF_X7_59 rfl dX7_bestSight_12 ?_
      refine z_icmp_ge ZC 130 dX7_bestSight_15 (by decide) (by omega) (by omega) (fun c_15 => ?_) (fun c_15 => ?_)
      · skip
        refine z_iload ZC dX7_bestSight_130 rfl ?_
        refine z_iret ZC ZE dX7_bestSight_132 (by omega) (by omega) (Nat.le_of_ble_eq_true rfl) ⟨best, rfl, rfl, by omega, by omega, ?_, ?_⟩
        · skip
          rw [hb, show t = To.2 3 by omega]
        · skip
          omega
      · skip
        have hl1 := hls (here * 10 + t) (by omega) (by omega)
        refine z_aload_n ZC 0 dX7_bestSight_18 rfl rfl ?_
        refine z_get ZC inUX7 0 rfl rfl 1 (by decide) uF_X7_19 rfl dX7_bestSight_19 ?_
        refine z_iload_n ZC 1 dX7_bestSight_22 rfl rfl ?_
        refine z_iload ZC dX7_bestSight_23 rfl ?_
        refine z_callV ZC 2 (c_X4_leastHours zl D K (x 1) an Ne here t (by omega) (by omega)) (gdV uM_X7_99 uI_X4_leastHours uS_X4_leastHours uN_X4 uC_X4_leastHours) (by decide +kernel) rfl ⟨by omega, by omega⟩ ⟨by omega, by omega⟩ (Nat.le_of_ble_eq_true rfl) [4, 5, 6, 7, 8, 9, 10, 11, 12] rfl (by decide) rfl rfl rfl rfl dX7_bestSight_25 (fun r w2 gc_25 gs_25 hp => ?_)
        obtain ⟨rfl, rfl, rfl, rfl⟩ := hp
        refine z_ws (ws2 := [(h, .inr (7, [.ref (x 0), .ref (x 1), .ref (x 2), .ref (x 3), .ref (x 4), .ref (x 5)])), ((x 0), .inr (5, [.ref (ato 0), .ref (ato 1), vZ (To.2 2), vZ (To.2 3)])), ((ato 0), .inl (K.1, 10, .inl (ar (To.1 0)))), ((ato 1), .inl (K.1, 10, .inl (ar (To.1 1)))), ((x 1), .inr (4, [.ref (an 0), .ref (an 1), .ref (an 2), .ref (an 3), .ref (an 4), .ref (an 5), .ref (an 6), .ref (an 7), vZ (Ne.2 8)])), ((an 0), .inl (K.1, 16, .inl (ar (Ne.1 0)))), ((an 1), .inl (K.1, 16, .inl (ar (Ne.1 1)))), ((an 2), .inl (K.1, 16, .inl (ar (Ne.1 2)))), ((an 3), .inl (K.1, 16, .inl (ar (Ne.1 3)))), ((an 4), .inl (K.1, 16, .inl (ar (Ne.1 4)))), ((an 5), .inl (K.1, 16, .inl (ar (Ne.1 5)))), ((an 6), .inl (K.1, 100, .inl (ar (Ne.1 6)))), ((an 7), .inl (K.1, 100, .inl (ar (Ne.1 7))))]) rfl ?_
        refine z_st (st2 := [vZ (Ne.1 6 (here * 10 + t))]) rfl ?_
        refine z_istore ZC dX7_bestSight_28 (by decide) ?_
        refine z_iload ZC dX7_bestSight_30 rfl ?_
        refine z_iconst ZC dX7_bestSight_32 ?_
        refine z_icmp_eq ZC 46 dX7_bestSight_33 (by decide) (by omega) (by omega) (fun c_33 => ?_) (fun c_33 => ?_)
        · skip
          refine z_iconst ZC dX7_bestSight_46 ?_
          refine z_istore ZC dX7_bestSight_47 (by decide) ?_
          refine z_iload ZC dX7_bestSight_49 rfl ?_
          refine z_if_eq ZC 124 dX7_bestSight_51 (by decide) (by omega) (fun c_51 => ?_) (fun c_51 => ?_)
          · skip
            refine z_iinc ZC dX7_bestSight_124 rfl (by decide) ?_
            refine z_goto ZC 6 dX7_bestSight_127 (by decide) ?_
            refine z_ws (ws2 := [(h, .inr (7, [.ref (x 0), .ref (x 1), .ref (x 2), .ref (x 3), .ref (x 4), .ref (x 5)])), ((x 0), .inr (5, [.ref (ato 0), .ref (ato 1), vZ (To.2 2), vZ (To.2 3)])), ((ato 0), .inl (K.1, 10, .inl (ar (To.1 0)))), ((ato 1), .inl (K.1, 10, .inl (ar (To.1 1)))), ((x 1), .inr (4, [.ref (an 0), .ref (an 1), .ref (an 2), .ref (an 3), .ref (an 4), .ref (an 5), .ref (an 6), .ref (an 7), vZ (Ne.2 8)])), ((an 0), .inl (K.1, 16, .inl (ar (Ne.1 0)))), ((an 1), .inl (K.1, 16, .inl (ar (Ne.1 1)))), ((an 2), .inl (K.1, 16, .inl (ar (Ne.1 2)))), ((an 3), .inl (K.1, 16, .inl (ar (Ne.1 3)))), ((an 4), .inl (K.1, 16, .inl (ar (Ne.1 4)))), ((an 5), .inl (K.1, 16, .inl (ar (Ne.1 5)))), ((an 6), .inl (K.1, 100, .inl (ar (Ne.1 6)))), ((an 7), .inl (K.1, 100, .inl (ar (Ne.1 7))))]) rfl (z_lv (lv2 := [(0, .ref h), (1, vZ here), (2, vZ home), (3, vZ hours), (4, vZ best), (5, vZ (t + 1))]) ⟨rfl, rfl, rfl, rfl, rfl, rfl, trivial⟩ ?_)
            refine ih_6 best (t + 1) ?_ ?_ ?_ (dec_lt hm_6 c_15)
            · skip
              omega
            · skip
              rw [bsF_next ht.1, ← hb]
              unfold bsS
              rw [if_neg (by omega)]
            · skip
              omega
          · skip
            omega
        · skip
          refine z_iload ZC dX7_bestSight_36 rfl ?_
          refine z_iload_n ZC 3 dX7_bestSight_38 rfl rfl ?_
          refine z_icmp_gt ZC 46 dX7_bestSight_39 (by decide) (by omega) (by omega) (fun c_39 => ?_) (fun c_39 => ?_)
          · skip
            refine z_iconst ZC dX7_bestSight_46 ?_
            refine z_istore ZC dX7_bestSight_47 (by decide) ?_
            refine z_iload ZC dX7_bestSight_49 rfl ?_
            refine z_if_eq ZC 124 dX7_bestSight_51 (by decide) (by omega) (fun c_51 => ?_) (fun c_51 => ?_)
            · skip
              refine z_iinc ZC dX7_bestSight_124 rfl (by decide) ?_
              refine z_goto ZC 6 dX7_bestSight_127 (by decide) ?_
              refine z_ws (ws2 := [(h, .inr (7, [.ref (x 0), .ref (x 1), .ref (x 2), .ref (x 3), .ref (x 4), .ref (x 5)])), ((x 0), .inr (5, [.ref (ato 0), .ref (ato 1), vZ (To.2 2), vZ (To.2 3)])), ((ato 0), .inl (K.1, 10, .inl (ar (To.1 0)))), ((ato 1), .inl (K.1, 10, .inl (ar (To.1 1)))), ((x 1), .inr (4, [.ref (an 0), .ref (an 1), .ref (an 2), .ref (an 3), .ref (an 4), .ref (an 5), .ref (an 6), .ref (an 7), vZ (Ne.2 8)])), ((an 0), .inl (K.1, 16, .inl (ar (Ne.1 0)))), ((an 1), .inl (K.1, 16, .inl (ar (Ne.1 1)))), ((an 2), .inl (K.1, 16, .inl (ar (Ne.1 2)))), ((an 3), .inl (K.1, 16, .inl (ar (Ne.1 3)))), ((an 4), .inl (K.1, 16, .inl (ar (Ne.1 4)))), ((an 5), .inl (K.1, 16, .inl (ar (Ne.1 5)))), ((an 6), .inl (K.1, 100, .inl (ar (Ne.1 6)))), ((an 7), .inl (K.1, 100, .inl (ar (Ne.1 7))))]) rfl (z_lv (lv2 := [(0, .ref h), (1, vZ here), (2, vZ home), (3, vZ hours), (4, vZ best), (5, vZ (t + 1))]) ⟨rfl, rfl, rfl, rfl, rfl, rfl, trivial⟩ ?_)
              refine ih_6 best (t + 1) ?_ ?_ ?_ (dec_lt hm_6 c_15)
              · skip
                omega
              · skip
                rw [bsF_next ht.1, ← hb]
                unfold bsS
                rw [if_neg (by omega)]
              · skip
                omega
            · skip
              omega
          · skip
            refine z_iconst ZC dX7_bestSight_42 ?_
            refine z_goto ZC 47 dX7_bestSight_43 (by decide) ?_
            refine z_istore ZC dX7_bestSight_47 (by decide) ?_
            refine z_iload ZC dX7_bestSight_49 rfl ?_
            refine z_if_eq ZC 124 dX7_bestSight_51 (by decide) (by omega) (fun c_51 => ?_) (fun c_51 => ?_)
            · skip
              omega
            · skip
              refine z_iload ZC dX7_bestSight_54 rfl ?_
              refine z_iload_n ZC 2 dX7_bestSight_56 rfl rfl ?_
              refine z_icmp_eq ZC 124 dX7_bestSight_57 (by decide) (by omega) (by omega) (fun c_57 => ?_) (fun c_57 => ?_)
              · skip
                refine z_iinc ZC dX7_bestSight_124 rfl (by decide) ?_
                refine z_goto ZC 6 dX7_bestSight_127 (by decide) ?_
                refine z_ws (ws2 := [(h, .inr (7, [.ref (x 0), .ref (x 1), .ref (x 2), .ref (x 3), .ref (x 4), .ref (x 5)])), ((x 0), .inr (5, [.ref (ato 0), .ref (ato 1), vZ (To.2 2), vZ (To.2 3)])), ((ato 0), .inl (K.1, 10, .inl (ar (To.1 0)))), ((ato 1), .inl (K.1, 10, .inl (ar (To.1 1)))), ((x 1), .inr (4, [.ref (an 0), .ref (an 1), .ref (an 2), .ref (an 3), .ref (an 4), .ref (an 5), .ref (an 6), .ref (an 7), vZ (Ne.2 8)])), ((an 0), .inl (K.1, 16, .inl (ar (Ne.1 0)))), ((an 1), .inl (K.1, 16, .inl (ar (Ne.1 1)))), ((an 2), .inl (K.1, 16, .inl (ar (Ne.1 2)))), ((an 3), .inl (K.1, 16, .inl (ar (Ne.1 3)))), ((an 4), .inl (K.1, 16, .inl (ar (Ne.1 4)))), ((an 5), .inl (K.1, 16, .inl (ar (Ne.1 5)))), ((an 6), .inl (K.1, 100, .inl (ar (Ne.1 6)))), ((an 7), .inl (K.1, 100, .inl (ar (Ne.1 7))))]) rfl (z_lv (lv2 := [(0, .ref h), (1, vZ here), (2, vZ home), (3, vZ hours), (4, vZ best), (5, vZ (t + 1))]) ⟨rfl, rfl, rfl, rfl, rfl, rfl, trivial⟩ ?_)
                refine ih_6 best (t + 1) ?_ ?_ ?_ (dec_lt hm_6 c_15)
                · skip
                  omega
                · skip
                  rw [bsF_next ht.1, ← hb]
                  unfold bsS
                  rw [if_neg (by omega)]
                · skip
                  omega
              · skip
                have hl2 := hls (t * 10 + home) (by omega) (by omega)
                have htt := htw.2 t (by omega) (by omega)
                have htb := htw.2 best (by omega) (by omega)
                have hw1 := wth_rng htt.2
                have hw2 := wth_rng htb.2
                refine z_aload_n ZC 0 dX7_bestSight_60 rfl rfl ?_
                refine z_get ZC inUX7 0 rfl rfl 1 (by decide) uF_X7_19 rfl dX7_bestSight_61 ?_
                refine z_iload ZC dX7_bestSight_64 rfl ?_
                refine z_iload_n ZC 2 dX7_bestSight_66 rfl rfl ?_
                refine z_callV ZC 2 (c_X4_leastHours zl D K (x 1) an Ne t home (by omega) (by omega)) (gdV uM_X7_99 uI_X4_leastHours uS_X4_leastHours uN_X4 uC_X4_leastHours) (by decide +kernel) rfl ⟨by omega, by omega⟩ ⟨by omega, by omega⟩ (Nat.le_of_ble_eq_true rfl) [4, 5, 6, 7, 8, 9, 10, 11, 12] rfl (by decide) rfl rfl rfl rfl dX7_bestSight_67 (fun r w2 gc_67 gs_67 hp => ?_)
                obtain ⟨rfl, rfl, rfl, rfl⟩ := hp
                refine z_ws (ws2 := [(h, .inr (7, [.ref (x 0), .ref (x 1), .ref (x 2), .ref (x 3), .ref (x 4), .ref (x 5)])), ((x 0), .inr (5, [.ref (ato 0), .ref (ato 1), vZ (To.2 2), vZ (To.2 3)])), ((ato 0), .inl (K.1, 10, .inl (ar (To.1 0)))), ((ato 1), .inl (K.1, 10, .inl (ar (To.1 1)))), ((x 1), .inr (4, [.ref (an 0), .ref (an 1), .ref (an 2), .ref (an 3), .ref (an 4), .ref (an 5), .ref (an 6), .ref (an 7), vZ (Ne.2 8)])), ((an 0), .inl (K.1, 16, .inl (ar (Ne.1 0)))), ((an 1), .inl (K.1, 16, .inl (ar (Ne.1 1)))), ((an 2), .inl (K.1, 16, .inl (ar (Ne.1 2)))), ((an 3), .inl (K.1, 16, .inl (ar (Ne.1 3)))), ((an 4), .inl (K.1, 16, .inl (ar (Ne.1 4)))), ((an 5), .inl (K.1, 16, .inl (ar (Ne.1 5)))), ((an 6), .inl (K.1, 100, .inl (ar (Ne.1 6)))), ((an 7), .inl (K.1, 100, .inl (ar (Ne.1 7))))]) rfl ?_
                refine z_st (st2 := [vZ (Ne.1 6 (t * 10 + home))]) rfl ?_
                refine z_iconst ZC dX7_bestSight_70 ?_
                refine z_icmp_eq ZC 124 dX7_bestSight_71 (by decide) (by omega) (by omega) (fun c_71 => ?_) (fun c_71 => ?_)
                · skip
                  refine z_iinc ZC dX7_bestSight_124 rfl (by decide) ?_
                  refine z_goto ZC 6 dX7_bestSight_127 (by decide) ?_
                  refine z_ws (ws2 := [(h, .inr (7, [.ref (x 0), .ref (x 1), .ref (x 2), .ref (x 3), .ref (x 4), .ref (x 5)])), ((x 0), .inr (5, [.ref (ato 0), .ref (ato 1), vZ (To.2 2), vZ (To.2 3)])), ((ato 0), .inl (K.1, 10, .inl (ar (To.1 0)))), ((ato 1), .inl (K.1, 10, .inl (ar (To.1 1)))), ((x 1), .inr (4, [.ref (an 0), .ref (an 1), .ref (an 2), .ref (an 3), .ref (an 4), .ref (an 5), .ref (an 6), .ref (an 7), vZ (Ne.2 8)])), ((an 0), .inl (K.1, 16, .inl (ar (Ne.1 0)))), ((an 1), .inl (K.1, 16, .inl (ar (Ne.1 1)))), ((an 2), .inl (K.1, 16, .inl (ar (Ne.1 2)))), ((an 3), .inl (K.1, 16, .inl (ar (Ne.1 3)))), ((an 4), .inl (K.1, 16, .inl (ar (Ne.1 4)))), ((an 5), .inl (K.1, 16, .inl (ar (Ne.1 5)))), ((an 6), .inl (K.1, 100, .inl (ar (Ne.1 6)))), ((an 7), .inl (K.1, 100, .inl (ar (Ne.1 7))))]) rfl (z_lv (lv2 := [(0, .ref h), (1, vZ here), (2, vZ home), (3, vZ hours), (4, vZ best), (5, vZ (t + 1))]) ⟨rfl, rfl, rfl, rfl, rfl, rfl, trivial⟩ ?_)
                  refine ih_6 best (t + 1) ?_ ?_ ?_ (dec_lt hm_6 c_15)
                  · skip
                    omega
                  · skip
                    rw [bsF_next ht.1, ← hb]
                    unfold bsS
                    rw [if_neg (by omega)]
                  · skip
                    omega
                · skip
                  refine z_aload_n ZC 0 dX7_bestSight_74 rfl rfl ?_
                  refine z_get ZC inUX7 0 rfl rfl 0 (by decide) uF_X7_12 rfl dX7_bestSight_75 ?_
                  refine z_iload ZC dX7_bestSight_78 rfl ?_
                  refine z_callV ZC 1 (c_X5_sight zl D K (x 0) ato To t (by omega) (htw.1) (htt.1)) (gdV uM_X7_225 uI_X5_sight uS_X5_sight uN_X5 uC_X5_sight) (by decide +kernel) rfl ⟨by omega, by omega⟩ ⟨by omega, by omega⟩ (Nat.le_of_ble_eq_true rfl) [1, 2, 3] rfl (by decide) rfl rfl rfl rfl dX7_bestSight_80 (fun r w2 gc_80 gs_80 hp => ?_)
                  obtain ⟨rfl, rfl, rfl, rfl⟩ := hp
                  refine z_ws (ws2 := [(h, .inr (7, [.ref (x 0), .ref (x 1), .ref (x 2), .ref (x 3), .ref (x 4), .ref (x 5)])), ((x 0), .inr (5, [.ref (ato 0), .ref (ato 1), vZ (To.2 2), vZ (To.2 3)])), ((ato 0), .inl (K.1, 10, .inl (ar (To.1 0)))), ((ato 1), .inl (K.1, 10, .inl (ar (To.1 1)))), ((x 1), .inr (4, [.ref (an 0), .ref (an 1), .ref (an 2), .ref (an 3), .ref (an 4), .ref (an 5), .ref (an 6), .ref (an 7), vZ (Ne.2 8)])), ((an 0), .inl (K.1, 16, .inl (ar (Ne.1 0)))), ((an 1), .inl (K.1, 16, .inl (ar (Ne.1 1)))), ((an 2), .inl (K.1, 16, .inl (ar (Ne.1 2)))), ((an 3), .inl (K.1, 16, .inl (ar (Ne.1 3)))), ((an 4), .inl (K.1, 16, .inl (ar (Ne.1 4)))), ((an 5), .inl (K.1, 16, .inl (ar (Ne.1 5)))), ((an 6), .inl (K.1, 100, .inl (ar (Ne.1 6)))), ((an 7), .inl (K.1, 100, .inl (ar (Ne.1 7))))]) rfl ?_
                  refine z_st (st2 := [vZ (drk (To.2 2) (To.1 0 t) * (100 - To.1 1 t))]) rfl ?_
                  refine z_aload_n ZC 0 dX7_bestSight_83 rfl rfl ?_
                  refine z_get ZC inUX7 0 rfl rfl 0 (by decide) uF_X7_12 rfl dX7_bestSight_84 ?_
                  refine z_iload ZC dX7_bestSight_87 rfl ?_
                  refine z_callV ZC 1 (c_X5_sight zl D K (x 0) ato To best (by omega) (htw.1) (htb.1)) (gdV uM_X7_225 uI_X5_sight uS_X5_sight uN_X5 uC_X5_sight) (by decide +kernel) rfl ⟨by omega, by omega⟩ ⟨by omega, by omega⟩ (Nat.le_of_ble_eq_true rfl) [1, 2, 3] rfl (by decide) rfl rfl rfl rfl dX7_bestSight_89 (fun r w2 gc_89 gs_89 hp => ?_)
                  obtain ⟨rfl, rfl, rfl, rfl⟩ := hp
                  refine z_ws (ws2 := [(h, .inr (7, [.ref (x 0), .ref (x 1), .ref (x 2), .ref (x 3), .ref (x 4), .ref (x 5)])), ((x 0), .inr (5, [.ref (ato 0), .ref (ato 1), vZ (To.2 2), vZ (To.2 3)])), ((ato 0), .inl (K.1, 10, .inl (ar (To.1 0)))), ((ato 1), .inl (K.1, 10, .inl (ar (To.1 1)))), ((x 1), .inr (4, [.ref (an 0), .ref (an 1), .ref (an 2), .ref (an 3), .ref (an 4), .ref (an 5), .ref (an 6), .ref (an 7), vZ (Ne.2 8)])), ((an 0), .inl (K.1, 16, .inl (ar (Ne.1 0)))), ((an 1), .inl (K.1, 16, .inl (ar (Ne.1 1)))), ((an 2), .inl (K.1, 16, .inl (ar (Ne.1 2)))), ((an 3), .inl (K.1, 16, .inl (ar (Ne.1 3)))), ((an 4), .inl (K.1, 16, .inl (ar (Ne.1 4)))), ((an 5), .inl (K.1, 16, .inl (ar (Ne.1 5)))), ((an 6), .inl (K.1, 100, .inl (ar (Ne.1 6)))), ((an 7), .inl (K.1, 100, .inl (ar (Ne.1 7))))]) rfl ?_
                  refine z_st (st2 := [vZ (drk (To.2 2) (To.1 0 best) * (100 - To.1 1 best)), vZ (drk (To.2 2) (To.1 0 t) * (100 - To.1 1 t))]) rfl ?_
                  refine z_isub ZC dX7_bestSight_92 ?_
                  refine z_nm (fun more emore => ?_)
                  refine z_istore ZC dX7_bestSight_93 (by decide) ?_
                  have em : more = wth To t - wth To best := emore
                  clear emore
                  refine z_iload ZC dX7_bestSight_95 rfl ?_
                  refine z_if_gt ZC 120 dX7_bestSight_97 (by decide) (by omega) (fun c_97 => ?_) (fun c_97 => ?_)
                  · skip
                    refine z_iload ZC dX7_bestSight_120 rfl ?_
                    refine z_istore ZC dX7_bestSight_122 (by decide) ?_
                    refine z_iinc ZC dX7_bestSight_124 rfl (by decide) ?_
                    refine z_goto ZC 6 dX7_bestSight_127 (by decide) ?_
                    refine z_ws (ws2 := [(h, .inr (7, [.ref (x 0), .ref (x 1), .ref (x 2), .ref (x 3), .ref (x 4), .ref (x 5)])), ((x 0), .inr (5, [.ref (ato 0), .ref (ato 1), vZ (To.2 2), vZ (To.2 3)])), ((ato 0), .inl (K.1, 10, .inl (ar (To.1 0)))), ((ato 1), .inl (K.1, 10, .inl (ar (To.1 1)))), ((x 1), .inr (4, [.ref (an 0), .ref (an 1), .ref (an 2), .ref (an 3), .ref (an 4), .ref (an 5), .ref (an 6), .ref (an 7), vZ (Ne.2 8)])), ((an 0), .inl (K.1, 16, .inl (ar (Ne.1 0)))), ((an 1), .inl (K.1, 16, .inl (ar (Ne.1 1)))), ((an 2), .inl (K.1, 16, .inl (ar (Ne.1 2)))), ((an 3), .inl (K.1, 16, .inl (ar (Ne.1 3)))), ((an 4), .inl (K.1, 16, .inl (ar (Ne.1 4)))), ((an 5), .inl (K.1, 16, .inl (ar (Ne.1 5)))), ((an 6), .inl (K.1, 100, .inl (ar (Ne.1 6)))), ((an 7), .inl (K.1, 100, .inl (ar (Ne.1 7))))]) rfl (z_lv (lv2 := [(0, .ref h), (1, vZ here), (2, vZ home), (3, vZ hours), (4, vZ t), (5, vZ (t + 1))]) ⟨rfl, rfl, rfl, rfl, rfl, rfl, trivial⟩ ?_)
                    refine ih_6 t (t + 1) ?_ ?_ ?_ (dec_lt hm_6 c_15)
                    · skip
                      omega
                    · skip
                      rw [bsF_next ht.1, ← hb]
                      unfold bsS
                      rw [if_pos (by omega)]
                    · skip
                      omega
                  · skip
                    refine z_iload ZC dX7_bestSight_100 rfl ?_
                    refine z_if_ne ZC 124 dX7_bestSight_102 (by decide) (by omega) (fun c_102 => ?_) (fun c_102 => ?_)
                    · skip
                      refine z_iinc ZC dX7_bestSight_124 rfl (by decide) ?_
                      refine z_goto ZC 6 dX7_bestSight_127 (by decide) ?_
                      refine z_ws (ws2 := [(h, .inr (7, [.ref (x 0), .ref (x 1), .ref (x 2), .ref (x 3), .ref (x 4), .ref (x 5)])), ((x 0), .inr (5, [.ref (ato 0), .ref (ato 1), vZ (To.2 2), vZ (To.2 3)])), ((ato 0), .inl (K.1, 10, .inl (ar (To.1 0)))), ((ato 1), .inl (K.1, 10, .inl (ar (To.1 1)))), ((x 1), .inr (4, [.ref (an 0), .ref (an 1), .ref (an 2), .ref (an 3), .ref (an 4), .ref (an 5), .ref (an 6), .ref (an 7), vZ (Ne.2 8)])), ((an 0), .inl (K.1, 16, .inl (ar (Ne.1 0)))), ((an 1), .inl (K.1, 16, .inl (ar (Ne.1 1)))), ((an 2), .inl (K.1, 16, .inl (ar (Ne.1 2)))), ((an 3), .inl (K.1, 16, .inl (ar (Ne.1 3)))), ((an 4), .inl (K.1, 16, .inl (ar (Ne.1 4)))), ((an 5), .inl (K.1, 16, .inl (ar (Ne.1 5)))), ((an 6), .inl (K.1, 100, .inl (ar (Ne.1 6)))), ((an 7), .inl (K.1, 100, .inl (ar (Ne.1 7))))]) rfl (z_lv (lv2 := [(0, .ref h), (1, vZ here), (2, vZ home), (3, vZ hours), (4, vZ best), (5, vZ (t + 1))]) ⟨rfl, rfl, rfl, rfl, rfl, rfl, trivial⟩ ?_)
                      refine ih_6 best (t + 1) ?_ ?_ ?_ (dec_lt hm_6 c_15)
                      · skip
                        omega
                      · skip
                        rw [bsF_next ht.1, ← hb]
                        unfold bsS
                        rw [if_neg (by omega)]
                      · skip
                        omega
                    · skip
                      have hl3 := hls (here * 10 + best) (by omega) (by omega)
                      refine z_iload ZC dX7_bestSight_105 rfl ?_
                      refine z_aload_n ZC 0 dX7_bestSight_107 rfl rfl ?_
                      refine z_get ZC inUX7 0 rfl rfl 1 (by decide) uF_X7_19 rfl dX7_bestSight_108 ?_
                      refine z_iload_n ZC 1 dX7_bestSight_111 rfl rfl ?_
                      refine z_iload ZC dX7_bestSight_112 rfl ?_
                      refine z_callV ZC 2 (c_X4_leastHours zl D K (x 1) an Ne here best (by omega) (by omega)) (gdV uM_X7_99 uI_X4_leastHours uS_X4_leastHours uN_X4 uC_X4_leastHours) (by decide +kernel) rfl ⟨by omega, by omega⟩ ⟨by omega, by omega⟩ (Nat.le_of_ble_eq_true rfl) [4, 5, 6, 7, 8, 9, 10, 11, 12] rfl (by decide) rfl rfl rfl rfl dX7_bestSight_114 (fun r w2 gc_114 gs_114 hp => ?_)
                      obtain ⟨rfl, rfl, rfl, rfl⟩ := hp
                      refine z_ws (ws2 := [(h, .inr (7, [.ref (x 0), .ref (x 1), .ref (x 2), .ref (x 3), .ref (x 4), .ref (x 5)])), ((x 0), .inr (5, [.ref (ato 0), .ref (ato 1), vZ (To.2 2), vZ (To.2 3)])), ((ato 0), .inl (K.1, 10, .inl (ar (To.1 0)))), ((ato 1), .inl (K.1, 10, .inl (ar (To.1 1)))), ((x 1), .inr (4, [.ref (an 0), .ref (an 1), .ref (an 2), .ref (an 3), .ref (an 4), .ref (an 5), .ref (an 6), .ref (an 7), vZ (Ne.2 8)])), ((an 0), .inl (K.1, 16, .inl (ar (Ne.1 0)))), ((an 1), .inl (K.1, 16, .inl (ar (Ne.1 1)))), ((an 2), .inl (K.1, 16, .inl (ar (Ne.1 2)))), ((an 3), .inl (K.1, 16, .inl (ar (Ne.1 3)))), ((an 4), .inl (K.1, 16, .inl (ar (Ne.1 4)))), ((an 5), .inl (K.1, 16, .inl (ar (Ne.1 5)))), ((an 6), .inl (K.1, 100, .inl (ar (Ne.1 6)))), ((an 7), .inl (K.1, 100, .inl (ar (Ne.1 7))))]) rfl ?_
                      refine z_st (st2 := [vZ (Ne.1 6 (here * 10 + best)), vZ (Ne.1 6 (here * 10 + t))]) rfl ?_
                      refine z_icmp_ge ZC 124 dX7_bestSight_117 (by decide) (by omega) (by omega) (fun c_117 => ?_) (fun c_117 => ?_)
                      · skip
                        refine z_iinc ZC dX7_bestSight_124 rfl (by decide) ?_
                        refine z_goto ZC 6 dX7_bestSight_127 (by decide) ?_
                        refine z_ws (ws2 := [(h, .inr (7, [.ref (x 0), .ref (x 1), .ref (x 2), .ref (x 3), .ref (x 4), .ref (x 5)])), ((x 0), .inr (5, [.ref (ato 0), .ref (ato 1), vZ (To.2 2), vZ (To.2 3)])), ((ato 0), .inl (K.1, 10, .inl (ar (To.1 0)))), ((ato 1), .inl (K.1, 10, .inl (ar (To.1 1)))), ((x 1), .inr (4, [.ref (an 0), .ref (an 1), .ref (an 2), .ref (an 3), .ref (an 4), .ref (an 5), .ref (an 6), .ref (an 7), vZ (Ne.2 8)])), ((an 0), .inl (K.1, 16, .inl (ar (Ne.1 0)))), ((an 1), .inl (K.1, 16, .inl (ar (Ne.1 1)))), ((an 2), .inl (K.1, 16, .inl (ar (Ne.1 2)))), ((an 3), .inl (K.1, 16, .inl (ar (Ne.1 3)))), ((an 4), .inl (K.1, 16, .inl (ar (Ne.1 4)))), ((an 5), .inl (K.1, 16, .inl (ar (Ne.1 5)))), ((an 6), .inl (K.1, 100, .inl (ar (Ne.1 6)))), ((an 7), .inl (K.1, 100, .inl (ar (Ne.1 7))))]) rfl (z_lv (lv2 := [(0, .ref h), (1, vZ here), (2, vZ home), (3, vZ hours), (4, vZ best), (5, vZ (t + 1))]) ⟨rfl, rfl, rfl, rfl, rfl, rfl, trivial⟩ ?_)
                        refine ih_6 best (t + 1) ?_ ?_ ?_ (dec_lt hm_6 c_15)
                        · skip
                          omega
                        · skip
                          rw [bsF_next ht.1, ← hb]
                          unfold bsS
                          rw [if_neg (by omega)]
                        · skip
                          omega
                      · skip
                        refine z_iload ZC dX7_bestSight_120 rfl ?_
                        refine z_istore ZC dX7_bestSight_122 (by decide) ?_
                        refine z_iinc ZC dX7_bestSight_124 rfl (by decide) ?_
                        refine z_goto ZC 6 dX7_bestSight_127 (by decide) ?_
                        refine z_ws (ws2 := [(h, .inr (7, [.ref (x 0), .ref (x 1), .ref (x 2), .ref (x 3), .ref (x 4), .ref (x 5)])), ((x 0), .inr (5, [.ref (ato 0), .ref (ato 1), vZ (To.2 2), vZ (To.2 3)])), ((ato 0), .inl (K.1, 10, .inl (ar (To.1 0)))), ((ato 1), .inl (K.1, 10, .inl (ar (To.1 1)))), ((x 1), .inr (4, [.ref (an 0), .ref (an 1), .ref (an 2), .ref (an 3), .ref (an 4), .ref (an 5), .ref (an 6), .ref (an 7), vZ (Ne.2 8)])), ((an 0), .inl (K.1, 16, .inl (ar (Ne.1 0)))), ((an 1), .inl (K.1, 16, .inl (ar (Ne.1 1)))), ((an 2), .inl (K.1, 16, .inl (ar (Ne.1 2)))), ((an 3), .inl (K.1, 16, .inl (ar (Ne.1 3)))), ((an 4), .inl (K.1, 16, .inl (ar (Ne.1 4)))), ((an 5), .inl (K.1, 16, .inl (ar (Ne.1 5)))), ((an 6), .inl (K.1, 100, .inl (ar (Ne.1 6)))), ((an 7), .inl (K.1, 100, .inl (ar (Ne.1 7))))]) rfl (z_lv (lv2 := [(0, .ref h), (1, vZ here), (2, vZ home), (3, vZ hours), (4, vZ t), (5, vZ (t + 1))]) ⟨rfl, rfl, rfl, rfl, rfl, rfl, trivial⟩ ?_)
                        refine ih_6 t (t + 1) ?_ ?_ ?_ (dec_lt hm_6 c_15)
                        · skip
                          omega
                        · skip
                          rw [bsF_next ht.1, ← hb]
                          unfold bsS
                          rw [if_pos (by omega)]
                        · skip
                          omega
  refine z_ws (ws2 := [(h, .inr (7, [.ref (x 0), .ref (x 1), .ref (x 2), .ref (x 3), .ref (x 4), .ref (x 5)])), ((x 0), .inr (5, [.ref (ato 0), .ref (ato 1), vZ (To.2 2), vZ (To.2 3)])), ((ato 0), .inl (K.1, 10, .inl (ar (To.1 0)))), ((ato 1), .inl (K.1, 10, .inl (ar (To.1 1)))), ((x 1), .inr (4, [.ref (an 0), .ref (an 1), .ref (an 2), .ref (an 3), .ref (an 4), .ref (an 5), .ref (an 6), .ref (an 7), vZ (Ne.2 8)])), ((an 0), .inl (K.1, 16, .inl (ar (Ne.1 0)))), ((an 1), .inl (K.1, 16, .inl (ar (Ne.1 1)))), ((an 2), .inl (K.1, 16, .inl (ar (Ne.1 2)))), ((an 3), .inl (K.1, 16, .inl (ar (Ne.1 3)))), ((an 4), .inl (K.1, 16, .inl (ar (Ne.1 4)))), ((an 5), .inl (K.1, 16, .inl (ar (Ne.1 5)))), ((an 6), .inl (K.1, 100, .inl (ar (Ne.1 6)))), ((an 7), .inl (K.1, 100, .inl (ar (Ne.1 7))))]) rfl (z_lv (lv2 := [(0, .ref h), (1, vZ here), (2, vZ home), (3, vZ hours), (4, vZ here), (5, vZ 0)]) ⟨rfl, rfl, rfl, rfl, rfl, rfl, trivial⟩ ?_)
  refine lp_6 _ here 0 ?_ ?_ ?_ (Nat.lt_succ_self _)
  · skip
    omega
  · skip
    rfl
  · skip
    omega

set_option maxHeartbeats 4000000 in
set_option maxRecDepth 100000 in
theorem c_X7_dawn (zl : Launch) (D : va_G) (K : tyK) (h : Nat) (x : Nat → Nat) (ato : Nat → Nat) (To : Bd) (an : Nat → Nat) (Ne : Bd) (ac : Nat → Nat) (Cr : Bd) (xu : Nat → Nat) (U : Bd) (xf : Nat → Nat) (F : Bd) (A : Ab) (hours : Int) (hz_hours : -2147483648 ≤ hours ∧ hours < 2147483648) (hto : 0 ≤ To.2 3 ∧ To.2 3 ≤ 10) (htw : (1 ≤ To.2 2 ∧ To.2 2 ≤ 100) ∧ ∀ t : Int, 0 ≤ t → t < To.2 3 → (0 ≤ To.1 0 t ∧ To.1 0 t ≤ 99) ∧ (0 ≤ To.1 1 t ∧ To.1 1 t ≤ 100)) (hls : ∀ k : Int, 0 ≤ k → k < 100 → -1 ≤ Ne.1 6 k ∧ Ne.1 6 k ≤ 1000) (hcr : 0 ≤ Cr.2 3 ∧ Cr.2 3 ≤ 8) (hnw : 0 ≤ U.2 12 ∧ U.2 12 ≤ 200) (hcp : ∀ c : Int, 0 ≤ c → c < Cr.2 3 → (0 ≤ Cr.1 0 c ∧ Cr.1 0 c < To.2 3) ∧ (0 ≤ Cr.1 2 c ∧ Cr.1 2 c < To.2 3)) (hth : ∀ t : Int, 0 ≤ t → t < 10 → U.1 8 t = aAt Ne Cr A t) (hof : U.2 12 = 0 → ∀ c : Int, 0 ≤ c → c < Cr.2 3 → A.1 1 c = 0) : Mz zl yX7_dawn cX7_dawn 6 (some .int) 3 72 0 0 D K [.ref h, vZ hours] ((wSh h x) ++ (wTo K (x 0) ato To) ++ (wNe K (x 1) an Ne) ++ (wCr K (x 2) ac Cr) ++ (wTr K (x 3) (upf (upf (upf xu 0 (x 0)) 1 (x 1)) 2 (x 2)) U) ++ (wFo K (x 5) (upf xf 0 (x 3)) F)) (fun r_ w2_ gc gs => ∃ (Pl : Int → Int), ∃ (Th : Int → Int), ∃ (F2 : Bd), ∃ (v : Int), r_ = some (vZ v) ∧ w2_ = ((wSh h x) ++ (wTo K (x 0) ato To) ++ (wNe K (x 1) an Ne) ++ (wCr K (x 2) ac ((upf Cr.1 0 Pl), Cr.2)) ++ (wTr K (x 3) (upf (upf (upf xu 0 (x 0)) 1 (x 1)) 2 (x 2)) ((upf U.1 8 Th), U.2)) ++ (wFo K (x 5) (upf xf 0 (x 3)) F2)) ∧ gc = 0 ∧ gs = 0 ∧ (((U.2 12 = 0 ∧ (0 ≤ hours ∧ hours ≤ 20)) ∧ v = (dwF To Ne Cr hours (Cr.2 3).toNat).2 ∧ Pl = (dwF To Ne Cr hours (Cr.2 3).toNat).1 ∧ F2 = (F.1, (upf (upf F.2 5 0) 8 0)) ∧ ∀ t : Int, 0 ≤ t → t < 10 → Th t = aAt Ne (upf Cr.1 0 Pl, Cr.2) A t) ∨ (¬ (U.2 12 = 0 ∧ (0 ≤ hours ∧ hours ≤ 20)) ∧ v = -1 ∧ Pl = Cr.1 0 ∧ Th = U.1 8 ∧ F2 = F))) := by
  refine Mz.ofZ (by decide) rfl (Nat.le_of_ble_eq_true rfl) ?_
  intro zp ze zR zs zm zargs zbelow zmeth zc zA zQ ZC ZE hRf hRc hRs hRl
  refine z_aload_n ZC 0 dX7_dawn_0 rfl rfl ?_
  refine z_get ZC inUX7 0 rfl rfl 3 (by decide) uF_X7_35 rfl dX7_dawn_1 ?_
  refine z_get ZC inUX6 17 rfl rfl 11 (by decide) uF_X7_87 rfl dX7_dawn_4 ?_
  refine z_if_ne ZC 20 dX7_dawn_7 (by decide) (by omega) (fun c_7 => ?_) (fun c_7 => ?_)
  · skip
    refine z_iconst ZC dX7_dawn_20 ?_
    refine z_iret ZC ZE dX7_dawn_21 (by omega) (by omega) (Nat.le_of_ble_eq_true rfl) ⟨(Cr.1 0), (U.1 8), F, (-1), rfl, rfl, by omega, by omega, ?_⟩
    · skip
      right; exact ⟨by omega, rfl, rfl, rfl, rfl⟩
  · skip
    refine z_iload_n ZC 1 dX7_dawn_10 rfl rfl ?_
    refine z_iconst ZC dX7_dawn_11 ?_
    refine z_bipush ZC dX7_dawn_12 (by decide) ?_
    refine z_callS ZC 3 (c_X7_within zl D K hours 0 20 (by omega) (by omega) (by omega)) (gdS uM_X7_54 uZ_X7_within uN_X7 uC_X7_within) (by decide +kernel) rfl ⟨by omega, by omega⟩ ⟨by omega, by omega⟩ (Nat.le_of_ble_eq_true rfl) [] rfl (by decide) rfl dX7_dawn_14 (fun r w2 gc_14 gs_14 hp => ?_)
    obtain ⟨b_14, rfl, rfl, rfl, rfl, hb_14⟩ := hp
    refine z_st (st2 := [vZ b_14]) rfl ?_
    refine z_if_ne ZC 22 dX7_dawn_17 (by decide) (by omega) (fun c_17 => ?_) (fun c_17 => ?_)
    · skip
      refine z_iconst ZC dX7_dawn_22 ?_
      refine z_istore_n ZC 2 dX7_dawn_23 rfl (by decide) ?_
      refine z_iconst ZC dX7_dawn_24 ?_
      refine z_istore_n ZC 3 dX7_dawn_25 rfl (by decide) ?_
      have lp_26 : ∀ (n_26 : Nat) (n2 : Int) (c : Int) (Pl : Int → Int) (Th : Int → Int), (0 ≤ c ∧ c ≤ Cr.2 3) → (Pl = (dwF To Ne Cr hours c.toNat).1 ∧ n2 = (dwF To Ne Cr hours c.toNat).2) → (∀ t : Int, 0 ≤ t → t < 10 → Th t = aAt Ne (upf Cr.1 0 Pl, Cr.2) A t) → ((Cr.2 3 - c).toNat) < n_26 → Zw zp zl ze zR zs zm zargs zbelow zmeth zc D zA 6 zQ (0 + 0) (0 + 0) ([(h, .inr (7, [.ref (x 0), .ref (x 1), .ref (x 2), .ref (x 3), .ref (x 4), .ref (x 5)])), ((x 0), .inr (5, [.ref (ato 0), .ref (ato 1), vZ (To.2 2), vZ (To.2 3)])), ((ato 0), .inl (K.1, 10, .inl (ar (To.1 0)))), ((ato 1), .inl (K.1, 10, .inl (ar (To.1 1)))), ((x 1), .inr (4, [.ref (an 0), .ref (an 1), .ref (an 2), .ref (an 3), .ref (an 4), .ref (an 5), .ref (an 6), .ref (an 7), vZ (Ne.2 8)])), ((an 0), .inl (K.1, 16, .inl (ar (Ne.1 0)))), ((an 1), .inl (K.1, 16, .inl (ar (Ne.1 1)))), ((an 2), .inl (K.1, 16, .inl (ar (Ne.1 2)))), ((an 3), .inl (K.1, 16, .inl (ar (Ne.1 3)))), ((an 4), .inl (K.1, 16, .inl (ar (Ne.1 4)))), ((an 5), .inl (K.1, 16, .inl (ar (Ne.1 5)))), ((an 6), .inl (K.1, 100, .inl (ar (Ne.1 6)))), ((an 7), .inl (K.1, 100, .inl (ar (Ne.1 7)))), ((x 2), .inr (0, [.ref (ac 0), .ref (ac 1), .ref (ac 2), vZ (Cr.2 3), vZ (Cr.2 4)])), ((ac 0), .inl (K.1, 8, .inl (ar Pl))), ((ac 1), .inl (K.1, 8, .inl (ar (Cr.1 1)))), ((ac 2), .inl (K.1, 8, .inl (ar (Cr.1 2)))), ((x 3), .inr (6, [.ref (x 0), .ref (x 1), .ref (x 2), .ref (xu 3), .ref (xu 5), .ref (xu 6), .ref (xu 7), .ref (xu 8), .ref (xu 9), .ref (xu 10), .ref (xu 11), vZ (U.2 12), vZ (U.2 13), vZ (U.2 14), vZ (U.2 15)])), ((xu 5), .inl (K.1, 8, .inl (ar (U.1 5)))), ((xu 6), .inl (K.1, 8, .inl (ar (U.1 6)))), ((xu 7), .inl (K.1, 8, .inl (ar (U.1 7)))), ((xu 8), .inl (K.1, 10, .inl (ar Th))), ((xu 9), .inl (K.1, 10, .inl (ar (U.1 9)))), ((xu 10), .inl (K.1, 10, .inl (ar (U.1 10)))), ((xu 11), .inl (K.1, 16, .inl (ar (U.1 11)))), ((x 5), .inr (1, [.ref (x 3), .ref (xf 1), .ref (xf 2), .ref (xf 3), .ref (xf 4), vZ (F.2 5), vZ (F.2 6), vZ (F.2 7), vZ (F.2 8), vZ (F.2 9), vZ (F.2 10), vZ (F.2 11)])), ((xf 2), .inl (K.1, 10, .inl (ar (F.1 2)))), ((xf 3), .inl (K.1, 4, .inl (ar (F.1 3)))), ((xf 4), .inl (K.1, 4, .inl (ar (F.1 4))))]) 26 [(0, .ref h), (1, vZ hours), (2, vZ n2), (3, vZ c)] [] := by
        intro n_26
        induction n_26 with
        | zero => intro n2 c Pl Th h0 h1 h2 hm_26; exact absurd hm_26 (Nat.not_lt_zero _)
        | succ n_26 ih_26 =>
          intro n2 c Pl Th h0 h1 h2 hm_26
          refine z_iload_n ZC 3 dX7_dawn_26 rfl rfl ?_
          refine z_aload_n ZC 0 dX7_dawn_27 rfl rfl ?_
          refine z_get ZC inUX7 0 rfl rfl 2 (by decide) uF_X7_26 rfl dX7_dawn_28 ?_
          refine z_get ZC inUX0 13 rfl rfl 3 (by decide) uF_X7_103 rfl dX7_dawn_31 ?_
          refine z_icmp_ge ZC 137 dX7_dawn_34 (by decide) (by omega) (by omega) (fun c_34 => ?_) (fun c_34 => ?_)
          · skip
            refine z_aload_n ZC 0 dX7_dawn_137 rfl rfl ?_
            refine z_get ZC inUX7 0 rfl rfl 5 (by decide) uF_X7_50 rfl dX7_dawn_138 ?_
            refine z_callV ZC 0 (c_X1_forget zl D K (x 5) (upf xf 0 (x 3)) F ) (gdV uM_X7_71 uI_X1_forget uS_X1_forget uN_X1 uC_X1_forget) (by decide +kernel) rfl ⟨by omega, by omega⟩ ⟨by omega, by omega⟩ (Nat.le_of_ble_eq_true rfl) [25, 26, 27, 28] rfl (by decide) rfl rfl rfl rfl dX7_dawn_141 (fun r w2 gc_141 gs_141 hp => ?_)
            obtain ⟨rfl, rfl, rfl, rfl⟩ := hp
            refine z_ws (ws2 := [(h, .inr (7, [.ref (x 0), .ref (x 1), .ref (x 2), .ref (x 3), .ref (x 4), .ref (x 5)])), ((x 0), .inr (5, [.ref (ato 0), .ref (ato 1), vZ (To.2 2), vZ (To.2 3)])), ((ato 0), .inl (K.1, 10, .inl (ar (To.1 0)))), ((ato 1), .inl (K.1, 10, .inl (ar (To.1 1)))), ((x 1), .inr (4, [.ref (an 0), .ref (an 1), .ref (an 2), .ref (an 3), .ref (an 4), .ref (an 5), .ref (an 6), .ref (an 7), vZ (Ne.2 8)])), ((an 0), .inl (K.1, 16, .inl (ar (Ne.1 0)))), ((an 1), .inl (K.1, 16, .inl (ar (Ne.1 1)))), ((an 2), .inl (K.1, 16, .inl (ar (Ne.1 2)))), ((an 3), .inl (K.1, 16, .inl (ar (Ne.1 3)))), ((an 4), .inl (K.1, 16, .inl (ar (Ne.1 4)))), ((an 5), .inl (K.1, 16, .inl (ar (Ne.1 5)))), ((an 6), .inl (K.1, 100, .inl (ar (Ne.1 6)))), ((an 7), .inl (K.1, 100, .inl (ar (Ne.1 7)))), ((x 2), .inr (0, [.ref (ac 0), .ref (ac 1), .ref (ac 2), vZ (Cr.2 3), vZ (Cr.2 4)])), ((ac 0), .inl (K.1, 8, .inl (ar Pl))), ((ac 1), .inl (K.1, 8, .inl (ar (Cr.1 1)))), ((ac 2), .inl (K.1, 8, .inl (ar (Cr.1 2)))), ((x 3), .inr (6, [.ref (x 0), .ref (x 1), .ref (x 2), .ref (xu 3), .ref (xu 5), .ref (xu 6), .ref (xu 7), .ref (xu 8), .ref (xu 9), .ref (xu 10), .ref (xu 11), vZ (U.2 12), vZ (U.2 13), vZ (U.2 14), vZ (U.2 15)])), ((xu 5), .inl (K.1, 8, .inl (ar (U.1 5)))), ((xu 6), .inl (K.1, 8, .inl (ar (U.1 6)))), ((xu 7), .inl (K.1, 8, .inl (ar (U.1 7)))), ((xu 8), .inl (K.1, 10, .inl (ar Th))), ((xu 9), .inl (K.1, 10, .inl (ar (U.1 9)))), ((xu 10), .inl (K.1, 10, .inl (ar (U.1 10)))), ((xu 11), .inl (K.1, 16, .inl (ar (U.1 11)))), ((x 5), .inr (1, [.ref (x 3), .ref (xf 1), .ref (xf 2), .ref (xf 3), .ref (xf 4), vZ 0, vZ (F.2 6), vZ (F.2 7), vZ 0, vZ (F.2 9), vZ (F.2 10), vZ (F.2 11)])), ((xf 2), .inl (K.1, 10, .inl (ar (F.1 2)))), ((xf 3), .inl (K.1, 4, .inl (ar (F.1 3)))), ((xf 4), .inl (K.1, 4, .inl (ar (F.1 4))))]) rfl ?_
            refine z_st (st2 := []) rfl ?_
            refine z_iload_n ZC 2 dX7_dawn_144 rfl rfl ?_
            refine z_iret ZC ZE dX7_dawn_145 (by omega) (by omega) (Nat.le_of_ble_eq_true rfl) ⟨Pl, Th, (F.1, (upf (upf F.2 5 0) 8 0)), n2, rfl, rfl, by omega, by omega, ?_⟩
            · skip
              left
              rw [show Cr.2 3 = c by omega]
              exact ⟨by omega, h1.2, h1.1, rfl, h2⟩
          · skip
            have hc1 := hcp c (by omega) (by omega)
            have e1 : Pl c = Cr.1 0 c := by rw [h1.1]; exact dwF_keep _ c (by omega)
            refine z_aload_n ZC 0 dX7_dawn_37 rfl rfl ?_
            refine z_get ZC inUX7 0 rfl rfl 2 (by decide) uF_X7_26 rfl dX7_dawn_38 ?_
            refine z_get ZC inUX0 13 rfl rfl 0 (by decide) uF_X7_110 rfl dX7_dawn_41 ?_
            refine z_iload_n ZC 3 dX7_dawn_44 rfl rfl ?_
            refine z_iald ZC 14 rfl dX7_dawn_45 (by omega) ?_
            refine z_nm (fun here ehere => ?_)
            refine z_istore ZC dX7_dawn_46 (by decide) ?_
            have ehr : here = Cr.1 0 c := by rw [ehere, e1]
            refine z_aload_n ZC 0 dX7_dawn_48 rfl rfl ?_
            refine z_iload ZC dX7_dawn_49 rfl ?_
            refine z_aload_n ZC 0 dX7_dawn_51 rfl rfl ?_
            refine z_get ZC inUX7 0 rfl rfl 2 (by decide) uF_X7_26 rfl dX7_dawn_52 ?_
            refine z_get ZC inUX0 13 rfl rfl 2 (by decide) uF_X7_113 rfl dX7_dawn_55 ?_
            refine z_iload_n ZC 3 dX7_dawn_58 rfl rfl ?_
            refine z_iald ZC 16 rfl dX7_dawn_59 (by omega) ?_
            refine z_iload_n ZC 1 dX7_dawn_60 rfl rfl ?_
            refine z_callV ZC 3 (c_X7_bestSight zl D K h x ato To an Ne here ((Cr.1 2) c) hours (by omega) (by omega) (by omega) (hto) (htw) (hls) (by omega) (by omega)) (gdV uM_X7_116 uI_X7_bestSight uS_X7_bestSight uN_X7 uC_X7_bestSight) (by decide +kernel) rfl ⟨by omega, by omega⟩ ⟨by omega, by omega⟩ (Nat.le_of_ble_eq_true rfl) [0, 1, 2, 3, 4, 5, 6, 7, 8, 9, 10, 11, 12] rfl (by decide) rfl rfl rfl rfl dX7_dawn_61 (fun r w2 gc_61 gs_61 hp => ?_)
            obtain ⟨v_61, rfl, rfl, rfl, rfl, hv_61, hvr_61⟩ := hp
            have hv_61b : v_61 = bsF To Ne (Cr.1 0 c) (Cr.1 2 c) hours (To.2 3).toNat := by rw [hv_61, ehr]
            refine z_ws (ws2 := [(h, .inr (7, [.ref (x 0), .ref (x 1), .ref (x 2), .ref (x 3), .ref (x 4), .ref (x 5)])), ((x 0), .inr (5, [.ref (ato 0), .ref (ato 1), vZ (To.2 2), vZ (To.2 3)])), ((ato 0), .inl (K.1, 10, .inl (ar (To.1 0)))), ((ato 1), .inl (K.1, 10, .inl (ar (To.1 1)))), ((x 1), .inr (4, [.ref (an 0), .ref (an 1), .ref (an 2), .ref (an 3), .ref (an 4), .ref (an 5), .ref (an 6), .ref (an 7), vZ (Ne.2 8)])), ((an 0), .inl (K.1, 16, .inl (ar (Ne.1 0)))), ((an 1), .inl (K.1, 16, .inl (ar (Ne.1 1)))), ((an 2), .inl (K.1, 16, .inl (ar (Ne.1 2)))), ((an 3), .inl (K.1, 16, .inl (ar (Ne.1 3)))), ((an 4), .inl (K.1, 16, .inl (ar (Ne.1 4)))), ((an 5), .inl (K.1, 16, .inl (ar (Ne.1 5)))), ((an 6), .inl (K.1, 100, .inl (ar (Ne.1 6)))), ((an 7), .inl (K.1, 100, .inl (ar (Ne.1 7)))), ((x 2), .inr (0, [.ref (ac 0), .ref (ac 1), .ref (ac 2), vZ (Cr.2 3), vZ (Cr.2 4)])), ((ac 0), .inl (K.1, 8, .inl (ar Pl))), ((ac 1), .inl (K.1, 8, .inl (ar (Cr.1 1)))), ((ac 2), .inl (K.1, 8, .inl (ar (Cr.1 2)))), ((x 3), .inr (6, [.ref (x 0), .ref (x 1), .ref (x 2), .ref (xu 3), .ref (xu 5), .ref (xu 6), .ref (xu 7), .ref (xu 8), .ref (xu 9), .ref (xu 10), .ref (xu 11), vZ (U.2 12), vZ (U.2 13), vZ (U.2 14), vZ (U.2 15)])), ((xu 5), .inl (K.1, 8, .inl (ar (U.1 5)))), ((xu 6), .inl (K.1, 8, .inl (ar (U.1 6)))), ((xu 7), .inl (K.1, 8, .inl (ar (U.1 7)))), ((xu 8), .inl (K.1, 10, .inl (ar Th))), ((xu 9), .inl (K.1, 10, .inl (ar (U.1 9)))), ((xu 10), .inl (K.1, 10, .inl (ar (U.1 10)))), ((xu 11), .inl (K.1, 16, .inl (ar (U.1 11)))), ((x 5), .inr (1, [.ref (x 3), .ref (xf 1), .ref (xf 2), .ref (xf 3), .ref (xf 4), vZ (F.2 5), vZ (F.2 6), vZ (F.2 7), vZ (F.2 8), vZ (F.2 9), vZ (F.2 10), vZ (F.2 11)])), ((xf 2), .inl (K.1, 10, .inl (ar (F.1 2)))), ((xf 3), .inl (K.1, 4, .inl (ar (F.1 3)))), ((xf 4), .inl (K.1, 4, .inl (ar (F.1 4))))]) rfl ?_
            refine z_st (st2 := [vZ v_61]) rfl ?_
            refine z_istore ZC dX7_dawn_64 (by decide) ?_
            refine z_iload ZC dX7_dawn_66 rfl ?_
            refine z_iload ZC dX7_dawn_68 rfl ?_
            refine z_icmp_eq ZC 131 dX7_dawn_70 (by decide) (by omega) (by omega) (fun c_70 => ?_) (fun c_70 => ?_)
            · skip
              refine z_iinc ZC dX7_dawn_131 rfl (by decide) ?_
              refine z_goto ZC 26 dX7_dawn_134 (by decide) ?_
              refine z_ws (ws2 := [(h, .inr (7, [.ref (x 0), .ref (x 1), .ref (x 2), .ref (x 3), .ref (x 4), .ref (x 5)])), ((x 0), .inr (5, [.ref (ato 0), .ref (ato 1), vZ (To.2 2), vZ (To.2 3)])), ((ato 0), .inl (K.1, 10, .inl (ar (To.1 0)))), ((ato 1), .inl (K.1, 10, .inl (ar (To.1 1)))), ((x 1), .inr (4, [.ref (an 0), .ref (an 1), .ref (an 2), .ref (an 3), .ref (an 4), .ref (an 5), .ref (an 6), .ref (an 7), vZ (Ne.2 8)])), ((an 0), .inl (K.1, 16, .inl (ar (Ne.1 0)))), ((an 1), .inl (K.1, 16, .inl (ar (Ne.1 1)))), ((an 2), .inl (K.1, 16, .inl (ar (Ne.1 2)))), ((an 3), .inl (K.1, 16, .inl (ar (Ne.1 3)))), ((an 4), .inl (K.1, 16, .inl (ar (Ne.1 4)))), ((an 5), .inl (K.1, 16, .inl (ar (Ne.1 5)))), ((an 6), .inl (K.1, 100, .inl (ar (Ne.1 6)))), ((an 7), .inl (K.1, 100, .inl (ar (Ne.1 7)))), ((x 2), .inr (0, [.ref (ac 0), .ref (ac 1), .ref (ac 2), vZ (Cr.2 3), vZ (Cr.2 4)])), ((ac 0), .inl (K.1, 8, .inl (ar Pl))), ((ac 1), .inl (K.1, 8, .inl (ar (Cr.1 1)))), ((ac 2), .inl (K.1, 8, .inl (ar (Cr.1 2)))), ((x 3), .inr (6, [.ref (x 0), .ref (x 1), .ref (x 2), .ref (xu 3), .ref (xu 5), .ref (xu 6), .ref (xu 7), .ref (xu 8), .ref (xu 9), .ref (xu 10), .ref (xu 11), vZ (U.2 12), vZ (U.2 13), vZ (U.2 14), vZ (U.2 15)])), ((xu 5), .inl (K.1, 8, .inl (ar (U.1 5)))), ((xu 6), .inl (K.1, 8, .inl (ar (U.1 6)))), ((xu 7), .inl (K.1, 8, .inl (ar (U.1 7)))), ((xu 8), .inl (K.1, 10, .inl (ar Th))), ((xu 9), .inl (K.1, 10, .inl (ar (U.1 9)))), ((xu 10), .inl (K.1, 10, .inl (ar (U.1 10)))), ((xu 11), .inl (K.1, 16, .inl (ar (U.1 11)))), ((x 5), .inr (1, [.ref (x 3), .ref (xf 1), .ref (xf 2), .ref (xf 3), .ref (xf 4), vZ (F.2 5), vZ (F.2 6), vZ (F.2 7), vZ (F.2 8), vZ (F.2 9), vZ (F.2 10), vZ (F.2 11)])), ((xf 2), .inl (K.1, 10, .inl (ar (F.1 2)))), ((xf 3), .inl (K.1, 4, .inl (ar (F.1 3)))), ((xf 4), .inl (K.1, 4, .inl (ar (F.1 4))))]) rfl (z_lv (lv2 := [(0, .ref h), (1, vZ hours), (2, vZ n2), (3, vZ (c + 1))]) ⟨rfl, rfl, rfl, rfl, trivial⟩ ?_)
              refine ih_26 n2 (c + 1) Pl Th ?_ ?_ ?_ (dec_lt hm_26 c_34)
              · skip
                omega
              · skip
                rw [dwF_next h0.1, if_pos (by rw [← e1, ← ehere, ← hv_61]; omega)]
                exact h1
              · skip
                exact h2
            · skip
              refine z_aload_n ZC 0 dX7_dawn_73 rfl rfl ?_
              refine z_get ZC inUX7 0 rfl rfl 3 (by decide) uF_X7_35 rfl dX7_dawn_74 ?_
              refine z_get ZC inUX6 17 rfl rfl 7 (by decide) uF_X7_107 rfl dX7_dawn_77 ?_
              refine z_iload ZC dX7_dawn_80 rfl ?_
              refine z_dup2 ZC dX7_dawn_82 rfl rfl ?_
              refine z_iald ZC 21 rfl dX7_dawn_83 (by omega) ?_
              refine z_aload_n ZC 0 dX7_dawn_84 rfl rfl ?_
              refine z_get ZC inUX7 0 rfl rfl 2 (by decide) uF_X7_26 rfl dX7_dawn_85 ?_
              refine z_get ZC inUX0 13 rfl rfl 1 (by decide) uF_X7_119 rfl dX7_dawn_88 ?_
              refine z_iload_n ZC 3 dX7_dawn_91 rfl rfl ?_
              refine z_iald ZC 15 rfl dX7_dawn_92 (by omega) ?_
              refine z_isub ZC dX7_dawn_93 ?_
              refine z_iast ZC 21 rfl dX7_dawn_94 (by omega) ?_
              refine z_aload_n ZC 0 dX7_dawn_95 rfl rfl ?_
              refine z_get ZC inUX7 0 rfl rfl 3 (by decide) uF_X7_35 rfl dX7_dawn_96 ?_
              refine z_get ZC inUX6 17 rfl rfl 7 (by decide) uF_X7_107 rfl dX7_dawn_99 ?_
              refine z_iload ZC dX7_dawn_102 rfl ?_
              refine z_dup2 ZC dX7_dawn_104 rfl rfl ?_
              refine z_iald ZC 21 rfl dX7_dawn_105 (by omega) ?_
              refine z_aload_n ZC 0 dX7_dawn_106 rfl rfl ?_
              refine z_get ZC inUX7 0 rfl rfl 2 (by decide) uF_X7_26 rfl dX7_dawn_107 ?_
              refine z_get ZC inUX0 13 rfl rfl 1 (by decide) uF_X7_119 rfl dX7_dawn_110 ?_
              refine z_iload_n ZC 3 dX7_dawn_113 rfl rfl ?_
              refine z_iald ZC 15 rfl dX7_dawn_114 (by omega) ?_
              refine z_iadd ZC dX7_dawn_115 ?_
              refine z_iast ZC 21 rfl dX7_dawn_116 (by omega) ?_
              refine z_aload_n ZC 0 dX7_dawn_117 rfl rfl ?_
              refine z_get ZC inUX7 0 rfl rfl 2 (by decide) uF_X7_26 rfl dX7_dawn_118 ?_
              refine z_get ZC inUX0 13 rfl rfl 0 (by decide) uF_X7_110 rfl dX7_dawn_121 ?_
              refine z_iload_n ZC 3 dX7_dawn_124 rfl rfl ?_
              refine z_iload ZC dX7_dawn_125 rfl ?_
              refine z_iast ZC 14 rfl dX7_dawn_127 (by omega) ?_
              refine z_ws (ws2 := [(h, .inr (7, [.ref (x 0), .ref (x 1), .ref (x 2), .ref (x 3), .ref (x 4), .ref (x 5)])), ((x 0), .inr (5, [.ref (ato 0), .ref (ato 1), vZ (To.2 2), vZ (To.2 3)])), ((ato 0), .inl (K.1, 10, .inl (ar (To.1 0)))), ((ato 1), .inl (K.1, 10, .inl (ar (To.1 1)))), ((x 1), .inr (4, [.ref (an 0), .ref (an 1), .ref (an 2), .ref (an 3), .ref (an 4), .ref (an 5), .ref (an 6), .ref (an 7), vZ (Ne.2 8)])), ((an 0), .inl (K.1, 16, .inl (ar (Ne.1 0)))), ((an 1), .inl (K.1, 16, .inl (ar (Ne.1 1)))), ((an 2), .inl (K.1, 16, .inl (ar (Ne.1 2)))), ((an 3), .inl (K.1, 16, .inl (ar (Ne.1 3)))), ((an 4), .inl (K.1, 16, .inl (ar (Ne.1 4)))), ((an 5), .inl (K.1, 16, .inl (ar (Ne.1 5)))), ((an 6), .inl (K.1, 100, .inl (ar (Ne.1 6)))), ((an 7), .inl (K.1, 100, .inl (ar (Ne.1 7)))), ((x 2), .inr (0, [.ref (ac 0), .ref (ac 1), .ref (ac 2), vZ (Cr.2 3), vZ (Cr.2 4)])), ((ac 0), .inl (K.1, 8, .inl (ar (upz Pl c v_61)))), ((ac 1), .inl (K.1, 8, .inl (ar (Cr.1 1)))), ((ac 2), .inl (K.1, 8, .inl (ar (Cr.1 2)))), ((x 3), .inr (6, [.ref (x 0), .ref (x 1), .ref (x 2), .ref (xu 3), .ref (xu 5), .ref (xu 6), .ref (xu 7), .ref (xu 8), .ref (xu 9), .ref (xu 10), .ref (xu 11), vZ (U.2 12), vZ (U.2 13), vZ (U.2 14), vZ (U.2 15)])), ((xu 5), .inl (K.1, 8, .inl (ar (U.1 5)))), ((xu 6), .inl (K.1, 8, .inl (ar (U.1 6)))), ((xu 7), .inl (K.1, 8, .inl (ar (U.1 7)))), ((xu 8), .inl (K.1, 10, .inl (ar (upz (upz Th here ((Th here) - ((Cr.1 1) c))) v_61 (((upz Th here ((Th here) - ((Cr.1 1) c))) v_61) + ((Cr.1 1) c)))))), ((xu 9), .inl (K.1, 10, .inl (ar (U.1 9)))), ((xu 10), .inl (K.1, 10, .inl (ar (U.1 10)))), ((xu 11), .inl (K.1, 16, .inl (ar (U.1 11)))), ((x 5), .inr (1, [.ref (x 3), .ref (xf 1), .ref (xf 2), .ref (xf 3), .ref (xf 4), vZ (F.2 5), vZ (F.2 6), vZ (F.2 7), vZ (F.2 8), vZ (F.2 9), vZ (F.2 10), vZ (F.2 11)])), ((xf 2), .inl (K.1, 10, .inl (ar (F.1 2)))), ((xf 3), .inl (K.1, 4, .inl (ar (F.1 3)))), ((xf 4), .inl (K.1, 4, .inl (ar (F.1 4))))]) rfl ?_
              refine z_iinc ZC dX7_dawn_128 rfl (by decide) ?_
              refine z_iinc ZC dX7_dawn_131 rfl (by decide) ?_
              refine z_goto ZC 26 dX7_dawn_134 (by decide) ?_
              refine z_ws (ws2 := [(h, .inr (7, [.ref (x 0), .ref (x 1), .ref (x 2), .ref (x 3), .ref (x 4), .ref (x 5)])), ((x 0), .inr (5, [.ref (ato 0), .ref (ato 1), vZ (To.2 2), vZ (To.2 3)])), ((ato 0), .inl (K.1, 10, .inl (ar (To.1 0)))), ((ato 1), .inl (K.1, 10, .inl (ar (To.1 1)))), ((x 1), .inr (4, [.ref (an 0), .ref (an 1), .ref (an 2), .ref (an 3), .ref (an 4), .ref (an 5), .ref (an 6), .ref (an 7), vZ (Ne.2 8)])), ((an 0), .inl (K.1, 16, .inl (ar (Ne.1 0)))), ((an 1), .inl (K.1, 16, .inl (ar (Ne.1 1)))), ((an 2), .inl (K.1, 16, .inl (ar (Ne.1 2)))), ((an 3), .inl (K.1, 16, .inl (ar (Ne.1 3)))), ((an 4), .inl (K.1, 16, .inl (ar (Ne.1 4)))), ((an 5), .inl (K.1, 16, .inl (ar (Ne.1 5)))), ((an 6), .inl (K.1, 100, .inl (ar (Ne.1 6)))), ((an 7), .inl (K.1, 100, .inl (ar (Ne.1 7)))), ((x 2), .inr (0, [.ref (ac 0), .ref (ac 1), .ref (ac 2), vZ (Cr.2 3), vZ (Cr.2 4)])), ((ac 0), .inl (K.1, 8, .inl (ar (upz Pl c v_61)))), ((ac 1), .inl (K.1, 8, .inl (ar (Cr.1 1)))), ((ac 2), .inl (K.1, 8, .inl (ar (Cr.1 2)))), ((x 3), .inr (6, [.ref (x 0), .ref (x 1), .ref (x 2), .ref (xu 3), .ref (xu 5), .ref (xu 6), .ref (xu 7), .ref (xu 8), .ref (xu 9), .ref (xu 10), .ref (xu 11), vZ (U.2 12), vZ (U.2 13), vZ (U.2 14), vZ (U.2 15)])), ((xu 5), .inl (K.1, 8, .inl (ar (U.1 5)))), ((xu 6), .inl (K.1, 8, .inl (ar (U.1 6)))), ((xu 7), .inl (K.1, 8, .inl (ar (U.1 7)))), ((xu 8), .inl (K.1, 10, .inl (ar (upz (upz Th here ((Th here) - ((Cr.1 1) c))) v_61 (((upz Th here ((Th here) - ((Cr.1 1) c))) v_61) + ((Cr.1 1) c)))))), ((xu 9), .inl (K.1, 10, .inl (ar (U.1 9)))), ((xu 10), .inl (K.1, 10, .inl (ar (U.1 10)))), ((xu 11), .inl (K.1, 16, .inl (ar (U.1 11)))), ((x 5), .inr (1, [.ref (x 3), .ref (xf 1), .ref (xf 2), .ref (xf 3), .ref (xf 4), vZ (F.2 5), vZ (F.2 6), vZ (F.2 7), vZ (F.2 8), vZ (F.2 9), vZ (F.2 10), vZ (F.2 11)])), ((xf 2), .inl (K.1, 10, .inl (ar (F.1 2)))), ((xf 3), .inl (K.1, 4, .inl (ar (F.1 3)))), ((xf 4), .inl (K.1, 4, .inl (ar (F.1 4))))]) rfl (z_lv (lv2 := [(0, .ref h), (1, vZ hours), (2, vZ (n2 + 1)), (3, vZ (c + 1))]) ⟨rfl, rfl, rfl, rfl, trivial⟩ ?_)
              refine ih_26 (n2 + 1) (c + 1) (upz Pl c v_61) (upz (upz Th here ((Th here) - ((Cr.1 1) c))) v_61 (((upz Th here ((Th here) - ((Cr.1 1) c))) v_61) + ((Cr.1 1) c))) ?_ ?_ ?_ (dec_lt hm_26 c_34)
              · skip
                omega
              · skip
                rw [dwF_next h0.1, if_neg (by rw [← e1, ← ehere, ← hv_61]; omega), ← e1, ← ehere, ← hv_61]
                exact ⟨by rw [h1.1], by rw [h1.2]⟩
              · skip
                intro t z1 z2
                rw [aAt_pl h0.1 c_34 (hof (by omega) c h0.1 c_34), ← h2 t z1 z2, ← ehere]
                unfold upz
                split <;> split <;> first | omega | (subst_vars; omega) | (split <;> first | omega | (subst_vars; omega) | (split <;> first | omega | (subst_vars; omega)))
      refine z_ws (ws2 := [(h, .inr (7, [.ref (x 0), .ref (x 1), .ref (x 2), .ref (x 3), .ref (x 4), .ref (x 5)])), ((x 0), .inr (5, [.ref (ato 0), .ref (ato 1), vZ (To.2 2), vZ (To.2 3)])), ((ato 0), .inl (K.1, 10, .inl (ar (To.1 0)))), ((ato 1), .inl (K.1, 10, .inl (ar (To.1 1)))), ((x 1), .inr (4, [.ref (an 0), .ref (an 1), .ref (an 2), .ref (an 3), .ref (an 4), .ref (an 5), .ref (an 6), .ref (an 7), vZ (Ne.2 8)])), ((an 0), .inl (K.1, 16, .inl (ar (Ne.1 0)))), ((an 1), .inl (K.1, 16, .inl (ar (Ne.1 1)))), ((an 2), .inl (K.1, 16, .inl (ar (Ne.1 2)))), ((an 3), .inl (K.1, 16, .inl (ar (Ne.1 3)))), ((an 4), .inl (K.1, 16, .inl (ar (Ne.1 4)))), ((an 5), .inl (K.1, 16, .inl (ar (Ne.1 5)))), ((an 6), .inl (K.1, 100, .inl (ar (Ne.1 6)))), ((an 7), .inl (K.1, 100, .inl (ar (Ne.1 7)))), ((x 2), .inr (0, [.ref (ac 0), .ref (ac 1), .ref (ac 2), vZ (Cr.2 3), vZ (Cr.2 4)])), ((ac 0), .inl (K.1, 8, .inl (ar (Cr.1 0)))), ((ac 1), .inl (K.1, 8, .inl (ar (Cr.1 1)))), ((ac 2), .inl (K.1, 8, .inl (ar (Cr.1 2)))), ((x 3), .inr (6, [.ref (x 0), .ref (x 1), .ref (x 2), .ref (xu 3), .ref (xu 5), .ref (xu 6), .ref (xu 7), .ref (xu 8), .ref (xu 9), .ref (xu 10), .ref (xu 11), vZ (U.2 12), vZ (U.2 13), vZ (U.2 14), vZ (U.2 15)])), ((xu 5), .inl (K.1, 8, .inl (ar (U.1 5)))), ((xu 6), .inl (K.1, 8, .inl (ar (U.1 6)))), ((xu 7), .inl (K.1, 8, .inl (ar (U.1 7)))), ((xu 8), .inl (K.1, 10, .inl (ar (U.1 8)))), ((xu 9), .inl (K.1, 10, .inl (ar (U.1 9)))), ((xu 10), .inl (K.1, 10, .inl (ar (U.1 10)))), ((xu 11), .inl (K.1, 16, .inl (ar (U.1 11)))), ((x 5), .inr (1, [.ref (x 3), .ref (xf 1), .ref (xf 2), .ref (xf 3), .ref (xf 4), vZ (F.2 5), vZ (F.2 6), vZ (F.2 7), vZ (F.2 8), vZ (F.2 9), vZ (F.2 10), vZ (F.2 11)])), ((xf 2), .inl (K.1, 10, .inl (ar (F.1 2)))), ((xf 3), .inl (K.1, 4, .inl (ar (F.1 3)))), ((xf 4), .inl (K.1, 4, .inl (ar (F.1 4))))]) rfl (z_lv (lv2 := [(0, .ref h), (1, vZ hours), (2, vZ 0), (3, vZ 0)]) ⟨rfl, rfl, rfl, rfl, trivial⟩ ?_)
      refine lp_26 _ 0 0 (Cr.1 0) (U.1 8) ?_ ?_ ?_ (Nat.lt_succ_self _)
      · skip
        omega
      · skip
        exact ⟨rfl, rfl⟩
      · skip
        intro t z1 z2
        rw [hth t z1 z2]
        rfl
    · skip
      refine z_iconst ZC dX7_dawn_20 ?_
      refine z_iret ZC ZE dX7_dawn_21 (by omega) (by omega) (Nat.le_of_ble_eq_true rfl) ⟨(Cr.1 0), (U.1 8), F, (-1), rfl, rfl, by omega, by omega, ?_⟩
      · skip
        right; exact ⟨by omega, rfl, rfl, rfl, rfl⟩

set_option maxHeartbeats 4000000 in
set_option maxRecDepth 100000 in
theorem c_X7_logTheHour (zl : Launch) (D : va_G) (K : tyK) (h : Nat) (x : Nat → Nat) (an : Nat → Nat) (Ne : Bd) (xu : Nat → Nat) (U : Bd) (f : Nat → Option Nat) (hs : Nat → Nat) (ag : Nat → Nat → Nat) (Lg : Nat → Bd) (nr : Nat) (hne : 0 ≤ Ne.2 8 ∧ Ne.2 8 ≤ 16) (hnr : nr = (Ne.2 8).toNat) (hf : ∀ k : Nat, k < nr → f k = some (hs k)) (hn2 : 0 ≤ U.2 12 ∧ U.2 12 < 200) (hsh : ∀ r : Int, 0 ≤ r → r < Ne.2 8 → (0 ≤ Ne.1 4 r ∧ Ne.1 4 r < 2147483648) ∧ (0 ≤ Ne.1 5 r ∧ Ne.1 5 r < 2147483648)) : Mz zl yX7_logTheHour cX7_logTheHour 3 (none) 2 44 0 0 D K [.ref h] ((wSh h x) ++ (wNe K (x 1) an Ne) ++ (wTr K (x 3) (upf (upf (upf xu 0 (x 0)) 1 (x 1)) 2 (x 2)) U) ++ (wLA K (x 4) f) ++ (lgW K hs ag Lg nr)) (fun r_ w2_ gc gs => ∃ (Lg2 : Nat → Bd), r_ = none ∧ w2_ = ((wSh h x) ++ (wNe K (x 1) an Ne) ++ (wTr K (x 3) (upf (upf (upf xu 0 (x 0)) 1 (x 1)) 2 (x 2)) U) ++ (wLA K (x 4) f) ++ (lgW K hs ag Lg2 nr)) ∧ gc = 0 ∧ gs = 0 ∧ (∀ k : Nat, k < nr → Lg2 k = ntU Ne U (Lg k) k)) := by
  refine Mz.ofZ (by decide) rfl (Nat.le_of_ble_eq_true rfl) ?_
  intro zp ze zR zs zm zargs zbelow zmeth zc zA zQ ZC ZE hRf hRc hRs hRl
  refine z_iconst ZC dX7_logTheHour_0 ?_
  refine z_istore_n ZC 1 dX7_logTheHour_1 rfl (by decide) ?_
  have lp_2 : ∀ (n_2 : Nat) (r : Int) (Lg1 : Nat → Bd), (0 ≤ r ∧ r ≤ Ne.2 8) → (∀ k : Nat, ((k : Int) < r → Lg1 k = ntU Ne U (Lg k) k) ∧ (r ≤ (k : Int) → Lg1 k = Lg k)) → ((Ne.2 8 - r).toNat) < n_2 → Zw zp zl ze zR zs zm zargs zbelow zmeth zc D zA 3 zQ 0 0 ([(h, .inr (7, [.ref (x 0), .ref (x 1), .ref (x 2), .ref (x 3), .ref (x 4), .ref (x 5)])), ((x 1), .inr (4, [.ref (an 0), .ref (an 1), .ref (an 2), .ref (an 3), .ref (an 4), .ref (an 5), .ref (an 6), .ref (an 7), vZ (Ne.2 8)])), ((an 0), .inl (K.1, 16, .inl (ar (Ne.1 0)))), ((an 1), .inl (K.1, 16, .inl (ar (Ne.1 1)))), ((an 2), .inl (K.1, 16, .inl (ar (Ne.1 2)))), ((an 3), .inl (K.1, 16, .inl (ar (Ne.1 3)))), ((an 4), .inl (K.1, 16, .inl (ar (Ne.1 4)))), ((an 5), .inl (K.1, 16, .inl (ar (Ne.1 5)))), ((an 6), .inl (K.1, 100, .inl (ar (Ne.1 6)))), ((an 7), .inl (K.1, 100, .inl (ar (Ne.1 7)))), ((x 3), .inr (6, [.ref (x 0), .ref (x 1), .ref (x 2), .ref (xu 3), .ref (xu 5), .ref (xu 6), .ref (xu 7), .ref (xu 8), .ref (xu 9), .ref (xu 10), .ref (xu 11), vZ (U.2 12), vZ (U.2 13), vZ (U.2 14), vZ (U.2 15)])), ((xu 5), .inl (K.1, 8, .inl (ar (U.1 5)))), ((xu 6), .inl (K.1, 8, .inl (ar (U.1 6)))), ((xu 7), .inl (K.1, 8, .inl (ar (U.1 7)))), ((xu 8), .inl (K.1, 10, .inl (ar (U.1 8)))), ((xu 9), .inl (K.1, 10, .inl (ar (U.1 9)))), ((xu 10), .inl (K.1, 10, .inl (ar (U.1 10)))), ((xu 11), .inl (K.1, 16, .inl (ar (U.1 11)))), ((x 4), .inl (K.2.2, 16, .inr (.inr (.inr (.inr f)))))] ++ lgW K hs ag Lg1 nr) 2 [(0, .ref h), (1, vZ r)] [] := by
    intro n_2
    induction n_2 with
    | zero => intro r Lg1 h0 h1 hm_2; exact absurd hm_2 (Nat.not_lt_zero _)
    | succ n_2 ih_2 =>
      intro r Lg1 h0 h1 hm_2
      refine z_iload_n ZC 1 dX7_logTheHour_2 rfl rfl ?_
      refine z_aload_n ZC 0 dX7_logTheHour_3 rfl rfl ?_
      refine z_get ZC inUX7 0 rfl rfl 1 (by decide) uF_X7_19 rfl dX7_logTheHour_4 ?_
      refine z_get ZC inUX4 1 rfl rfl 8 (by decide) uF_X7_90 rfl dX7_logTheHour_7 ?_
      refine z_icmp_ge ZC 65 dX7_logTheHour_10 (by decide) (by omega) (by omega) (fun c_10 => ?_) (fun c_10 => ?_)
      · skip
        refine z_vret ZC ZE dX7_logTheHour_65 (by omega) (by omega) (by simp only [List.length_append, List.length_cons, List.length_nil, lgW_len]; omega) ⟨Lg1, rfl, rfl, by omega, by omega, ?_⟩
        · skip
          intro k hk
          exact (h1 k).1 (by omega)
      · skip
        have hs1 := hsh r (by omega) (by omega)
        refine z_aload_n ZC 0 dX7_logTheHour_13 rfl rfl ?_
        refine z_get ZC inUX7 0 rfl rfl 4 (by decide) uF_X7_41 rfl dX7_logTheHour_14 ?_
        refine z_iload_n ZC 1 dX7_logTheHour_17 rfl rfl ?_
        refine z_aald ZC (v := (hs r.toNat)) 18 rfl dX7_logTheHour_18 (by omega) (hf r.toNat (by omega)) ?_
        refine z_astore_n ZC 2 dX7_logTheHour_19 rfl (by decide) ?_
        refine z_aload_n ZC 2 dX7_logTheHour_20 rfl rfl ?_
        refine z_ifnull ZC dX7_logTheHour_21 ?_
        refine z_aload_n ZC 2 dX7_logTheHour_24 rfl rfl ?_
        refine z_aload_n ZC 0 dX7_logTheHour_25 rfl rfl ?_
        refine z_get ZC inUX7 0 rfl rfl 3 (by decide) uF_X7_35 rfl dX7_logTheHour_26 ?_
        refine z_get ZC inUX6 10 rfl rfl 11 (by decide) uF_X7_87 rfl dX7_logTheHour_29 ?_
        refine z_aload_n ZC 0 dX7_logTheHour_32 rfl rfl ?_
        refine z_get ZC inUX7 0 rfl rfl 3 (by decide) uF_X7_35 rfl dX7_logTheHour_33 ?_
        refine z_get ZC inUX6 10 rfl rfl 10 (by decide) uF_X7_217 rfl dX7_logTheHour_36 ?_
        refine z_iload_n ZC 1 dX7_logTheHour_39 rfl rfl ?_
        refine z_iald ZC 17 rfl dX7_logTheHour_40 (by omega) ?_
        refine z_aload_n ZC 0 dX7_logTheHour_41 rfl rfl ?_
        refine z_get ZC inUX7 0 rfl rfl 1 (by decide) uF_X7_19 rfl dX7_logTheHour_42 ?_
        refine z_iload_n ZC 1 dX7_logTheHour_45 rfl rfl ?_
        refine z_aload_n ZC 0 dX7_logTheHour_46 rfl rfl ?_
        refine z_get ZC inUX7 0 rfl rfl 3 (by decide) uF_X7_35 rfl dX7_logTheHour_47 ?_
        refine z_get ZC inUX6 10 rfl rfl 11 (by decide) uF_X7_87 rfl dX7_logTheHour_50 ?_
        refine z_callV ZC 2 (c_X4_lets zl D K (x 1) an Ne r (U.2 12) (by omega) (by omega) (by omega) (by omega)) (gdV uM_X7_218 uI_X4_lets uS_X4_lets uN_X4 uC_X4_lets) (by decide +kernel) rfl ⟨by omega, by omega⟩ ⟨by omega, by omega⟩ (Nat.le_of_ble_eq_true rfl) [1, 2, 3, 4, 5, 6, 7, 8, 9] rfl (by decide) rfl rfl rfl rfl dX7_logTheHour_53 (fun r w2 gc_53 gs_53 hp => ?_)
        obtain ⟨v_53, rfl, rfl, rfl, rfl, hv_53⟩ := hp
        refine z_ws (ws2 := ([(h, .inr (7, [.ref (x 0), .ref (x 1), .ref (x 2), .ref (x 3), .ref (x 4), .ref (x 5)])), ((x 1), .inr (4, [.ref (an 0), .ref (an 1), .ref (an 2), .ref (an 3), .ref (an 4), .ref (an 5), .ref (an 6), .ref (an 7), vZ (Ne.2 8)])), ((an 0), .inl (K.1, 16, .inl (ar (Ne.1 0)))), ((an 1), .inl (K.1, 16, .inl (ar (Ne.1 1)))), ((an 2), .inl (K.1, 16, .inl (ar (Ne.1 2)))), ((an 3), .inl (K.1, 16, .inl (ar (Ne.1 3)))), ((an 4), .inl (K.1, 16, .inl (ar (Ne.1 4)))), ((an 5), .inl (K.1, 16, .inl (ar (Ne.1 5)))), ((an 6), .inl (K.1, 100, .inl (ar (Ne.1 6)))), ((an 7), .inl (K.1, 100, .inl (ar (Ne.1 7)))), ((x 3), .inr (6, [.ref (x 0), .ref (x 1), .ref (x 2), .ref (xu 3), .ref (xu 5), .ref (xu 6), .ref (xu 7), .ref (xu 8), .ref (xu 9), .ref (xu 10), .ref (xu 11), vZ (U.2 12), vZ (U.2 13), vZ (U.2 14), vZ (U.2 15)])), ((xu 5), .inl (K.1, 8, .inl (ar (U.1 5)))), ((xu 6), .inl (K.1, 8, .inl (ar (U.1 6)))), ((xu 7), .inl (K.1, 8, .inl (ar (U.1 7)))), ((xu 8), .inl (K.1, 10, .inl (ar (U.1 8)))), ((xu 9), .inl (K.1, 10, .inl (ar (U.1 9)))), ((xu 10), .inl (K.1, 10, .inl (ar (U.1 10)))), ((xu 11), .inl (K.1, 16, .inl (ar (U.1 11)))), ((x 4), .inl (K.2.2, 16, .inr (.inr (.inr (.inr f)))))] ++ lgW K hs ag Lg1 nr)) ((rep_pre (is := [1, 2, 3, 4, 5, 6, 7, 8, 9]) (pre := [(h, .inr (7, [.ref (x 0), .ref (x 1), .ref (x 2), .ref (x 3), .ref (x 4), .ref (x 5)])), ((x 1), .inr (4, [.ref (an 0), .ref (an 1), .ref (an 2), .ref (an 3), .ref (an 4), .ref (an 5), .ref (an 6), .ref (an 7), vZ (Ne.2 8)])), ((an 0), .inl (K.1, 16, .inl (ar (Ne.1 0)))), ((an 1), .inl (K.1, 16, .inl (ar (Ne.1 1)))), ((an 2), .inl (K.1, 16, .inl (ar (Ne.1 2)))), ((an 3), .inl (K.1, 16, .inl (ar (Ne.1 3)))), ((an 4), .inl (K.1, 16, .inl (ar (Ne.1 4)))), ((an 5), .inl (K.1, 16, .inl (ar (Ne.1 5)))), ((an 6), .inl (K.1, 100, .inl (ar (Ne.1 6)))), ((an 7), .inl (K.1, 100, .inl (ar (Ne.1 7)))), ((x 3), .inr (6, [.ref (x 0), .ref (x 1), .ref (x 2), .ref (xu 3), .ref (xu 5), .ref (xu 6), .ref (xu 7), .ref (xu 8), .ref (xu 9), .ref (xu 10), .ref (xu 11), vZ (U.2 12), vZ (U.2 13), vZ (U.2 14), vZ (U.2 15)])), ((xu 5), .inl (K.1, 8, .inl (ar (U.1 5)))), ((xu 6), .inl (K.1, 8, .inl (ar (U.1 6)))), ((xu 7), .inl (K.1, 8, .inl (ar (U.1 7)))), ((xu 8), .inl (K.1, 10, .inl (ar (U.1 8)))), ((xu 9), .inl (K.1, 10, .inl (ar (U.1 9)))), ((xu 10), .inl (K.1, 10, .inl (ar (U.1 10)))), ((xu 11), .inl (K.1, 16, .inl (ar (U.1 11)))), ((x 4), .inl (K.2.2, 16, .inr (.inr (.inr (.inr f)))))]) (w1 := (wNe K (x 1) an Ne)) rfl (Nat.le_of_ble_eq_true rfl)).trans rfl) ?_
        refine z_st (st2 := [vZ v_53, vZ ((U.1 11) r), vZ (U.2 12), .ref (hs r.toNat)]) rfl ?_
        refine z_callV ZC 3 (c_X3_note zl D K (hs r.toNat) (ag r.toNat) (Lg1 r.toNat) (U.2 12) ((U.1 11) r) v_53 (by omega)) (gdV uM_X7_221 uI_X3_note uS_X3_note uN_X3 uC_X3_note) (by decide +kernel) rfl ⟨by omega, by omega⟩ ⟨by omega, by omega⟩ (Nat.le_of_ble_eq_true rfl) (is4 19 r.toNat) (is4_map K hs ag Lg1 (by omega) [(h, .inr (7, [.ref (x 0), .ref (x 1), .ref (x 2), .ref (x 3), .ref (x 4), .ref (x 5)])), ((x 1), .inr (4, [.ref (an 0), .ref (an 1), .ref (an 2), .ref (an 3), .ref (an 4), .ref (an 5), .ref (an 6), .ref (an 7), vZ (Ne.2 8)])), ((an 0), .inl (K.1, 16, .inl (ar (Ne.1 0)))), ((an 1), .inl (K.1, 16, .inl (ar (Ne.1 1)))), ((an 2), .inl (K.1, 16, .inl (ar (Ne.1 2)))), ((an 3), .inl (K.1, 16, .inl (ar (Ne.1 3)))), ((an 4), .inl (K.1, 16, .inl (ar (Ne.1 4)))), ((an 5), .inl (K.1, 16, .inl (ar (Ne.1 5)))), ((an 6), .inl (K.1, 100, .inl (ar (Ne.1 6)))), ((an 7), .inl (K.1, 100, .inl (ar (Ne.1 7)))), ((x 3), .inr (6, [.ref (x 0), .ref (x 1), .ref (x 2), .ref (xu 3), .ref (xu 5), .ref (xu 6), .ref (xu 7), .ref (xu 8), .ref (xu 9), .ref (xu 10), .ref (xu 11), vZ (U.2 12), vZ (U.2 13), vZ (U.2 14), vZ (U.2 15)])), ((xu 5), .inl (K.1, 8, .inl (ar (U.1 5)))), ((xu 6), .inl (K.1, 8, .inl (ar (U.1 6)))), ((xu 7), .inl (K.1, 8, .inl (ar (U.1 7)))), ((xu 8), .inl (K.1, 10, .inl (ar (U.1 8)))), ((xu 9), .inl (K.1, 10, .inl (ar (U.1 9)))), ((xu 10), .inl (K.1, 10, .inl (ar (U.1 10)))), ((xu 11), .inl (K.1, 16, .inl (ar (U.1 11)))), ((x 4), .inl (K.2.2, 16, .inr (.inr (.inr (.inr f)))))] rfl) (is4_nd _ _) rfl rfl rfl rfl dX7_logTheHour_56 (fun r w2 gc_56 gs_56 hp => ?_)
        obtain ⟨rfl, rfl, rfl, rfl⟩ := hp
        refine z_ws (ws2 := ([(h, .inr (7, [.ref (x 0), .ref (x 1), .ref (x 2), .ref (x 3), .ref (x 4), .ref (x 5)])), ((x 1), .inr (4, [.ref (an 0), .ref (an 1), .ref (an 2), .ref (an 3), .ref (an 4), .ref (an 5), .ref (an 6), .ref (an 7), vZ (Ne.2 8)])), ((an 0), .inl (K.1, 16, .inl (ar (Ne.1 0)))), ((an 1), .inl (K.1, 16, .inl (ar (Ne.1 1)))), ((an 2), .inl (K.1, 16, .inl (ar (Ne.1 2)))), ((an 3), .inl (K.1, 16, .inl (ar (Ne.1 3)))), ((an 4), .inl (K.1, 16, .inl (ar (Ne.1 4)))), ((an 5), .inl (K.1, 16, .inl (ar (Ne.1 5)))), ((an 6), .inl (K.1, 100, .inl (ar (Ne.1 6)))), ((an 7), .inl (K.1, 100, .inl (ar (Ne.1 7)))), ((x 3), .inr (6, [.ref (x 0), .ref (x 1), .ref (x 2), .ref (xu 3), .ref (xu 5), .ref (xu 6), .ref (xu 7), .ref (xu 8), .ref (xu 9), .ref (xu 10), .ref (xu 11), vZ (U.2 12), vZ (U.2 13), vZ (U.2 14), vZ (U.2 15)])), ((xu 5), .inl (K.1, 8, .inl (ar (U.1 5)))), ((xu 6), .inl (K.1, 8, .inl (ar (U.1 6)))), ((xu 7), .inl (K.1, 8, .inl (ar (U.1 7)))), ((xu 8), .inl (K.1, 10, .inl (ar (U.1 8)))), ((xu 9), .inl (K.1, 10, .inl (ar (U.1 9)))), ((xu 10), .inl (K.1, 10, .inl (ar (U.1 10)))), ((xu 11), .inl (K.1, 16, .inl (ar (U.1 11)))), ((x 4), .inl (K.2.2, 16, .inr (.inr (.inr (.inr f)))))] ++ lgW K hs ag (va_up Lg1 r.toNat ((upf (upf (Lg1 r.toNat).1 0 (upz ((Lg1 r.toNat).1 0) (U.2 12) ((U.1 11) r))) 1 (upz ((Lg1 r.toNat).1 1) (U.2 12) v_53)), (Lg1 r.toNat).2)) nr)) (lg_rep K hs ag Lg1 (by omega) ((upf (upf (Lg1 r.toNat).1 0 (upz ((Lg1 r.toNat).1 0) (U.2 12) ((U.1 11) r))) 1 (upz ((Lg1 r.toNat).1 1) (U.2 12) v_53)), (Lg1 r.toNat).2) [(h, .inr (7, [.ref (x 0), .ref (x 1), .ref (x 2), .ref (x 3), .ref (x 4), .ref (x 5)])), ((x 1), .inr (4, [.ref (an 0), .ref (an 1), .ref (an 2), .ref (an 3), .ref (an 4), .ref (an 5), .ref (an 6), .ref (an 7), vZ (Ne.2 8)])), ((an 0), .inl (K.1, 16, .inl (ar (Ne.1 0)))), ((an 1), .inl (K.1, 16, .inl (ar (Ne.1 1)))), ((an 2), .inl (K.1, 16, .inl (ar (Ne.1 2)))), ((an 3), .inl (K.1, 16, .inl (ar (Ne.1 3)))), ((an 4), .inl (K.1, 16, .inl (ar (Ne.1 4)))), ((an 5), .inl (K.1, 16, .inl (ar (Ne.1 5)))), ((an 6), .inl (K.1, 100, .inl (ar (Ne.1 6)))), ((an 7), .inl (K.1, 100, .inl (ar (Ne.1 7)))), ((x 3), .inr (6, [.ref (x 0), .ref (x 1), .ref (x 2), .ref (xu 3), .ref (xu 5), .ref (xu 6), .ref (xu 7), .ref (xu 8), .ref (xu 9), .ref (xu 10), .ref (xu 11), vZ (U.2 12), vZ (U.2 13), vZ (U.2 14), vZ (U.2 15)])), ((xu 5), .inl (K.1, 8, .inl (ar (U.1 5)))), ((xu 6), .inl (K.1, 8, .inl (ar (U.1 6)))), ((xu 7), .inl (K.1, 8, .inl (ar (U.1 7)))), ((xu 8), .inl (K.1, 10, .inl (ar (U.1 8)))), ((xu 9), .inl (K.1, 10, .inl (ar (U.1 9)))), ((xu 10), .inl (K.1, 10, .inl (ar (U.1 10)))), ((xu 11), .inl (K.1, 16, .inl (ar (U.1 11)))), ((x 4), .inl (K.2.2, 16, .inr (.inr (.inr (.inr f)))))] rfl) ?_
        refine z_st (st2 := []) rfl ?_
        refine z_iinc ZC dX7_logTheHour_59 rfl (by decide) ?_
        refine z_goto ZC 2 dX7_logTheHour_62 (by decide) ?_
        refine z_ws (ws2 := ([(h, .inr (7, [.ref (x 0), .ref (x 1), .ref (x 2), .ref (x 3), .ref (x 4), .ref (x 5)])), ((x 1), .inr (4, [.ref (an 0), .ref (an 1), .ref (an 2), .ref (an 3), .ref (an 4), .ref (an 5), .ref (an 6), .ref (an 7), vZ (Ne.2 8)])), ((an 0), .inl (K.1, 16, .inl (ar (Ne.1 0)))), ((an 1), .inl (K.1, 16, .inl (ar (Ne.1 1)))), ((an 2), .inl (K.1, 16, .inl (ar (Ne.1 2)))), ((an 3), .inl (K.1, 16, .inl (ar (Ne.1 3)))), ((an 4), .inl (K.1, 16, .inl (ar (Ne.1 4)))), ((an 5), .inl (K.1, 16, .inl (ar (Ne.1 5)))), ((an 6), .inl (K.1, 100, .inl (ar (Ne.1 6)))), ((an 7), .inl (K.1, 100, .inl (ar (Ne.1 7)))), ((x 3), .inr (6, [.ref (x 0), .ref (x 1), .ref (x 2), .ref (xu 3), .ref (xu 5), .ref (xu 6), .ref (xu 7), .ref (xu 8), .ref (xu 9), .ref (xu 10), .ref (xu 11), vZ (U.2 12), vZ (U.2 13), vZ (U.2 14), vZ (U.2 15)])), ((xu 5), .inl (K.1, 8, .inl (ar (U.1 5)))), ((xu 6), .inl (K.1, 8, .inl (ar (U.1 6)))), ((xu 7), .inl (K.1, 8, .inl (ar (U.1 7)))), ((xu 8), .inl (K.1, 10, .inl (ar (U.1 8)))), ((xu 9), .inl (K.1, 10, .inl (ar (U.1 9)))), ((xu 10), .inl (K.1, 10, .inl (ar (U.1 10)))), ((xu 11), .inl (K.1, 16, .inl (ar (U.1 11)))), ((x 4), .inl (K.2.2, 16, .inr (.inr (.inr (.inr f)))))] ++ lgW K hs ag (va_up Lg1 r.toNat ((upf (upf (Lg1 r.toNat).1 0 (upz ((Lg1 r.toNat).1 0) (U.2 12) ((U.1 11) r))) 1 (upz ((Lg1 r.toNat).1 1) (U.2 12) v_53)), (Lg1 r.toNat).2)) nr)) rfl (z_lv (lv2 := [(0, .ref h), (1, vZ (r + 1))]) ⟨rfl, rfl, trivial⟩ ?_)
        refine ih_2 (r + 1) (va_up Lg1 r.toNat ((upf (upf (Lg1 r.toNat).1 0 (upz ((Lg1 r.toNat).1 0) (U.2 12) ((U.1 11) r))) 1 (upz ((Lg1 r.toNat).1 1) (U.2 12) v_53)), (Lg1 r.toNat).2)) ?_ ?_ (dec_lt hm_2 c_10)
        · skip
          omega
        · skip
          intro k
          by_cases z : k = r.toNat
          · rw [z, va_up_self]
            refine ⟨fun _ => ?_, fun q => by omega⟩
            rw [(h1 r.toNat).2 (by omega), hv_53]
            unfold ntU
            rw [show ((r.toNat : Nat) : Int) = r by omega]
          · rw [va_up_ne _ _ z]
            exact ⟨fun q => (h1 k).1 (by omega), fun q => (h1 k).2 (by omega)⟩
  refine z_ws (ws2 := ([(h, .inr (7, [.ref (x 0), .ref (x 1), .ref (x 2), .ref (x 3), .ref (x 4), .ref (x 5)])), ((x 1), .inr (4, [.ref (an 0), .ref (an 1), .ref (an 2), .ref (an 3), .ref (an 4), .ref (an 5), .ref (an 6), .ref (an 7), vZ (Ne.2 8)])), ((an 0), .inl (K.1, 16, .inl (ar (Ne.1 0)))), ((an 1), .inl (K.1, 16, .inl (ar (Ne.1 1)))), ((an 2), .inl (K.1, 16, .inl (ar (Ne.1 2)))), ((an 3), .inl (K.1, 16, .inl (ar (Ne.1 3)))), ((an 4), .inl (K.1, 16, .inl (ar (Ne.1 4)))), ((an 5), .inl (K.1, 16, .inl (ar (Ne.1 5)))), ((an 6), .inl (K.1, 100, .inl (ar (Ne.1 6)))), ((an 7), .inl (K.1, 100, .inl (ar (Ne.1 7)))), ((x 3), .inr (6, [.ref (x 0), .ref (x 1), .ref (x 2), .ref (xu 3), .ref (xu 5), .ref (xu 6), .ref (xu 7), .ref (xu 8), .ref (xu 9), .ref (xu 10), .ref (xu 11), vZ (U.2 12), vZ (U.2 13), vZ (U.2 14), vZ (U.2 15)])), ((xu 5), .inl (K.1, 8, .inl (ar (U.1 5)))), ((xu 6), .inl (K.1, 8, .inl (ar (U.1 6)))), ((xu 7), .inl (K.1, 8, .inl (ar (U.1 7)))), ((xu 8), .inl (K.1, 10, .inl (ar (U.1 8)))), ((xu 9), .inl (K.1, 10, .inl (ar (U.1 9)))), ((xu 10), .inl (K.1, 10, .inl (ar (U.1 10)))), ((xu 11), .inl (K.1, 16, .inl (ar (U.1 11)))), ((x 4), .inl (K.2.2, 16, .inr (.inr (.inr (.inr f)))))] ++ lgW K hs ag Lg nr)) rfl (z_lv (lv2 := [(0, .ref h), (1, vZ 0)]) ⟨rfl, rfl, trivial⟩ ?_)
  refine lp_2 _ 0 Lg ?_ ?_ (Nat.lt_succ_self _)
  · skip
    omega
  · skip
    intro k
    exact ⟨fun q => by omega, fun _ => rfl⟩

set_option maxHeartbeats 4000000 in
set_option maxRecDepth 100000 in
theorem c_X7_go (zl : Launch) (D : va_G) (K : tyK) (h : Nat) (x : Nat → Nat) (ato : Nat → Nat) (To : Bd) (an : Nat → Nat) (Ne : Bd) (ac : Nat → Nat) (Cr : Bd) (xu : Nat → Nat) (U : Bd) (aqu : Nat → Nat) (Nqu : Nat) (Squ : Bd) (f : Nat → Option Nat) (xf : Nat → Nat) (F : Bd) (hs : Nat → Nat) (ag : Nat → Nat → Nat) (Lg : Nat → Bd) (nr : Nat) (B : Nat) (Cq : Int → List Pt3) (A : Ab) (n : Int) (hz_n : -2147483648 ≤ n ∧ n < 2147483648) (hcf : Cfg Ne Cr) (hto : 0 ≤ To.2 3 ∧ To.2 3 ≤ 10) (hab : AB Ne Cr A) (hal : AL Cr A) (hT : TrR Ne Cr B U Nqu Squ Cq A) (hpb : ((lns Cq 32 : Nat) : Int) ≤ oc Cr A + 16 * A.2.1 0) (hB : 3300 ≤ B ∧ B ≤ 4000) (hnr : nr = (Ne.2 8).toNat) (hf : ∀ k : Nat, k < nr → f k = some (hs k)) (hfi : FoI To Ne Cr F A) : Mz zl yX7_go cX7_go 3 (some .int) 5 117 25000 250000 D K [.ref h, vZ n] ((wSh h x) ++ (wTo K (x 0) ato To) ++ (wNe K (x 1) an Ne) ++ (wCr K (x 2) ac Cr) ++ (wTr K (x 3) (upf (upf (upf xu 0 (x 0)) 1 (x 1)) 2 (x 2)) U) ++ (wLn K (xu 3) aqu Nqu Squ) ++ (wLA K (x 4) f) ++ (wFo K (x 5) (upf xf 0 (x 3)) F) ++ (lgW K hs ag Lg nr)) (fun r_ w2_ gc gs => ∃ (U2 : Bd), ∃ (aqu2 : Nat → Nat), ∃ (Nqu2 : Nat), ∃ (Squ2 : Bd), ∃ (F2 : Bd), ∃ (Lg2 : Nat → Bd), ∃ (v : Int), ∃ (Cq2 : Int → List Pt3), r_ = some (vZ v) ∧ w2_ = ((wSh h x) ++ (wTo K (x 0) ato To) ++ (wNe K (x 1) an Ne) ++ (wCr K (x 2) ac Cr) ++ (wTr K (x 3) (upf (upf (upf xu 0 (x 0)) 1 (x 1)) 2 (x 2)) U2) ++ (wLn K (xu 3) aqu2 Nqu2 Squ2) ++ (wLA K (x 4) f) ++ (wFo K (x 5) (upf xf 0 (x 3)) F2) ++ (lgW K hs ag Lg2 nr)) ∧ (((0 ≤ n ∧ n ≤ 50) ∧ v = (aHrs To Ne Cr A (goK n (A.2.1 0))).2.1 0) ∨ (¬ (0 ≤ n ∧ n ≤ 50) ∧ v = -1)) ∧ (TrR Ne Cr B U2 Nqu2 Squ2 Cq2 (aHrs To Ne Cr A (goK n (A.2.1 0)))) ∧ (((lns Cq2 32 : Nat) : Int) ≤ oc Cr (aHrs To Ne Cr A (goK n (A.2.1 0))) + 16 * (aHrs To Ne Cr A (goK n (A.2.1 0))).2.1 0) ∧ (AB Ne Cr (aHrs To Ne Cr A (goK n (A.2.1 0))) ∧ AL Cr (aHrs To Ne Cr A (goK n (A.2.1 0)))) ∧ (FoI To Ne Cr F2 (aHrs To Ne Cr A (goK n (A.2.1 0)))) ∧ (∀ k : Nat, k < nr → Lg2 k = lgF To Ne Cr A Lg (goK n (A.2.1 0)) k) ∧ (Nqu ≤ Nqu2 ∧ Nqu2 ≤ 4096) ∧ (Nqu + gc ≤ Nqu2) ∧ (8 * Nqu + gs ≤ 8 * Nqu2)) := by
  refine Mz.ofZ (by decide) rfl (Nat.le_of_ble_eq_true rfl) ?_
  intro zp ze zR zs zm zargs zbelow zmeth zc zA zQ ZC ZE hRf hRc hRs hRl
  have hnw := hab.2.1
  have hG10 := lo_rng hT.1
  have hne := hcf.1
  refine z_iload_n ZC 1 dX7_go_0 rfl rfl ?_
  refine z_iconst ZC dX7_go_1 ?_
  refine z_bipush ZC dX7_go_2 (by decide) ?_
  refine z_callS ZC 3 (c_X7_within zl D K n 0 50 (by omega) (by omega) (by omega)) (gdS uM_X7_54 uZ_X7_within uN_X7 uC_X7_within) (by decide +kernel) rfl ⟨by omega, by omega⟩ ⟨by omega, by omega⟩ (Nat.le_of_ble_eq_true rfl) [] rfl (by decide) rfl dX7_go_4 (fun r w2 gc_4 gs_4 hp => ?_)
  obtain ⟨b_4, rfl, rfl, rfl, rfl, hb_4⟩ := hp
  refine z_ws (ws2 := ([(h, .inr (7, [.ref (x 0), .ref (x 1), .ref (x 2), .ref (x 3), .ref (x 4), .ref (x 5)])), ((x 0), .inr (5, [.ref (ato 0), .ref (ato 1), vZ (To.2 2), vZ (To.2 3)])), ((ato 0), .inl (K.1, 10, .inl (ar (To.1 0)))), ((ato 1), .inl (K.1, 10, .inl (ar (To.1 1)))), ((x 1), .inr (4, [.ref (an 0), .ref (an 1), .ref (an 2), .ref (an 3), .ref (an 4), .ref (an 5), .ref (an 6), .ref (an 7), vZ (Ne.2 8)])), ((an 0), .inl (K.1, 16, .inl (ar (Ne.1 0)))), ((an 1), .inl (K.1, 16, .inl (ar (Ne.1 1)))), ((an 2), .inl (K.1, 16, .inl (ar (Ne.1 2)))), ((an 3), .inl (K.1, 16, .inl (ar (Ne.1 3)))), ((an 4), .inl (K.1, 16, .inl (ar (Ne.1 4)))), ((an 5), .inl (K.1, 16, .inl (ar (Ne.1 5)))), ((an 6), .inl (K.1, 100, .inl (ar (Ne.1 6)))), ((an 7), .inl (K.1, 100, .inl (ar (Ne.1 7)))), ((x 2), .inr (0, [.ref (ac 0), .ref (ac 1), .ref (ac 2), vZ (Cr.2 3), vZ (Cr.2 4)])), ((ac 0), .inl (K.1, 8, .inl (ar (Cr.1 0)))), ((ac 1), .inl (K.1, 8, .inl (ar (Cr.1 1)))), ((ac 2), .inl (K.1, 8, .inl (ar (Cr.1 2)))), ((x 3), .inr (6, [.ref (x 0), .ref (x 1), .ref (x 2), .ref (xu 3), .ref (xu 5), .ref (xu 6), .ref (xu 7), .ref (xu 8), .ref (xu 9), .ref (xu 10), .ref (xu 11), vZ (U.2 12), vZ (U.2 13), vZ (U.2 14), vZ (U.2 15)])), ((xu 5), .inl (K.1, 8, .inl (ar (U.1 5)))), ((xu 6), .inl (K.1, 8, .inl (ar (U.1 6)))), ((xu 7), .inl (K.1, 8, .inl (ar (U.1 7)))), ((xu 8), .inl (K.1, 10, .inl (ar (U.1 8)))), ((xu 9), .inl (K.1, 10, .inl (ar (U.1 9)))), ((xu 10), .inl (K.1, 10, .inl (ar (U.1 10)))), ((xu 11), .inl (K.1, 16, .inl (ar (U.1 11)))), ((xu 3), .inr (2, [.ref (aqu 0), .ref (aqu 1), .ref (aqu 2), .ref (aqu 3), .ref (aqu 4), .ref (aqu 5), .ref (aqu 6), vZ (Squ.2 7), vZ (Squ.2 8)])), ((aqu 0), .inl (K.1, 32, .inl (ar (Squ.1 0)))), ((aqu 1), .inl (K.1, 32, .inl (ar (Squ.1 1)))), ((aqu 2), .inl (K.1, 32, .inl (ar (Squ.1 2)))), ((aqu 3), .inl (K.1, Nqu, .inl (ar (Squ.1 3)))), ((aqu 4), .inl (K.1, Nqu, .inl (ar (Squ.1 4)))), ((aqu 5), .inl (K.1, Nqu, .inl (ar (Squ.1 5)))), ((aqu 6), .inl (K.1, Nqu, .inl (ar (Squ.1 6)))), ((x 4), .inl (K.2.2, 16, .inr (.inr (.inr (.inr f))))), ((x 5), .inr (1, [.ref (x 3), .ref (xf 1), .ref (xf 2), .ref (xf 3), .ref (xf 4), vZ (F.2 5), vZ (F.2 6), vZ (F.2 7), vZ (F.2 8), vZ (F.2 9), vZ (F.2 10), vZ (F.2 11)])), ((xf 2), .inl (K.1, 10, .inl (ar (F.1 2)))), ((xf 3), .inl (K.1, 4, .inl (ar (F.1 3)))), ((xf 4), .inl (K.1, 4, .inl (ar (F.1 4))))] ++ lgW K hs ag Lg nr)) (rep_nil _) ?_
  refine z_st (st2 := [vZ b_4]) rfl ?_
  refine z_if_ne ZC 12 dX7_go_7 (by decide) (by omega) (fun c_7 => ?_) (fun c_7 => ?_)
  · skip
    refine z_iconst ZC dX7_go_12 ?_
    refine z_istore_n ZC 2 dX7_go_13 rfl (by decide) ?_
    have lp_14 : ∀ (n_14 : Nat) (i : Int) (U1 : Bd) (aqu1 : Nat → Nat) (Nqu1 : Nat) (Squ1 : Bd) (F1 : Bd) (Lg1 : Nat → Bd) (gv : Nat) (gw : Nat) (Cq1 : Int → List Pt3) (A1 : Ab), (0 ≤ i ∧ i ≤ n) → (TrR Ne Cr B U1 Nqu1 Squ1 Cq1 A1) → (AB Ne Cr A1) → (AL Cr A1) → (((lns Cq1 32 : Nat) : Int) ≤ oc Cr A1 + 16 * A1.2.1 0) → (A1 = aHrs To Ne Cr A i.toNat) → (Nqu ≤ Nqu1 ∧ Nqu + gv ≤ Nqu1 ∧ 8 * Nqu + gw ≤ 8 * Nqu1) → (∀ k : Nat, k < nr → Lg1 k = lgF To Ne Cr A Lg i.toNat k) → (A1.2.1 0 = A.2.1 0 + i) → (FoI To Ne Cr F1 A1) → ((n - i).toNat) < n_14 → Zw zp zl ze zR zs zm zargs zbelow zmeth zc D zA 3 zQ gv gw ([(h, .inr (7, [.ref (x 0), .ref (x 1), .ref (x 2), .ref (x 3), .ref (x 4), .ref (x 5)])), ((x 0), .inr (5, [.ref (ato 0), .ref (ato 1), vZ (To.2 2), vZ (To.2 3)])), ((ato 0), .inl (K.1, 10, .inl (ar (To.1 0)))), ((ato 1), .inl (K.1, 10, .inl (ar (To.1 1)))), ((x 1), .inr (4, [.ref (an 0), .ref (an 1), .ref (an 2), .ref (an 3), .ref (an 4), .ref (an 5), .ref (an 6), .ref (an 7), vZ (Ne.2 8)])), ((an 0), .inl (K.1, 16, .inl (ar (Ne.1 0)))), ((an 1), .inl (K.1, 16, .inl (ar (Ne.1 1)))), ((an 2), .inl (K.1, 16, .inl (ar (Ne.1 2)))), ((an 3), .inl (K.1, 16, .inl (ar (Ne.1 3)))), ((an 4), .inl (K.1, 16, .inl (ar (Ne.1 4)))), ((an 5), .inl (K.1, 16, .inl (ar (Ne.1 5)))), ((an 6), .inl (K.1, 100, .inl (ar (Ne.1 6)))), ((an 7), .inl (K.1, 100, .inl (ar (Ne.1 7)))), ((x 2), .inr (0, [.ref (ac 0), .ref (ac 1), .ref (ac 2), vZ (Cr.2 3), vZ (Cr.2 4)])), ((ac 0), .inl (K.1, 8, .inl (ar (Cr.1 0)))), ((ac 1), .inl (K.1, 8, .inl (ar (Cr.1 1)))), ((ac 2), .inl (K.1, 8, .inl (ar (Cr.1 2)))), ((x 3), .inr (6, [.ref (x 0), .ref (x 1), .ref (x 2), .ref (xu 3), .ref (xu 5), .ref (xu 6), .ref (xu 7), .ref (xu 8), .ref (xu 9), .ref (xu 10), .ref (xu 11), vZ (U1.2 12), vZ (U1.2 13), vZ (U1.2 14), vZ (U1.2 15)])), ((xu 5), .inl (K.1, 8, .inl (ar (U1.1 5)))), ((xu 6), .inl (K.1, 8, .inl (ar (U1.1 6)))), ((xu 7), .inl (K.1, 8, .inl (ar (U1.1 7)))), ((xu 8), .inl (K.1, 10, .inl (ar (U1.1 8)))), ((xu 9), .inl (K.1, 10, .inl (ar (U1.1 9)))), ((xu 10), .inl (K.1, 10, .inl (ar (U1.1 10)))), ((xu 11), .inl (K.1, 16, .inl (ar (U1.1 11)))), ((xu 3), .inr (2, [.ref (aqu1 0), .ref (aqu1 1), .ref (aqu1 2), .ref (aqu1 3), .ref (aqu1 4), .ref (aqu1 5), .ref (aqu1 6), vZ (Squ1.2 7), vZ (Squ1.2 8)])), ((aqu1 0), .inl (K.1, 32, .inl (ar (Squ1.1 0)))), ((aqu1 1), .inl (K.1, 32, .inl (ar (Squ1.1 1)))), ((aqu1 2), .inl (K.1, 32, .inl (ar (Squ1.1 2)))), ((aqu1 3), .inl (K.1, Nqu1, .inl (ar (Squ1.1 3)))), ((aqu1 4), .inl (K.1, Nqu1, .inl (ar (Squ1.1 4)))), ((aqu1 5), .inl (K.1, Nqu1, .inl (ar (Squ1.1 5)))), ((aqu1 6), .inl (K.1, Nqu1, .inl (ar (Squ1.1 6)))), ((x 4), .inl (K.2.2, 16, .inr (.inr (.inr (.inr f))))), ((x 5), .inr (1, [.ref (x 3), .ref (xf 1), .ref (xf 2), .ref (xf 3), .ref (xf 4), vZ (F1.2 5), vZ (F1.2 6), vZ (F1.2 7), vZ (F1.2 8), vZ (F1.2 9), vZ (F1.2 10), vZ (F1.2 11)])), ((xf 2), .inl (K.1, 10, .inl (ar (F1.1 2)))), ((xf 3), .inl (K.1, 4, .inl (ar (F1.1 3)))), ((xf 4), .inl (K.1, 4, .inl (ar (F1.1 4))))] ++ lgW K hs ag Lg1 nr) 14 [(0, .ref h), (1, vZ n), (2, vZ i)] [] := by
      intro n_14
      induction n_14 with
      | zero => intro i U1 aqu1 Nqu1 Squ1 F1 Lg1 gv gw Cq1 A1 h0 i1 i2 i3 i4 i5 i6 i7 i8 i9 hm_14; exact absurd hm_14 (Nat.not_lt_zero _)
      | succ n_14 ih_14 =>
        intro i U1 aqu1 Nqu1 Squ1 F1 Lg1 gv gw Cq1 A1 h0 i1 i2 i3 i4 i5 i6 i7 i8 i9 hm_14
        have hG1 := lo_rng i1.1
        have hoc := oc_rng hcf i2.1
        have hoff := ab_off i2
        have ha1 := i2.2.1
        have en1 : U1.2 12 = A1.2.1 0 := i1.2.2.2.2.1.1
        have jn_76 : (i = n ∨ A1.2.1 0 = 200) → Zw zp zl ze zR zs zm zargs zbelow zmeth zc D zA 3 zQ gv gw ([(h, .inr (7, [.ref (x 0), .ref (x 1), .ref (x 2), .ref (x 3), .ref (x 4), .ref (x 5)])), ((x 0), .inr (5, [.ref (ato 0), .ref (ato 1), vZ (To.2 2), vZ (To.2 3)])), ((ato 0), .inl (K.1, 10, .inl (ar (To.1 0)))), ((ato 1), .inl (K.1, 10, .inl (ar (To.1 1)))), ((x 1), .inr (4, [.ref (an 0), .ref (an 1), .ref (an 2), .ref (an 3), .ref (an 4), .ref (an 5), .ref (an 6), .ref (an 7), vZ (Ne.2 8)])), ((an 0), .inl (K.1, 16, .inl (ar (Ne.1 0)))), ((an 1), .inl (K.1, 16, .inl (ar (Ne.1 1)))), ((an 2), .inl (K.1, 16, .inl (ar (Ne.1 2)))), ((an 3), .inl (K.1, 16, .inl (ar (Ne.1 3)))), ((an 4), .inl (K.1, 16, .inl (ar (Ne.1 4)))), ((an 5), .inl (K.1, 16, .inl (ar (Ne.1 5)))), ((an 6), .inl (K.1, 100, .inl (ar (Ne.1 6)))), ((an 7), .inl (K.1, 100, .inl (ar (Ne.1 7)))), ((x 2), .inr (0, [.ref (ac 0), .ref (ac 1), .ref (ac 2), vZ (Cr.2 3), vZ (Cr.2 4)])), ((ac 0), .inl (K.1, 8, .inl (ar (Cr.1 0)))), ((ac 1), .inl (K.1, 8, .inl (ar (Cr.1 1)))), ((ac 2), .inl (K.1, 8, .inl (ar (Cr.1 2)))), ((x 3), .inr (6, [.ref (x 0), .ref (x 1), .ref (x 2), .ref (xu 3), .ref (xu 5), .ref (xu 6), .ref (xu 7), .ref (xu 8), .ref (xu 9), .ref (xu 10), .ref (xu 11), vZ (U1.2 12), vZ (U1.2 13), vZ (U1.2 14), vZ (U1.2 15)])), ((xu 5), .inl (K.1, 8, .inl (ar (U1.1 5)))), ((xu 6), .inl (K.1, 8, .inl (ar (U1.1 6)))), ((xu 7), .inl (K.1, 8, .inl (ar (U1.1 7)))), ((xu 8), .inl (K.1, 10, .inl (ar (U1.1 8)))), ((xu 9), .inl (K.1, 10, .inl (ar (U1.1 9)))), ((xu 10), .inl (K.1, 10, .inl (ar (U1.1 10)))), ((xu 11), .inl (K.1, 16, .inl (ar (U1.1 11)))), ((xu 3), .inr (2, [.ref (aqu1 0), .ref (aqu1 1), .ref (aqu1 2), .ref (aqu1 3), .ref (aqu1 4), .ref (aqu1 5), .ref (aqu1 6), vZ (Squ1.2 7), vZ (Squ1.2 8)])), ((aqu1 0), .inl (K.1, 32, .inl (ar (Squ1.1 0)))), ((aqu1 1), .inl (K.1, 32, .inl (ar (Squ1.1 1)))), ((aqu1 2), .inl (K.1, 32, .inl (ar (Squ1.1 2)))), ((aqu1 3), .inl (K.1, Nqu1, .inl (ar (Squ1.1 3)))), ((aqu1 4), .inl (K.1, Nqu1, .inl (ar (Squ1.1 4)))), ((aqu1 5), .inl (K.1, Nqu1, .inl (ar (Squ1.1 5)))), ((aqu1 6), .inl (K.1, Nqu1, .inl (ar (Squ1.1 6)))), ((x 4), .inl (K.2.2, 16, .inr (.inr (.inr (.inr f))))), ((x 5), .inr (1, [.ref (x 3), .ref (xf 1), .ref (xf 2), .ref (xf 3), .ref (xf 4), vZ (F1.2 5), vZ (F1.2 6), vZ (F1.2 7), vZ (F1.2 8), vZ (F1.2 9), vZ (F1.2 10), vZ (F1.2 11)])), ((xf 2), .inl (K.1, 10, .inl (ar (F1.1 2)))), ((xf 3), .inl (K.1, 4, .inl (ar (F1.1 3)))), ((xf 4), .inl (K.1, 4, .inl (ar (F1.1 4))))] ++ lgW K hs ag Lg1 nr) 76 [(0, .ref h), (1, vZ n), (2, vZ i)] [] := by
          intro hs
          refine z_aload_n ZC 0 dX7_go_76 rfl rfl ?_
          refine z_get ZC inUX7 0 rfl rfl 3 (by decide) uF_X7_35 rfl dX7_go_77 ?_
          refine z_get ZC inUX6 17 rfl rfl 11 (by decide) uF_X7_87 rfl dX7_go_80 ?_
          have ek : goK n (A.2.1 0) = i.toNat := by
            unfold goK
            rw [if_pos (by omega)]
            omega
          refine z_iret ZC ZE dX7_go_83 (by omega) (by omega) (by simp only [List.length_append, List.length_cons, List.length_nil, lgW_len]; omega) ⟨U1, aqu1, Nqu1, Squ1, F1, Lg1, (U1.2 12), Cq1, rfl, rfl, ?_, ?_, ?_, ?_, ?_, ?_, ?_, ?_, ?_⟩
          · skip
            left; exact ⟨by omega, by rw [ek, ← i5]; exact en1⟩
          · skip
            rw [ek, ← i5]; exact i1
          · skip
            rw [ek, ← i5]; exact i4
          · skip
            rw [ek, ← i5]; exact ⟨i2, i3⟩
          · skip
            rw [ek, ← i5]; exact i9
          · skip
            intro k hk; rw [ek]; exact i7 k hk
          · skip
            omega
          · skip
            omega
          · skip
            omega
        refine z_iload_n ZC 2 dX7_go_14 rfl rfl ?_
        refine z_iload_n ZC 1 dX7_go_15 rfl rfl ?_
        refine z_icmp_ge ZC 76 dX7_go_16 (by decide) (by omega) (by omega) (fun c_16 => ?_) (fun c_16 => ?_)
        · skip
          refine z_ws (ws2 := ([(h, .inr (7, [.ref (x 0), .ref (x 1), .ref (x 2), .ref (x 3), .ref (x 4), .ref (x 5)])), ((x 0), .inr (5, [.ref (ato 0), .ref (ato 1), vZ (To.2 2), vZ (To.2 3)])), ((ato 0), .inl (K.1, 10, .inl (ar (To.1 0)))), ((ato 1), .inl (K.1, 10, .inl (ar (To.1 1)))), ((x 1), .inr (4, [.ref (an 0), .ref (an 1), .ref (an 2), .ref (an 3), .ref (an 4), .ref (an 5), .ref (an 6), .ref (an 7), vZ (Ne.2 8)])), ((an 0), .inl (K.1, 16, .inl (ar (Ne.1 0)))), ((an 1), .inl (K.1, 16, .inl (ar (Ne.1 1)))), ((an 2), .inl (K.1, 16, .inl (ar (Ne.1 2)))), ((an 3), .inl (K.1, 16, .inl (ar (Ne.1 3)))), ((an 4), .inl (K.1, 16, .inl (ar (Ne.1 4)))), ((an 5), .inl (K.1, 16, .inl (ar (Ne.1 5)))), ((an 6), .inl (K.1, 100, .inl (ar (Ne.1 6)))), ((an 7), .inl (K.1, 100, .inl (ar (Ne.1 7)))), ((x 2), .inr (0, [.ref (ac 0), .ref (ac 1), .ref (ac 2), vZ (Cr.2 3), vZ (Cr.2 4)])), ((ac 0), .inl (K.1, 8, .inl (ar (Cr.1 0)))), ((ac 1), .inl (K.1, 8, .inl (ar (Cr.1 1)))), ((ac 2), .inl (K.1, 8, .inl (ar (Cr.1 2)))), ((x 3), .inr (6, [.ref (x 0), .ref (x 1), .ref (x 2), .ref (xu 3), .ref (xu 5), .ref (xu 6), .ref (xu 7), .ref (xu 8), .ref (xu 9), .ref (xu 10), .ref (xu 11), vZ (U1.2 12), vZ (U1.2 13), vZ (U1.2 14), vZ (U1.2 15)])), ((xu 5), .inl (K.1, 8, .inl (ar (U1.1 5)))), ((xu 6), .inl (K.1, 8, .inl (ar (U1.1 6)))), ((xu 7), .inl (K.1, 8, .inl (ar (U1.1 7)))), ((xu 8), .inl (K.1, 10, .inl (ar (U1.1 8)))), ((xu 9), .inl (K.1, 10, .inl (ar (U1.1 9)))), ((xu 10), .inl (K.1, 10, .inl (ar (U1.1 10)))), ((xu 11), .inl (K.1, 16, .inl (ar (U1.1 11)))), ((xu 3), .inr (2, [.ref (aqu1 0), .ref (aqu1 1), .ref (aqu1 2), .ref (aqu1 3), .ref (aqu1 4), .ref (aqu1 5), .ref (aqu1 6), vZ (Squ1.2 7), vZ (Squ1.2 8)])), ((aqu1 0), .inl (K.1, 32, .inl (ar (Squ1.1 0)))), ((aqu1 1), .inl (K.1, 32, .inl (ar (Squ1.1 1)))), ((aqu1 2), .inl (K.1, 32, .inl (ar (Squ1.1 2)))), ((aqu1 3), .inl (K.1, Nqu1, .inl (ar (Squ1.1 3)))), ((aqu1 4), .inl (K.1, Nqu1, .inl (ar (Squ1.1 4)))), ((aqu1 5), .inl (K.1, Nqu1, .inl (ar (Squ1.1 5)))), ((aqu1 6), .inl (K.1, Nqu1, .inl (ar (Squ1.1 6)))), ((x 4), .inl (K.2.2, 16, .inr (.inr (.inr (.inr f))))), ((x 5), .inr (1, [.ref (x 3), .ref (xf 1), .ref (xf 2), .ref (xf 3), .ref (xf 4), vZ (F1.2 5), vZ (F1.2 6), vZ (F1.2 7), vZ (F1.2 8), vZ (F1.2 9), vZ (F1.2 10), vZ (F1.2 11)])), ((xf 2), .inl (K.1, 10, .inl (ar (F1.1 2)))), ((xf 3), .inl (K.1, 4, .inl (ar (F1.1 3)))), ((xf 4), .inl (K.1, 4, .inl (ar (F1.1 4))))] ++ lgW K hs ag Lg1 nr)) rfl (z_lv (lv2 := [(0, .ref h), (1, vZ n), (2, vZ i)]) ⟨rfl, rfl, rfl, trivial⟩ ?_)
          refine jn_76  ?_
          · skip
            omega
        · skip
          refine z_aload_n ZC 0 dX7_go_19 rfl rfl ?_
          refine z_get ZC inUX7 0 rfl rfl 3 (by decide) uF_X7_35 rfl dX7_go_20 ?_
          refine z_get ZC inUX6 17 rfl rfl 11 (by decide) uF_X7_87 rfl dX7_go_23 ?_
          refine z_sipush ZC dX7_go_26 (by decide) ?_
          refine z_icmp_ge ZC 76 dX7_go_29 (by decide) (by omega) (by omega) (fun c_29 => ?_) (fun c_29 => ?_)
          · skip
            refine z_ws (ws2 := ([(h, .inr (7, [.ref (x 0), .ref (x 1), .ref (x 2), .ref (x 3), .ref (x 4), .ref (x 5)])), ((x 0), .inr (5, [.ref (ato 0), .ref (ato 1), vZ (To.2 2), vZ (To.2 3)])), ((ato 0), .inl (K.1, 10, .inl (ar (To.1 0)))), ((ato 1), .inl (K.1, 10, .inl (ar (To.1 1)))), ((x 1), .inr (4, [.ref (an 0), .ref (an 1), .ref (an 2), .ref (an 3), .ref (an 4), .ref (an 5), .ref (an 6), .ref (an 7), vZ (Ne.2 8)])), ((an 0), .inl (K.1, 16, .inl (ar (Ne.1 0)))), ((an 1), .inl (K.1, 16, .inl (ar (Ne.1 1)))), ((an 2), .inl (K.1, 16, .inl (ar (Ne.1 2)))), ((an 3), .inl (K.1, 16, .inl (ar (Ne.1 3)))), ((an 4), .inl (K.1, 16, .inl (ar (Ne.1 4)))), ((an 5), .inl (K.1, 16, .inl (ar (Ne.1 5)))), ((an 6), .inl (K.1, 100, .inl (ar (Ne.1 6)))), ((an 7), .inl (K.1, 100, .inl (ar (Ne.1 7)))), ((x 2), .inr (0, [.ref (ac 0), .ref (ac 1), .ref (ac 2), vZ (Cr.2 3), vZ (Cr.2 4)])), ((ac 0), .inl (K.1, 8, .inl (ar (Cr.1 0)))), ((ac 1), .inl (K.1, 8, .inl (ar (Cr.1 1)))), ((ac 2), .inl (K.1, 8, .inl (ar (Cr.1 2)))), ((x 3), .inr (6, [.ref (x 0), .ref (x 1), .ref (x 2), .ref (xu 3), .ref (xu 5), .ref (xu 6), .ref (xu 7), .ref (xu 8), .ref (xu 9), .ref (xu 10), .ref (xu 11), vZ (U1.2 12), vZ (U1.2 13), vZ (U1.2 14), vZ (U1.2 15)])), ((xu 5), .inl (K.1, 8, .inl (ar (U1.1 5)))), ((xu 6), .inl (K.1, 8, .inl (ar (U1.1 6)))), ((xu 7), .inl (K.1, 8, .inl (ar (U1.1 7)))), ((xu 8), .inl (K.1, 10, .inl (ar (U1.1 8)))), ((xu 9), .inl (K.1, 10, .inl (ar (U1.1 9)))), ((xu 10), .inl (K.1, 10, .inl (ar (U1.1 10)))), ((xu 11), .inl (K.1, 16, .inl (ar (U1.1 11)))), ((xu 3), .inr (2, [.ref (aqu1 0), .ref (aqu1 1), .ref (aqu1 2), .ref (aqu1 3), .ref (aqu1 4), .ref (aqu1 5), .ref (aqu1 6), vZ (Squ1.2 7), vZ (Squ1.2 8)])), ((aqu1 0), .inl (K.1, 32, .inl (ar (Squ1.1 0)))), ((aqu1 1), .inl (K.1, 32, .inl (ar (Squ1.1 1)))), ((aqu1 2), .inl (K.1, 32, .inl (ar (Squ1.1 2)))), ((aqu1 3), .inl (K.1, Nqu1, .inl (ar (Squ1.1 3)))), ((aqu1 4), .inl (K.1, Nqu1, .inl (ar (Squ1.1 4)))), ((aqu1 5), .inl (K.1, Nqu1, .inl (ar (Squ1.1 5)))), ((aqu1 6), .inl (K.1, Nqu1, .inl (ar (Squ1.1 6)))), ((x 4), .inl (K.2.2, 16, .inr (.inr (.inr (.inr f))))), ((x 5), .inr (1, [.ref (x 3), .ref (xf 1), .ref (xf 2), .ref (xf 3), .ref (xf 4), vZ (F1.2 5), vZ (F1.2 6), vZ (F1.2 7), vZ (F1.2 8), vZ (F1.2 9), vZ (F1.2 10), vZ (F1.2 11)])), ((xf 2), .inl (K.1, 10, .inl (ar (F1.1 2)))), ((xf 3), .inl (K.1, 4, .inl (ar (F1.1 3)))), ((xf 4), .inl (K.1, 4, .inl (ar (F1.1 4))))] ++ lgW K hs ag Lg1 nr)) rfl (z_lv (lv2 := [(0, .ref h), (1, vZ n), (2, vZ i)]) ⟨rfl, rfl, rfl, trivial⟩ ?_)
            refine jn_76  ?_
            · skip
              omega
          · skip
            refine z_aload_n ZC 0 dX7_go_32 rfl rfl ?_
            refine z_get ZC inUX7 0 rfl rfl 3 (by decide) uF_X7_35 rfl dX7_go_33 ?_
            refine z_callV ZC 0 (c_X6_driveAnHour zl D K (x 3) (upf (upf (upf xu 0 (x 0)) 1 (x 1)) 2 (x 2)) U1 aqu1 Nqu1 Squ1 an Ne ac Cr B ((oc Cr A1 + 16 * A1.2.1 0).toNat) Cq1 A1 (hcf) (i2.1) (i1) (i2.2.1) (by omega) (hoff) (fun c h1 h2 => (i2.2.2.1 c h1 h2).1)) (gdV uM_X7_136 uI_X6_driveAnHour uS_X6_driveAnHour uN_X6 uC_X6_driveAnHour) (by decide +kernel) rfl ⟨by omega, by omega⟩ ⟨by omega, by omega⟩ (Nat.le_of_ble_eq_true rfl) [17, 18, 19, 20, 21, 22, 23, 24, 25, 26, 27, 28, 29, 30, 31, 32, 4, 5, 6, 7, 8, 9, 10, 11, 12, 13, 14, 15, 16] rfl (by decide) rfl rfl rfl rfl dX7_go_36 (fun r w2 gc_36 gs_36 hp => ?_)
            obtain ⟨T2_36, aq2_36, Nq2_36, Sq2_36, Cq2_36, rfl, rfl, hT2_36, hok2_36, hgone_36, hmp2_36, hNq_36, hgc_36, hgs_36⟩ := hp
            refine z_ws (ws2 := ([(h, .inr (7, [.ref (x 0), .ref (x 1), .ref (x 2), .ref (x 3), .ref (x 4), .ref (x 5)])), ((x 0), .inr (5, [.ref (ato 0), .ref (ato 1), vZ (To.2 2), vZ (To.2 3)])), ((ato 0), .inl (K.1, 10, .inl (ar (To.1 0)))), ((ato 1), .inl (K.1, 10, .inl (ar (To.1 1)))), ((x 1), .inr (4, [.ref (an 0), .ref (an 1), .ref (an 2), .ref (an 3), .ref (an 4), .ref (an 5), .ref (an 6), .ref (an 7), vZ (Ne.2 8)])), ((an 0), .inl (K.1, 16, .inl (ar (Ne.1 0)))), ((an 1), .inl (K.1, 16, .inl (ar (Ne.1 1)))), ((an 2), .inl (K.1, 16, .inl (ar (Ne.1 2)))), ((an 3), .inl (K.1, 16, .inl (ar (Ne.1 3)))), ((an 4), .inl (K.1, 16, .inl (ar (Ne.1 4)))), ((an 5), .inl (K.1, 16, .inl (ar (Ne.1 5)))), ((an 6), .inl (K.1, 100, .inl (ar (Ne.1 6)))), ((an 7), .inl (K.1, 100, .inl (ar (Ne.1 7)))), ((x 2), .inr (0, [.ref (ac 0), .ref (ac 1), .ref (ac 2), vZ (Cr.2 3), vZ (Cr.2 4)])), ((ac 0), .inl (K.1, 8, .inl (ar (Cr.1 0)))), ((ac 1), .inl (K.1, 8, .inl (ar (Cr.1 1)))), ((ac 2), .inl (K.1, 8, .inl (ar (Cr.1 2)))), ((x 3), .inr (6, [.ref (x 0), .ref (x 1), .ref (x 2), .ref (xu 3), .ref (xu 5), .ref (xu 6), .ref (xu 7), .ref (xu 8), .ref (xu 9), .ref (xu 10), .ref (xu 11), vZ (T2_36.2 12), vZ (T2_36.2 13), vZ (T2_36.2 14), vZ (T2_36.2 15)])), ((xu 5), .inl (K.1, 8, .inl (ar (T2_36.1 5)))), ((xu 6), .inl (K.1, 8, .inl (ar (T2_36.1 6)))), ((xu 7), .inl (K.1, 8, .inl (ar (T2_36.1 7)))), ((xu 8), .inl (K.1, 10, .inl (ar (T2_36.1 8)))), ((xu 9), .inl (K.1, 10, .inl (ar (T2_36.1 9)))), ((xu 10), .inl (K.1, 10, .inl (ar (T2_36.1 10)))), ((xu 11), .inl (K.1, 16, .inl (ar (T2_36.1 11)))), ((xu 3), .inr (2, [.ref (aq2_36 0), .ref (aq2_36 1), .ref (aq2_36 2), .ref (aq2_36 3), .ref (aq2_36 4), .ref (aq2_36 5), .ref (aq2_36 6), vZ (Sq2_36.2 7), vZ (Sq2_36.2 8)])), ((aq2_36 0), .inl (K.1, 32, .inl (ar (Sq2_36.1 0)))), ((aq2_36 1), .inl (K.1, 32, .inl (ar (Sq2_36.1 1)))), ((aq2_36 2), .inl (K.1, 32, .inl (ar (Sq2_36.1 2)))), ((aq2_36 3), .inl (K.1, Nq2_36, .inl (ar (Sq2_36.1 3)))), ((aq2_36 4), .inl (K.1, Nq2_36, .inl (ar (Sq2_36.1 4)))), ((aq2_36 5), .inl (K.1, Nq2_36, .inl (ar (Sq2_36.1 5)))), ((aq2_36 6), .inl (K.1, Nq2_36, .inl (ar (Sq2_36.1 6)))), ((x 4), .inl (K.2.2, 16, .inr (.inr (.inr (.inr f))))), ((x 5), .inr (1, [.ref (x 3), .ref (xf 1), .ref (xf 2), .ref (xf 3), .ref (xf 4), vZ (F1.2 5), vZ (F1.2 6), vZ (F1.2 7), vZ (F1.2 8), vZ (F1.2 9), vZ (F1.2 10), vZ (F1.2 11)])), ((xf 2), .inl (K.1, 10, .inl (ar (F1.1 2)))), ((xf 3), .inl (K.1, 4, .inl (ar (F1.1 3)))), ((xf 4), .inl (K.1, 4, .inl (ar (F1.1 4))))] ++ lgW K hs ag Lg1 nr)) ((rep_pre (is := [17, 18, 19, 20, 21, 22, 23, 24, 25, 26, 27, 28, 29, 30, 31, 32, 4, 5, 6, 7, 8, 9, 10, 11, 12, 13, 14, 15, 16]) (pre := [(h, .inr (7, [.ref (x 0), .ref (x 1), .ref (x 2), .ref (x 3), .ref (x 4), .ref (x 5)])), ((x 0), .inr (5, [.ref (ato 0), .ref (ato 1), vZ (To.2 2), vZ (To.2 3)])), ((ato 0), .inl (K.1, 10, .inl (ar (To.1 0)))), ((ato 1), .inl (K.1, 10, .inl (ar (To.1 1)))), ((x 1), .inr (4, [.ref (an 0), .ref (an 1), .ref (an 2), .ref (an 3), .ref (an 4), .ref (an 5), .ref (an 6), .ref (an 7), vZ (Ne.2 8)])), ((an 0), .inl (K.1, 16, .inl (ar (Ne.1 0)))), ((an 1), .inl (K.1, 16, .inl (ar (Ne.1 1)))), ((an 2), .inl (K.1, 16, .inl (ar (Ne.1 2)))), ((an 3), .inl (K.1, 16, .inl (ar (Ne.1 3)))), ((an 4), .inl (K.1, 16, .inl (ar (Ne.1 4)))), ((an 5), .inl (K.1, 16, .inl (ar (Ne.1 5)))), ((an 6), .inl (K.1, 100, .inl (ar (Ne.1 6)))), ((an 7), .inl (K.1, 100, .inl (ar (Ne.1 7)))), ((x 2), .inr (0, [.ref (ac 0), .ref (ac 1), .ref (ac 2), vZ (Cr.2 3), vZ (Cr.2 4)])), ((ac 0), .inl (K.1, 8, .inl (ar (Cr.1 0)))), ((ac 1), .inl (K.1, 8, .inl (ar (Cr.1 1)))), ((ac 2), .inl (K.1, 8, .inl (ar (Cr.1 2)))), ((x 3), .inr (6, [.ref (x 0), .ref (x 1), .ref (x 2), .ref (xu 3), .ref (xu 5), .ref (xu 6), .ref (xu 7), .ref (xu 8), .ref (xu 9), .ref (xu 10), .ref (xu 11), vZ (U1.2 12), vZ (U1.2 13), vZ (U1.2 14), vZ (U1.2 15)])), ((xu 5), .inl (K.1, 8, .inl (ar (U1.1 5)))), ((xu 6), .inl (K.1, 8, .inl (ar (U1.1 6)))), ((xu 7), .inl (K.1, 8, .inl (ar (U1.1 7)))), ((xu 8), .inl (K.1, 10, .inl (ar (U1.1 8)))), ((xu 9), .inl (K.1, 10, .inl (ar (U1.1 9)))), ((xu 10), .inl (K.1, 10, .inl (ar (U1.1 10)))), ((xu 11), .inl (K.1, 16, .inl (ar (U1.1 11)))), ((xu 3), .inr (2, [.ref (aqu1 0), .ref (aqu1 1), .ref (aqu1 2), .ref (aqu1 3), .ref (aqu1 4), .ref (aqu1 5), .ref (aqu1 6), vZ (Squ1.2 7), vZ (Squ1.2 8)])), ((aqu1 0), .inl (K.1, 32, .inl (ar (Squ1.1 0)))), ((aqu1 1), .inl (K.1, 32, .inl (ar (Squ1.1 1)))), ((aqu1 2), .inl (K.1, 32, .inl (ar (Squ1.1 2)))), ((aqu1 3), .inl (K.1, Nqu1, .inl (ar (Squ1.1 3)))), ((aqu1 4), .inl (K.1, Nqu1, .inl (ar (Squ1.1 4)))), ((aqu1 5), .inl (K.1, Nqu1, .inl (ar (Squ1.1 5)))), ((aqu1 6), .inl (K.1, Nqu1, .inl (ar (Squ1.1 6)))), ((x 4), .inl (K.2.2, 16, .inr (.inr (.inr (.inr f))))), ((x 5), .inr (1, [.ref (x 3), .ref (xf 1), .ref (xf 2), .ref (xf 3), .ref (xf 4), vZ (F1.2 5), vZ (F1.2 6), vZ (F1.2 7), vZ (F1.2 8), vZ (F1.2 9), vZ (F1.2 10), vZ (F1.2 11)])), ((xf 2), .inl (K.1, 10, .inl (ar (F1.1 2)))), ((xf 3), .inl (K.1, 4, .inl (ar (F1.1 3)))), ((xf 4), .inl (K.1, 4, .inl (ar (F1.1 4))))]) (w1 := ((wTr K (x 3) (upf (upf (upf xu 0 (x 0)) 1 (x 1)) 2 (x 2)) U1) ++ (wLn K (xu 3) aqu1 Nqu1 Squ1) ++ (wNe K (x 1) an Ne) ++ (wCr K (x 2) ac Cr))) rfl (Nat.le_of_ble_eq_true rfl)).trans rfl) ?_
            refine z_st (st2 := []) rfl ?_
            have en2 : T2_36.2 12 = A1.2.1 0 := by rw [hT2_36.2.2.2.2.1.1]; exact (aDrive_keep Ne Cr A1).1
            refine z_aload_n ZC 0 dX7_go_39 rfl rfl ?_
            have hbm_40 : ([0, 4, 5, 6, 7, 8, 9, 10, 11, 12, 17, 18, 19, 20, 21, 22, 23, 24, 33] : List Nat).map (fun k => ([(h, .inr (7, [.ref (x 0), .ref (x 1), .ref (x 2), .ref (x 3), .ref (x 4), .ref (x 5)])), ((x 0), .inr (5, [.ref (ato 0), .ref (ato 1), vZ (To.2 2), vZ (To.2 3)])), ((ato 0), .inl (K.1, 10, .inl (ar (To.1 0)))), ((ato 1), .inl (K.1, 10, .inl (ar (To.1 1)))), ((x 1), .inr (4, [.ref (an 0), .ref (an 1), .ref (an 2), .ref (an 3), .ref (an 4), .ref (an 5), .ref (an 6), .ref (an 7), vZ (Ne.2 8)])), ((an 0), .inl (K.1, 16, .inl (ar (Ne.1 0)))), ((an 1), .inl (K.1, 16, .inl (ar (Ne.1 1)))), ((an 2), .inl (K.1, 16, .inl (ar (Ne.1 2)))), ((an 3), .inl (K.1, 16, .inl (ar (Ne.1 3)))), ((an 4), .inl (K.1, 16, .inl (ar (Ne.1 4)))), ((an 5), .inl (K.1, 16, .inl (ar (Ne.1 5)))), ((an 6), .inl (K.1, 100, .inl (ar (Ne.1 6)))), ((an 7), .inl (K.1, 100, .inl (ar (Ne.1 7)))), ((x 2), .inr (0, [.ref (ac 0), .ref (ac 1), .ref (ac 2), vZ (Cr.2 3), vZ (Cr.2 4)])), ((ac 0), .inl (K.1, 8, .inl (ar (Cr.1 0)))), ((ac 1), .inl (K.1, 8, .inl (ar (Cr.1 1)))), ((ac 2), .inl (K.1, 8, .inl (ar (Cr.1 2)))), ((x 3), .inr (6, [.ref (x 0), .ref (x 1), .ref (x 2), .ref (xu 3), .ref (xu 5), .ref (xu 6), .ref (xu 7), .ref (xu 8), .ref (xu 9), .ref (xu 10), .ref (xu 11), vZ (T2_36.2 12), vZ (T2_36.2 13), vZ (T2_36.2 14), vZ (T2_36.2 15)])), ((xu 5), .inl (K.1, 8, .inl (ar (T2_36.1 5)))), ((xu 6), .inl (K.1, 8, .inl (ar (T2_36.1 6)))), ((xu 7), .inl (K.1, 8, .inl (ar (T2_36.1 7)))), ((xu 8), .inl (K.1, 10, .inl (ar (T2_36.1 8)))), ((xu 9), .inl (K.1, 10, .inl (ar (T2_36.1 9)))), ((xu 10), .inl (K.1, 10, .inl (ar (T2_36.1 10)))), ((xu 11), .inl (K.1, 16, .inl (ar (T2_36.1 11)))), ((xu 3), .inr (2, [.ref (aq2_36 0), .ref (aq2_36 1), .ref (aq2_36 2), .ref (aq2_36 3), .ref (aq2_36 4), .ref (aq2_36 5), .ref (aq2_36 6), vZ (Sq2_36.2 7), vZ (Sq2_36.2 8)])), ((aq2_36 0), .inl (K.1, 32, .inl (ar (Sq2_36.1 0)))), ((aq2_36 1), .inl (K.1, 32, .inl (ar (Sq2_36.1 1)))), ((aq2_36 2), .inl (K.1, 32, .inl (ar (Sq2_36.1 2)))), ((aq2_36 3), .inl (K.1, Nq2_36, .inl (ar (Sq2_36.1 3)))), ((aq2_36 4), .inl (K.1, Nq2_36, .inl (ar (Sq2_36.1 4)))), ((aq2_36 5), .inl (K.1, Nq2_36, .inl (ar (Sq2_36.1 5)))), ((aq2_36 6), .inl (K.1, Nq2_36, .inl (ar (Sq2_36.1 6)))), ((x 4), .inl (K.2.2, 16, .inr (.inr (.inr (.inr f))))), ((x 5), .inr (1, [.ref (x 3), .ref (xf 1), .ref (xf 2), .ref (xf 3), .ref (xf 4), vZ (F1.2 5), vZ (F1.2 6), vZ (F1.2 7), vZ (F1.2 8), vZ (F1.2 9), vZ (F1.2 10), vZ (F1.2 11)])), ((xf 2), .inl (K.1, 10, .inl (ar (F1.1 2)))), ((xf 3), .inl (K.1, 4, .inl (ar (F1.1 3)))), ((xf 4), .inl (K.1, 4, .inl (ar (F1.1 4))))] : va_W)[k]?) = (((wSh h x) ++ (wNe K (x 1) an Ne) ++ (wTr K (x 3) (upf (upf (upf xu 0 (x 0)) 1 (x 1)) 2 (x 2)) T2_36) ++ (wLA K (x 4) f)) : va_W).map some := rfl
            refine z_callV ZC 0 (c_X7_logTheHour zl D K h x an Ne xu T2_36 f hs ag Lg1 nr (hne) (hnr) (hf) (by omega) (fun r z1 z2 => (hcf.2.2.1 r z1 z2).2.2.2.2)) (gdV uM_X7_139 uI_X7_logTheHour uS_X7_logTheHour uN_X7 uC_X7_logTheHour) (by decide +kernel) rfl ⟨by omega, by omega⟩ ⟨by omega, by omega⟩ (Nat.le_of_ble_eq_true rfl) ([0, 4, 5, 6, 7, 8, 9, 10, 11, 12, 17, 18, 19, 20, 21, 22, 23, 24, 33] ++ List.range' 38 (4 * nr)) (blk_map hbm_40 rfl (lgW_len _ _ _ _ _).symm) (blk_nd hbm_40 (by decide) rfl) rfl rfl rfl rfl dX7_go_40 (fun r w2 gc_40 gs_40 hp => ?_)
            obtain ⟨Lg2_40, rfl, rfl, rfl, rfl, hL2_40⟩ := hp
            refine z_ws (ws2 := ([(h, .inr (7, [.ref (x 0), .ref (x 1), .ref (x 2), .ref (x 3), .ref (x 4), .ref (x 5)])), ((x 0), .inr (5, [.ref (ato 0), .ref (ato 1), vZ (To.2 2), vZ (To.2 3)])), ((ato 0), .inl (K.1, 10, .inl (ar (To.1 0)))), ((ato 1), .inl (K.1, 10, .inl (ar (To.1 1)))), ((x 1), .inr (4, [.ref (an 0), .ref (an 1), .ref (an 2), .ref (an 3), .ref (an 4), .ref (an 5), .ref (an 6), .ref (an 7), vZ (Ne.2 8)])), ((an 0), .inl (K.1, 16, .inl (ar (Ne.1 0)))), ((an 1), .inl (K.1, 16, .inl (ar (Ne.1 1)))), ((an 2), .inl (K.1, 16, .inl (ar (Ne.1 2)))), ((an 3), .inl (K.1, 16, .inl (ar (Ne.1 3)))), ((an 4), .inl (K.1, 16, .inl (ar (Ne.1 4)))), ((an 5), .inl (K.1, 16, .inl (ar (Ne.1 5)))), ((an 6), .inl (K.1, 100, .inl (ar (Ne.1 6)))), ((an 7), .inl (K.1, 100, .inl (ar (Ne.1 7)))), ((x 2), .inr (0, [.ref (ac 0), .ref (ac 1), .ref (ac 2), vZ (Cr.2 3), vZ (Cr.2 4)])), ((ac 0), .inl (K.1, 8, .inl (ar (Cr.1 0)))), ((ac 1), .inl (K.1, 8, .inl (ar (Cr.1 1)))), ((ac 2), .inl (K.1, 8, .inl (ar (Cr.1 2)))), ((x 3), .inr (6, [.ref (x 0), .ref (x 1), .ref (x 2), .ref (xu 3), .ref (xu 5), .ref (xu 6), .ref (xu 7), .ref (xu 8), .ref (xu 9), .ref (xu 10), .ref (xu 11), vZ (T2_36.2 12), vZ (T2_36.2 13), vZ (T2_36.2 14), vZ (T2_36.2 15)])), ((xu 5), .inl (K.1, 8, .inl (ar (T2_36.1 5)))), ((xu 6), .inl (K.1, 8, .inl (ar (T2_36.1 6)))), ((xu 7), .inl (K.1, 8, .inl (ar (T2_36.1 7)))), ((xu 8), .inl (K.1, 10, .inl (ar (T2_36.1 8)))), ((xu 9), .inl (K.1, 10, .inl (ar (T2_36.1 9)))), ((xu 10), .inl (K.1, 10, .inl (ar (T2_36.1 10)))), ((xu 11), .inl (K.1, 16, .inl (ar (T2_36.1 11)))), ((xu 3), .inr (2, [.ref (aq2_36 0), .ref (aq2_36 1), .ref (aq2_36 2), .ref (aq2_36 3), .ref (aq2_36 4), .ref (aq2_36 5), .ref (aq2_36 6), vZ (Sq2_36.2 7), vZ (Sq2_36.2 8)])), ((aq2_36 0), .inl (K.1, 32, .inl (ar (Sq2_36.1 0)))), ((aq2_36 1), .inl (K.1, 32, .inl (ar (Sq2_36.1 1)))), ((aq2_36 2), .inl (K.1, 32, .inl (ar (Sq2_36.1 2)))), ((aq2_36 3), .inl (K.1, Nq2_36, .inl (ar (Sq2_36.1 3)))), ((aq2_36 4), .inl (K.1, Nq2_36, .inl (ar (Sq2_36.1 4)))), ((aq2_36 5), .inl (K.1, Nq2_36, .inl (ar (Sq2_36.1 5)))), ((aq2_36 6), .inl (K.1, Nq2_36, .inl (ar (Sq2_36.1 6)))), ((x 4), .inl (K.2.2, 16, .inr (.inr (.inr (.inr f))))), ((x 5), .inr (1, [.ref (x 3), .ref (xf 1), .ref (xf 2), .ref (xf 3), .ref (xf 4), vZ (F1.2 5), vZ (F1.2 6), vZ (F1.2 7), vZ (F1.2 8), vZ (F1.2 9), vZ (F1.2 10), vZ (F1.2 11)])), ((xf 2), .inl (K.1, 10, .inl (ar (F1.1 2)))), ((xf 3), .inl (K.1, 4, .inl (ar (F1.1 3)))), ((xf 4), .inl (K.1, 4, .inl (ar (F1.1 4))))] ++ lgW K hs ag Lg2_40 nr)) ((blk_rep (w2 := ((wSh h x) ++ (wNe K (x 1) an Ne) ++ (wTr K (x 3) (upf (upf (upf xu 0 (x 0)) 1 (x 1)) 2 (x 2)) T2_36) ++ (wLA K (x 4) f))) hbm_40 rfl (by rw [lgW_len, lgW_len]) rfl (lgW_len _ _ _ _ _).symm).trans rfl) ?_
            refine z_st (st2 := []) rfl ?_
            have hrr : ∀ t : Int, 0 ≤ t → t < 10 → (0 ≤ T2_36.1 8 t ∧ T2_36.1 8 t ≤ 1000000) ∧ (0 ≤ T2_36.1 9 t ∧ T2_36.1 9 t ≤ 1000000) := by
              intro t z1 z2
              have g := hT2_36.2.2.2.1 t z1 z2
              have r1 := aAt_rng hcf hok2_36 t
              have r2 := i2.2.2.2.1 t z1 z2
              rw [g.1, g.2.1, (aDrive_keep Ne Cr A1).2.2.1]
              omega
            refine z_aload_n ZC 0 dX7_go_43 rfl rfl ?_
            refine z_get ZC inUX7 0 rfl rfl 3 (by decide) uF_X7_35 rfl dX7_go_44 ?_
            refine z_callV ZC 0 (c_X6_drinkAnHour zl D K (x 3) (upf (upf (upf xu 0 (x 0)) 1 (x 1)) 2 (x 2)) T2_36 ato To (hto) (hrr)) (gdV uM_X7_142 uI_X6_drinkAnHour uS_X6_drinkAnHour uN_X6 uC_X6_drinkAnHour) (by decide +kernel) rfl ⟨by omega, by omega⟩ ⟨by omega, by omega⟩ (Nat.le_of_ble_eq_true rfl) [17, 18, 19, 20, 21, 22, 23, 24, 1, 2, 3] rfl (by decide) rfl rfl rfl rfl dX7_go_47 (fun r w2 gc_47 gs_47 hp => ?_)
            obtain ⟨Wt_47, Lk_47, rfl, rfl, rfl, rfl, hw_47⟩ := hp
            refine z_ws (ws2 := ([(h, .inr (7, [.ref (x 0), .ref (x 1), .ref (x 2), .ref (x 3), .ref (x 4), .ref (x 5)])), ((x 0), .inr (5, [.ref (ato 0), .ref (ato 1), vZ (To.2 2), vZ (To.2 3)])), ((ato 0), .inl (K.1, 10, .inl (ar (To.1 0)))), ((ato 1), .inl (K.1, 10, .inl (ar (To.1 1)))), ((x 1), .inr (4, [.ref (an 0), .ref (an 1), .ref (an 2), .ref (an 3), .ref (an 4), .ref (an 5), .ref (an 6), .ref (an 7), vZ (Ne.2 8)])), ((an 0), .inl (K.1, 16, .inl (ar (Ne.1 0)))), ((an 1), .inl (K.1, 16, .inl (ar (Ne.1 1)))), ((an 2), .inl (K.1, 16, .inl (ar (Ne.1 2)))), ((an 3), .inl (K.1, 16, .inl (ar (Ne.1 3)))), ((an 4), .inl (K.1, 16, .inl (ar (Ne.1 4)))), ((an 5), .inl (K.1, 16, .inl (ar (Ne.1 5)))), ((an 6), .inl (K.1, 100, .inl (ar (Ne.1 6)))), ((an 7), .inl (K.1, 100, .inl (ar (Ne.1 7)))), ((x 2), .inr (0, [.ref (ac 0), .ref (ac 1), .ref (ac 2), vZ (Cr.2 3), vZ (Cr.2 4)])), ((ac 0), .inl (K.1, 8, .inl (ar (Cr.1 0)))), ((ac 1), .inl (K.1, 8, .inl (ar (Cr.1 1)))), ((ac 2), .inl (K.1, 8, .inl (ar (Cr.1 2)))), ((x 3), .inr (6, [.ref (x 0), .ref (x 1), .ref (x 2), .ref (xu 3), .ref (xu 5), .ref (xu 6), .ref (xu 7), .ref (xu 8), .ref (xu 9), .ref (xu 10), .ref (xu 11), vZ (T2_36.2 12), vZ (T2_36.2 13), vZ (T2_36.2 14), vZ (T2_36.2 15)])), ((xu 5), .inl (K.1, 8, .inl (ar (T2_36.1 5)))), ((xu 6), .inl (K.1, 8, .inl (ar (T2_36.1 6)))), ((xu 7), .inl (K.1, 8, .inl (ar (T2_36.1 7)))), ((xu 8), .inl (K.1, 10, .inl (ar (T2_36.1 8)))), ((xu 9), .inl (K.1, 10, .inl (ar Wt_47))), ((xu 10), .inl (K.1, 10, .inl (ar Lk_47))), ((xu 11), .inl (K.1, 16, .inl (ar (T2_36.1 11)))), ((xu 3), .inr (2, [.ref (aq2_36 0), .ref (aq2_36 1), .ref (aq2_36 2), .ref (aq2_36 3), .ref (aq2_36 4), .ref (aq2_36 5), .ref (aq2_36 6), vZ (Sq2_36.2 7), vZ (Sq2_36.2 8)])), ((aq2_36 0), .inl (K.1, 32, .inl (ar (Sq2_36.1 0)))), ((aq2_36 1), .inl (K.1, 32, .inl (ar (Sq2_36.1 1)))), ((aq2_36 2), .inl (K.1, 32, .inl (ar (Sq2_36.1 2)))), ((aq2_36 3), .inl (K.1, Nq2_36, .inl (ar (Sq2_36.1 3)))), ((aq2_36 4), .inl (K.1, Nq2_36, .inl (ar (Sq2_36.1 4)))), ((aq2_36 5), .inl (K.1, Nq2_36, .inl (ar (Sq2_36.1 5)))), ((aq2_36 6), .inl (K.1, Nq2_36, .inl (ar (Sq2_36.1 6)))), ((x 4), .inl (K.2.2, 16, .inr (.inr (.inr (.inr f))))), ((x 5), .inr (1, [.ref (x 3), .ref (xf 1), .ref (xf 2), .ref (xf 3), .ref (xf 4), vZ (F1.2 5), vZ (F1.2 6), vZ (F1.2 7), vZ (F1.2 8), vZ (F1.2 9), vZ (F1.2 10), vZ (F1.2 11)])), ((xf 2), .inl (K.1, 10, .inl (ar (F1.1 2)))), ((xf 3), .inl (K.1, 4, .inl (ar (F1.1 3)))), ((xf 4), .inl (K.1, 4, .inl (ar (F1.1 4))))] ++ lgW K hs ag Lg2_40 nr)) ((rep_pre (is := [17, 18, 19, 20, 21, 22, 23, 24, 1, 2, 3]) (pre := [(h, .inr (7, [.ref (x 0), .ref (x 1), .ref (x 2), .ref (x 3), .ref (x 4), .ref (x 5)])), ((x 0), .inr (5, [.ref (ato 0), .ref (ato 1), vZ (To.2 2), vZ (To.2 3)])), ((ato 0), .inl (K.1, 10, .inl (ar (To.1 0)))), ((ato 1), .inl (K.1, 10, .inl (ar (To.1 1)))), ((x 1), .inr (4, [.ref (an 0), .ref (an 1), .ref (an 2), .ref (an 3), .ref (an 4), .ref (an 5), .ref (an 6), .ref (an 7), vZ (Ne.2 8)])), ((an 0), .inl (K.1, 16, .inl (ar (Ne.1 0)))), ((an 1), .inl (K.1, 16, .inl (ar (Ne.1 1)))), ((an 2), .inl (K.1, 16, .inl (ar (Ne.1 2)))), ((an 3), .inl (K.1, 16, .inl (ar (Ne.1 3)))), ((an 4), .inl (K.1, 16, .inl (ar (Ne.1 4)))), ((an 5), .inl (K.1, 16, .inl (ar (Ne.1 5)))), ((an 6), .inl (K.1, 100, .inl (ar (Ne.1 6)))), ((an 7), .inl (K.1, 100, .inl (ar (Ne.1 7)))), ((x 2), .inr (0, [.ref (ac 0), .ref (ac 1), .ref (ac 2), vZ (Cr.2 3), vZ (Cr.2 4)])), ((ac 0), .inl (K.1, 8, .inl (ar (Cr.1 0)))), ((ac 1), .inl (K.1, 8, .inl (ar (Cr.1 1)))), ((ac 2), .inl (K.1, 8, .inl (ar (Cr.1 2)))), ((x 3), .inr (6, [.ref (x 0), .ref (x 1), .ref (x 2), .ref (xu 3), .ref (xu 5), .ref (xu 6), .ref (xu 7), .ref (xu 8), .ref (xu 9), .ref (xu 10), .ref (xu 11), vZ (T2_36.2 12), vZ (T2_36.2 13), vZ (T2_36.2 14), vZ (T2_36.2 15)])), ((xu 5), .inl (K.1, 8, .inl (ar (T2_36.1 5)))), ((xu 6), .inl (K.1, 8, .inl (ar (T2_36.1 6)))), ((xu 7), .inl (K.1, 8, .inl (ar (T2_36.1 7)))), ((xu 8), .inl (K.1, 10, .inl (ar (T2_36.1 8)))), ((xu 9), .inl (K.1, 10, .inl (ar (T2_36.1 9)))), ((xu 10), .inl (K.1, 10, .inl (ar (T2_36.1 10)))), ((xu 11), .inl (K.1, 16, .inl (ar (T2_36.1 11)))), ((xu 3), .inr (2, [.ref (aq2_36 0), .ref (aq2_36 1), .ref (aq2_36 2), .ref (aq2_36 3), .ref (aq2_36 4), .ref (aq2_36 5), .ref (aq2_36 6), vZ (Sq2_36.2 7), vZ (Sq2_36.2 8)])), ((aq2_36 0), .inl (K.1, 32, .inl (ar (Sq2_36.1 0)))), ((aq2_36 1), .inl (K.1, 32, .inl (ar (Sq2_36.1 1)))), ((aq2_36 2), .inl (K.1, 32, .inl (ar (Sq2_36.1 2)))), ((aq2_36 3), .inl (K.1, Nq2_36, .inl (ar (Sq2_36.1 3)))), ((aq2_36 4), .inl (K.1, Nq2_36, .inl (ar (Sq2_36.1 4)))), ((aq2_36 5), .inl (K.1, Nq2_36, .inl (ar (Sq2_36.1 5)))), ((aq2_36 6), .inl (K.1, Nq2_36, .inl (ar (Sq2_36.1 6)))), ((x 4), .inl (K.2.2, 16, .inr (.inr (.inr (.inr f))))), ((x 5), .inr (1, [.ref (x 3), .ref (xf 1), .ref (xf 2), .ref (xf 3), .ref (xf 4), vZ (F1.2 5), vZ (F1.2 6), vZ (F1.2 7), vZ (F1.2 8), vZ (F1.2 9), vZ (F1.2 10), vZ (F1.2 11)])), ((xf 2), .inl (K.1, 10, .inl (ar (F1.1 2)))), ((xf 3), .inl (K.1, 4, .inl (ar (F1.1 3)))), ((xf 4), .inl (K.1, 4, .inl (ar (F1.1 4))))]) (w1 := ((wTr K (x 3) (upf (upf (upf xu 0 (x 0)) 1 (x 1)) 2 (x 2)) T2_36) ++ (wTo K (x 0) ato To))) rfl (Nat.le_of_ble_eq_true rfl)).trans rfl) ?_
            refine z_st (st2 := []) rfl ?_
            refine z_aload_n ZC 0 dX7_go_50 rfl rfl ?_
            refine z_get ZC inUX7 0 rfl rfl 3 (by decide) uF_X7_35 rfl dX7_go_51 ?_
            refine z_dup ZC dX7_go_54 rfl ?_
            refine z_get ZC inUX6 17 rfl rfl 11 (by decide) uF_X7_87 rfl dX7_go_55 ?_
            refine z_iconst ZC dX7_go_58 ?_
            refine z_iadd ZC dX7_go_59 ?_
            refine z_put ZC inUX6 tyX6_ok nmX6 17 rfl rfl 11 (by decide) uF_X7_87 rfl (rfl) (rfl) (Nat.le_of_ble_eq_true rfl) dX7_go_60 ?_
            refine z_aload_n ZC 0 dX7_go_63 rfl rfl ?_
            refine z_get ZC inUX7 0 rfl rfl 5 (by decide) uF_X7_50 rfl dX7_go_64 ?_
            refine z_ws (ws2 := ([(h, .inr (7, [.ref (x 0), .ref (x 1), .ref (x 2), .ref (x 3), .ref (x 4), .ref (x 5)])), ((x 0), .inr (5, [.ref (ato 0), .ref (ato 1), vZ (To.2 2), vZ (To.2 3)])), ((ato 0), .inl (K.1, 10, .inl (ar (To.1 0)))), ((ato 1), .inl (K.1, 10, .inl (ar (To.1 1)))), ((x 1), .inr (4, [.ref (an 0), .ref (an 1), .ref (an 2), .ref (an 3), .ref (an 4), .ref (an 5), .ref (an 6), .ref (an 7), vZ (Ne.2 8)])), ((an 0), .inl (K.1, 16, .inl (ar (Ne.1 0)))), ((an 1), .inl (K.1, 16, .inl (ar (Ne.1 1)))), ((an 2), .inl (K.1, 16, .inl (ar (Ne.1 2)))), ((an 3), .inl (K.1, 16, .inl (ar (Ne.1 3)))), ((an 4), .inl (K.1, 16, .inl (ar (Ne.1 4)))), ((an 5), .inl (K.1, 16, .inl (ar (Ne.1 5)))), ((an 6), .inl (K.1, 100, .inl (ar (Ne.1 6)))), ((an 7), .inl (K.1, 100, .inl (ar (Ne.1 7)))), ((x 2), .inr (0, [.ref (ac 0), .ref (ac 1), .ref (ac 2), vZ (Cr.2 3), vZ (Cr.2 4)])), ((ac 0), .inl (K.1, 8, .inl (ar (Cr.1 0)))), ((ac 1), .inl (K.1, 8, .inl (ar (Cr.1 1)))), ((ac 2), .inl (K.1, 8, .inl (ar (Cr.1 2)))), ((x 3), .inr (6, [.ref (x 0), .ref (x 1), .ref (x 2), .ref (xu 3), .ref (xu 5), .ref (xu 6), .ref (xu 7), .ref (xu 8), .ref (xu 9), .ref (xu 10), .ref (xu 11), vZ ((T2_36.2 12) + 1), vZ (T2_36.2 13), vZ (T2_36.2 14), vZ (T2_36.2 15)])), ((xu 5), .inl (K.1, 8, .inl (ar (T2_36.1 5)))), ((xu 6), .inl (K.1, 8, .inl (ar (T2_36.1 6)))), ((xu 7), .inl (K.1, 8, .inl (ar (T2_36.1 7)))), ((xu 8), .inl (K.1, 10, .inl (ar (T2_36.1 8)))), ((xu 9), .inl (K.1, 10, .inl (ar Wt_47))), ((xu 10), .inl (K.1, 10, .inl (ar Lk_47))), ((xu 11), .inl (K.1, 16, .inl (ar (T2_36.1 11)))), ((xu 3), .inr (2, [.ref (aq2_36 0), .ref (aq2_36 1), .ref (aq2_36 2), .ref (aq2_36 3), .ref (aq2_36 4), .ref (aq2_36 5), .ref (aq2_36 6), vZ (Sq2_36.2 7), vZ (Sq2_36.2 8)])), ((aq2_36 0), .inl (K.1, 32, .inl (ar (Sq2_36.1 0)))), ((aq2_36 1), .inl (K.1, 32, .inl (ar (Sq2_36.1 1)))), ((aq2_36 2), .inl (K.1, 32, .inl (ar (Sq2_36.1 2)))), ((aq2_36 3), .inl (K.1, Nq2_36, .inl (ar (Sq2_36.1 3)))), ((aq2_36 4), .inl (K.1, Nq2_36, .inl (ar (Sq2_36.1 4)))), ((aq2_36 5), .inl (K.1, Nq2_36, .inl (ar (Sq2_36.1 5)))), ((aq2_36 6), .inl (K.1, Nq2_36, .inl (ar (Sq2_36.1 6)))), ((x 4), .inl (K.2.2, 16, .inr (.inr (.inr (.inr f))))), ((x 5), .inr (1, [.ref (x 3), .ref (xf 1), .ref (xf 2), .ref (xf 3), .ref (xf 4), vZ (F1.2 5), vZ (F1.2 6), vZ (F1.2 7), vZ (F1.2 8), vZ (F1.2 9), vZ (F1.2 10), vZ (F1.2 11)])), ((xf 2), .inl (K.1, 10, .inl (ar (F1.1 2)))), ((xf 3), .inl (K.1, 4, .inl (ar (F1.1 3)))), ((xf 4), .inl (K.1, 4, .inl (ar (F1.1 4))))] ++ lgW K hs ag Lg2_40 nr)) rfl ?_
            refine z_callV ZC 0 (c_X1_forget zl D K (x 5) (upf xf 0 (x 3)) F1 ) (gdV uM_X7_71 uI_X1_forget uS_X1_forget uN_X1 uC_X1_forget) (by decide +kernel) rfl ⟨by omega, by omega⟩ ⟨by omega, by omega⟩ (Nat.le_of_ble_eq_true rfl) [34, 35, 36, 37] rfl (by decide) rfl rfl rfl rfl dX7_go_67 (fun r w2 gc_67 gs_67 hp => ?_)
            obtain ⟨rfl, rfl, rfl, rfl⟩ := hp
            refine z_ws (ws2 := ([(h, .inr (7, [.ref (x 0), .ref (x 1), .ref (x 2), .ref (x 3), .ref (x 4), .ref (x 5)])), ((x 0), .inr (5, [.ref (ato 0), .ref (ato 1), vZ (To.2 2), vZ (To.2 3)])), ((ato 0), .inl (K.1, 10, .inl (ar (To.1 0)))), ((ato 1), .inl (K.1, 10, .inl (ar (To.1 1)))), ((x 1), .inr (4, [.ref (an 0), .ref (an 1), .ref (an 2), .ref (an 3), .ref (an 4), .ref (an 5), .ref (an 6), .ref (an 7), vZ (Ne.2 8)])), ((an 0), .inl (K.1, 16, .inl (ar (Ne.1 0)))), ((an 1), .inl (K.1, 16, .inl (ar (Ne.1 1)))), ((an 2), .inl (K.1, 16, .inl (ar (Ne.1 2)))), ((an 3), .inl (K.1, 16, .inl (ar (Ne.1 3)))), ((an 4), .inl (K.1, 16, .inl (ar (Ne.1 4)))), ((an 5), .inl (K.1, 16, .inl (ar (Ne.1 5)))), ((an 6), .inl (K.1, 100, .inl (ar (Ne.1 6)))), ((an 7), .inl (K.1, 100, .inl (ar (Ne.1 7)))), ((x 2), .inr (0, [.ref (ac 0), .ref (ac 1), .ref (ac 2), vZ (Cr.2 3), vZ (Cr.2 4)])), ((ac 0), .inl (K.1, 8, .inl (ar (Cr.1 0)))), ((ac 1), .inl (K.1, 8, .inl (ar (Cr.1 1)))), ((ac 2), .inl (K.1, 8, .inl (ar (Cr.1 2)))), ((x 3), .inr (6, [.ref (x 0), .ref (x 1), .ref (x 2), .ref (xu 3), .ref (xu 5), .ref (xu 6), .ref (xu 7), .ref (xu 8), .ref (xu 9), .ref (xu 10), .ref (xu 11), vZ ((T2_36.2 12) + 1), vZ (T2_36.2 13), vZ (T2_36.2 14), vZ (T2_36.2 15)])), ((xu 5), .inl (K.1, 8, .inl (ar (T2_36.1 5)))), ((xu 6), .inl (K.1, 8, .inl (ar (T2_36.1 6)))), ((xu 7), .inl (K.1, 8, .inl (ar (T2_36.1 7)))), ((xu 8), .inl (K.1, 10, .inl (ar (T2_36.1 8)))), ((xu 9), .inl (K.1, 10, .inl (ar Wt_47))), ((xu 10), .inl (K.1, 10, .inl (ar Lk_47))), ((xu 11), .inl (K.1, 16, .inl (ar (T2_36.1 11)))), ((xu 3), .inr (2, [.ref (aq2_36 0), .ref (aq2_36 1), .ref (aq2_36 2), .ref (aq2_36 3), .ref (aq2_36 4), .ref (aq2_36 5), .ref (aq2_36 6), vZ (Sq2_36.2 7), vZ (Sq2_36.2 8)])), ((aq2_36 0), .inl (K.1, 32, .inl (ar (Sq2_36.1 0)))), ((aq2_36 1), .inl (K.1, 32, .inl (ar (Sq2_36.1 1)))), ((aq2_36 2), .inl (K.1, 32, .inl (ar (Sq2_36.1 2)))), ((aq2_36 3), .inl (K.1, Nq2_36, .inl (ar (Sq2_36.1 3)))), ((aq2_36 4), .inl (K.1, Nq2_36, .inl (ar (Sq2_36.1 4)))), ((aq2_36 5), .inl (K.1, Nq2_36, .inl (ar (Sq2_36.1 5)))), ((aq2_36 6), .inl (K.1, Nq2_36, .inl (ar (Sq2_36.1 6)))), ((x 4), .inl (K.2.2, 16, .inr (.inr (.inr (.inr f))))), ((x 5), .inr (1, [.ref (x 3), .ref (xf 1), .ref (xf 2), .ref (xf 3), .ref (xf 4), vZ 0, vZ (F1.2 6), vZ (F1.2 7), vZ 0, vZ (F1.2 9), vZ (F1.2 10), vZ (F1.2 11)])), ((xf 2), .inl (K.1, 10, .inl (ar (F1.1 2)))), ((xf 3), .inl (K.1, 4, .inl (ar (F1.1 3)))), ((xf 4), .inl (K.1, 4, .inl (ar (F1.1 4))))] ++ lgW K hs ag Lg2_40 nr)) ((rep_pre (is := [34, 35, 36, 37]) (pre := [(h, .inr (7, [.ref (x 0), .ref (x 1), .ref (x 2), .ref (x 3), .ref (x 4), .ref (x 5)])), ((x 0), .inr (5, [.ref (ato 0), .ref (ato 1), vZ (To.2 2), vZ (To.2 3)])), ((ato 0), .inl (K.1, 10, .inl (ar (To.1 0)))), ((ato 1), .inl (K.1, 10, .inl (ar (To.1 1)))), ((x 1), .inr (4, [.ref (an 0), .ref (an 1), .ref (an 2), .ref (an 3), .ref (an 4), .ref (an 5), .ref (an 6), .ref (an 7), vZ (Ne.2 8)])), ((an 0), .inl (K.1, 16, .inl (ar (Ne.1 0)))), ((an 1), .inl (K.1, 16, .inl (ar (Ne.1 1)))), ((an 2), .inl (K.1, 16, .inl (ar (Ne.1 2)))), ((an 3), .inl (K.1, 16, .inl (ar (Ne.1 3)))), ((an 4), .inl (K.1, 16, .inl (ar (Ne.1 4)))), ((an 5), .inl (K.1, 16, .inl (ar (Ne.1 5)))), ((an 6), .inl (K.1, 100, .inl (ar (Ne.1 6)))), ((an 7), .inl (K.1, 100, .inl (ar (Ne.1 7)))), ((x 2), .inr (0, [.ref (ac 0), .ref (ac 1), .ref (ac 2), vZ (Cr.2 3), vZ (Cr.2 4)])), ((ac 0), .inl (K.1, 8, .inl (ar (Cr.1 0)))), ((ac 1), .inl (K.1, 8, .inl (ar (Cr.1 1)))), ((ac 2), .inl (K.1, 8, .inl (ar (Cr.1 2)))), ((x 3), .inr (6, [.ref (x 0), .ref (x 1), .ref (x 2), .ref (xu 3), .ref (xu 5), .ref (xu 6), .ref (xu 7), .ref (xu 8), .ref (xu 9), .ref (xu 10), .ref (xu 11), vZ ((T2_36.2 12) + 1), vZ (T2_36.2 13), vZ (T2_36.2 14), vZ (T2_36.2 15)])), ((xu 5), .inl (K.1, 8, .inl (ar (T2_36.1 5)))), ((xu 6), .inl (K.1, 8, .inl (ar (T2_36.1 6)))), ((xu 7), .inl (K.1, 8, .inl (ar (T2_36.1 7)))), ((xu 8), .inl (K.1, 10, .inl (ar (T2_36.1 8)))), ((xu 9), .inl (K.1, 10, .inl (ar Wt_47))), ((xu 10), .inl (K.1, 10, .inl (ar Lk_47))), ((xu 11), .inl (K.1, 16, .inl (ar (T2_36.1 11)))), ((xu 3), .inr (2, [.ref (aq2_36 0), .ref (aq2_36 1), .ref (aq2_36 2), .ref (aq2_36 3), .ref (aq2_36 4), .ref (aq2_36 5), .ref (aq2_36 6), vZ (Sq2_36.2 7), vZ (Sq2_36.2 8)])), ((aq2_36 0), .inl (K.1, 32, .inl (ar (Sq2_36.1 0)))), ((aq2_36 1), .inl (K.1, 32, .inl (ar (Sq2_36.1 1)))), ((aq2_36 2), .inl (K.1, 32, .inl (ar (Sq2_36.1 2)))), ((aq2_36 3), .inl (K.1, Nq2_36, .inl (ar (Sq2_36.1 3)))), ((aq2_36 4), .inl (K.1, Nq2_36, .inl (ar (Sq2_36.1 4)))), ((aq2_36 5), .inl (K.1, Nq2_36, .inl (ar (Sq2_36.1 5)))), ((aq2_36 6), .inl (K.1, Nq2_36, .inl (ar (Sq2_36.1 6)))), ((x 4), .inl (K.2.2, 16, .inr (.inr (.inr (.inr f))))), ((x 5), .inr (1, [.ref (x 3), .ref (xf 1), .ref (xf 2), .ref (xf 3), .ref (xf 4), vZ (F1.2 5), vZ (F1.2 6), vZ (F1.2 7), vZ (F1.2 8), vZ (F1.2 9), vZ (F1.2 10), vZ (F1.2 11)])), ((xf 2), .inl (K.1, 10, .inl (ar (F1.1 2)))), ((xf 3), .inl (K.1, 4, .inl (ar (F1.1 3)))), ((xf 4), .inl (K.1, 4, .inl (ar (F1.1 4))))]) (w1 := (wFo K (x 5) (upf xf 0 (x 3)) F1)) rfl (Nat.le_of_ble_eq_true rfl)).trans rfl) ?_
            refine z_st (st2 := []) rfl ?_
            refine z_iinc ZC dX7_go_70 rfl (by decide) ?_
            refine z_goto ZC 14 dX7_go_73 (by decide) ?_
            refine z_ws (ws2 := ([(h, .inr (7, [.ref (x 0), .ref (x 1), .ref (x 2), .ref (x 3), .ref (x 4), .ref (x 5)])), ((x 0), .inr (5, [.ref (ato 0), .ref (ato 1), vZ (To.2 2), vZ (To.2 3)])), ((ato 0), .inl (K.1, 10, .inl (ar (To.1 0)))), ((ato 1), .inl (K.1, 10, .inl (ar (To.1 1)))), ((x 1), .inr (4, [.ref (an 0), .ref (an 1), .ref (an 2), .ref (an 3), .ref (an 4), .ref (an 5), .ref (an 6), .ref (an 7), vZ (Ne.2 8)])), ((an 0), .inl (K.1, 16, .inl (ar (Ne.1 0)))), ((an 1), .inl (K.1, 16, .inl (ar (Ne.1 1)))), ((an 2), .inl (K.1, 16, .inl (ar (Ne.1 2)))), ((an 3), .inl (K.1, 16, .inl (ar (Ne.1 3)))), ((an 4), .inl (K.1, 16, .inl (ar (Ne.1 4)))), ((an 5), .inl (K.1, 16, .inl (ar (Ne.1 5)))), ((an 6), .inl (K.1, 100, .inl (ar (Ne.1 6)))), ((an 7), .inl (K.1, 100, .inl (ar (Ne.1 7)))), ((x 2), .inr (0, [.ref (ac 0), .ref (ac 1), .ref (ac 2), vZ (Cr.2 3), vZ (Cr.2 4)])), ((ac 0), .inl (K.1, 8, .inl (ar (Cr.1 0)))), ((ac 1), .inl (K.1, 8, .inl (ar (Cr.1 1)))), ((ac 2), .inl (K.1, 8, .inl (ar (Cr.1 2)))), ((x 3), .inr (6, [.ref (x 0), .ref (x 1), .ref (x 2), .ref (xu 3), .ref (xu 5), .ref (xu 6), .ref (xu 7), .ref (xu 8), .ref (xu 9), .ref (xu 10), .ref (xu 11), vZ ((T2_36.2 12) + 1), vZ (T2_36.2 13), vZ (T2_36.2 14), vZ (T2_36.2 15)])), ((xu 5), .inl (K.1, 8, .inl (ar (T2_36.1 5)))), ((xu 6), .inl (K.1, 8, .inl (ar (T2_36.1 6)))), ((xu 7), .inl (K.1, 8, .inl (ar (T2_36.1 7)))), ((xu 8), .inl (K.1, 10, .inl (ar (T2_36.1 8)))), ((xu 9), .inl (K.1, 10, .inl (ar Wt_47))), ((xu 10), .inl (K.1, 10, .inl (ar Lk_47))), ((xu 11), .inl (K.1, 16, .inl (ar (T2_36.1 11)))), ((xu 3), .inr (2, [.ref (aq2_36 0), .ref (aq2_36 1), .ref (aq2_36 2), .ref (aq2_36 3), .ref (aq2_36 4), .ref (aq2_36 5), .ref (aq2_36 6), vZ (Sq2_36.2 7), vZ (Sq2_36.2 8)])), ((aq2_36 0), .inl (K.1, 32, .inl (ar (Sq2_36.1 0)))), ((aq2_36 1), .inl (K.1, 32, .inl (ar (Sq2_36.1 1)))), ((aq2_36 2), .inl (K.1, 32, .inl (ar (Sq2_36.1 2)))), ((aq2_36 3), .inl (K.1, Nq2_36, .inl (ar (Sq2_36.1 3)))), ((aq2_36 4), .inl (K.1, Nq2_36, .inl (ar (Sq2_36.1 4)))), ((aq2_36 5), .inl (K.1, Nq2_36, .inl (ar (Sq2_36.1 5)))), ((aq2_36 6), .inl (K.1, Nq2_36, .inl (ar (Sq2_36.1 6)))), ((x 4), .inl (K.2.2, 16, .inr (.inr (.inr (.inr f))))), ((x 5), .inr (1, [.ref (x 3), .ref (xf 1), .ref (xf 2), .ref (xf 3), .ref (xf 4), vZ 0, vZ (F1.2 6), vZ (F1.2 7), vZ 0, vZ (F1.2 9), vZ (F1.2 10), vZ (F1.2 11)])), ((xf 2), .inl (K.1, 10, .inl (ar (F1.1 2)))), ((xf 3), .inl (K.1, 4, .inl (ar (F1.1 3)))), ((xf 4), .inl (K.1, 4, .inl (ar (F1.1 4))))] ++ lgW K hs ag Lg2_40 nr)) rfl (z_lv (lv2 := [(0, .ref h), (1, vZ n), (2, vZ (i + 1))]) ⟨rfl, rfl, rfl, trivial⟩ ?_)
            refine ih_14 (i + 1) ((upf (upf T2_36.1 9 Wt_47) 10 Lk_47), (upf T2_36.2 12 ((T2_36.2 12) + 1))) aq2_36 Nq2_36 Sq2_36 (F1.1, (upf (upf F1.2 5 0) 8 0)) Lg2_40 (gv + gc_36 + 0 + 0 + 0) (gw + gs_36 + 0 + 0 + 0) Cq2_36 (aHour To Ne Cr A1) ?_ ?_ ?_ ?_ ?_ ?_ ?_ ?_ ?_ ?_ (dec_lt hm_14 c_16)
            · skip
              omega
            · skip
              have q1 := tr_now (tr_drink hT2_36 hto hw_47)
              rw [aHour_eq] at q1
              exact q1
            · skip
              exact ab_hour hcf hto i2 (by omega)
            · skip
              exact al_hour i3 (by omega)
            · skip
              have e1 : oc Cr (aHour To Ne Cr A1) = oc Cr (aDrive Ne Cr A1) := rfl
              rw [e1]
              show _ ≤ oc Cr (aDrive Ne Cr A1) + 16 * (A1.2.1 0 + 1)
              omega
            · skip
              rw [show (i + 1).toNat = i.toNat + 1 by omega, i5]; rfl
            · skip
              omega
            · skip
              intro k hk
              rw [hL2_40 k hk, lgF_next h0.1, ← i5, ← i7 k hk]
              exact ntA_eq en2 (hgone_36 (k : Int) (by omega) (by omega))
            · skip
              show A1.2.1 0 + 1 = A.2.1 0 + (i + 1)
              omega
            · skip
              exact ⟨Or.inl rfl, Or.inl rfl⟩
    refine z_ws (ws2 := ([(h, .inr (7, [.ref (x 0), .ref (x 1), .ref (x 2), .ref (x 3), .ref (x 4), .ref (x 5)])), ((x 0), .inr (5, [.ref (ato 0), .ref (ato 1), vZ (To.2 2), vZ (To.2 3)])), ((ato 0), .inl (K.1, 10, .inl (ar (To.1 0)))), ((ato 1), .inl (K.1, 10, .inl (ar (To.1 1)))), ((x 1), .inr (4, [.ref (an 0), .ref (an 1), .ref (an 2), .ref (an 3), .ref (an 4), .ref (an 5), .ref (an 6), .ref (an 7), vZ (Ne.2 8)])), ((an 0), .inl (K.1, 16, .inl (ar (Ne.1 0)))), ((an 1), .inl (K.1, 16, .inl (ar (Ne.1 1)))), ((an 2), .inl (K.1, 16, .inl (ar (Ne.1 2)))), ((an 3), .inl (K.1, 16, .inl (ar (Ne.1 3)))), ((an 4), .inl (K.1, 16, .inl (ar (Ne.1 4)))), ((an 5), .inl (K.1, 16, .inl (ar (Ne.1 5)))), ((an 6), .inl (K.1, 100, .inl (ar (Ne.1 6)))), ((an 7), .inl (K.1, 100, .inl (ar (Ne.1 7)))), ((x 2), .inr (0, [.ref (ac 0), .ref (ac 1), .ref (ac 2), vZ (Cr.2 3), vZ (Cr.2 4)])), ((ac 0), .inl (K.1, 8, .inl (ar (Cr.1 0)))), ((ac 1), .inl (K.1, 8, .inl (ar (Cr.1 1)))), ((ac 2), .inl (K.1, 8, .inl (ar (Cr.1 2)))), ((x 3), .inr (6, [.ref (x 0), .ref (x 1), .ref (x 2), .ref (xu 3), .ref (xu 5), .ref (xu 6), .ref (xu 7), .ref (xu 8), .ref (xu 9), .ref (xu 10), .ref (xu 11), vZ (U.2 12), vZ (U.2 13), vZ (U.2 14), vZ (U.2 15)])), ((xu 5), .inl (K.1, 8, .inl (ar (U.1 5)))), ((xu 6), .inl (K.1, 8, .inl (ar (U.1 6)))), ((xu 7), .inl (K.1, 8, .inl (ar (U.1 7)))), ((xu 8), .inl (K.1, 10, .inl (ar (U.1 8)))), ((xu 9), .inl (K.1, 10, .inl (ar (U.1 9)))), ((xu 10), .inl (K.1, 10, .inl (ar (U.1 10)))), ((xu 11), .inl (K.1, 16, .inl (ar (U.1 11)))), ((xu 3), .inr (2, [.ref (aqu 0), .ref (aqu 1), .ref (aqu 2), .ref (aqu 3), .ref (aqu 4), .ref (aqu 5), .ref (aqu 6), vZ (Squ.2 7), vZ (Squ.2 8)])), ((aqu 0), .inl (K.1, 32, .inl (ar (Squ.1 0)))), ((aqu 1), .inl (K.1, 32, .inl (ar (Squ.1 1)))), ((aqu 2), .inl (K.1, 32, .inl (ar (Squ.1 2)))), ((aqu 3), .inl (K.1, Nqu, .inl (ar (Squ.1 3)))), ((aqu 4), .inl (K.1, Nqu, .inl (ar (Squ.1 4)))), ((aqu 5), .inl (K.1, Nqu, .inl (ar (Squ.1 5)))), ((aqu 6), .inl (K.1, Nqu, .inl (ar (Squ.1 6)))), ((x 4), .inl (K.2.2, 16, .inr (.inr (.inr (.inr f))))), ((x 5), .inr (1, [.ref (x 3), .ref (xf 1), .ref (xf 2), .ref (xf 3), .ref (xf 4), vZ (F.2 5), vZ (F.2 6), vZ (F.2 7), vZ (F.2 8), vZ (F.2 9), vZ (F.2 10), vZ (F.2 11)])), ((xf 2), .inl (K.1, 10, .inl (ar (F.1 2)))), ((xf 3), .inl (K.1, 4, .inl (ar (F.1 3)))), ((xf 4), .inl (K.1, 4, .inl (ar (F.1 4))))] ++ lgW K hs ag Lg nr)) rfl (z_lv (lv2 := [(0, .ref h), (1, vZ n), (2, vZ 0)]) ⟨rfl, rfl, rfl, trivial⟩ ?_)
    refine lp_14 _ 0 U aqu Nqu Squ F Lg (0 + 0) (0 + 0) Cq A ?_ ?_ ?_ ?_ ?_ ?_ ?_ ?_ ?_ ?_ (Nat.lt_succ_self _)
    · skip
      omega
    · skip
      exact hT
    · skip
      exact hab
    · skip
      exact hal
    · skip
      exact hpb
    · skip
      rfl
    · skip
      omega
    · skip
      intro k _; rfl
    · skip
      omega
    · skip
      exact hfi
  · skip
    refine z_iconst ZC dX7_go_10 ?_
    have ek : goK n (A.2.1 0) = 0 := if_neg (by omega)
    refine z_iret ZC ZE dX7_go_11 (by omega) (by omega) (by simp only [List.length_append, List.length_cons, List.length_nil, lgW_len]; omega) ⟨U, aqu, Nqu, Squ, F, Lg, (-1), Cq, rfl, rfl, ?_, ?_, ?_, ?_, ?_, ?_, ?_, ?_, ?_⟩
    · skip
      right; exact ⟨by omega, rfl⟩
    · skip
      rw [ek]; exact hT
    · skip
      rw [ek]; exact hpb
    · skip
      rw [ek]; exact ⟨hab, hal⟩
    · skip
      rw [ek]; exact hfi
    · skip
      intro k hk; rw [ek]; rfl
    · skip
      omega
    · skip
      omega
    · skip
      omega

