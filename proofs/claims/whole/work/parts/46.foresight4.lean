/-! ===== Foresight: a way tried ===== -/
def hF (f Wa : Int → Int) (now n way : Int) : Nat → Int → Int
  | 0 => f
  | i + 1 => upz (hF f Wa now n way i) (Wa (i : Int)) (now + stp n way (i : Int))
theorem hF_next {f Wa : Int → Int} {now n way i : Int} (h : 0 ≤ i) : hF f Wa now n way (i + 1).toNat = upz (hF f Wa now n way i.toNat) (Wa i) (now + stp n way i) := by
  rw [show (i + 1).toNat = i.toNat + 1 by omega]
  show upz _ (Wa ((i.toNat : Nat) : Int)) (now + stp n way ((i.toNat : Nat) : Int)) = _
  rw [show ((i.toNat : Nat) : Int) = i by omega]
theorem hF_congr {f g Wa Wb : Int → Int} {now n way : Int} : ∀ (k : Nat), (∀ i : Int, 0 ≤ i → i < k → Wa i = Wb i) → (∀ c : Int, 0 ≤ c → c < 8 → f c = g c) → ∀ c : Int, 0 ≤ c → c < 8 → hF f Wa now n way k c = hF g Wb now n way k c
  | 0, _, h, c, a, b => h c a b
  | k + 1, hW, h, c, a, b => by
    show upz (hF f Wa now n way k) (Wa (k : Int)) _ c = upz (hF g Wb now n way k) (Wb (k : Int)) _ c
    rw [hW (k : Int) (by omega) (by omega)]
    have ih := hF_congr (now := now) (n := n) (way := way) k (fun i x y => hW i x (by omega)) h c a b
    unfold upz
    split
    · rfl
    · exact ih
def wlA (Cr : Bd) (A : Ab) : List Int := wl (A.1 0) (A.2.1 0) (Cr.2 3).toNat
def pSt (Cr : Bd) (A : Ab) (way : Int) : Ab := aI A 0 (hF (A.1 0) (fun i => (wlA Cr A).getD i.toNat 0) (A.2.1 0) (wlA Cr A).length way (wlA Cr A).length)
def pEw (Ne Cr : Bd) (A : Ab) (way : Int) : Int := pEnd Cr (aHds Ne Cr (pSt Cr A way) (200 - A.2.1 0).toNat)
def pWw (Ne Cr : Bd) (A : Ab) (way : Int) : Int := (aHds Ne Cr (pSt Cr A way) (200 - A.2.1 0).toNat).2.1 1 - A.2.1 1
theorem wl_congr {f g : Int → Int} {now : Int} : ∀ {n : Nat}, (∀ c : Int, 0 ≤ c → c < n → f c = g c) → wl f now n = wl g now n
  | 0, _ => rfl
  | n + 1, h => by
    show wl f now n ++ _ = wl g now n ++ _
    rw [wl_congr (fun c a b => h c a (by omega)), h (n : Int) (by omega) (by omega)]
theorem getD_mem {l : List Int} {i : Int} (h0 : 0 ≤ i) (h1 : i < l.length) : l.getD i.toNat 0 ∈ l := by
  have h2 : i.toNat < l.length := by omega
  rw [List.getD_eq_getElem?_getD, List.getElem?_eq_getElem h2]
  exact List.getElem_mem h2
theorem wlA_mem {Cr : Bd} {A : Ab} {i : Int} (hc : 0 ≤ Cr.2 3) (h0 : 0 ≤ i) (h1 : i < (wlA Cr A).length) : 0 ≤ (wlA Cr A).getD i.toNat 0 ∧ (wlA Cr A).getD i.toNat 0 < Cr.2 3 ∧ ¬ A.1 0 ((wlA Cr A).getD i.toNat 0) < A.2.1 0 := by
  unfold wlA at h1 ⊢
  have := wl_mem (getD_mem h0 h1)
  exact ⟨this.1, by omega, this.2.2⟩
theorem tr_copyH {Ne Cr : Bd} {B : Nat} {T V : Bd} {Nq Nq2 : Nat} {Sq Sq2 : Bd} {Cq : Int → List Pt3} {A : Ab} {g f : Int → Int} (h : TrR Ne Cr B T Nq Sq Cq A) (hq : LnO Nq2 B Sq2 Cq []) (hg : ∀ c : Int, 0 ≤ c → c < 8 → g c = f c) : TrR Ne Cr B ((upf (upf (upf (upf (upf (upf V.1 5 g) 6 (T.1 6)) 7 (T.1 7)) 8 (T.1 8)) 9 (T.1 9)) 10 (T.1 10)), (upf (upf (upf (upf V.2 12 (T.2 12)) 13 (T.2 13)) 14 (T.2 14)) 15 (T.2 15))) Nq2 Sq2 Cq (aI A 0 f) := by
  obtain ⟨k1, k3, k4, k5, k6, k7⟩ := h
  exact ⟨hq, k3, fun c a b => ⟨hg c a b, (k4 c a b).2⟩, k5, k6, k7⟩
theorem ab_hF {Ne Cr : Bd} {A : Ab} {Wa : Int → Int} {n way : Int} (h : AB Ne Cr A) : ∀ (k : Nat), (∀ i : Int, 0 ≤ i → i < k → ¬ A.1 0 (Wa i) < A.2.1 0 ∧ A.2.1 0 + stp n way i < 200) → ∀ c : Int, 0 ≤ c → c < Cr.2 3 → (0 ≤ hF (A.1 0) Wa (A.2.1 0) n way k c ∧ hF (A.1 0) Wa (A.2.1 0) n way k c ≤ 300) ∧ (A.1 1 c = 1 ↔ hF (A.1 0) Wa (A.2.1 0) n way k c < A.2.1 0)
  | 0, _, c, a, b => h.2.2.1 c a b
  | k + 1, hk, c, a, b => by
    have ih := ab_hF (n := n) (way := way) (Wa := Wa) h k (fun i x y => hk i x (by omega)) c a b
    have g := hk (k : Int) (by omega) (by omega)
    have s := stp_rng n way (k : Int)
    have hn := h.2.1
    have o := h.2.2.1 c a b
    show (0 ≤ upz _ (Wa (k : Int)) _ c ∧ upz _ (Wa (k : Int)) _ c ≤ 300) ∧ (A.1 1 c = 1 ↔ upz _ (Wa (k : Int)) _ c < A.2.1 0)
    unfold upz
    by_cases e : c = Wa (k : Int)
    · rw [if_pos e]
      rw [← e] at g
      refine ⟨by omega, ?_⟩
      constructor
      · intro q; have := o.2.mp q; omega
      · intro q; omega
    · rw [if_neg e]; exact ih
theorem ab_pSt {Ne Cr : Bd} {A : Ab} {way : Int} (hc : 0 ≤ Cr.2 3) (h : AB Ne Cr A) (hw : ∀ i : Int, 0 ≤ i → i < (wlA Cr A).length → A.2.1 0 + stp (wlA Cr A).length way i < 200) : AB Ne Cr (pSt Cr A way) :=
  ⟨h.1, h.2.1, ab_hF h _ (fun i a b => ⟨(wlA_mem hc a (by omega)).2.2, hw i a (by omega)⟩), h.2.2.2.1, h.2.2.2.2⟩
theorem aHds_next {Ne Cr : Bd} {A : Ab} {h : Int} (h1 : A.2.1 0 ≤ h) : aHds Ne Cr A (h + 1 - A.2.1 0).toNat = aHd Ne Cr (aHds Ne Cr A (h - A.2.1 0).toNat) := by
  rw [show (h + 1 - A.2.1 0).toNat = (h - A.2.1 0).toNat + 1 by omega]; rfl
theorem aHd_eq {Ne Cr : Bd} {A : Ab} : aS (aDrive Ne Cr A) 0 ((aDrive Ne Cr A).2.1 0 + 1) = aHd Ne Cr A := by
  rw [(aDrive_keep Ne Cr A).1]; rfl
theorem al_hd {Ne Cr : Bd} {A : Ab} (h : AL Cr A) (hn : 0 ≤ A.2.1 0) : AL Cr (aHd Ne Cr A) := al_drive (Ne := Ne) h hn
theorem pEnd_rng {Cr : Bd} {A : Ab} : 0 ≤ pEnd Cr A := by
  have hlow : ∀ (f : Int → Int) (m : Nat), -1 ≤ aMx f m := by
    intro f m
    induction m with
    | zero => exact Int.le_refl _
    | succ m ih => show -1 ≤ max (aMx f m) (f (m : Int)); omega
  unfold pEnd aFl
  have := hlow (A.1 3) (Cr.2 3).toNat
  split
  · split <;> omega
  · split <;> omega
theorem try_end {Ne Cr : Bd} {B : Nat} {T : Bd} {Nq : Nat} {Sq : Bd} {Cq : Int → List Pt3} {A A1 : Ab} {hh bl : Int} (hc : Cfg Ne Cr) (hab : AB Ne Cr A1) (hal : AL Cr A1) (hac : Cr.2 4 = smI (Cr.1 1) 0 (Cr.2 3).toNat) (h : TrR Ne Cr B T Nq Sq Cq A1) (h0 : 0 < Cr.2 3) (hlo : A.2.1 0 ≤ hh ∧ hh ≤ 200) (e1 : A1 = aHds Ne Cr A (hh - A.2.1 0).toNat) (e2 : A1.2.1 0 = hh) (hs : hh = 200 ∨ bl < hh ∨ T.2 13 = Cr.2 4) (hbl : 0 ≤ bl ∧ bl ≤ 200) :
    ((if T.2 13 = Cr.2 4 then T.2 14 else 200) = pEnd Cr (aHds Ne Cr A (200 - A.2.1 0).toNat) ∧ T.2 15 = (aHds Ne Cr A (200 - A.2.1 0).toNat).2.1 1 ∨ (bl < (if T.2 13 = Cr.2 4 then T.2 14 else 200) ∧ bl < pEnd Cr (aHds Ne Cr A (200 - A.2.1 0).toNat) ∧ bl < 200)) ∧ (if T.2 13 = Cr.2 4 then T.2 14 else 200) ≤ 200 ∧ -1 ≤ (if T.2 13 = Cr.2 4 then T.2 14 else 200) := by
  obtain ⟨l1, l2⟩ := tr_last hc hab.1 hal hac h
  have ew : T.2 15 = A1.2.1 1 := h.2.2.2.2.1.2.1
  have r1 := h.2.2.2.2.2.2.2
  have eh : (200 - A.2.1 0).toNat = (hh - A.2.1 0).toNat + (200 - hh).toNat := by omega
  have e3 : aHds Ne Cr A (200 - A.2.1 0).toNat = aHds Ne Cr A1 (200 - hh).toNat := by rw [eh, aHds_add, ← e1]
  rw [e3]
  by_cases z : T.2 13 = Cr.2 4
  · rw [if_pos z]
    rw [if_pos z] at l1
    have all := l2.mp z
    have k := allH_hds (Ne := Ne) hc (200 - hh).toNat hab all (by omega)
    have hx : 0 ≤ aFl Cr A1 := by
      unfold aFl
      rw [if_neg (by have := aMi_nn (f := A1.1 3) (n := (Cr.2 3).toNat) (fun c a b => hal c a (by omega) (all c a (by omega))); omega)]
      have := aMx_high (f := A1.1 3) (c := 0) (n := (Cr.2 3).toNat) (by omega) (by omega)
      have := hal 0 (by omega) (by omega) (all 0 (by omega) (by omega))
      omega
    refine ⟨Or.inl ⟨?_, ?_⟩, by omega, by omega⟩
    · unfold pEnd aFl
      rw [k.1]
      show T.2 14 = if aFl Cr A1 = -1 then 200 else aFl Cr A1
      rw [if_neg (by omega), l1]
    · rw [ew, k.2.1]
  · rw [if_neg z]
    rw [if_neg z] at l1
    refine ⟨?_, by omega, by omega⟩
    by_cases q : hh = 200
    · left
      rw [show (200 - hh).toNat = 0 by omega]
      refine ⟨?_, ew⟩
      show 200 = if aFl Cr A1 = -1 then 200 else aFl Cr A1
      rw [if_pos l1.symm]
    · right
      have hb : bl < hh := by
        rcases hs with s | s | s
        · exact absurd s q
        · exact s
        · exact absurd s z
      have g := notyet (Ne := Ne) hc hab (fun all => z (l2.mpr all)) (by omega) (200 - hh).toNat (by omega)
      omega

set_option maxHeartbeats 4000000 in
set_option maxRecDepth 100000 in
theorem c_X1_tryWay (zl : Launch) (D : va_G) (K : tyK) (h : Nat) (a : Nat → Nat) (F : Bd) (au : Nat → Nat) (U : Bd) (aqu : Nat → Nat) (Nqu : Nat) (Squ : Bd) (ay : Nat → Nat) (V : Bd) (aqt : Nat → Nat) (Nqt : Nat) (Sqt : Bd) (an : Nat → Nat) (Ne : Bd) (ato : Nat → Nat) (To : Bd) (ac : Nat → Nat) (Cr : Bd) (B : Nat) (Cq : Int → List Pt3) (A : Ab) (way : Int) (hcf : Cfg Ne Cr) (hto : 0 ≤ To.2 3 ∧ To.2 3 ≤ 10) (hab : AB Ne Cr A) (hal : AL Cr A) (hac : Cr.2 4 = smI (Cr.1 1) 0 (Cr.2 3).toNat) (hT : TrR Ne Cr B U Nqu Squ Cq A) (hpb : ((lns Cq 32 : Nat) : Int) ≤ oc Cr A + 16 * A.2.1 0) (hB : 3300 ≤ B ∧ B ≤ 4000) (hpw : pw Nqt) (hL : F.2 9 = ((wlA Cr A).length : Int) ∧ 0 < F.2 9 ∧ F.2 9 ≤ 4) (hWa : ∀ i : Int, 0 ≤ i → i < F.2 9 → F.1 3 i = (wlA Cr A).getD i.toNat 0) (hw : 0 ≤ way ∧ way < 256) (hwi : ∀ i : Int, 0 ≤ i → i < F.2 9 → A.2.1 0 + stp (F.2 9) way i < 200) (hbl : 0 ≤ F.2 10 ∧ F.2 10 ≤ 200) (hbw : -2147483648 ≤ F.2 11 ∧ F.2 11 < 2147483648) : Mz zl yX1_tryWay cX1_tryWay 4 (none) 5 117 25000 250000 D K [.ref h, vZ way] ((wFo K h a F) ++ (wTr K (a 0) au U) ++ (wLn K (au 3) aqu Nqu Squ) ++ (wTr K (a 1) (upf (upf (upf ay 0 (au 0)) 1 (au 1)) 2 (au 2)) V) ++ (wLn K (ay 3) aqt Nqt Sqt) ++ (wNe K (au 1) an Ne) ++ (wTo K (au 0) ato To) ++ (wCr K (au 2) ac Cr)) (fun r_ w2_ gc gs => ∃ (F2 : Bd), ∃ (V2 : Bd), ∃ (aqt2 : Nat → Nat), ∃ (Nqt2 : Nat), ∃ (Sqt2 : Bd), r_ = none ∧ w2_ = ((wFo K h a F2) ++ (wTr K (a 0) au U) ++ (wLn K (au 3) aqu Nqu Squ) ++ (wTr K (a 1) (upf (upf (upf ay 0 (au 0)) 1 (au 1)) 2 (au 2)) V2) ++ (wLn K (ay 3) aqt2 Nqt2 Sqt2) ++ (wNe K (au 1) an Ne) ++ (wTo K (au 0) ato To) ++ (wCr K (au 2) ac Cr)) ∧ (((pEw Ne Cr A way < F.2 10 ∨ (pEw Ne Cr A way = F.2 10 ∧ pWw Ne Cr A way < F.2 11)) ∧ F2.2 10 = pEw Ne Cr A way ∧ F2.2 11 = pWw Ne Cr A way ∧ ∀ i : Int, 0 ≤ i → i < F.2 9 → F2.1 4 i = stp (wlA Cr A).length way i) ∨ (¬ (pEw Ne Cr A way < F.2 10 ∨ (pEw Ne Cr A way = F.2 10 ∧ pWw Ne Cr A way < F.2 11)) ∧ F2.2 10 = F.2 10 ∧ F2.2 11 = F.2 11 ∧ F2.1 4 = F.1 4)) ∧ (F2.1 2 = F.1 2 ∧ F2.1 3 = F.1 3 ∧ F2.2 5 = F.2 5 ∧ F2.2 6 = F.2 6 ∧ F2.2 7 = F.2 7 ∧ F2.2 8 = F.2 8 ∧ F2.2 9 = F.2 9) ∧ (F.2 10 = 200 → pEw Ne Cr A way ≤ 200) ∧ (pw Nqt2 ∧ Nqt ≤ Nqt2 ∧ Nqt2 ≤ 4096) ∧ (Nqt + gc ≤ Nqt2) ∧ (8 * Nqt + gs ≤ 8 * Nqt2)) := by
  refine Mz.ofZ (by decide) rfl (Nat.le_of_ble_eq_true rfl) ?_
  intro zp ze zR zs zm zargs zbelow zmeth zc zA zQ ZC ZE hRf hRc hRs hRl
  have hnw := hab.2.1
  have hpr1 := pw_rng hpw
  have hc8 := hcf.2.1
  have enow0 : U.2 12 = A.2.1 0 := hT.2.2.2.2.1.1
  have hcp : 0 < Cr.2 3 := by have := wlA_mem (Cr := Cr) (A := A) (i := 0) hc8.1 (by omega) (by omega); omega
  have habP : AB Ne Cr (pSt Cr A way) := ab_pSt hc8.1 hab (by rw [← hL.1]; exact hwi)
  have hwar : U.2 15 = A.2.1 1 := hT.2.2.2.2.1.2.1
  have hwaw := hab.2.2.2.2
  refine z_aload_n ZC 0 dX1_tryWay_0 rfl rfl ?_
  refine z_get ZC inUX1 0 rfl rfl 1 (by decide) uF_X1_25 rfl dX1_tryWay_1 ?_
  refine z_aload_n ZC 0 dX1_tryWay_4 rfl rfl ?_
  refine z_get ZC inUX1 0 rfl rfl 0 (by decide) uF_X1_21 rfl dX1_tryWay_5 ?_
  refine z_callV ZC 1 (c_X6_copyFrom zl D K (a 1) (upf (upf (upf ay 0 (au 0)) 1 (au 1)) 2 (au 2)) V aqt Nqt Sqt (a 0) au U aqu Nqu Squ B Cq (hpw) (hT.1)) (gdV uM_X1_44 uI_X6_copyFrom uS_X6_copyFrom uN_X6 uC_X6_copyFrom) (by decide +kernel) rfl ⟨by omega, by omega⟩ ⟨by omega, by omega⟩ (Nat.le_of_ble_eq_true rfl) [20, 21, 22, 23, 24, 25, 26, 27, 28, 29, 30, 31, 32, 33, 34, 35, 4, 5, 6, 7, 8, 9, 10, 11, 12, 13, 14, 15, 16, 17, 18, 19] rfl (by decide) rfl rfl rfl rfl dX1_tryWay_8 (fun r w2 gc_8 gs_8 hp => ?_)
  obtain ⟨aq2_8, Nq2_8, Sq2_8, rfl, rfl, hq_8, hNq_8, hgc_8, hgs_8, hg4_8⟩ := hp
  refine z_ws (ws2 := [(h, .inr (1, [.ref (a 0), .ref (a 1), .ref (a 2), .ref (a 3), .ref (a 4), vZ (F.2 5), vZ (F.2 6), vZ (F.2 7), vZ (F.2 8), vZ (F.2 9), vZ (F.2 10), vZ (F.2 11)])), ((a 2), .inl (K.1, 10, .inl (ar (F.1 2)))), ((a 3), .inl (K.1, 4, .inl (ar (F.1 3)))), ((a 4), .inl (K.1, 4, .inl (ar (F.1 4)))), ((a 0), .inr (6, [.ref (au 0), .ref (au 1), .ref (au 2), .ref (au 3), .ref (au 5), .ref (au 6), .ref (au 7), .ref (au 8), .ref (au 9), .ref (au 10), .ref (au 11), vZ (U.2 12), vZ (U.2 13), vZ (U.2 14), vZ (U.2 15)])), ((au 5), .inl (K.1, 8, .inl (ar (U.1 5)))), ((au 6), .inl (K.1, 8, .inl (ar (U.1 6)))), ((au 7), .inl (K.1, 8, .inl (ar (U.1 7)))), ((au 8), .inl (K.1, 10, .inl (ar (U.1 8)))), ((au 9), .inl (K.1, 10, .inl (ar (U.1 9)))), ((au 10), .inl (K.1, 10, .inl (ar (U.1 10)))), ((au 11), .inl (K.1, 16, .inl (ar (U.1 11)))), ((au 3), .inr (2, [.ref (aqu 0), .ref (aqu 1), .ref (aqu 2), .ref (aqu 3), .ref (aqu 4), .ref (aqu 5), .ref (aqu 6), vZ (Squ.2 7), vZ (Squ.2 8)])), ((aqu 0), .inl (K.1, 32, .inl (ar (Squ.1 0)))), ((aqu 1), .inl (K.1, 32, .inl (ar (Squ.1 1)))), ((aqu 2), .inl (K.1, 32, .inl (ar (Squ.1 2)))), ((aqu 3), .inl (K.1, Nqu, .inl (ar (Squ.1 3)))), ((aqu 4), .inl (K.1, Nqu, .inl (ar (Squ.1 4)))), ((aqu 5), .inl (K.1, Nqu, .inl (ar (Squ.1 5)))), ((aqu 6), .inl (K.1, Nqu, .inl (ar (Squ.1 6)))), ((a 1), .inr (6, [.ref (au 0), .ref (au 1), .ref (au 2), .ref (ay 3), .ref (ay 5), .ref (ay 6), .ref (ay 7), .ref (ay 8), .ref (ay 9), .ref (ay 10), .ref (ay 11), vZ (U.2 12), vZ (U.2 13), vZ (U.2 14), vZ (U.2 15)])), ((ay 5), .inl (K.1, 8, .inl (ar (U.1 5)))), ((ay 6), .inl (K.1, 8, .inl (ar (U.1 6)))), ((ay 7), .inl (K.1, 8, .inl (ar (U.1 7)))), ((ay 8), .inl (K.1, 10, .inl (ar (U.1 8)))), ((ay 9), .inl (K.1, 10, .inl (ar (U.1 9)))), ((ay 10), .inl (K.1, 10, .inl (ar (U.1 10)))), ((ay 11), .inl (K.1, 16, .inl (ar (V.1 11)))), ((ay 3), .inr (2, [.ref (aq2_8 0), .ref (aq2_8 1), .ref (aq2_8 2), .ref (aq2_8 3), .ref (aq2_8 4), .ref (aq2_8 5), .ref (aq2_8 6), vZ (Sq2_8.2 7), vZ (Sq2_8.2 8)])), ((aq2_8 0), .inl (K.1, 32, .inl (ar (Sq2_8.1 0)))), ((aq2_8 1), .inl (K.1, 32, .inl (ar (Sq2_8.1 1)))), ((aq2_8 2), .inl (K.1, 32, .inl (ar (Sq2_8.1 2)))), ((aq2_8 3), .inl (K.1, Nq2_8, .inl (ar (Sq2_8.1 3)))), ((aq2_8 4), .inl (K.1, Nq2_8, .inl (ar (Sq2_8.1 4)))), ((aq2_8 5), .inl (K.1, Nq2_8, .inl (ar (Sq2_8.1 5)))), ((aq2_8 6), .inl (K.1, Nq2_8, .inl (ar (Sq2_8.1 6)))), ((au 1), .inr (4, [.ref (an 0), .ref (an 1), .ref (an 2), .ref (an 3), .ref (an 4), .ref (an 5), .ref (an 6), .ref (an 7), vZ (Ne.2 8)])), ((an 0), .inl (K.1, 16, .inl (ar (Ne.1 0)))), ((an 1), .inl (K.1, 16, .inl (ar (Ne.1 1)))), ((an 2), .inl (K.1, 16, .inl (ar (Ne.1 2)))), ((an 3), .inl (K.1, 16, .inl (ar (Ne.1 3)))), ((an 4), .inl (K.1, 16, .inl (ar (Ne.1 4)))), ((an 5), .inl (K.1, 16, .inl (ar (Ne.1 5)))), ((an 6), .inl (K.1, 100, .inl (ar (Ne.1 6)))), ((an 7), .inl (K.1, 100, .inl (ar (Ne.1 7)))), ((au 0), .inr (5, [.ref (ato 0), .ref (ato 1), vZ (To.2 2), vZ (To.2 3)])), ((ato 0), .inl (K.1, 10, .inl (ar (To.1 0)))), ((ato 1), .inl (K.1, 10, .inl (ar (To.1 1)))), ((au 2), .inr (0, [.ref (ac 0), .ref (ac 1), .ref (ac 2), vZ (Cr.2 3), vZ (Cr.2 4)])), ((ac 0), .inl (K.1, 8, .inl (ar (Cr.1 0)))), ((ac 1), .inl (K.1, 8, .inl (ar (Cr.1 1)))), ((ac 2), .inl (K.1, 8, .inl (ar (Cr.1 2))))]) rfl ?_
  refine z_st (st2 := []) rfl ?_
  have hpr3 := pw_rng hNq_8.1
  refine z_iconst ZC dX1_tryWay_11 ?_
  refine z_istore_n ZC 2 dX1_tryWay_12 rfl (by decide) ?_
  have lp_13 : ∀ (n_13 : Nat) (i : Int) (Hr : Int → Int), (0 ≤ i ∧ i ≤ F.2 9) → (Hr = hF (U.1 5) (F.1 3) (U.2 12) (F.2 9) way i.toNat) → ((F.2 9 - i).toNat) < n_13 → Zw zp zl ze zR zs zm zargs zbelow zmeth zc D zA 4 zQ (0 + gc_8) (0 + gs_8) ([(h, .inr (1, [.ref (a 0), .ref (a 1), .ref (a 2), .ref (a 3), .ref (a 4), vZ (F.2 5), vZ (F.2 6), vZ (F.2 7), vZ (F.2 8), vZ (F.2 9), vZ (F.2 10), vZ (F.2 11)])), ((a 2), .inl (K.1, 10, .inl (ar (F.1 2)))), ((a 3), .inl (K.1, 4, .inl (ar (F.1 3)))), ((a 4), .inl (K.1, 4, .inl (ar (F.1 4)))), ((a 0), .inr (6, [.ref (au 0), .ref (au 1), .ref (au 2), .ref (au 3), .ref (au 5), .ref (au 6), .ref (au 7), .ref (au 8), .ref (au 9), .ref (au 10), .ref (au 11), vZ (U.2 12), vZ (U.2 13), vZ (U.2 14), vZ (U.2 15)])), ((au 5), .inl (K.1, 8, .inl (ar (U.1 5)))), ((au 6), .inl (K.1, 8, .inl (ar (U.1 6)))), ((au 7), .inl (K.1, 8, .inl (ar (U.1 7)))), ((au 8), .inl (K.1, 10, .inl (ar (U.1 8)))), ((au 9), .inl (K.1, 10, .inl (ar (U.1 9)))), ((au 10), .inl (K.1, 10, .inl (ar (U.1 10)))), ((au 11), .inl (K.1, 16, .inl (ar (U.1 11)))), ((au 3), .inr (2, [.ref (aqu 0), .ref (aqu 1), .ref (aqu 2), .ref (aqu 3), .ref (aqu 4), .ref (aqu 5), .ref (aqu 6), vZ (Squ.2 7), vZ (Squ.2 8)])), ((aqu 0), .inl (K.1, 32, .inl (ar (Squ.1 0)))), ((aqu 1), .inl (K.1, 32, .inl (ar (Squ.1 1)))), ((aqu 2), .inl (K.1, 32, .inl (ar (Squ.1 2)))), ((aqu 3), .inl (K.1, Nqu, .inl (ar (Squ.1 3)))), ((aqu 4), .inl (K.1, Nqu, .inl (ar (Squ.1 4)))), ((aqu 5), .inl (K.1, Nqu, .inl (ar (Squ.1 5)))), ((aqu 6), .inl (K.1, Nqu, .inl (ar (Squ.1 6)))), ((a 1), .inr (6, [.ref (au 0), .ref (au 1), .ref (au 2), .ref (ay 3), .ref (ay 5), .ref (ay 6), .ref (ay 7), .ref (ay 8), .ref (ay 9), .ref (ay 10), .ref (ay 11), vZ (U.2 12), vZ (U.2 13), vZ (U.2 14), vZ (U.2 15)])), ((ay 5), .inl (K.1, 8, .inl (ar Hr))), ((ay 6), .inl (K.1, 8, .inl (ar (U.1 6)))), ((ay 7), .inl (K.1, 8, .inl (ar (U.1 7)))), ((ay 8), .inl (K.1, 10, .inl (ar (U.1 8)))), ((ay 9), .inl (K.1, 10, .inl (ar (U.1 9)))), ((ay 10), .inl (K.1, 10, .inl (ar (U.1 10)))), ((ay 11), .inl (K.1, 16, .inl (ar (V.1 11)))), ((ay 3), .inr (2, [.ref (aq2_8 0), .ref (aq2_8 1), .ref (aq2_8 2), .ref (aq2_8 3), .ref (aq2_8 4), .ref (aq2_8 5), .ref (aq2_8 6), vZ (Sq2_8.2 7), vZ (Sq2_8.2 8)])), ((aq2_8 0), .inl (K.1, 32, .inl (ar (Sq2_8.1 0)))), ((aq2_8 1), .inl (K.1, 32, .inl (ar (Sq2_8.1 1)))), ((aq2_8 2), .inl (K.1, 32, .inl (ar (Sq2_8.1 2)))), ((aq2_8 3), .inl (K.1, Nq2_8, .inl (ar (Sq2_8.1 3)))), ((aq2_8 4), .inl (K.1, Nq2_8, .inl (ar (Sq2_8.1 4)))), ((aq2_8 5), .inl (K.1, Nq2_8, .inl (ar (Sq2_8.1 5)))), ((aq2_8 6), .inl (K.1, Nq2_8, .inl (ar (Sq2_8.1 6)))), ((au 1), .inr (4, [.ref (an 0), .ref (an 1), .ref (an 2), .ref (an 3), .ref (an 4), .ref (an 5), .ref (an 6), .ref (an 7), vZ (Ne.2 8)])), ((an 0), .inl (K.1, 16, .inl (ar (Ne.1 0)))), ((an 1), .inl (K.1, 16, .inl (ar (Ne.1 1)))), ((an 2), .inl (K.1, 16, .inl (ar (Ne.1 2)))), ((an 3), .inl (K.1, 16, .inl (ar (Ne.1 3)))), ((an 4), .inl (K.1, 16, .inl (ar (Ne.1 4)))), ((an 5), .inl (K.1, 16, .inl (ar (Ne.1 5)))), ((an 6), .inl (K.1, 100, .inl (ar (Ne.1 6)))), ((an 7), .inl (K.1, 100, .inl (ar (Ne.1 7)))), ((au 0), .inr (5, [.ref (ato 0), .ref (ato 1), vZ (To.2 2), vZ (To.2 3)])), ((ato 0), .inl (K.1, 10, .inl (ar (To.1 0)))), ((ato 1), .inl (K.1, 10, .inl (ar (To.1 1)))), ((au 2), .inr (0, [.ref (ac 0), .ref (ac 1), .ref (ac 2), vZ (Cr.2 3), vZ (Cr.2 4)])), ((ac 0), .inl (K.1, 8, .inl (ar (Cr.1 0)))), ((ac 1), .inl (K.1, 8, .inl (ar (Cr.1 1)))), ((ac 2), .inl (K.1, 8, .inl (ar (Cr.1 2))))]) 13 [(0, .ref h), (1, vZ way), (2, vZ i)] [] := by
    intro n_13
    induction n_13 with
    | zero => intro i Hr h0 hH hm_13; exact absurd hm_13 (Nat.not_lt_zero _)
    | succ n_13 ih_13 =>
      intro i Hr h0 hH hm_13
      refine z_iload_n ZC 2 dX1_tryWay_13 rfl rfl ?_
      refine z_aload_n ZC 0 dX1_tryWay_14 rfl rfl ?_
      refine z_get ZC inUX1 0 rfl rfl 9 (by decide) uF_X1_35 rfl dX1_tryWay_15 ?_
      refine z_icmp_ge ZC 55 dX1_tryWay_18 (by decide) (by omega) (by omega) (fun c_18 => ?_) (fun c_18 => ?_)
      · skip
        refine z_aload_n ZC 0 dX1_tryWay_55 rfl rfl ?_
        refine z_get ZC inUX1 0 rfl rfl 0 (by decide) uF_X1_21 rfl dX1_tryWay_56 ?_
        refine z_get ZC inUX6 4 rfl rfl 11 (by decide) uF_X1_39 rfl dX1_tryWay_59 ?_
        refine z_istore_n ZC 2 dX1_tryWay_62 rfl (by decide) ?_
        have lp_63 : ∀ (n_63 : Nat) (hh : Int) (V1 : Bd) (aqt1 : Nat → Nat) (Nqt1 : Nat) (Sqt1 : Bd) (gv : Nat) (gw : Nat) (Cq1 : Int → List Pt3) (A1 : Ab), (A.2.1 0 ≤ hh ∧ hh ≤ 200) → (TrR Ne Cr B V1 Nqt1 Sqt1 Cq1 A1) → (AB Ne Cr A1) → (AL Cr A1) → (((lns Cq1 32 : Nat) : Int) ≤ oc Cr A1 + 16 * A1.2.1 0) → (A1 = aHds Ne Cr (pSt Cr A way) (hh - A.2.1 0).toNat) → (Nqt ≤ Nqt1 ∧ Nqt + gv ≤ Nqt1 ∧ 8 * Nqt + gw ≤ 8 * Nqt1) → (A1.2.1 0 = hh) → ((200 - hh).toNat) < n_63 → Zw zp zl ze zR zs zm zargs zbelow zmeth zc D zA 4 zQ gv gw ([(h, .inr (1, [.ref (a 0), .ref (a 1), .ref (a 2), .ref (a 3), .ref (a 4), vZ (F.2 5), vZ (F.2 6), vZ (F.2 7), vZ (F.2 8), vZ (F.2 9), vZ (F.2 10), vZ (F.2 11)])), ((a 2), .inl (K.1, 10, .inl (ar (F.1 2)))), ((a 3), .inl (K.1, 4, .inl (ar (F.1 3)))), ((a 4), .inl (K.1, 4, .inl (ar (F.1 4)))), ((a 0), .inr (6, [.ref (au 0), .ref (au 1), .ref (au 2), .ref (au 3), .ref (au 5), .ref (au 6), .ref (au 7), .ref (au 8), .ref (au 9), .ref (au 10), .ref (au 11), vZ (U.2 12), vZ (U.2 13), vZ (U.2 14), vZ (U.2 15)])), ((au 5), .inl (K.1, 8, .inl (ar (U.1 5)))), ((au 6), .inl (K.1, 8, .inl (ar (U.1 6)))), ((au 7), .inl (K.1, 8, .inl (ar (U.1 7)))), ((au 8), .inl (K.1, 10, .inl (ar (U.1 8)))), ((au 9), .inl (K.1, 10, .inl (ar (U.1 9)))), ((au 10), .inl (K.1, 10, .inl (ar (U.1 10)))), ((au 11), .inl (K.1, 16, .inl (ar (U.1 11)))), ((au 3), .inr (2, [.ref (aqu 0), .ref (aqu 1), .ref (aqu 2), .ref (aqu 3), .ref (aqu 4), .ref (aqu 5), .ref (aqu 6), vZ (Squ.2 7), vZ (Squ.2 8)])), ((aqu 0), .inl (K.1, 32, .inl (ar (Squ.1 0)))), ((aqu 1), .inl (K.1, 32, .inl (ar (Squ.1 1)))), ((aqu 2), .inl (K.1, 32, .inl (ar (Squ.1 2)))), ((aqu 3), .inl (K.1, Nqu, .inl (ar (Squ.1 3)))), ((aqu 4), .inl (K.1, Nqu, .inl (ar (Squ.1 4)))), ((aqu 5), .inl (K.1, Nqu, .inl (ar (Squ.1 5)))), ((aqu 6), .inl (K.1, Nqu, .inl (ar (Squ.1 6)))), ((a 1), .inr (6, [.ref (au 0), .ref (au 1), .ref (au 2), .ref (ay 3), .ref (ay 5), .ref (ay 6), .ref (ay 7), .ref (ay 8), .ref (ay 9), .ref (ay 10), .ref (ay 11), vZ (V1.2 12), vZ (V1.2 13), vZ (V1.2 14), vZ (V1.2 15)])), ((ay 5), .inl (K.1, 8, .inl (ar (V1.1 5)))), ((ay 6), .inl (K.1, 8, .inl (ar (V1.1 6)))), ((ay 7), .inl (K.1, 8, .inl (ar (V1.1 7)))), ((ay 8), .inl (K.1, 10, .inl (ar (V1.1 8)))), ((ay 9), .inl (K.1, 10, .inl (ar (V1.1 9)))), ((ay 10), .inl (K.1, 10, .inl (ar (V1.1 10)))), ((ay 11), .inl (K.1, 16, .inl (ar (V1.1 11)))), ((ay 3), .inr (2, [.ref (aqt1 0), .ref (aqt1 1), .ref (aqt1 2), .ref (aqt1 3), .ref (aqt1 4), .ref (aqt1 5), .ref (aqt1 6), vZ (Sqt1.2 7), vZ (Sqt1.2 8)])), ((aqt1 0), .inl (K.1, 32, .inl (ar (Sqt1.1 0)))), ((aqt1 1), .inl (K.1, 32, .inl (ar (Sqt1.1 1)))), ((aqt1 2), .inl (K.1, 32, .inl (ar (Sqt1.1 2)))), ((aqt1 3), .inl (K.1, Nqt1, .inl (ar (Sqt1.1 3)))), ((aqt1 4), .inl (K.1, Nqt1, .inl (ar (Sqt1.1 4)))), ((aqt1 5), .inl (K.1, Nqt1, .inl (ar (Sqt1.1 5)))), ((aqt1 6), .inl (K.1, Nqt1, .inl (ar (Sqt1.1 6)))), ((au 1), .inr (4, [.ref (an 0), .ref (an 1), .ref (an 2), .ref (an 3), .ref (an 4), .ref (an 5), .ref (an 6), .ref (an 7), vZ (Ne.2 8)])), ((an 0), .inl (K.1, 16, .inl (ar (Ne.1 0)))), ((an 1), .inl (K.1, 16, .inl (ar (Ne.1 1)))), ((an 2), .inl (K.1, 16, .inl (ar (Ne.1 2)))), ((an 3), .inl (K.1, 16, .inl (ar (Ne.1 3)))), ((an 4), .inl (K.1, 16, .inl (ar (Ne.1 4)))), ((an 5), .inl (K.1, 16, .inl (ar (Ne.1 5)))), ((an 6), .inl (K.1, 100, .inl (ar (Ne.1 6)))), ((an 7), .inl (K.1, 100, .inl (ar (Ne.1 7)))), ((au 0), .inr (5, [.ref (ato 0), .ref (ato 1), vZ (To.2 2), vZ (To.2 3)])), ((ato 0), .inl (K.1, 10, .inl (ar (To.1 0)))), ((ato 1), .inl (K.1, 10, .inl (ar (To.1 1)))), ((au 2), .inr (0, [.ref (ac 0), .ref (ac 1), .ref (ac 2), vZ (Cr.2 3), vZ (Cr.2 4)])), ((ac 0), .inl (K.1, 8, .inl (ar (Cr.1 0)))), ((ac 1), .inl (K.1, 8, .inl (ar (Cr.1 1)))), ((ac 2), .inl (K.1, 8, .inl (ar (Cr.1 2))))]) 63 [(0, .ref h), (1, vZ way), (2, vZ hh)] [] := by
          intro n_63
          induction n_63 with
          | zero => intro hh V1 aqt1 Nqt1 Sqt1 gv gw Cq1 A1 h0 i1 i2 i3 i4 i5 i6 i8 hm_63; exact absurd hm_63 (Nat.not_lt_zero _)
          | succ n_63 ih_63 =>
            intro hh V1 aqt1 Nqt1 Sqt1 gv gw Cq1 A1 h0 i1 i2 i3 i4 i5 i6 i8 hm_63
            have hG1 := lo_rng i1.1
            have hoc := oc_rng hcf i2.1
            have hoff := ab_off i2
            have ha1 := i2.2.1
            have hhr := home_rng hcf i2.1
            have hcr := cars_rng hcf
            have e13 : V1.2 13 = smI (A1.1 2) 0 (Cr.2 3).toNat := i1.2.2.2.2.1.2.2
            have e15 : V1.2 15 = A1.2.1 1 := i1.2.2.2.2.1.2.1
            have haw := i2.2.2.2.2
            have jn_114 : (hh = 200 ∨ F.2 10 < hh ∨ V1.2 13 = Cr.2 4) → Zw zp zl ze zR zs zm zargs zbelow zmeth zc D zA 4 zQ gv gw ([(h, .inr (1, [.ref (a 0), .ref (a 1), .ref (a 2), .ref (a 3), .ref (a 4), vZ (F.2 5), vZ (F.2 6), vZ (F.2 7), vZ (F.2 8), vZ (F.2 9), vZ (F.2 10), vZ (F.2 11)])), ((a 2), .inl (K.1, 10, .inl (ar (F.1 2)))), ((a 3), .inl (K.1, 4, .inl (ar (F.1 3)))), ((a 4), .inl (K.1, 4, .inl (ar (F.1 4)))), ((a 0), .inr (6, [.ref (au 0), .ref (au 1), .ref (au 2), .ref (au 3), .ref (au 5), .ref (au 6), .ref (au 7), .ref (au 8), .ref (au 9), .ref (au 10), .ref (au 11), vZ (U.2 12), vZ (U.2 13), vZ (U.2 14), vZ (U.2 15)])), ((au 5), .inl (K.1, 8, .inl (ar (U.1 5)))), ((au 6), .inl (K.1, 8, .inl (ar (U.1 6)))), ((au 7), .inl (K.1, 8, .inl (ar (U.1 7)))), ((au 8), .inl (K.1, 10, .inl (ar (U.1 8)))), ((au 9), .inl (K.1, 10, .inl (ar (U.1 9)))), ((au 10), .inl (K.1, 10, .inl (ar (U.1 10)))), ((au 11), .inl (K.1, 16, .inl (ar (U.1 11)))), ((au 3), .inr (2, [.ref (aqu 0), .ref (aqu 1), .ref (aqu 2), .ref (aqu 3), .ref (aqu 4), .ref (aqu 5), .ref (aqu 6), vZ (Squ.2 7), vZ (Squ.2 8)])), ((aqu 0), .inl (K.1, 32, .inl (ar (Squ.1 0)))), ((aqu 1), .inl (K.1, 32, .inl (ar (Squ.1 1)))), ((aqu 2), .inl (K.1, 32, .inl (ar (Squ.1 2)))), ((aqu 3), .inl (K.1, Nqu, .inl (ar (Squ.1 3)))), ((aqu 4), .inl (K.1, Nqu, .inl (ar (Squ.1 4)))), ((aqu 5), .inl (K.1, Nqu, .inl (ar (Squ.1 5)))), ((aqu 6), .inl (K.1, Nqu, .inl (ar (Squ.1 6)))), ((a 1), .inr (6, [.ref (au 0), .ref (au 1), .ref (au 2), .ref (ay 3), .ref (ay 5), .ref (ay 6), .ref (ay 7), .ref (ay 8), .ref (ay 9), .ref (ay 10), .ref (ay 11), vZ (V1.2 12), vZ (V1.2 13), vZ (V1.2 14), vZ (V1.2 15)])), ((ay 5), .inl (K.1, 8, .inl (ar (V1.1 5)))), ((ay 6), .inl (K.1, 8, .inl (ar (V1.1 6)))), ((ay 7), .inl (K.1, 8, .inl (ar (V1.1 7)))), ((ay 8), .inl (K.1, 10, .inl (ar (V1.1 8)))), ((ay 9), .inl (K.1, 10, .inl (ar (V1.1 9)))), ((ay 10), .inl (K.1, 10, .inl (ar (V1.1 10)))), ((ay 11), .inl (K.1, 16, .inl (ar (V1.1 11)))), ((ay 3), .inr (2, [.ref (aqt1 0), .ref (aqt1 1), .ref (aqt1 2), .ref (aqt1 3), .ref (aqt1 4), .ref (aqt1 5), .ref (aqt1 6), vZ (Sqt1.2 7), vZ (Sqt1.2 8)])), ((aqt1 0), .inl (K.1, 32, .inl (ar (Sqt1.1 0)))), ((aqt1 1), .inl (K.1, 32, .inl (ar (Sqt1.1 1)))), ((aqt1 2), .inl (K.1, 32, .inl (ar (Sqt1.1 2)))), ((aqt1 3), .inl (K.1, Nqt1, .inl (ar (Sqt1.1 3)))), ((aqt1 4), .inl (K.1, Nqt1, .inl (ar (Sqt1.1 4)))), ((aqt1 5), .inl (K.1, Nqt1, .inl (ar (Sqt1.1 5)))), ((aqt1 6), .inl (K.1, Nqt1, .inl (ar (Sqt1.1 6)))), ((au 1), .inr (4, [.ref (an 0), .ref (an 1), .ref (an 2), .ref (an 3), .ref (an 4), .ref (an 5), .ref (an 6), .ref (an 7), vZ (Ne.2 8)])), ((an 0), .inl (K.1, 16, .inl (ar (Ne.1 0)))), ((an 1), .inl (K.1, 16, .inl (ar (Ne.1 1)))), ((an 2), .inl (K.1, 16, .inl (ar (Ne.1 2)))), ((an 3), .inl (K.1, 16, .inl (ar (Ne.1 3)))), ((an 4), .inl (K.1, 16, .inl (ar (Ne.1 4)))), ((an 5), .inl (K.1, 16, .inl (ar (Ne.1 5)))), ((an 6), .inl (K.1, 100, .inl (ar (Ne.1 6)))), ((an 7), .inl (K.1, 100, .inl (ar (Ne.1 7)))), ((au 0), .inr (5, [.ref (ato 0), .ref (ato 1), vZ (To.2 2), vZ (To.2 3)])), ((ato 0), .inl (K.1, 10, .inl (ar (To.1 0)))), ((ato 1), .inl (K.1, 10, .inl (ar (To.1 1)))), ((au 2), .inr (0, [.ref (ac 0), .ref (ac 1), .ref (ac 2), vZ (Cr.2 3), vZ (Cr.2 4)])), ((ac 0), .inl (K.1, 8, .inl (ar (Cr.1 0)))), ((ac 1), .inl (K.1, 8, .inl (ar (Cr.1 1)))), ((ac 2), .inl (K.1, 8, .inl (ar (Cr.1 2))))]) 114 [(0, .ref h), (1, vZ way), (2, vZ hh)] [] := by
              intro hs
              have hend := try_end (A := pSt Cr A way) hcf i2 i3 hac i1 hcp h0 i5 i8 hs hbl
              have hWr : (pSt Cr A way).2.1 0 = A.2.1 0 := rfl
              rw [hWr] at hend
              have hpe := pEnd_rng (Cr := Cr) (A := aHds Ne Cr (pSt Cr A way) (200 - A.2.1 0).toNat)
              refine z_aload_n ZC 0 dX1_tryWay_114 rfl rfl ?_
              refine z_get ZC inUX1 0 rfl rfl 1 (by decide) uF_X1_25 rfl dX1_tryWay_115 ?_
              refine z_callV ZC 0 (c_X6_areAllHome zl D K (a 1) (upf (upf (upf ay 0 (au 0)) 1 (au 1)) 2 (au 2)) V1 ac Cr (by omega) (by omega)) (gdV uM_X1_125 uI_X6_areAllHome uS_X6_areAllHome uN_X6 uC_X6_areAllHome) (by decide +kernel) rfl ⟨by omega, by omega⟩ ⟨by omega, by omega⟩ (Nat.le_of_ble_eq_true rfl) [20, 21, 22, 23, 24, 25, 26, 27, 48, 49, 50, 51] rfl (by decide) rfl rfl rfl rfl dX1_tryWay_118 (fun r w2 gc_118 gs_118 hp => ?_)
              obtain ⟨b_118, rfl, rfl, rfl, rfl, hb_118⟩ := hp
              refine z_ws (ws2 := [(h, .inr (1, [.ref (a 0), .ref (a 1), .ref (a 2), .ref (a 3), .ref (a 4), vZ (F.2 5), vZ (F.2 6), vZ (F.2 7), vZ (F.2 8), vZ (F.2 9), vZ (F.2 10), vZ (F.2 11)])), ((a 2), .inl (K.1, 10, .inl (ar (F.1 2)))), ((a 3), .inl (K.1, 4, .inl (ar (F.1 3)))), ((a 4), .inl (K.1, 4, .inl (ar (F.1 4)))), ((a 0), .inr (6, [.ref (au 0), .ref (au 1), .ref (au 2), .ref (au 3), .ref (au 5), .ref (au 6), .ref (au 7), .ref (au 8), .ref (au 9), .ref (au 10), .ref (au 11), vZ (U.2 12), vZ (U.2 13), vZ (U.2 14), vZ (U.2 15)])), ((au 5), .inl (K.1, 8, .inl (ar (U.1 5)))), ((au 6), .inl (K.1, 8, .inl (ar (U.1 6)))), ((au 7), .inl (K.1, 8, .inl (ar (U.1 7)))), ((au 8), .inl (K.1, 10, .inl (ar (U.1 8)))), ((au 9), .inl (K.1, 10, .inl (ar (U.1 9)))), ((au 10), .inl (K.1, 10, .inl (ar (U.1 10)))), ((au 11), .inl (K.1, 16, .inl (ar (U.1 11)))), ((au 3), .inr (2, [.ref (aqu 0), .ref (aqu 1), .ref (aqu 2), .ref (aqu 3), .ref (aqu 4), .ref (aqu 5), .ref (aqu 6), vZ (Squ.2 7), vZ (Squ.2 8)])), ((aqu 0), .inl (K.1, 32, .inl (ar (Squ.1 0)))), ((aqu 1), .inl (K.1, 32, .inl (ar (Squ.1 1)))), ((aqu 2), .inl (K.1, 32, .inl (ar (Squ.1 2)))), ((aqu 3), .inl (K.1, Nqu, .inl (ar (Squ.1 3)))), ((aqu 4), .inl (K.1, Nqu, .inl (ar (Squ.1 4)))), ((aqu 5), .inl (K.1, Nqu, .inl (ar (Squ.1 5)))), ((aqu 6), .inl (K.1, Nqu, .inl (ar (Squ.1 6)))), ((a 1), .inr (6, [.ref (au 0), .ref (au 1), .ref (au 2), .ref (ay 3), .ref (ay 5), .ref (ay 6), .ref (ay 7), .ref (ay 8), .ref (ay 9), .ref (ay 10), .ref (ay 11), vZ (V1.2 12), vZ (V1.2 13), vZ (V1.2 14), vZ (V1.2 15)])), ((ay 5), .inl (K.1, 8, .inl (ar (V1.1 5)))), ((ay 6), .inl (K.1, 8, .inl (ar (V1.1 6)))), ((ay 7), .inl (K.1, 8, .inl (ar (V1.1 7)))), ((ay 8), .inl (K.1, 10, .inl (ar (V1.1 8)))), ((ay 9), .inl (K.1, 10, .inl (ar (V1.1 9)))), ((ay 10), .inl (K.1, 10, .inl (ar (V1.1 10)))), ((ay 11), .inl (K.1, 16, .inl (ar (V1.1 11)))), ((ay 3), .inr (2, [.ref (aqt1 0), .ref (aqt1 1), .ref (aqt1 2), .ref (aqt1 3), .ref (aqt1 4), .ref (aqt1 5), .ref (aqt1 6), vZ (Sqt1.2 7), vZ (Sqt1.2 8)])), ((aqt1 0), .inl (K.1, 32, .inl (ar (Sqt1.1 0)))), ((aqt1 1), .inl (K.1, 32, .inl (ar (Sqt1.1 1)))), ((aqt1 2), .inl (K.1, 32, .inl (ar (Sqt1.1 2)))), ((aqt1 3), .inl (K.1, Nqt1, .inl (ar (Sqt1.1 3)))), ((aqt1 4), .inl (K.1, Nqt1, .inl (ar (Sqt1.1 4)))), ((aqt1 5), .inl (K.1, Nqt1, .inl (ar (Sqt1.1 5)))), ((aqt1 6), .inl (K.1, Nqt1, .inl (ar (Sqt1.1 6)))), ((au 1), .inr (4, [.ref (an 0), .ref (an 1), .ref (an 2), .ref (an 3), .ref (an 4), .ref (an 5), .ref (an 6), .ref (an 7), vZ (Ne.2 8)])), ((an 0), .inl (K.1, 16, .inl (ar (Ne.1 0)))), ((an 1), .inl (K.1, 16, .inl (ar (Ne.1 1)))), ((an 2), .inl (K.1, 16, .inl (ar (Ne.1 2)))), ((an 3), .inl (K.1, 16, .inl (ar (Ne.1 3)))), ((an 4), .inl (K.1, 16, .inl (ar (Ne.1 4)))), ((an 5), .inl (K.1, 16, .inl (ar (Ne.1 5)))), ((an 6), .inl (K.1, 100, .inl (ar (Ne.1 6)))), ((an 7), .inl (K.1, 100, .inl (ar (Ne.1 7)))), ((au 0), .inr (5, [.ref (ato 0), .ref (ato 1), vZ (To.2 2), vZ (To.2 3)])), ((ato 0), .inl (K.1, 10, .inl (ar (To.1 0)))), ((ato 1), .inl (K.1, 10, .inl (ar (To.1 1)))), ((au 2), .inr (0, [.ref (ac 0), .ref (ac 1), .ref (ac 2), vZ (Cr.2 3), vZ (Cr.2 4)])), ((ac 0), .inl (K.1, 8, .inl (ar (Cr.1 0)))), ((ac 1), .inl (K.1, 8, .inl (ar (Cr.1 1)))), ((ac 2), .inl (K.1, 8, .inl (ar (Cr.1 2))))]) rfl ?_
              refine z_st (st2 := [vZ b_118]) rfl ?_
              refine z_if_eq ZC 134 dX1_tryWay_121 (by decide) (by omega) (fun c_121 => ?_) (fun c_121 => ?_)
              · skip
                rw [if_neg (show ¬ V1.2 13 = Cr.2 4 by omega)] at hend
                refine z_sipush ZC dX1_tryWay_134 (by decide) ?_
                refine z_istore_n ZC 2 dX1_tryWay_137 rfl (by decide) ?_
                refine z_aload_n ZC 0 dX1_tryWay_138 rfl rfl ?_
                refine z_get ZC inUX1 0 rfl rfl 1 (by decide) uF_X1_25 rfl dX1_tryWay_139 ?_
                refine z_get ZC inUX6 20 rfl rfl 14 (by decide) uF_X1_70 rfl dX1_tryWay_142 ?_
                refine z_aload_n ZC 0 dX1_tryWay_145 rfl rfl ?_
                refine z_get ZC inUX1 0 rfl rfl 0 (by decide) uF_X1_21 rfl dX1_tryWay_146 ?_
                refine z_get ZC inUX6 4 rfl rfl 14 (by decide) uF_X1_70 rfl dX1_tryWay_149 ?_
                refine z_isub ZC dX1_tryWay_152 ?_
                refine z_istore_n ZC 3 dX1_tryWay_153 rfl (by decide) ?_
                refine z_iload_n ZC 2 dX1_tryWay_154 rfl rfl ?_
                refine z_aload_n ZC 0 dX1_tryWay_155 rfl rfl ?_
                refine z_get ZC inUX1 0 rfl rfl 10 (by decide) uF_X1_83 rfl dX1_tryWay_156 ?_
                refine z_icmp_lt ZC 178 dX1_tryWay_159 (by decide) (by omega) (by omega) (fun c_159 => ?_) (fun c_159 => ?_)
                · skip
                  refine z_aload_n ZC 0 dX1_tryWay_178 rfl rfl ?_
                  refine z_iload_n ZC 1 dX1_tryWay_179 rfl rfl ?_
                  refine z_iload_n ZC 2 dX1_tryWay_180 rfl rfl ?_
                  refine z_iload_n ZC 3 dX1_tryWay_181 rfl rfl ?_
                  refine z_callV ZC 3 (c_X1_keepWay zl D K h a F way 200 ((V1.2 15) - (U.2 15)) (by omega) (by omega)) (gdV uM_X1_131 uI_X1_keepWay uS_X1_keepWay uN_X1 uC_X1_keepWay) (by decide +kernel) rfl ⟨by omega, by omega⟩ ⟨by omega, by omega⟩ (Nat.le_of_ble_eq_true rfl) [0, 1, 2, 3] rfl (by decide) rfl rfl rfl rfl dX1_tryWay_182 (fun r w2 gc_182 gs_182 hp => ?_)
                  obtain ⟨Bs_182, rfl, rfl, rfl, rfl, hs_182⟩ := hp
                  refine z_ws (ws2 := [(h, .inr (1, [.ref (a 0), .ref (a 1), .ref (a 2), .ref (a 3), .ref (a 4), vZ (F.2 5), vZ (F.2 6), vZ (F.2 7), vZ (F.2 8), vZ (F.2 9), vZ 200, vZ ((V1.2 15) - (U.2 15))])), ((a 2), .inl (K.1, 10, .inl (ar (F.1 2)))), ((a 3), .inl (K.1, 4, .inl (ar (F.1 3)))), ((a 4), .inl (K.1, 4, .inl (ar Bs_182))), ((a 0), .inr (6, [.ref (au 0), .ref (au 1), .ref (au 2), .ref (au 3), .ref (au 5), .ref (au 6), .ref (au 7), .ref (au 8), .ref (au 9), .ref (au 10), .ref (au 11), vZ (U.2 12), vZ (U.2 13), vZ (U.2 14), vZ (U.2 15)])), ((au 5), .inl (K.1, 8, .inl (ar (U.1 5)))), ((au 6), .inl (K.1, 8, .inl (ar (U.1 6)))), ((au 7), .inl (K.1, 8, .inl (ar (U.1 7)))), ((au 8), .inl (K.1, 10, .inl (ar (U.1 8)))), ((au 9), .inl (K.1, 10, .inl (ar (U.1 9)))), ((au 10), .inl (K.1, 10, .inl (ar (U.1 10)))), ((au 11), .inl (K.1, 16, .inl (ar (U.1 11)))), ((au 3), .inr (2, [.ref (aqu 0), .ref (aqu 1), .ref (aqu 2), .ref (aqu 3), .ref (aqu 4), .ref (aqu 5), .ref (aqu 6), vZ (Squ.2 7), vZ (Squ.2 8)])), ((aqu 0), .inl (K.1, 32, .inl (ar (Squ.1 0)))), ((aqu 1), .inl (K.1, 32, .inl (ar (Squ.1 1)))), ((aqu 2), .inl (K.1, 32, .inl (ar (Squ.1 2)))), ((aqu 3), .inl (K.1, Nqu, .inl (ar (Squ.1 3)))), ((aqu 4), .inl (K.1, Nqu, .inl (ar (Squ.1 4)))), ((aqu 5), .inl (K.1, Nqu, .inl (ar (Squ.1 5)))), ((aqu 6), .inl (K.1, Nqu, .inl (ar (Squ.1 6)))), ((a 1), .inr (6, [.ref (au 0), .ref (au 1), .ref (au 2), .ref (ay 3), .ref (ay 5), .ref (ay 6), .ref (ay 7), .ref (ay 8), .ref (ay 9), .ref (ay 10), .ref (ay 11), vZ (V1.2 12), vZ (V1.2 13), vZ (V1.2 14), vZ (V1.2 15)])), ((ay 5), .inl (K.1, 8, .inl (ar (V1.1 5)))), ((ay 6), .inl (K.1, 8, .inl (ar (V1.1 6)))), ((ay 7), .inl (K.1, 8, .inl (ar (V1.1 7)))), ((ay 8), .inl (K.1, 10, .inl (ar (V1.1 8)))), ((ay 9), .inl (K.1, 10, .inl (ar (V1.1 9)))), ((ay 10), .inl (K.1, 10, .inl (ar (V1.1 10)))), ((ay 11), .inl (K.1, 16, .inl (ar (V1.1 11)))), ((ay 3), .inr (2, [.ref (aqt1 0), .ref (aqt1 1), .ref (aqt1 2), .ref (aqt1 3), .ref (aqt1 4), .ref (aqt1 5), .ref (aqt1 6), vZ (Sqt1.2 7), vZ (Sqt1.2 8)])), ((aqt1 0), .inl (K.1, 32, .inl (ar (Sqt1.1 0)))), ((aqt1 1), .inl (K.1, 32, .inl (ar (Sqt1.1 1)))), ((aqt1 2), .inl (K.1, 32, .inl (ar (Sqt1.1 2)))), ((aqt1 3), .inl (K.1, Nqt1, .inl (ar (Sqt1.1 3)))), ((aqt1 4), .inl (K.1, Nqt1, .inl (ar (Sqt1.1 4)))), ((aqt1 5), .inl (K.1, Nqt1, .inl (ar (Sqt1.1 5)))), ((aqt1 6), .inl (K.1, Nqt1, .inl (ar (Sqt1.1 6)))), ((au 1), .inr (4, [.ref (an 0), .ref (an 1), .ref (an 2), .ref (an 3), .ref (an 4), .ref (an 5), .ref (an 6), .ref (an 7), vZ (Ne.2 8)])), ((an 0), .inl (K.1, 16, .inl (ar (Ne.1 0)))), ((an 1), .inl (K.1, 16, .inl (ar (Ne.1 1)))), ((an 2), .inl (K.1, 16, .inl (ar (Ne.1 2)))), ((an 3), .inl (K.1, 16, .inl (ar (Ne.1 3)))), ((an 4), .inl (K.1, 16, .inl (ar (Ne.1 4)))), ((an 5), .inl (K.1, 16, .inl (ar (Ne.1 5)))), ((an 6), .inl (K.1, 100, .inl (ar (Ne.1 6)))), ((an 7), .inl (K.1, 100, .inl (ar (Ne.1 7)))), ((au 0), .inr (5, [.ref (ato 0), .ref (ato 1), vZ (To.2 2), vZ (To.2 3)])), ((ato 0), .inl (K.1, 10, .inl (ar (To.1 0)))), ((ato 1), .inl (K.1, 10, .inl (ar (To.1 1)))), ((au 2), .inr (0, [.ref (ac 0), .ref (ac 1), .ref (ac 2), vZ (Cr.2 3), vZ (Cr.2 4)])), ((ac 0), .inl (K.1, 8, .inl (ar (Cr.1 0)))), ((ac 1), .inl (K.1, 8, .inl (ar (Cr.1 1)))), ((ac 2), .inl (K.1, 8, .inl (ar (Cr.1 2))))]) rfl ?_
                  refine z_st (st2 := []) rfl ?_
                  refine z_vret ZC ZE dX1_tryWay_185 (by omega) (by omega) (Nat.le_of_ble_eq_true rfl) ⟨((upf F.1 4 Bs_182), (upf (upf F.2 10 200) 11 ((V1.2 15) - (U.2 15)))), V1, aqt1, Nqt1, Sqt1, rfl, rfl, ?_, ?_, ?_, ?_, ?_, ?_⟩
                  · skip
                    left
                    refine ⟨by unfold pEw pWw; omega, ?_, ?_, ?_⟩
                    · show 200 = pEw Ne Cr A way
                      unfold pEw
                      omega
                    · show V1.2 15 - U.2 15 = pWw Ne Cr A way
                      unfold pWw
                      omega
                    · intro i x y
                      rw [← hL.1]
                      exact hs_182 i x (by omega)
                  · skip
                    exact ⟨rfl, rfl, rfl, rfl, rfl, rfl, rfl⟩
                  · skip
                    intro q
                    unfold pEw
                    omega
                  · skip
                    exact ⟨lo_pw i1.1, by omega⟩
                  · skip
                    omega
                  · skip
                    omega
                · skip
                  refine z_iload_n ZC 2 dX1_tryWay_162 rfl rfl ?_
                  refine z_aload_n ZC 0 dX1_tryWay_163 rfl rfl ?_
                  refine z_get ZC inUX1 0 rfl rfl 10 (by decide) uF_X1_83 rfl dX1_tryWay_164 ?_
                  refine z_icmp_ne ZC 185 dX1_tryWay_167 (by decide) (by omega) (by omega) (fun c_167 => ?_) (fun c_167 => ?_)
                  · skip
                    refine z_vret ZC ZE dX1_tryWay_185 (by omega) (by omega) (Nat.le_of_ble_eq_true rfl) ⟨F, V1, aqt1, Nqt1, Sqt1, rfl, rfl, ?_, ?_, ?_, ?_, ?_, ?_⟩
                    · skip
                      right
                      exact ⟨by unfold pEw pWw; omega, rfl, rfl, rfl⟩
                    · skip
                      exact ⟨rfl, rfl, rfl, rfl, rfl, rfl, rfl⟩
                    · skip
                      intro q
                      unfold pEw
                      omega
                    · skip
                      exact ⟨lo_pw i1.1, by omega⟩
                    · skip
                      omega
                    · skip
                      omega
                  · skip
                    refine z_iload_n ZC 3 dX1_tryWay_170 rfl rfl ?_
                    refine z_aload_n ZC 0 dX1_tryWay_171 rfl rfl ?_
                    refine z_get ZC inUX1 0 rfl rfl 11 (by decide) uF_X1_89 rfl dX1_tryWay_172 ?_
                    refine z_icmp_ge ZC 185 dX1_tryWay_175 (by decide) (by omega) (by omega) (fun c_175 => ?_) (fun c_175 => ?_)
                    · skip
                      refine z_vret ZC ZE dX1_tryWay_185 (by omega) (by omega) (Nat.le_of_ble_eq_true rfl) ⟨F, V1, aqt1, Nqt1, Sqt1, rfl, rfl, ?_, ?_, ?_, ?_, ?_, ?_⟩
                      · skip
                        right
                        exact ⟨by unfold pEw pWw; omega, rfl, rfl, rfl⟩
                      · skip
                        exact ⟨rfl, rfl, rfl, rfl, rfl, rfl, rfl⟩
                      · skip
                        intro q
                        unfold pEw
                        omega
                      · skip
                        exact ⟨lo_pw i1.1, by omega⟩
                      · skip
                        omega
                      · skip
                        omega
                    · skip
                      refine z_aload_n ZC 0 dX1_tryWay_178 rfl rfl ?_
                      refine z_iload_n ZC 1 dX1_tryWay_179 rfl rfl ?_
                      refine z_iload_n ZC 2 dX1_tryWay_180 rfl rfl ?_
                      refine z_iload_n ZC 3 dX1_tryWay_181 rfl rfl ?_
                      refine z_callV ZC 3 (c_X1_keepWay zl D K h a F way 200 ((V1.2 15) - (U.2 15)) (by omega) (by omega)) (gdV uM_X1_131 uI_X1_keepWay uS_X1_keepWay uN_X1 uC_X1_keepWay) (by decide +kernel) rfl ⟨by omega, by omega⟩ ⟨by omega, by omega⟩ (Nat.le_of_ble_eq_true rfl) [0, 1, 2, 3] rfl (by decide) rfl rfl rfl rfl dX1_tryWay_182 (fun r w2 gc_182_1 gs_182_1 hp => ?_)
                      obtain ⟨Bs_182_1, rfl, rfl, rfl, rfl, hs_182_1⟩ := hp
                      refine z_ws (ws2 := [(h, .inr (1, [.ref (a 0), .ref (a 1), .ref (a 2), .ref (a 3), .ref (a 4), vZ (F.2 5), vZ (F.2 6), vZ (F.2 7), vZ (F.2 8), vZ (F.2 9), vZ 200, vZ ((V1.2 15) - (U.2 15))])), ((a 2), .inl (K.1, 10, .inl (ar (F.1 2)))), ((a 3), .inl (K.1, 4, .inl (ar (F.1 3)))), ((a 4), .inl (K.1, 4, .inl (ar Bs_182_1))), ((a 0), .inr (6, [.ref (au 0), .ref (au 1), .ref (au 2), .ref (au 3), .ref (au 5), .ref (au 6), .ref (au 7), .ref (au 8), .ref (au 9), .ref (au 10), .ref (au 11), vZ (U.2 12), vZ (U.2 13), vZ (U.2 14), vZ (U.2 15)])), ((au 5), .inl (K.1, 8, .inl (ar (U.1 5)))), ((au 6), .inl (K.1, 8, .inl (ar (U.1 6)))), ((au 7), .inl (K.1, 8, .inl (ar (U.1 7)))), ((au 8), .inl (K.1, 10, .inl (ar (U.1 8)))), ((au 9), .inl (K.1, 10, .inl (ar (U.1 9)))), ((au 10), .inl (K.1, 10, .inl (ar (U.1 10)))), ((au 11), .inl (K.1, 16, .inl (ar (U.1 11)))), ((au 3), .inr (2, [.ref (aqu 0), .ref (aqu 1), .ref (aqu 2), .ref (aqu 3), .ref (aqu 4), .ref (aqu 5), .ref (aqu 6), vZ (Squ.2 7), vZ (Squ.2 8)])), ((aqu 0), .inl (K.1, 32, .inl (ar (Squ.1 0)))), ((aqu 1), .inl (K.1, 32, .inl (ar (Squ.1 1)))), ((aqu 2), .inl (K.1, 32, .inl (ar (Squ.1 2)))), ((aqu 3), .inl (K.1, Nqu, .inl (ar (Squ.1 3)))), ((aqu 4), .inl (K.1, Nqu, .inl (ar (Squ.1 4)))), ((aqu 5), .inl (K.1, Nqu, .inl (ar (Squ.1 5)))), ((aqu 6), .inl (K.1, Nqu, .inl (ar (Squ.1 6)))), ((a 1), .inr (6, [.ref (au 0), .ref (au 1), .ref (au 2), .ref (ay 3), .ref (ay 5), .ref (ay 6), .ref (ay 7), .ref (ay 8), .ref (ay 9), .ref (ay 10), .ref (ay 11), vZ (V1.2 12), vZ (V1.2 13), vZ (V1.2 14), vZ (V1.2 15)])), ((ay 5), .inl (K.1, 8, .inl (ar (V1.1 5)))), ((ay 6), .inl (K.1, 8, .inl (ar (V1.1 6)))), ((ay 7), .inl (K.1, 8, .inl (ar (V1.1 7)))), ((ay 8), .inl (K.1, 10, .inl (ar (V1.1 8)))), ((ay 9), .inl (K.1, 10, .inl (ar (V1.1 9)))), ((ay 10), .inl (K.1, 10, .inl (ar (V1.1 10)))), ((ay 11), .inl (K.1, 16, .inl (ar (V1.1 11)))), ((ay 3), .inr (2, [.ref (aqt1 0), .ref (aqt1 1), .ref (aqt1 2), .ref (aqt1 3), .ref (aqt1 4), .ref (aqt1 5), .ref (aqt1 6), vZ (Sqt1.2 7), vZ (Sqt1.2 8)])), ((aqt1 0), .inl (K.1, 32, .inl (ar (Sqt1.1 0)))), ((aqt1 1), .inl (K.1, 32, .inl (ar (Sqt1.1 1)))), ((aqt1 2), .inl (K.1, 32, .inl (ar (Sqt1.1 2)))), ((aqt1 3), .inl (K.1, Nqt1, .inl (ar (Sqt1.1 3)))), ((aqt1 4), .inl (K.1, Nqt1, .inl (ar (Sqt1.1 4)))), ((aqt1 5), .inl (K.1, Nqt1, .inl (ar (Sqt1.1 5)))), ((aqt1 6), .inl (K.1, Nqt1, .inl (ar (Sqt1.1 6)))), ((au 1), .inr (4, [.ref (an 0), .ref (an 1), .ref (an 2), .ref (an 3), .ref (an 4), .ref (an 5), .ref (an 6), .ref (an 7), vZ (Ne.2 8)])), ((an 0), .inl (K.1, 16, .inl (ar (Ne.1 0)))), ((an 1), .inl (K.1, 16, .inl (ar (Ne.1 1)))), ((an 2), .inl (K.1, 16, .inl (ar (Ne.1 2)))), ((an 3), .inl (K.1, 16, .inl (ar (Ne.1 3)))), ((an 4), .inl (K.1, 16, .inl (ar (Ne.1 4)))), ((an 5), .inl (K.1, 16, .inl (ar (Ne.1 5)))), ((an 6), .inl (K.1, 100, .inl (ar (Ne.1 6)))), ((an 7), .inl (K.1, 100, .inl (ar (Ne.1 7)))), ((au 0), .inr (5, [.ref (ato 0), .ref (ato 1), vZ (To.2 2), vZ (To.2 3)])), ((ato 0), .inl (K.1, 10, .inl (ar (To.1 0)))), ((ato 1), .inl (K.1, 10, .inl (ar (To.1 1)))), ((au 2), .inr (0, [.ref (ac 0), .ref (ac 1), .ref (ac 2), vZ (Cr.2 3), vZ (Cr.2 4)])), ((ac 0), .inl (K.1, 8, .inl (ar (Cr.1 0)))), ((ac 1), .inl (K.1, 8, .inl (ar (Cr.1 1)))), ((ac 2), .inl (K.1, 8, .inl (ar (Cr.1 2))))]) rfl ?_
                      refine z_st (st2 := []) rfl ?_
                      refine z_vret ZC ZE dX1_tryWay_185 (by omega) (by omega) (Nat.le_of_ble_eq_true rfl) ⟨((upf F.1 4 Bs_182_1), (upf (upf F.2 10 200) 11 ((V1.2 15) - (U.2 15)))), V1, aqt1, Nqt1, Sqt1, rfl, rfl, ?_, ?_, ?_, ?_, ?_, ?_⟩
                      · skip
                        left
                        refine ⟨by unfold pEw pWw; omega, ?_, ?_, ?_⟩
                        · show 200 = pEw Ne Cr A way
                          unfold pEw
                          omega
                        · show V1.2 15 - U.2 15 = pWw Ne Cr A way
                          unfold pWw
                          omega
                        · intro i x y
                          rw [← hL.1]
                          exact hs_182_1 i x (by omega)
                      · skip
                        exact ⟨rfl, rfl, rfl, rfl, rfl, rfl, rfl⟩
                      · skip
                        intro q
                        unfold pEw
                        omega
                      · skip
                        exact ⟨lo_pw i1.1, by omega⟩
                      · skip
                        omega
                      · skip
                        omega
              · skip
                rw [if_pos (show V1.2 13 = Cr.2 4 by omega)] at hend
                refine z_aload_n ZC 0 dX1_tryWay_124 rfl rfl ?_
                refine z_get ZC inUX1 0 rfl rfl 1 (by decide) uF_X1_25 rfl dX1_tryWay_125 ?_
                refine z_get ZC inUX6 20 rfl rfl 13 (by decide) uF_X1_128 rfl dX1_tryWay_128 ?_
                refine z_goto ZC 137 dX1_tryWay_131 (by decide) ?_
                refine z_istore_n ZC 2 dX1_tryWay_137 rfl (by decide) ?_
                refine z_aload_n ZC 0 dX1_tryWay_138 rfl rfl ?_
                refine z_get ZC inUX1 0 rfl rfl 1 (by decide) uF_X1_25 rfl dX1_tryWay_139 ?_
                refine z_get ZC inUX6 20 rfl rfl 14 (by decide) uF_X1_70 rfl dX1_tryWay_142 ?_
                refine z_aload_n ZC 0 dX1_tryWay_145 rfl rfl ?_
                refine z_get ZC inUX1 0 rfl rfl 0 (by decide) uF_X1_21 rfl dX1_tryWay_146 ?_
                refine z_get ZC inUX6 4 rfl rfl 14 (by decide) uF_X1_70 rfl dX1_tryWay_149 ?_
                refine z_isub ZC dX1_tryWay_152 ?_
                refine z_istore_n ZC 3 dX1_tryWay_153 rfl (by decide) ?_
                refine z_iload_n ZC 2 dX1_tryWay_154 rfl rfl ?_
                refine z_aload_n ZC 0 dX1_tryWay_155 rfl rfl ?_
                refine z_get ZC inUX1 0 rfl rfl 10 (by decide) uF_X1_83 rfl dX1_tryWay_156 ?_
                refine z_icmp_lt ZC 178 dX1_tryWay_159 (by decide) (by omega) (by omega) (fun c_159 => ?_) (fun c_159 => ?_)
                · skip
                  refine z_aload_n ZC 0 dX1_tryWay_178 rfl rfl ?_
                  refine z_iload_n ZC 1 dX1_tryWay_179 rfl rfl ?_
                  refine z_iload_n ZC 2 dX1_tryWay_180 rfl rfl ?_
                  refine z_iload_n ZC 3 dX1_tryWay_181 rfl rfl ?_
                  refine z_callV ZC 3 (c_X1_keepWay zl D K h a F way (V1.2 14) ((V1.2 15) - (U.2 15)) (by omega) (by omega)) (gdV uM_X1_131 uI_X1_keepWay uS_X1_keepWay uN_X1 uC_X1_keepWay) (by decide +kernel) rfl ⟨by omega, by omega⟩ ⟨by omega, by omega⟩ (Nat.le_of_ble_eq_true rfl) [0, 1, 2, 3] rfl (by decide) rfl rfl rfl rfl dX1_tryWay_182 (fun r w2 gc_182_2 gs_182_2 hp => ?_)
                  obtain ⟨Bs_182_2, rfl, rfl, rfl, rfl, hs_182_2⟩ := hp
                  refine z_ws (ws2 := [(h, .inr (1, [.ref (a 0), .ref (a 1), .ref (a 2), .ref (a 3), .ref (a 4), vZ (F.2 5), vZ (F.2 6), vZ (F.2 7), vZ (F.2 8), vZ (F.2 9), vZ (V1.2 14), vZ ((V1.2 15) - (U.2 15))])), ((a 2), .inl (K.1, 10, .inl (ar (F.1 2)))), ((a 3), .inl (K.1, 4, .inl (ar (F.1 3)))), ((a 4), .inl (K.1, 4, .inl (ar Bs_182_2))), ((a 0), .inr (6, [.ref (au 0), .ref (au 1), .ref (au 2), .ref (au 3), .ref (au 5), .ref (au 6), .ref (au 7), .ref (au 8), .ref (au 9), .ref (au 10), .ref (au 11), vZ (U.2 12), vZ (U.2 13), vZ (U.2 14), vZ (U.2 15)])), ((au 5), .inl (K.1, 8, .inl (ar (U.1 5)))), ((au 6), .inl (K.1, 8, .inl (ar (U.1 6)))), ((au 7), .inl (K.1, 8, .inl (ar (U.1 7)))), ((au 8), .inl (K.1, 10, .inl (ar (U.1 8)))), ((au 9), .inl (K.1, 10, .inl (ar (U.1 9)))), ((au 10), .inl (K.1, 10, .inl (ar (U.1 10)))), ((au 11), .inl (K.1, 16, .inl (ar (U.1 11)))), ((au 3), .inr (2, [.ref (aqu 0), .ref (aqu 1), .ref (aqu 2), .ref (aqu 3), .ref (aqu 4), .ref (aqu 5), .ref (aqu 6), vZ (Squ.2 7), vZ (Squ.2 8)])), ((aqu 0), .inl (K.1, 32, .inl (ar (Squ.1 0)))), ((aqu 1), .inl (K.1, 32, .inl (ar (Squ.1 1)))), ((aqu 2), .inl (K.1, 32, .inl (ar (Squ.1 2)))), ((aqu 3), .inl (K.1, Nqu, .inl (ar (Squ.1 3)))), ((aqu 4), .inl (K.1, Nqu, .inl (ar (Squ.1 4)))), ((aqu 5), .inl (K.1, Nqu, .inl (ar (Squ.1 5)))), ((aqu 6), .inl (K.1, Nqu, .inl (ar (Squ.1 6)))), ((a 1), .inr (6, [.ref (au 0), .ref (au 1), .ref (au 2), .ref (ay 3), .ref (ay 5), .ref (ay 6), .ref (ay 7), .ref (ay 8), .ref (ay 9), .ref (ay 10), .ref (ay 11), vZ (V1.2 12), vZ (V1.2 13), vZ (V1.2 14), vZ (V1.2 15)])), ((ay 5), .inl (K.1, 8, .inl (ar (V1.1 5)))), ((ay 6), .inl (K.1, 8, .inl (ar (V1.1 6)))), ((ay 7), .inl (K.1, 8, .inl (ar (V1.1 7)))), ((ay 8), .inl (K.1, 10, .inl (ar (V1.1 8)))), ((ay 9), .inl (K.1, 10, .inl (ar (V1.1 9)))), ((ay 10), .inl (K.1, 10, .inl (ar (V1.1 10)))), ((ay 11), .inl (K.1, 16, .inl (ar (V1.1 11)))), ((ay 3), .inr (2, [.ref (aqt1 0), .ref (aqt1 1), .ref (aqt1 2), .ref (aqt1 3), .ref (aqt1 4), .ref (aqt1 5), .ref (aqt1 6), vZ (Sqt1.2 7), vZ (Sqt1.2 8)])), ((aqt1 0), .inl (K.1, 32, .inl (ar (Sqt1.1 0)))), ((aqt1 1), .inl (K.1, 32, .inl (ar (Sqt1.1 1)))), ((aqt1 2), .inl (K.1, 32, .inl (ar (Sqt1.1 2)))), ((aqt1 3), .inl (K.1, Nqt1, .inl (ar (Sqt1.1 3)))), ((aqt1 4), .inl (K.1, Nqt1, .inl (ar (Sqt1.1 4)))), ((aqt1 5), .inl (K.1, Nqt1, .inl (ar (Sqt1.1 5)))), ((aqt1 6), .inl (K.1, Nqt1, .inl (ar (Sqt1.1 6)))), ((au 1), .inr (4, [.ref (an 0), .ref (an 1), .ref (an 2), .ref (an 3), .ref (an 4), .ref (an 5), .ref (an 6), .ref (an 7), vZ (Ne.2 8)])), ((an 0), .inl (K.1, 16, .inl (ar (Ne.1 0)))), ((an 1), .inl (K.1, 16, .inl (ar (Ne.1 1)))), ((an 2), .inl (K.1, 16, .inl (ar (Ne.1 2)))), ((an 3), .inl (K.1, 16, .inl (ar (Ne.1 3)))), ((an 4), .inl (K.1, 16, .inl (ar (Ne.1 4)))), ((an 5), .inl (K.1, 16, .inl (ar (Ne.1 5)))), ((an 6), .inl (K.1, 100, .inl (ar (Ne.1 6)))), ((an 7), .inl (K.1, 100, .inl (ar (Ne.1 7)))), ((au 0), .inr (5, [.ref (ato 0), .ref (ato 1), vZ (To.2 2), vZ (To.2 3)])), ((ato 0), .inl (K.1, 10, .inl (ar (To.1 0)))), ((ato 1), .inl (K.1, 10, .inl (ar (To.1 1)))), ((au 2), .inr (0, [.ref (ac 0), .ref (ac 1), .ref (ac 2), vZ (Cr.2 3), vZ (Cr.2 4)])), ((ac 0), .inl (K.1, 8, .inl (ar (Cr.1 0)))), ((ac 1), .inl (K.1, 8, .inl (ar (Cr.1 1)))), ((ac 2), .inl (K.1, 8, .inl (ar (Cr.1 2))))]) rfl ?_
                  refine z_st (st2 := []) rfl ?_
                  refine z_vret ZC ZE dX1_tryWay_185 (by omega) (by omega) (Nat.le_of_ble_eq_true rfl) ⟨((upf F.1 4 Bs_182_2), (upf (upf F.2 10 (V1.2 14)) 11 ((V1.2 15) - (U.2 15)))), V1, aqt1, Nqt1, Sqt1, rfl, rfl, ?_, ?_, ?_, ?_, ?_, ?_⟩
                  · skip
                    left
                    refine ⟨by unfold pEw pWw; omega, ?_, ?_, ?_⟩
                    · show V1.2 14 = pEw Ne Cr A way
                      unfold pEw
                      omega
                    · show V1.2 15 - U.2 15 = pWw Ne Cr A way
                      unfold pWw
                      omega
                    · intro i x y
                      rw [← hL.1]
                      exact hs_182_2 i x (by omega)
                  · skip
                    exact ⟨rfl, rfl, rfl, rfl, rfl, rfl, rfl⟩
                  · skip
                    intro q
                    unfold pEw
                    omega
                  · skip
                    exact ⟨lo_pw i1.1, by omega⟩
                  · skip
                    omega
                  · skip
                    omega
                · skip
                  refine z_iload_n ZC 2 dX1_tryWay_162 rfl rfl ?_
                  refine z_aload_n ZC 0 dX1_tryWay_163 rfl rfl ?_
                  refine z_get ZC inUX1 0 rfl rfl 10 (by decide) uF_X1_83 rfl dX1_tryWay_164 ?_
                  refine z_icmp_ne ZC 185 dX1_tryWay_167 (by decide) (by omega) (by omega) (fun c_167 => ?_) (fun c_167 => ?_)
                  · skip
                    refine z_vret ZC ZE dX1_tryWay_185 (by omega) (by omega) (Nat.le_of_ble_eq_true rfl) ⟨F, V1, aqt1, Nqt1, Sqt1, rfl, rfl, ?_, ?_, ?_, ?_, ?_, ?_⟩
                    · skip
                      right
                      exact ⟨by unfold pEw pWw; omega, rfl, rfl, rfl⟩
                    · skip
                      exact ⟨rfl, rfl, rfl, rfl, rfl, rfl, rfl⟩
                    · skip
                      intro q
                      unfold pEw
                      omega
                    · skip
                      exact ⟨lo_pw i1.1, by omega⟩
                    · skip
                      omega
                    · skip
                      omega
                  · skip
                    refine z_iload_n ZC 3 dX1_tryWay_170 rfl rfl ?_
                    refine z_aload_n ZC 0 dX1_tryWay_171 rfl rfl ?_
                    refine z_get ZC inUX1 0 rfl rfl 11 (by decide) uF_X1_89 rfl dX1_tryWay_172 ?_
                    refine z_icmp_ge ZC 185 dX1_tryWay_175 (by decide) (by omega) (by omega) (fun c_175 => ?_) (fun c_175 => ?_)
                    · skip
                      refine z_vret ZC ZE dX1_tryWay_185 (by omega) (by omega) (Nat.le_of_ble_eq_true rfl) ⟨F, V1, aqt1, Nqt1, Sqt1, rfl, rfl, ?_, ?_, ?_, ?_, ?_, ?_⟩
                      · skip
                        right
                        exact ⟨by unfold pEw pWw; omega, rfl, rfl, rfl⟩
                      · skip
                        exact ⟨rfl, rfl, rfl, rfl, rfl, rfl, rfl⟩
                      · skip
                        intro q
                        unfold pEw
                        omega
                      · skip
                        exact ⟨lo_pw i1.1, by omega⟩
                      · skip
                        omega
                      · skip
                        omega
                    · skip
                      refine z_aload_n ZC 0 dX1_tryWay_178 rfl rfl ?_
                      refine z_iload_n ZC 1 dX1_tryWay_179 rfl rfl ?_
                      refine z_iload_n ZC 2 dX1_tryWay_180 rfl rfl ?_
                      refine z_iload_n ZC 3 dX1_tryWay_181 rfl rfl ?_
                      refine z_callV ZC 3 (c_X1_keepWay zl D K h a F way (V1.2 14) ((V1.2 15) - (U.2 15)) (by omega) (by omega)) (gdV uM_X1_131 uI_X1_keepWay uS_X1_keepWay uN_X1 uC_X1_keepWay) (by decide +kernel) rfl ⟨by omega, by omega⟩ ⟨by omega, by omega⟩ (Nat.le_of_ble_eq_true rfl) [0, 1, 2, 3] rfl (by decide) rfl rfl rfl rfl dX1_tryWay_182 (fun r w2 gc_182_3 gs_182_3 hp => ?_)
                      obtain ⟨Bs_182_3, rfl, rfl, rfl, rfl, hs_182_3⟩ := hp
                      refine z_ws (ws2 := [(h, .inr (1, [.ref (a 0), .ref (a 1), .ref (a 2), .ref (a 3), .ref (a 4), vZ (F.2 5), vZ (F.2 6), vZ (F.2 7), vZ (F.2 8), vZ (F.2 9), vZ (V1.2 14), vZ ((V1.2 15) - (U.2 15))])), ((a 2), .inl (K.1, 10, .inl (ar (F.1 2)))), ((a 3), .inl (K.1, 4, .inl (ar (F.1 3)))), ((a 4), .inl (K.1, 4, .inl (ar Bs_182_3))), ((a 0), .inr (6, [.ref (au 0), .ref (au 1), .ref (au 2), .ref (au 3), .ref (au 5), .ref (au 6), .ref (au 7), .ref (au 8), .ref (au 9), .ref (au 10), .ref (au 11), vZ (U.2 12), vZ (U.2 13), vZ (U.2 14), vZ (U.2 15)])), ((au 5), .inl (K.1, 8, .inl (ar (U.1 5)))), ((au 6), .inl (K.1, 8, .inl (ar (U.1 6)))), ((au 7), .inl (K.1, 8, .inl (ar (U.1 7)))), ((au 8), .inl (K.1, 10, .inl (ar (U.1 8)))), ((au 9), .inl (K.1, 10, .inl (ar (U.1 9)))), ((au 10), .inl (K.1, 10, .inl (ar (U.1 10)))), ((au 11), .inl (K.1, 16, .inl (ar (U.1 11)))), ((au 3), .inr (2, [.ref (aqu 0), .ref (aqu 1), .ref (aqu 2), .ref (aqu 3), .ref (aqu 4), .ref (aqu 5), .ref (aqu 6), vZ (Squ.2 7), vZ (Squ.2 8)])), ((aqu 0), .inl (K.1, 32, .inl (ar (Squ.1 0)))), ((aqu 1), .inl (K.1, 32, .inl (ar (Squ.1 1)))), ((aqu 2), .inl (K.1, 32, .inl (ar (Squ.1 2)))), ((aqu 3), .inl (K.1, Nqu, .inl (ar (Squ.1 3)))), ((aqu 4), .inl (K.1, Nqu, .inl (ar (Squ.1 4)))), ((aqu 5), .inl (K.1, Nqu, .inl (ar (Squ.1 5)))), ((aqu 6), .inl (K.1, Nqu, .inl (ar (Squ.1 6)))), ((a 1), .inr (6, [.ref (au 0), .ref (au 1), .ref (au 2), .ref (ay 3), .ref (ay 5), .ref (ay 6), .ref (ay 7), .ref (ay 8), .ref (ay 9), .ref (ay 10), .ref (ay 11), vZ (V1.2 12), vZ (V1.2 13), vZ (V1.2 14), vZ (V1.2 15)])), ((ay 5), .inl (K.1, 8, .inl (ar (V1.1 5)))), ((ay 6), .inl (K.1, 8, .inl (ar (V1.1 6)))), ((ay 7), .inl (K.1, 8, .inl (ar (V1.1 7)))), ((ay 8), .inl (K.1, 10, .inl (ar (V1.1 8)))), ((ay 9), .inl (K.1, 10, .inl (ar (V1.1 9)))), ((ay 10), .inl (K.1, 10, .inl (ar (V1.1 10)))), ((ay 11), .inl (K.1, 16, .inl (ar (V1.1 11)))), ((ay 3), .inr (2, [.ref (aqt1 0), .ref (aqt1 1), .ref (aqt1 2), .ref (aqt1 3), .ref (aqt1 4), .ref (aqt1 5), .ref (aqt1 6), vZ (Sqt1.2 7), vZ (Sqt1.2 8)])), ((aqt1 0), .inl (K.1, 32, .inl (ar (Sqt1.1 0)))), ((aqt1 1), .inl (K.1, 32, .inl (ar (Sqt1.1 1)))), ((aqt1 2), .inl (K.1, 32, .inl (ar (Sqt1.1 2)))), ((aqt1 3), .inl (K.1, Nqt1, .inl (ar (Sqt1.1 3)))), ((aqt1 4), .inl (K.1, Nqt1, .inl (ar (Sqt1.1 4)))), ((aqt1 5), .inl (K.1, Nqt1, .inl (ar (Sqt1.1 5)))), ((aqt1 6), .inl (K.1, Nqt1, .inl (ar (Sqt1.1 6)))), ((au 1), .inr (4, [.ref (an 0), .ref (an 1), .ref (an 2), .ref (an 3), .ref (an 4), .ref (an 5), .ref (an 6), .ref (an 7), vZ (Ne.2 8)])), ((an 0), .inl (K.1, 16, .inl (ar (Ne.1 0)))), ((an 1), .inl (K.1, 16, .inl (ar (Ne.1 1)))), ((an 2), .inl (K.1, 16, .inl (ar (Ne.1 2)))), ((an 3), .inl (K.1, 16, .inl (ar (Ne.1 3)))), ((an 4), .inl (K.1, 16, .inl (ar (Ne.1 4)))), ((an 5), .inl (K.1, 16, .inl (ar (Ne.1 5)))), ((an 6), .inl (K.1, 100, .inl (ar (Ne.1 6)))), ((an 7), .inl (K.1, 100, .inl (ar (Ne.1 7)))), ((au 0), .inr (5, [.ref (ato 0), .ref (ato 1), vZ (To.2 2), vZ (To.2 3)])), ((ato 0), .inl (K.1, 10, .inl (ar (To.1 0)))), ((ato 1), .inl (K.1, 10, .inl (ar (To.1 1)))), ((au 2), .inr (0, [.ref (ac 0), .ref (ac 1), .ref (ac 2), vZ (Cr.2 3), vZ (Cr.2 4)])), ((ac 0), .inl (K.1, 8, .inl (ar (Cr.1 0)))), ((ac 1), .inl (K.1, 8, .inl (ar (Cr.1 1)))), ((ac 2), .inl (K.1, 8, .inl (ar (Cr.1 2))))]) rfl ?_
                      refine z_st (st2 := []) rfl ?_
                      refine z_vret ZC ZE dX1_tryWay_185 (by omega) (by omega) (Nat.le_of_ble_eq_true rfl) ⟨((upf F.1 4 Bs_182_3), (upf (upf F.2 10 (V1.2 14)) 11 ((V1.2 15) - (U.2 15)))), V1, aqt1, Nqt1, Sqt1, rfl, rfl, ?_, ?_, ?_, ?_, ?_, ?_⟩
                      · skip
                        left
                        refine ⟨by unfold pEw pWw; omega, ?_, ?_, ?_⟩
                        · show V1.2 14 = pEw Ne Cr A way
                          unfold pEw
                          omega
                        · show V1.2 15 - U.2 15 = pWw Ne Cr A way
                          unfold pWw
                          omega
                        · intro i x y
                          rw [← hL.1]
                          exact hs_182_3 i x (by omega)
                      · skip
                        exact ⟨rfl, rfl, rfl, rfl, rfl, rfl, rfl⟩
                      · skip
                        intro q
                        unfold pEw
                        omega
                      · skip
                        exact ⟨lo_pw i1.1, by omega⟩
                      · skip
                        omega
                      · skip
                        omega
            refine z_iload_n ZC 2 dX1_tryWay_63 rfl rfl ?_
            refine z_sipush ZC dX1_tryWay_64 (by decide) ?_
            refine z_icmp_ge ZC 114 dX1_tryWay_67 (by decide) (by omega) (by omega) (fun c_67 => ?_) (fun c_67 => ?_)
            · skip
              refine z_ws (ws2 := [(h, .inr (1, [.ref (a 0), .ref (a 1), .ref (a 2), .ref (a 3), .ref (a 4), vZ (F.2 5), vZ (F.2 6), vZ (F.2 7), vZ (F.2 8), vZ (F.2 9), vZ (F.2 10), vZ (F.2 11)])), ((a 2), .inl (K.1, 10, .inl (ar (F.1 2)))), ((a 3), .inl (K.1, 4, .inl (ar (F.1 3)))), ((a 4), .inl (K.1, 4, .inl (ar (F.1 4)))), ((a 0), .inr (6, [.ref (au 0), .ref (au 1), .ref (au 2), .ref (au 3), .ref (au 5), .ref (au 6), .ref (au 7), .ref (au 8), .ref (au 9), .ref (au 10), .ref (au 11), vZ (U.2 12), vZ (U.2 13), vZ (U.2 14), vZ (U.2 15)])), ((au 5), .inl (K.1, 8, .inl (ar (U.1 5)))), ((au 6), .inl (K.1, 8, .inl (ar (U.1 6)))), ((au 7), .inl (K.1, 8, .inl (ar (U.1 7)))), ((au 8), .inl (K.1, 10, .inl (ar (U.1 8)))), ((au 9), .inl (K.1, 10, .inl (ar (U.1 9)))), ((au 10), .inl (K.1, 10, .inl (ar (U.1 10)))), ((au 11), .inl (K.1, 16, .inl (ar (U.1 11)))), ((au 3), .inr (2, [.ref (aqu 0), .ref (aqu 1), .ref (aqu 2), .ref (aqu 3), .ref (aqu 4), .ref (aqu 5), .ref (aqu 6), vZ (Squ.2 7), vZ (Squ.2 8)])), ((aqu 0), .inl (K.1, 32, .inl (ar (Squ.1 0)))), ((aqu 1), .inl (K.1, 32, .inl (ar (Squ.1 1)))), ((aqu 2), .inl (K.1, 32, .inl (ar (Squ.1 2)))), ((aqu 3), .inl (K.1, Nqu, .inl (ar (Squ.1 3)))), ((aqu 4), .inl (K.1, Nqu, .inl (ar (Squ.1 4)))), ((aqu 5), .inl (K.1, Nqu, .inl (ar (Squ.1 5)))), ((aqu 6), .inl (K.1, Nqu, .inl (ar (Squ.1 6)))), ((a 1), .inr (6, [.ref (au 0), .ref (au 1), .ref (au 2), .ref (ay 3), .ref (ay 5), .ref (ay 6), .ref (ay 7), .ref (ay 8), .ref (ay 9), .ref (ay 10), .ref (ay 11), vZ (V1.2 12), vZ (V1.2 13), vZ (V1.2 14), vZ (V1.2 15)])), ((ay 5), .inl (K.1, 8, .inl (ar (V1.1 5)))), ((ay 6), .inl (K.1, 8, .inl (ar (V1.1 6)))), ((ay 7), .inl (K.1, 8, .inl (ar (V1.1 7)))), ((ay 8), .inl (K.1, 10, .inl (ar (V1.1 8)))), ((ay 9), .inl (K.1, 10, .inl (ar (V1.1 9)))), ((ay 10), .inl (K.1, 10, .inl (ar (V1.1 10)))), ((ay 11), .inl (K.1, 16, .inl (ar (V1.1 11)))), ((ay 3), .inr (2, [.ref (aqt1 0), .ref (aqt1 1), .ref (aqt1 2), .ref (aqt1 3), .ref (aqt1 4), .ref (aqt1 5), .ref (aqt1 6), vZ (Sqt1.2 7), vZ (Sqt1.2 8)])), ((aqt1 0), .inl (K.1, 32, .inl (ar (Sqt1.1 0)))), ((aqt1 1), .inl (K.1, 32, .inl (ar (Sqt1.1 1)))), ((aqt1 2), .inl (K.1, 32, .inl (ar (Sqt1.1 2)))), ((aqt1 3), .inl (K.1, Nqt1, .inl (ar (Sqt1.1 3)))), ((aqt1 4), .inl (K.1, Nqt1, .inl (ar (Sqt1.1 4)))), ((aqt1 5), .inl (K.1, Nqt1, .inl (ar (Sqt1.1 5)))), ((aqt1 6), .inl (K.1, Nqt1, .inl (ar (Sqt1.1 6)))), ((au 1), .inr (4, [.ref (an 0), .ref (an 1), .ref (an 2), .ref (an 3), .ref (an 4), .ref (an 5), .ref (an 6), .ref (an 7), vZ (Ne.2 8)])), ((an 0), .inl (K.1, 16, .inl (ar (Ne.1 0)))), ((an 1), .inl (K.1, 16, .inl (ar (Ne.1 1)))), ((an 2), .inl (K.1, 16, .inl (ar (Ne.1 2)))), ((an 3), .inl (K.1, 16, .inl (ar (Ne.1 3)))), ((an 4), .inl (K.1, 16, .inl (ar (Ne.1 4)))), ((an 5), .inl (K.1, 16, .inl (ar (Ne.1 5)))), ((an 6), .inl (K.1, 100, .inl (ar (Ne.1 6)))), ((an 7), .inl (K.1, 100, .inl (ar (Ne.1 7)))), ((au 0), .inr (5, [.ref (ato 0), .ref (ato 1), vZ (To.2 2), vZ (To.2 3)])), ((ato 0), .inl (K.1, 10, .inl (ar (To.1 0)))), ((ato 1), .inl (K.1, 10, .inl (ar (To.1 1)))), ((au 2), .inr (0, [.ref (ac 0), .ref (ac 1), .ref (ac 2), vZ (Cr.2 3), vZ (Cr.2 4)])), ((ac 0), .inl (K.1, 8, .inl (ar (Cr.1 0)))), ((ac 1), .inl (K.1, 8, .inl (ar (Cr.1 1)))), ((ac 2), .inl (K.1, 8, .inl (ar (Cr.1 2))))]) rfl (z_lv (lv2 := [(0, .ref h), (1, vZ way), (2, vZ hh)]) ⟨rfl, rfl, rfl, trivial⟩ ?_)
              refine jn_114  ?_
              · skip
                omega
            · skip
              refine z_iload_n ZC 2 dX1_tryWay_70 rfl rfl ?_
              refine z_aload_n ZC 0 dX1_tryWay_71 rfl rfl ?_
              refine z_get ZC inUX1 0 rfl rfl 10 (by decide) uF_X1_83 rfl dX1_tryWay_72 ?_
              refine z_icmp_gt ZC 114 dX1_tryWay_75 (by decide) (by omega) (by omega) (fun c_75 => ?_) (fun c_75 => ?_)
              · skip
                refine z_ws (ws2 := [(h, .inr (1, [.ref (a 0), .ref (a 1), .ref (a 2), .ref (a 3), .ref (a 4), vZ (F.2 5), vZ (F.2 6), vZ (F.2 7), vZ (F.2 8), vZ (F.2 9), vZ (F.2 10), vZ (F.2 11)])), ((a 2), .inl (K.1, 10, .inl (ar (F.1 2)))), ((a 3), .inl (K.1, 4, .inl (ar (F.1 3)))), ((a 4), .inl (K.1, 4, .inl (ar (F.1 4)))), ((a 0), .inr (6, [.ref (au 0), .ref (au 1), .ref (au 2), .ref (au 3), .ref (au 5), .ref (au 6), .ref (au 7), .ref (au 8), .ref (au 9), .ref (au 10), .ref (au 11), vZ (U.2 12), vZ (U.2 13), vZ (U.2 14), vZ (U.2 15)])), ((au 5), .inl (K.1, 8, .inl (ar (U.1 5)))), ((au 6), .inl (K.1, 8, .inl (ar (U.1 6)))), ((au 7), .inl (K.1, 8, .inl (ar (U.1 7)))), ((au 8), .inl (K.1, 10, .inl (ar (U.1 8)))), ((au 9), .inl (K.1, 10, .inl (ar (U.1 9)))), ((au 10), .inl (K.1, 10, .inl (ar (U.1 10)))), ((au 11), .inl (K.1, 16, .inl (ar (U.1 11)))), ((au 3), .inr (2, [.ref (aqu 0), .ref (aqu 1), .ref (aqu 2), .ref (aqu 3), .ref (aqu 4), .ref (aqu 5), .ref (aqu 6), vZ (Squ.2 7), vZ (Squ.2 8)])), ((aqu 0), .inl (K.1, 32, .inl (ar (Squ.1 0)))), ((aqu 1), .inl (K.1, 32, .inl (ar (Squ.1 1)))), ((aqu 2), .inl (K.1, 32, .inl (ar (Squ.1 2)))), ((aqu 3), .inl (K.1, Nqu, .inl (ar (Squ.1 3)))), ((aqu 4), .inl (K.1, Nqu, .inl (ar (Squ.1 4)))), ((aqu 5), .inl (K.1, Nqu, .inl (ar (Squ.1 5)))), ((aqu 6), .inl (K.1, Nqu, .inl (ar (Squ.1 6)))), ((a 1), .inr (6, [.ref (au 0), .ref (au 1), .ref (au 2), .ref (ay 3), .ref (ay 5), .ref (ay 6), .ref (ay 7), .ref (ay 8), .ref (ay 9), .ref (ay 10), .ref (ay 11), vZ (V1.2 12), vZ (V1.2 13), vZ (V1.2 14), vZ (V1.2 15)])), ((ay 5), .inl (K.1, 8, .inl (ar (V1.1 5)))), ((ay 6), .inl (K.1, 8, .inl (ar (V1.1 6)))), ((ay 7), .inl (K.1, 8, .inl (ar (V1.1 7)))), ((ay 8), .inl (K.1, 10, .inl (ar (V1.1 8)))), ((ay 9), .inl (K.1, 10, .inl (ar (V1.1 9)))), ((ay 10), .inl (K.1, 10, .inl (ar (V1.1 10)))), ((ay 11), .inl (K.1, 16, .inl (ar (V1.1 11)))), ((ay 3), .inr (2, [.ref (aqt1 0), .ref (aqt1 1), .ref (aqt1 2), .ref (aqt1 3), .ref (aqt1 4), .ref (aqt1 5), .ref (aqt1 6), vZ (Sqt1.2 7), vZ (Sqt1.2 8)])), ((aqt1 0), .inl (K.1, 32, .inl (ar (Sqt1.1 0)))), ((aqt1 1), .inl (K.1, 32, .inl (ar (Sqt1.1 1)))), ((aqt1 2), .inl (K.1, 32, .inl (ar (Sqt1.1 2)))), ((aqt1 3), .inl (K.1, Nqt1, .inl (ar (Sqt1.1 3)))), ((aqt1 4), .inl (K.1, Nqt1, .inl (ar (Sqt1.1 4)))), ((aqt1 5), .inl (K.1, Nqt1, .inl (ar (Sqt1.1 5)))), ((aqt1 6), .inl (K.1, Nqt1, .inl (ar (Sqt1.1 6)))), ((au 1), .inr (4, [.ref (an 0), .ref (an 1), .ref (an 2), .ref (an 3), .ref (an 4), .ref (an 5), .ref (an 6), .ref (an 7), vZ (Ne.2 8)])), ((an 0), .inl (K.1, 16, .inl (ar (Ne.1 0)))), ((an 1), .inl (K.1, 16, .inl (ar (Ne.1 1)))), ((an 2), .inl (K.1, 16, .inl (ar (Ne.1 2)))), ((an 3), .inl (K.1, 16, .inl (ar (Ne.1 3)))), ((an 4), .inl (K.1, 16, .inl (ar (Ne.1 4)))), ((an 5), .inl (K.1, 16, .inl (ar (Ne.1 5)))), ((an 6), .inl (K.1, 100, .inl (ar (Ne.1 6)))), ((an 7), .inl (K.1, 100, .inl (ar (Ne.1 7)))), ((au 0), .inr (5, [.ref (ato 0), .ref (ato 1), vZ (To.2 2), vZ (To.2 3)])), ((ato 0), .inl (K.1, 10, .inl (ar (To.1 0)))), ((ato 1), .inl (K.1, 10, .inl (ar (To.1 1)))), ((au 2), .inr (0, [.ref (ac 0), .ref (ac 1), .ref (ac 2), vZ (Cr.2 3), vZ (Cr.2 4)])), ((ac 0), .inl (K.1, 8, .inl (ar (Cr.1 0)))), ((ac 1), .inl (K.1, 8, .inl (ar (Cr.1 1)))), ((ac 2), .inl (K.1, 8, .inl (ar (Cr.1 2))))]) rfl (z_lv (lv2 := [(0, .ref h), (1, vZ way), (2, vZ hh)]) ⟨rfl, rfl, rfl, trivial⟩ ?_)
                refine jn_114  ?_
                · skip
                  omega
              · skip
                refine z_aload_n ZC 0 dX1_tryWay_78 rfl rfl ?_
                refine z_get ZC inUX1 0 rfl rfl 1 (by decide) uF_X1_25 rfl dX1_tryWay_79 ?_
                refine z_callV ZC 0 (c_X6_areAllHome zl D K (a 1) (upf (upf (upf ay 0 (au 0)) 1 (au 1)) 2 (au 2)) V1 ac Cr (by omega) (by omega)) (gdV uM_X1_125 uI_X6_areAllHome uS_X6_areAllHome uN_X6 uC_X6_areAllHome) (by decide +kernel) rfl ⟨by omega, by omega⟩ ⟨by omega, by omega⟩ (Nat.le_of_ble_eq_true rfl) [20, 21, 22, 23, 24, 25, 26, 27, 48, 49, 50, 51] rfl (by decide) rfl rfl rfl rfl dX1_tryWay_82 (fun r w2 gc_82 gs_82 hp => ?_)
                obtain ⟨b_82, rfl, rfl, rfl, rfl, hb_82⟩ := hp
                refine z_ws (ws2 := [(h, .inr (1, [.ref (a 0), .ref (a 1), .ref (a 2), .ref (a 3), .ref (a 4), vZ (F.2 5), vZ (F.2 6), vZ (F.2 7), vZ (F.2 8), vZ (F.2 9), vZ (F.2 10), vZ (F.2 11)])), ((a 2), .inl (K.1, 10, .inl (ar (F.1 2)))), ((a 3), .inl (K.1, 4, .inl (ar (F.1 3)))), ((a 4), .inl (K.1, 4, .inl (ar (F.1 4)))), ((a 0), .inr (6, [.ref (au 0), .ref (au 1), .ref (au 2), .ref (au 3), .ref (au 5), .ref (au 6), .ref (au 7), .ref (au 8), .ref (au 9), .ref (au 10), .ref (au 11), vZ (U.2 12), vZ (U.2 13), vZ (U.2 14), vZ (U.2 15)])), ((au 5), .inl (K.1, 8, .inl (ar (U.1 5)))), ((au 6), .inl (K.1, 8, .inl (ar (U.1 6)))), ((au 7), .inl (K.1, 8, .inl (ar (U.1 7)))), ((au 8), .inl (K.1, 10, .inl (ar (U.1 8)))), ((au 9), .inl (K.1, 10, .inl (ar (U.1 9)))), ((au 10), .inl (K.1, 10, .inl (ar (U.1 10)))), ((au 11), .inl (K.1, 16, .inl (ar (U.1 11)))), ((au 3), .inr (2, [.ref (aqu 0), .ref (aqu 1), .ref (aqu 2), .ref (aqu 3), .ref (aqu 4), .ref (aqu 5), .ref (aqu 6), vZ (Squ.2 7), vZ (Squ.2 8)])), ((aqu 0), .inl (K.1, 32, .inl (ar (Squ.1 0)))), ((aqu 1), .inl (K.1, 32, .inl (ar (Squ.1 1)))), ((aqu 2), .inl (K.1, 32, .inl (ar (Squ.1 2)))), ((aqu 3), .inl (K.1, Nqu, .inl (ar (Squ.1 3)))), ((aqu 4), .inl (K.1, Nqu, .inl (ar (Squ.1 4)))), ((aqu 5), .inl (K.1, Nqu, .inl (ar (Squ.1 5)))), ((aqu 6), .inl (K.1, Nqu, .inl (ar (Squ.1 6)))), ((a 1), .inr (6, [.ref (au 0), .ref (au 1), .ref (au 2), .ref (ay 3), .ref (ay 5), .ref (ay 6), .ref (ay 7), .ref (ay 8), .ref (ay 9), .ref (ay 10), .ref (ay 11), vZ (V1.2 12), vZ (V1.2 13), vZ (V1.2 14), vZ (V1.2 15)])), ((ay 5), .inl (K.1, 8, .inl (ar (V1.1 5)))), ((ay 6), .inl (K.1, 8, .inl (ar (V1.1 6)))), ((ay 7), .inl (K.1, 8, .inl (ar (V1.1 7)))), ((ay 8), .inl (K.1, 10, .inl (ar (V1.1 8)))), ((ay 9), .inl (K.1, 10, .inl (ar (V1.1 9)))), ((ay 10), .inl (K.1, 10, .inl (ar (V1.1 10)))), ((ay 11), .inl (K.1, 16, .inl (ar (V1.1 11)))), ((ay 3), .inr (2, [.ref (aqt1 0), .ref (aqt1 1), .ref (aqt1 2), .ref (aqt1 3), .ref (aqt1 4), .ref (aqt1 5), .ref (aqt1 6), vZ (Sqt1.2 7), vZ (Sqt1.2 8)])), ((aqt1 0), .inl (K.1, 32, .inl (ar (Sqt1.1 0)))), ((aqt1 1), .inl (K.1, 32, .inl (ar (Sqt1.1 1)))), ((aqt1 2), .inl (K.1, 32, .inl (ar (Sqt1.1 2)))), ((aqt1 3), .inl (K.1, Nqt1, .inl (ar (Sqt1.1 3)))), ((aqt1 4), .inl (K.1, Nqt1, .inl (ar (Sqt1.1 4)))), ((aqt1 5), .inl (K.1, Nqt1, .inl (ar (Sqt1.1 5)))), ((aqt1 6), .inl (K.1, Nqt1, .inl (ar (Sqt1.1 6)))), ((au 1), .inr (4, [.ref (an 0), .ref (an 1), .ref (an 2), .ref (an 3), .ref (an 4), .ref (an 5), .ref (an 6), .ref (an 7), vZ (Ne.2 8)])), ((an 0), .inl (K.1, 16, .inl (ar (Ne.1 0)))), ((an 1), .inl (K.1, 16, .inl (ar (Ne.1 1)))), ((an 2), .inl (K.1, 16, .inl (ar (Ne.1 2)))), ((an 3), .inl (K.1, 16, .inl (ar (Ne.1 3)))), ((an 4), .inl (K.1, 16, .inl (ar (Ne.1 4)))), ((an 5), .inl (K.1, 16, .inl (ar (Ne.1 5)))), ((an 6), .inl (K.1, 100, .inl (ar (Ne.1 6)))), ((an 7), .inl (K.1, 100, .inl (ar (Ne.1 7)))), ((au 0), .inr (5, [.ref (ato 0), .ref (ato 1), vZ (To.2 2), vZ (To.2 3)])), ((ato 0), .inl (K.1, 10, .inl (ar (To.1 0)))), ((ato 1), .inl (K.1, 10, .inl (ar (To.1 1)))), ((au 2), .inr (0, [.ref (ac 0), .ref (ac 1), .ref (ac 2), vZ (Cr.2 3), vZ (Cr.2 4)])), ((ac 0), .inl (K.1, 8, .inl (ar (Cr.1 0)))), ((ac 1), .inl (K.1, 8, .inl (ar (Cr.1 1)))), ((ac 2), .inl (K.1, 8, .inl (ar (Cr.1 2))))]) rfl ?_
                refine z_st (st2 := [vZ b_82]) rfl ?_
                refine z_if_ne ZC 114 dX1_tryWay_85 (by decide) (by omega) (fun c_85 => ?_) (fun c_85 => ?_)
                · skip
                  refine z_ws (ws2 := [(h, .inr (1, [.ref (a 0), .ref (a 1), .ref (a 2), .ref (a 3), .ref (a 4), vZ (F.2 5), vZ (F.2 6), vZ (F.2 7), vZ (F.2 8), vZ (F.2 9), vZ (F.2 10), vZ (F.2 11)])), ((a 2), .inl (K.1, 10, .inl (ar (F.1 2)))), ((a 3), .inl (K.1, 4, .inl (ar (F.1 3)))), ((a 4), .inl (K.1, 4, .inl (ar (F.1 4)))), ((a 0), .inr (6, [.ref (au 0), .ref (au 1), .ref (au 2), .ref (au 3), .ref (au 5), .ref (au 6), .ref (au 7), .ref (au 8), .ref (au 9), .ref (au 10), .ref (au 11), vZ (U.2 12), vZ (U.2 13), vZ (U.2 14), vZ (U.2 15)])), ((au 5), .inl (K.1, 8, .inl (ar (U.1 5)))), ((au 6), .inl (K.1, 8, .inl (ar (U.1 6)))), ((au 7), .inl (K.1, 8, .inl (ar (U.1 7)))), ((au 8), .inl (K.1, 10, .inl (ar (U.1 8)))), ((au 9), .inl (K.1, 10, .inl (ar (U.1 9)))), ((au 10), .inl (K.1, 10, .inl (ar (U.1 10)))), ((au 11), .inl (K.1, 16, .inl (ar (U.1 11)))), ((au 3), .inr (2, [.ref (aqu 0), .ref (aqu 1), .ref (aqu 2), .ref (aqu 3), .ref (aqu 4), .ref (aqu 5), .ref (aqu 6), vZ (Squ.2 7), vZ (Squ.2 8)])), ((aqu 0), .inl (K.1, 32, .inl (ar (Squ.1 0)))), ((aqu 1), .inl (K.1, 32, .inl (ar (Squ.1 1)))), ((aqu 2), .inl (K.1, 32, .inl (ar (Squ.1 2)))), ((aqu 3), .inl (K.1, Nqu, .inl (ar (Squ.1 3)))), ((aqu 4), .inl (K.1, Nqu, .inl (ar (Squ.1 4)))), ((aqu 5), .inl (K.1, Nqu, .inl (ar (Squ.1 5)))), ((aqu 6), .inl (K.1, Nqu, .inl (ar (Squ.1 6)))), ((a 1), .inr (6, [.ref (au 0), .ref (au 1), .ref (au 2), .ref (ay 3), .ref (ay 5), .ref (ay 6), .ref (ay 7), .ref (ay 8), .ref (ay 9), .ref (ay 10), .ref (ay 11), vZ (V1.2 12), vZ (V1.2 13), vZ (V1.2 14), vZ (V1.2 15)])), ((ay 5), .inl (K.1, 8, .inl (ar (V1.1 5)))), ((ay 6), .inl (K.1, 8, .inl (ar (V1.1 6)))), ((ay 7), .inl (K.1, 8, .inl (ar (V1.1 7)))), ((ay 8), .inl (K.1, 10, .inl (ar (V1.1 8)))), ((ay 9), .inl (K.1, 10, .inl (ar (V1.1 9)))), ((ay 10), .inl (K.1, 10, .inl (ar (V1.1 10)))), ((ay 11), .inl (K.1, 16, .inl (ar (V1.1 11)))), ((ay 3), .inr (2, [.ref (aqt1 0), .ref (aqt1 1), .ref (aqt1 2), .ref (aqt1 3), .ref (aqt1 4), .ref (aqt1 5), .ref (aqt1 6), vZ (Sqt1.2 7), vZ (Sqt1.2 8)])), ((aqt1 0), .inl (K.1, 32, .inl (ar (Sqt1.1 0)))), ((aqt1 1), .inl (K.1, 32, .inl (ar (Sqt1.1 1)))), ((aqt1 2), .inl (K.1, 32, .inl (ar (Sqt1.1 2)))), ((aqt1 3), .inl (K.1, Nqt1, .inl (ar (Sqt1.1 3)))), ((aqt1 4), .inl (K.1, Nqt1, .inl (ar (Sqt1.1 4)))), ((aqt1 5), .inl (K.1, Nqt1, .inl (ar (Sqt1.1 5)))), ((aqt1 6), .inl (K.1, Nqt1, .inl (ar (Sqt1.1 6)))), ((au 1), .inr (4, [.ref (an 0), .ref (an 1), .ref (an 2), .ref (an 3), .ref (an 4), .ref (an 5), .ref (an 6), .ref (an 7), vZ (Ne.2 8)])), ((an 0), .inl (K.1, 16, .inl (ar (Ne.1 0)))), ((an 1), .inl (K.1, 16, .inl (ar (Ne.1 1)))), ((an 2), .inl (K.1, 16, .inl (ar (Ne.1 2)))), ((an 3), .inl (K.1, 16, .inl (ar (Ne.1 3)))), ((an 4), .inl (K.1, 16, .inl (ar (Ne.1 4)))), ((an 5), .inl (K.1, 16, .inl (ar (Ne.1 5)))), ((an 6), .inl (K.1, 100, .inl (ar (Ne.1 6)))), ((an 7), .inl (K.1, 100, .inl (ar (Ne.1 7)))), ((au 0), .inr (5, [.ref (ato 0), .ref (ato 1), vZ (To.2 2), vZ (To.2 3)])), ((ato 0), .inl (K.1, 10, .inl (ar (To.1 0)))), ((ato 1), .inl (K.1, 10, .inl (ar (To.1 1)))), ((au 2), .inr (0, [.ref (ac 0), .ref (ac 1), .ref (ac 2), vZ (Cr.2 3), vZ (Cr.2 4)])), ((ac 0), .inl (K.1, 8, .inl (ar (Cr.1 0)))), ((ac 1), .inl (K.1, 8, .inl (ar (Cr.1 1)))), ((ac 2), .inl (K.1, 8, .inl (ar (Cr.1 2))))]) rfl (z_lv (lv2 := [(0, .ref h), (1, vZ way), (2, vZ hh)]) ⟨rfl, rfl, rfl, trivial⟩ ?_)
                  refine jn_114  ?_
                  · skip
                    omega
                · skip
                  refine z_aload_n ZC 0 dX1_tryWay_88 rfl rfl ?_
                  refine z_get ZC inUX1 0 rfl rfl 1 (by decide) uF_X1_25 rfl dX1_tryWay_89 ?_
                  refine z_callV ZC 0 (c_X6_driveAnHour zl D K (a 1) (upf (upf (upf ay 0 (au 0)) 1 (au 1)) 2 (au 2)) V1 aqt1 Nqt1 Sqt1 an Ne ac Cr B ((oc Cr A1 + 16 * A1.2.1 0).toNat) Cq1 A1 (hcf) (i2.1) (i1) (i2.2.1) (by omega) (hoff) (fun c h1 h2 => (i2.2.2.1 c h1 h2).1)) (gdV uM_X1_54 uI_X6_driveAnHour uS_X6_driveAnHour uN_X6 uC_X6_driveAnHour) (by decide +kernel) rfl ⟨by omega, by omega⟩ ⟨by omega, by omega⟩ (Nat.le_of_ble_eq_true rfl) [20, 21, 22, 23, 24, 25, 26, 27, 28, 29, 30, 31, 32, 33, 34, 35, 36, 37, 38, 39, 40, 41, 42, 43, 44, 48, 49, 50, 51] rfl (by decide) rfl rfl rfl rfl dX1_tryWay_92 (fun r w2 gc_92 gs_92 hp => ?_)
                  obtain ⟨T2_92, aq2_92, Nq2_92, Sq2_92, Cq2_92, rfl, rfl, hT2_92, hok2_92, hgone_92, hmp2_92, hNq_92, hgc_92, hgs_92⟩ := hp
                  refine z_ws (ws2 := [(h, .inr (1, [.ref (a 0), .ref (a 1), .ref (a 2), .ref (a 3), .ref (a 4), vZ (F.2 5), vZ (F.2 6), vZ (F.2 7), vZ (F.2 8), vZ (F.2 9), vZ (F.2 10), vZ (F.2 11)])), ((a 2), .inl (K.1, 10, .inl (ar (F.1 2)))), ((a 3), .inl (K.1, 4, .inl (ar (F.1 3)))), ((a 4), .inl (K.1, 4, .inl (ar (F.1 4)))), ((a 0), .inr (6, [.ref (au 0), .ref (au 1), .ref (au 2), .ref (au 3), .ref (au 5), .ref (au 6), .ref (au 7), .ref (au 8), .ref (au 9), .ref (au 10), .ref (au 11), vZ (U.2 12), vZ (U.2 13), vZ (U.2 14), vZ (U.2 15)])), ((au 5), .inl (K.1, 8, .inl (ar (U.1 5)))), ((au 6), .inl (K.1, 8, .inl (ar (U.1 6)))), ((au 7), .inl (K.1, 8, .inl (ar (U.1 7)))), ((au 8), .inl (K.1, 10, .inl (ar (U.1 8)))), ((au 9), .inl (K.1, 10, .inl (ar (U.1 9)))), ((au 10), .inl (K.1, 10, .inl (ar (U.1 10)))), ((au 11), .inl (K.1, 16, .inl (ar (U.1 11)))), ((au 3), .inr (2, [.ref (aqu 0), .ref (aqu 1), .ref (aqu 2), .ref (aqu 3), .ref (aqu 4), .ref (aqu 5), .ref (aqu 6), vZ (Squ.2 7), vZ (Squ.2 8)])), ((aqu 0), .inl (K.1, 32, .inl (ar (Squ.1 0)))), ((aqu 1), .inl (K.1, 32, .inl (ar (Squ.1 1)))), ((aqu 2), .inl (K.1, 32, .inl (ar (Squ.1 2)))), ((aqu 3), .inl (K.1, Nqu, .inl (ar (Squ.1 3)))), ((aqu 4), .inl (K.1, Nqu, .inl (ar (Squ.1 4)))), ((aqu 5), .inl (K.1, Nqu, .inl (ar (Squ.1 5)))), ((aqu 6), .inl (K.1, Nqu, .inl (ar (Squ.1 6)))), ((a 1), .inr (6, [.ref (au 0), .ref (au 1), .ref (au 2), .ref (ay 3), .ref (ay 5), .ref (ay 6), .ref (ay 7), .ref (ay 8), .ref (ay 9), .ref (ay 10), .ref (ay 11), vZ (T2_92.2 12), vZ (T2_92.2 13), vZ (T2_92.2 14), vZ (T2_92.2 15)])), ((ay 5), .inl (K.1, 8, .inl (ar (T2_92.1 5)))), ((ay 6), .inl (K.1, 8, .inl (ar (T2_92.1 6)))), ((ay 7), .inl (K.1, 8, .inl (ar (T2_92.1 7)))), ((ay 8), .inl (K.1, 10, .inl (ar (T2_92.1 8)))), ((ay 9), .inl (K.1, 10, .inl (ar (T2_92.1 9)))), ((ay 10), .inl (K.1, 10, .inl (ar (T2_92.1 10)))), ((ay 11), .inl (K.1, 16, .inl (ar (T2_92.1 11)))), ((ay 3), .inr (2, [.ref (aq2_92 0), .ref (aq2_92 1), .ref (aq2_92 2), .ref (aq2_92 3), .ref (aq2_92 4), .ref (aq2_92 5), .ref (aq2_92 6), vZ (Sq2_92.2 7), vZ (Sq2_92.2 8)])), ((aq2_92 0), .inl (K.1, 32, .inl (ar (Sq2_92.1 0)))), ((aq2_92 1), .inl (K.1, 32, .inl (ar (Sq2_92.1 1)))), ((aq2_92 2), .inl (K.1, 32, .inl (ar (Sq2_92.1 2)))), ((aq2_92 3), .inl (K.1, Nq2_92, .inl (ar (Sq2_92.1 3)))), ((aq2_92 4), .inl (K.1, Nq2_92, .inl (ar (Sq2_92.1 4)))), ((aq2_92 5), .inl (K.1, Nq2_92, .inl (ar (Sq2_92.1 5)))), ((aq2_92 6), .inl (K.1, Nq2_92, .inl (ar (Sq2_92.1 6)))), ((au 1), .inr (4, [.ref (an 0), .ref (an 1), .ref (an 2), .ref (an 3), .ref (an 4), .ref (an 5), .ref (an 6), .ref (an 7), vZ (Ne.2 8)])), ((an 0), .inl (K.1, 16, .inl (ar (Ne.1 0)))), ((an 1), .inl (K.1, 16, .inl (ar (Ne.1 1)))), ((an 2), .inl (K.1, 16, .inl (ar (Ne.1 2)))), ((an 3), .inl (K.1, 16, .inl (ar (Ne.1 3)))), ((an 4), .inl (K.1, 16, .inl (ar (Ne.1 4)))), ((an 5), .inl (K.1, 16, .inl (ar (Ne.1 5)))), ((an 6), .inl (K.1, 100, .inl (ar (Ne.1 6)))), ((an 7), .inl (K.1, 100, .inl (ar (Ne.1 7)))), ((au 0), .inr (5, [.ref (ato 0), .ref (ato 1), vZ (To.2 2), vZ (To.2 3)])), ((ato 0), .inl (K.1, 10, .inl (ar (To.1 0)))), ((ato 1), .inl (K.1, 10, .inl (ar (To.1 1)))), ((au 2), .inr (0, [.ref (ac 0), .ref (ac 1), .ref (ac 2), vZ (Cr.2 3), vZ (Cr.2 4)])), ((ac 0), .inl (K.1, 8, .inl (ar (Cr.1 0)))), ((ac 1), .inl (K.1, 8, .inl (ar (Cr.1 1)))), ((ac 2), .inl (K.1, 8, .inl (ar (Cr.1 2))))]) rfl ?_
                  refine z_st (st2 := []) rfl ?_
                  refine z_aload_n ZC 0 dX1_tryWay_95 rfl rfl ?_
                  refine z_get ZC inUX1 0 rfl rfl 1 (by decide) uF_X1_25 rfl dX1_tryWay_96 ?_
                  refine z_dup ZC dX1_tryWay_99 rfl ?_
                  refine z_get ZC inUX6 20 rfl rfl 11 (by decide) uF_X1_39 rfl dX1_tryWay_100 ?_
                  refine z_iconst ZC dX1_tryWay_103 ?_
                  refine z_iadd ZC dX1_tryWay_104 ?_
                  refine z_put ZC inUX6 tyX6_ok nmX6 20 rfl rfl 11 (by decide) uF_X1_39 rfl (rfl) (rfl) (Nat.le_of_ble_eq_true rfl) dX1_tryWay_105 ?_
                  refine z_iinc ZC dX1_tryWay_108 rfl (by decide) ?_
                  refine z_goto ZC 63 dX1_tryWay_111 (by decide) ?_
                  refine z_ws (ws2 := [(h, .inr (1, [.ref (a 0), .ref (a 1), .ref (a 2), .ref (a 3), .ref (a 4), vZ (F.2 5), vZ (F.2 6), vZ (F.2 7), vZ (F.2 8), vZ (F.2 9), vZ (F.2 10), vZ (F.2 11)])), ((a 2), .inl (K.1, 10, .inl (ar (F.1 2)))), ((a 3), .inl (K.1, 4, .inl (ar (F.1 3)))), ((a 4), .inl (K.1, 4, .inl (ar (F.1 4)))), ((a 0), .inr (6, [.ref (au 0), .ref (au 1), .ref (au 2), .ref (au 3), .ref (au 5), .ref (au 6), .ref (au 7), .ref (au 8), .ref (au 9), .ref (au 10), .ref (au 11), vZ (U.2 12), vZ (U.2 13), vZ (U.2 14), vZ (U.2 15)])), ((au 5), .inl (K.1, 8, .inl (ar (U.1 5)))), ((au 6), .inl (K.1, 8, .inl (ar (U.1 6)))), ((au 7), .inl (K.1, 8, .inl (ar (U.1 7)))), ((au 8), .inl (K.1, 10, .inl (ar (U.1 8)))), ((au 9), .inl (K.1, 10, .inl (ar (U.1 9)))), ((au 10), .inl (K.1, 10, .inl (ar (U.1 10)))), ((au 11), .inl (K.1, 16, .inl (ar (U.1 11)))), ((au 3), .inr (2, [.ref (aqu 0), .ref (aqu 1), .ref (aqu 2), .ref (aqu 3), .ref (aqu 4), .ref (aqu 5), .ref (aqu 6), vZ (Squ.2 7), vZ (Squ.2 8)])), ((aqu 0), .inl (K.1, 32, .inl (ar (Squ.1 0)))), ((aqu 1), .inl (K.1, 32, .inl (ar (Squ.1 1)))), ((aqu 2), .inl (K.1, 32, .inl (ar (Squ.1 2)))), ((aqu 3), .inl (K.1, Nqu, .inl (ar (Squ.1 3)))), ((aqu 4), .inl (K.1, Nqu, .inl (ar (Squ.1 4)))), ((aqu 5), .inl (K.1, Nqu, .inl (ar (Squ.1 5)))), ((aqu 6), .inl (K.1, Nqu, .inl (ar (Squ.1 6)))), ((a 1), .inr (6, [.ref (au 0), .ref (au 1), .ref (au 2), .ref (ay 3), .ref (ay 5), .ref (ay 6), .ref (ay 7), .ref (ay 8), .ref (ay 9), .ref (ay 10), .ref (ay 11), vZ ((T2_92.2 12) + 1), vZ (T2_92.2 13), vZ (T2_92.2 14), vZ (T2_92.2 15)])), ((ay 5), .inl (K.1, 8, .inl (ar (T2_92.1 5)))), ((ay 6), .inl (K.1, 8, .inl (ar (T2_92.1 6)))), ((ay 7), .inl (K.1, 8, .inl (ar (T2_92.1 7)))), ((ay 8), .inl (K.1, 10, .inl (ar (T2_92.1 8)))), ((ay 9), .inl (K.1, 10, .inl (ar (T2_92.1 9)))), ((ay 10), .inl (K.1, 10, .inl (ar (T2_92.1 10)))), ((ay 11), .inl (K.1, 16, .inl (ar (T2_92.1 11)))), ((ay 3), .inr (2, [.ref (aq2_92 0), .ref (aq2_92 1), .ref (aq2_92 2), .ref (aq2_92 3), .ref (aq2_92 4), .ref (aq2_92 5), .ref (aq2_92 6), vZ (Sq2_92.2 7), vZ (Sq2_92.2 8)])), ((aq2_92 0), .inl (K.1, 32, .inl (ar (Sq2_92.1 0)))), ((aq2_92 1), .inl (K.1, 32, .inl (ar (Sq2_92.1 1)))), ((aq2_92 2), .inl (K.1, 32, .inl (ar (Sq2_92.1 2)))), ((aq2_92 3), .inl (K.1, Nq2_92, .inl (ar (Sq2_92.1 3)))), ((aq2_92 4), .inl (K.1, Nq2_92, .inl (ar (Sq2_92.1 4)))), ((aq2_92 5), .inl (K.1, Nq2_92, .inl (ar (Sq2_92.1 5)))), ((aq2_92 6), .inl (K.1, Nq2_92, .inl (ar (Sq2_92.1 6)))), ((au 1), .inr (4, [.ref (an 0), .ref (an 1), .ref (an 2), .ref (an 3), .ref (an 4), .ref (an 5), .ref (an 6), .ref (an 7), vZ (Ne.2 8)])), ((an 0), .inl (K.1, 16, .inl (ar (Ne.1 0)))), ((an 1), .inl (K.1, 16, .inl (ar (Ne.1 1)))), ((an 2), .inl (K.1, 16, .inl (ar (Ne.1 2)))), ((an 3), .inl (K.1, 16, .inl (ar (Ne.1 3)))), ((an 4), .inl (K.1, 16, .inl (ar (Ne.1 4)))), ((an 5), .inl (K.1, 16, .inl (ar (Ne.1 5)))), ((an 6), .inl (K.1, 100, .inl (ar (Ne.1 6)))), ((an 7), .inl (K.1, 100, .inl (ar (Ne.1 7)))), ((au 0), .inr (5, [.ref (ato 0), .ref (ato 1), vZ (To.2 2), vZ (To.2 3)])), ((ato 0), .inl (K.1, 10, .inl (ar (To.1 0)))), ((ato 1), .inl (K.1, 10, .inl (ar (To.1 1)))), ((au 2), .inr (0, [.ref (ac 0), .ref (ac 1), .ref (ac 2), vZ (Cr.2 3), vZ (Cr.2 4)])), ((ac 0), .inl (K.1, 8, .inl (ar (Cr.1 0)))), ((ac 1), .inl (K.1, 8, .inl (ar (Cr.1 1)))), ((ac 2), .inl (K.1, 8, .inl (ar (Cr.1 2))))]) rfl (z_lv (lv2 := [(0, .ref h), (1, vZ way), (2, vZ (hh + 1))]) ⟨rfl, rfl, rfl, trivial⟩ ?_)
                  refine ih_63 (hh + 1) (T2_92.1, (upf T2_92.2 12 ((T2_92.2 12) + 1))) aq2_92 Nq2_92 Sq2_92 (gv + 0 + gc_92) (gw + 0 + gs_92) Cq2_92 (aHd Ne Cr A1) ?_ ?_ ?_ ?_ ?_ ?_ ?_ ?_ (dec_lt hm_63 c_67)
                  · skip
                    omega
                  · skip
                    have q1 := tr_now hT2_92
                    rw [aHd_eq] at q1
                    exact q1
                  · skip
                    exact ab_hd hcf i2 (by omega)
                  · skip
                    exact al_hd i3 (by omega)
                  · skip
                    have e1 : oc Cr (aHd Ne Cr A1) = oc Cr (aDrive Ne Cr A1) := rfl
                    rw [e1]
                    show _ ≤ oc Cr (aDrive Ne Cr A1) + 16 * (A1.2.1 0 + 1)
                    omega
                  · skip
                    have q := aHds_next (Ne := Ne) (Cr := Cr) (A := pSt Cr A way) (h := hh) h0.1
                    rw [show (pSt Cr A way).2.1 0 = A.2.1 0 from rfl, ← i5] at q
                    rw [q]
                  · skip
                    omega
                  · skip
                    show A1.2.1 0 + 1 = hh + 1
                    rw [i8]
        refine z_ws (ws2 := [(h, .inr (1, [.ref (a 0), .ref (a 1), .ref (a 2), .ref (a 3), .ref (a 4), vZ (F.2 5), vZ (F.2 6), vZ (F.2 7), vZ (F.2 8), vZ (F.2 9), vZ (F.2 10), vZ (F.2 11)])), ((a 2), .inl (K.1, 10, .inl (ar (F.1 2)))), ((a 3), .inl (K.1, 4, .inl (ar (F.1 3)))), ((a 4), .inl (K.1, 4, .inl (ar (F.1 4)))), ((a 0), .inr (6, [.ref (au 0), .ref (au 1), .ref (au 2), .ref (au 3), .ref (au 5), .ref (au 6), .ref (au 7), .ref (au 8), .ref (au 9), .ref (au 10), .ref (au 11), vZ (U.2 12), vZ (U.2 13), vZ (U.2 14), vZ (U.2 15)])), ((au 5), .inl (K.1, 8, .inl (ar (U.1 5)))), ((au 6), .inl (K.1, 8, .inl (ar (U.1 6)))), ((au 7), .inl (K.1, 8, .inl (ar (U.1 7)))), ((au 8), .inl (K.1, 10, .inl (ar (U.1 8)))), ((au 9), .inl (K.1, 10, .inl (ar (U.1 9)))), ((au 10), .inl (K.1, 10, .inl (ar (U.1 10)))), ((au 11), .inl (K.1, 16, .inl (ar (U.1 11)))), ((au 3), .inr (2, [.ref (aqu 0), .ref (aqu 1), .ref (aqu 2), .ref (aqu 3), .ref (aqu 4), .ref (aqu 5), .ref (aqu 6), vZ (Squ.2 7), vZ (Squ.2 8)])), ((aqu 0), .inl (K.1, 32, .inl (ar (Squ.1 0)))), ((aqu 1), .inl (K.1, 32, .inl (ar (Squ.1 1)))), ((aqu 2), .inl (K.1, 32, .inl (ar (Squ.1 2)))), ((aqu 3), .inl (K.1, Nqu, .inl (ar (Squ.1 3)))), ((aqu 4), .inl (K.1, Nqu, .inl (ar (Squ.1 4)))), ((aqu 5), .inl (K.1, Nqu, .inl (ar (Squ.1 5)))), ((aqu 6), .inl (K.1, Nqu, .inl (ar (Squ.1 6)))), ((a 1), .inr (6, [.ref (au 0), .ref (au 1), .ref (au 2), .ref (ay 3), .ref (ay 5), .ref (ay 6), .ref (ay 7), .ref (ay 8), .ref (ay 9), .ref (ay 10), .ref (ay 11), vZ (U.2 12), vZ (U.2 13), vZ (U.2 14), vZ (U.2 15)])), ((ay 5), .inl (K.1, 8, .inl (ar Hr))), ((ay 6), .inl (K.1, 8, .inl (ar (U.1 6)))), ((ay 7), .inl (K.1, 8, .inl (ar (U.1 7)))), ((ay 8), .inl (K.1, 10, .inl (ar (U.1 8)))), ((ay 9), .inl (K.1, 10, .inl (ar (U.1 9)))), ((ay 10), .inl (K.1, 10, .inl (ar (U.1 10)))), ((ay 11), .inl (K.1, 16, .inl (ar (V.1 11)))), ((ay 3), .inr (2, [.ref (aq2_8 0), .ref (aq2_8 1), .ref (aq2_8 2), .ref (aq2_8 3), .ref (aq2_8 4), .ref (aq2_8 5), .ref (aq2_8 6), vZ (Sq2_8.2 7), vZ (Sq2_8.2 8)])), ((aq2_8 0), .inl (K.1, 32, .inl (ar (Sq2_8.1 0)))), ((aq2_8 1), .inl (K.1, 32, .inl (ar (Sq2_8.1 1)))), ((aq2_8 2), .inl (K.1, 32, .inl (ar (Sq2_8.1 2)))), ((aq2_8 3), .inl (K.1, Nq2_8, .inl (ar (Sq2_8.1 3)))), ((aq2_8 4), .inl (K.1, Nq2_8, .inl (ar (Sq2_8.1 4)))), ((aq2_8 5), .inl (K.1, Nq2_8, .inl (ar (Sq2_8.1 5)))), ((aq2_8 6), .inl (K.1, Nq2_8, .inl (ar (Sq2_8.1 6)))), ((au 1), .inr (4, [.ref (an 0), .ref (an 1), .ref (an 2), .ref (an 3), .ref (an 4), .ref (an 5), .ref (an 6), .ref (an 7), vZ (Ne.2 8)])), ((an 0), .inl (K.1, 16, .inl (ar (Ne.1 0)))), ((an 1), .inl (K.1, 16, .inl (ar (Ne.1 1)))), ((an 2), .inl (K.1, 16, .inl (ar (Ne.1 2)))), ((an 3), .inl (K.1, 16, .inl (ar (Ne.1 3)))), ((an 4), .inl (K.1, 16, .inl (ar (Ne.1 4)))), ((an 5), .inl (K.1, 16, .inl (ar (Ne.1 5)))), ((an 6), .inl (K.1, 100, .inl (ar (Ne.1 6)))), ((an 7), .inl (K.1, 100, .inl (ar (Ne.1 7)))), ((au 0), .inr (5, [.ref (ato 0), .ref (ato 1), vZ (To.2 2), vZ (To.2 3)])), ((ato 0), .inl (K.1, 10, .inl (ar (To.1 0)))), ((ato 1), .inl (K.1, 10, .inl (ar (To.1 1)))), ((au 2), .inr (0, [.ref (ac 0), .ref (ac 1), .ref (ac 2), vZ (Cr.2 3), vZ (Cr.2 4)])), ((ac 0), .inl (K.1, 8, .inl (ar (Cr.1 0)))), ((ac 1), .inl (K.1, 8, .inl (ar (Cr.1 1)))), ((ac 2), .inl (K.1, 8, .inl (ar (Cr.1 2))))]) rfl (z_lv (lv2 := [(0, .ref h), (1, vZ way), (2, vZ (U.2 12))]) ⟨rfl, rfl, rfl, trivial⟩ ?_)
        refine lp_63 _ (U.2 12) ((upf (upf (upf (upf (upf (upf V.1 5 Hr) 6 (U.1 6)) 7 (U.1 7)) 8 (U.1 8)) 9 (U.1 9)) 10 (U.1 10)), (upf (upf (upf (upf V.2 12 (U.2 12)) 13 (U.2 13)) 14 (U.2 14)) 15 (U.2 15))) aq2_8 Nq2_8 Sq2_8 (0 + gc_8) (0 + gs_8) Cq (pSt Cr A way) ?_ ?_ ?_ ?_ ?_ ?_ ?_ ?_ (Nat.lt_succ_self _)
        · skip
          omega
        · skip
          refine tr_copyH hT hq_8 ?_
          rw [hH, show i.toNat = (wlA Cr A).length by omega, ← hL.1, enow0]
          exact hF_congr _ (fun j x y => hWa j x (by omega)) (fun c x y => (hT.2.2.1 c x y).1)
        · skip
          exact habP
        · skip
          exact hal
        · skip
          exact hpb
        · skip
          rw [show (U.2 12 - A.2.1 0).toNat = 0 by omega]; rfl
        · skip
          omega
        · skip
          exact enow0.symm
      · skip
        refine z_aload_n ZC 0 dX1_tryWay_21 rfl rfl ?_
        refine z_get ZC inUX1 0 rfl rfl 1 (by decide) uF_X1_25 rfl dX1_tryWay_22 ?_
        refine z_get ZC inUX6 20 rfl rfl 4 (by decide) uF_X1_122 rfl dX1_tryWay_25 ?_
        refine z_aload_n ZC 0 dX1_tryWay_28 rfl rfl ?_
        refine z_get ZC inUX1 0 rfl rfl 3 (by decide) uF_X1_15 rfl dX1_tryWay_29 ?_
        refine z_iload_n ZC 2 dX1_tryWay_32 rfl rfl ?_
        have hwm := wlA_mem (Cr := Cr) (A := A) (i := i) hc8.1 (by omega) (by omega)
        rw [← hWa i h0.1 (by omega)] at hwm
        have hst := stp_rng (F.2 9) way i
        refine z_iald ZC 2 rfl dX1_tryWay_33 (by omega) ?_
        refine z_aload_n ZC 0 dX1_tryWay_34 rfl rfl ?_
        refine z_get ZC inUX1 0 rfl rfl 0 (by decide) uF_X1_21 rfl dX1_tryWay_35 ?_
        refine z_get ZC inUX6 4 rfl rfl 11 (by decide) uF_X1_39 rfl dX1_tryWay_38 ?_
        refine z_aload_n ZC 0 dX1_tryWay_41 rfl rfl ?_
        refine z_iload_n ZC 1 dX1_tryWay_42 rfl rfl ?_
        refine z_iload_n ZC 2 dX1_tryWay_43 rfl rfl ?_
        refine z_callV ZC 2 (c_X1_stepOf zl D K h a F way i (by omega) (by omega) (by omega)) (gdV uM_X1_118 uI_X1_stepOf uS_X1_stepOf uN_X1 uC_X1_stepOf) (by decide +kernel) rfl ⟨by omega, by omega⟩ ⟨by omega, by omega⟩ (Nat.le_of_ble_eq_true rfl) [0, 1, 2, 3] rfl (by decide) rfl rfl rfl rfl dX1_tryWay_44 (fun r w2 gc_44 gs_44 hp => ?_)
        obtain ⟨rfl, rfl, rfl, rfl⟩ := hp
        refine z_ws (ws2 := [(h, .inr (1, [.ref (a 0), .ref (a 1), .ref (a 2), .ref (a 3), .ref (a 4), vZ (F.2 5), vZ (F.2 6), vZ (F.2 7), vZ (F.2 8), vZ (F.2 9), vZ (F.2 10), vZ (F.2 11)])), ((a 2), .inl (K.1, 10, .inl (ar (F.1 2)))), ((a 3), .inl (K.1, 4, .inl (ar (F.1 3)))), ((a 4), .inl (K.1, 4, .inl (ar (F.1 4)))), ((a 0), .inr (6, [.ref (au 0), .ref (au 1), .ref (au 2), .ref (au 3), .ref (au 5), .ref (au 6), .ref (au 7), .ref (au 8), .ref (au 9), .ref (au 10), .ref (au 11), vZ (U.2 12), vZ (U.2 13), vZ (U.2 14), vZ (U.2 15)])), ((au 5), .inl (K.1, 8, .inl (ar (U.1 5)))), ((au 6), .inl (K.1, 8, .inl (ar (U.1 6)))), ((au 7), .inl (K.1, 8, .inl (ar (U.1 7)))), ((au 8), .inl (K.1, 10, .inl (ar (U.1 8)))), ((au 9), .inl (K.1, 10, .inl (ar (U.1 9)))), ((au 10), .inl (K.1, 10, .inl (ar (U.1 10)))), ((au 11), .inl (K.1, 16, .inl (ar (U.1 11)))), ((au 3), .inr (2, [.ref (aqu 0), .ref (aqu 1), .ref (aqu 2), .ref (aqu 3), .ref (aqu 4), .ref (aqu 5), .ref (aqu 6), vZ (Squ.2 7), vZ (Squ.2 8)])), ((aqu 0), .inl (K.1, 32, .inl (ar (Squ.1 0)))), ((aqu 1), .inl (K.1, 32, .inl (ar (Squ.1 1)))), ((aqu 2), .inl (K.1, 32, .inl (ar (Squ.1 2)))), ((aqu 3), .inl (K.1, Nqu, .inl (ar (Squ.1 3)))), ((aqu 4), .inl (K.1, Nqu, .inl (ar (Squ.1 4)))), ((aqu 5), .inl (K.1, Nqu, .inl (ar (Squ.1 5)))), ((aqu 6), .inl (K.1, Nqu, .inl (ar (Squ.1 6)))), ((a 1), .inr (6, [.ref (au 0), .ref (au 1), .ref (au 2), .ref (ay 3), .ref (ay 5), .ref (ay 6), .ref (ay 7), .ref (ay 8), .ref (ay 9), .ref (ay 10), .ref (ay 11), vZ (U.2 12), vZ (U.2 13), vZ (U.2 14), vZ (U.2 15)])), ((ay 5), .inl (K.1, 8, .inl (ar Hr))), ((ay 6), .inl (K.1, 8, .inl (ar (U.1 6)))), ((ay 7), .inl (K.1, 8, .inl (ar (U.1 7)))), ((ay 8), .inl (K.1, 10, .inl (ar (U.1 8)))), ((ay 9), .inl (K.1, 10, .inl (ar (U.1 9)))), ((ay 10), .inl (K.1, 10, .inl (ar (U.1 10)))), ((ay 11), .inl (K.1, 16, .inl (ar (V.1 11)))), ((ay 3), .inr (2, [.ref (aq2_8 0), .ref (aq2_8 1), .ref (aq2_8 2), .ref (aq2_8 3), .ref (aq2_8 4), .ref (aq2_8 5), .ref (aq2_8 6), vZ (Sq2_8.2 7), vZ (Sq2_8.2 8)])), ((aq2_8 0), .inl (K.1, 32, .inl (ar (Sq2_8.1 0)))), ((aq2_8 1), .inl (K.1, 32, .inl (ar (Sq2_8.1 1)))), ((aq2_8 2), .inl (K.1, 32, .inl (ar (Sq2_8.1 2)))), ((aq2_8 3), .inl (K.1, Nq2_8, .inl (ar (Sq2_8.1 3)))), ((aq2_8 4), .inl (K.1, Nq2_8, .inl (ar (Sq2_8.1 4)))), ((aq2_8 5), .inl (K.1, Nq2_8, .inl (ar (Sq2_8.1 5)))), ((aq2_8 6), .inl (K.1, Nq2_8, .inl (ar (Sq2_8.1 6)))), ((au 1), .inr (4, [.ref (an 0), .ref (an 1), .ref (an 2), .ref (an 3), .ref (an 4), .ref (an 5), .ref (an 6), .ref (an 7), vZ (Ne.2 8)])), ((an 0), .inl (K.1, 16, .inl (ar (Ne.1 0)))), ((an 1), .inl (K.1, 16, .inl (ar (Ne.1 1)))), ((an 2), .inl (K.1, 16, .inl (ar (Ne.1 2)))), ((an 3), .inl (K.1, 16, .inl (ar (Ne.1 3)))), ((an 4), .inl (K.1, 16, .inl (ar (Ne.1 4)))), ((an 5), .inl (K.1, 16, .inl (ar (Ne.1 5)))), ((an 6), .inl (K.1, 100, .inl (ar (Ne.1 6)))), ((an 7), .inl (K.1, 100, .inl (ar (Ne.1 7)))), ((au 0), .inr (5, [.ref (ato 0), .ref (ato 1), vZ (To.2 2), vZ (To.2 3)])), ((ato 0), .inl (K.1, 10, .inl (ar (To.1 0)))), ((ato 1), .inl (K.1, 10, .inl (ar (To.1 1)))), ((au 2), .inr (0, [.ref (ac 0), .ref (ac 1), .ref (ac 2), vZ (Cr.2 3), vZ (Cr.2 4)])), ((ac 0), .inl (K.1, 8, .inl (ar (Cr.1 0)))), ((ac 1), .inl (K.1, 8, .inl (ar (Cr.1 1)))), ((ac 2), .inl (K.1, 8, .inl (ar (Cr.1 2))))]) rfl ?_
        refine z_st (st2 := [vZ (stp (F.2 9) way i), vZ (U.2 12), vZ ((F.1 3) i), .ref (ay 5)]) rfl ?_
        refine z_iadd ZC dX1_tryWay_47 ?_
        refine z_iast ZC 21 rfl dX1_tryWay_48 (by omega) ?_
        refine z_iinc ZC dX1_tryWay_49 rfl (by decide) ?_
        refine z_goto ZC 13 dX1_tryWay_52 (by decide) ?_
        refine z_ws (ws2 := [(h, .inr (1, [.ref (a 0), .ref (a 1), .ref (a 2), .ref (a 3), .ref (a 4), vZ (F.2 5), vZ (F.2 6), vZ (F.2 7), vZ (F.2 8), vZ (F.2 9), vZ (F.2 10), vZ (F.2 11)])), ((a 2), .inl (K.1, 10, .inl (ar (F.1 2)))), ((a 3), .inl (K.1, 4, .inl (ar (F.1 3)))), ((a 4), .inl (K.1, 4, .inl (ar (F.1 4)))), ((a 0), .inr (6, [.ref (au 0), .ref (au 1), .ref (au 2), .ref (au 3), .ref (au 5), .ref (au 6), .ref (au 7), .ref (au 8), .ref (au 9), .ref (au 10), .ref (au 11), vZ (U.2 12), vZ (U.2 13), vZ (U.2 14), vZ (U.2 15)])), ((au 5), .inl (K.1, 8, .inl (ar (U.1 5)))), ((au 6), .inl (K.1, 8, .inl (ar (U.1 6)))), ((au 7), .inl (K.1, 8, .inl (ar (U.1 7)))), ((au 8), .inl (K.1, 10, .inl (ar (U.1 8)))), ((au 9), .inl (K.1, 10, .inl (ar (U.1 9)))), ((au 10), .inl (K.1, 10, .inl (ar (U.1 10)))), ((au 11), .inl (K.1, 16, .inl (ar (U.1 11)))), ((au 3), .inr (2, [.ref (aqu 0), .ref (aqu 1), .ref (aqu 2), .ref (aqu 3), .ref (aqu 4), .ref (aqu 5), .ref (aqu 6), vZ (Squ.2 7), vZ (Squ.2 8)])), ((aqu 0), .inl (K.1, 32, .inl (ar (Squ.1 0)))), ((aqu 1), .inl (K.1, 32, .inl (ar (Squ.1 1)))), ((aqu 2), .inl (K.1, 32, .inl (ar (Squ.1 2)))), ((aqu 3), .inl (K.1, Nqu, .inl (ar (Squ.1 3)))), ((aqu 4), .inl (K.1, Nqu, .inl (ar (Squ.1 4)))), ((aqu 5), .inl (K.1, Nqu, .inl (ar (Squ.1 5)))), ((aqu 6), .inl (K.1, Nqu, .inl (ar (Squ.1 6)))), ((a 1), .inr (6, [.ref (au 0), .ref (au 1), .ref (au 2), .ref (ay 3), .ref (ay 5), .ref (ay 6), .ref (ay 7), .ref (ay 8), .ref (ay 9), .ref (ay 10), .ref (ay 11), vZ (U.2 12), vZ (U.2 13), vZ (U.2 14), vZ (U.2 15)])), ((ay 5), .inl (K.1, 8, .inl (ar (upz Hr ((F.1 3) i) ((U.2 12) + (stp (F.2 9) way i)))))), ((ay 6), .inl (K.1, 8, .inl (ar (U.1 6)))), ((ay 7), .inl (K.1, 8, .inl (ar (U.1 7)))), ((ay 8), .inl (K.1, 10, .inl (ar (U.1 8)))), ((ay 9), .inl (K.1, 10, .inl (ar (U.1 9)))), ((ay 10), .inl (K.1, 10, .inl (ar (U.1 10)))), ((ay 11), .inl (K.1, 16, .inl (ar (V.1 11)))), ((ay 3), .inr (2, [.ref (aq2_8 0), .ref (aq2_8 1), .ref (aq2_8 2), .ref (aq2_8 3), .ref (aq2_8 4), .ref (aq2_8 5), .ref (aq2_8 6), vZ (Sq2_8.2 7), vZ (Sq2_8.2 8)])), ((aq2_8 0), .inl (K.1, 32, .inl (ar (Sq2_8.1 0)))), ((aq2_8 1), .inl (K.1, 32, .inl (ar (Sq2_8.1 1)))), ((aq2_8 2), .inl (K.1, 32, .inl (ar (Sq2_8.1 2)))), ((aq2_8 3), .inl (K.1, Nq2_8, .inl (ar (Sq2_8.1 3)))), ((aq2_8 4), .inl (K.1, Nq2_8, .inl (ar (Sq2_8.1 4)))), ((aq2_8 5), .inl (K.1, Nq2_8, .inl (ar (Sq2_8.1 5)))), ((aq2_8 6), .inl (K.1, Nq2_8, .inl (ar (Sq2_8.1 6)))), ((au 1), .inr (4, [.ref (an 0), .ref (an 1), .ref (an 2), .ref (an 3), .ref (an 4), .ref (an 5), .ref (an 6), .ref (an 7), vZ (Ne.2 8)])), ((an 0), .inl (K.1, 16, .inl (ar (Ne.1 0)))), ((an 1), .inl (K.1, 16, .inl (ar (Ne.1 1)))), ((an 2), .inl (K.1, 16, .inl (ar (Ne.1 2)))), ((an 3), .inl (K.1, 16, .inl (ar (Ne.1 3)))), ((an 4), .inl (K.1, 16, .inl (ar (Ne.1 4)))), ((an 5), .inl (K.1, 16, .inl (ar (Ne.1 5)))), ((an 6), .inl (K.1, 100, .inl (ar (Ne.1 6)))), ((an 7), .inl (K.1, 100, .inl (ar (Ne.1 7)))), ((au 0), .inr (5, [.ref (ato 0), .ref (ato 1), vZ (To.2 2), vZ (To.2 3)])), ((ato 0), .inl (K.1, 10, .inl (ar (To.1 0)))), ((ato 1), .inl (K.1, 10, .inl (ar (To.1 1)))), ((au 2), .inr (0, [.ref (ac 0), .ref (ac 1), .ref (ac 2), vZ (Cr.2 3), vZ (Cr.2 4)])), ((ac 0), .inl (K.1, 8, .inl (ar (Cr.1 0)))), ((ac 1), .inl (K.1, 8, .inl (ar (Cr.1 1)))), ((ac 2), .inl (K.1, 8, .inl (ar (Cr.1 2))))]) rfl (z_lv (lv2 := [(0, .ref h), (1, vZ way), (2, vZ (i + 1))]) ⟨rfl, rfl, rfl, trivial⟩ ?_)
        refine ih_13 (i + 1) (upz Hr ((F.1 3) i) ((U.2 12) + (stp (F.2 9) way i))) ?_ ?_ (dec_lt hm_13 c_18)
        · skip
          omega
        · skip
          rw [hF_next h0.1, ← hH]
  refine z_ws (ws2 := [(h, .inr (1, [.ref (a 0), .ref (a 1), .ref (a 2), .ref (a 3), .ref (a 4), vZ (F.2 5), vZ (F.2 6), vZ (F.2 7), vZ (F.2 8), vZ (F.2 9), vZ (F.2 10), vZ (F.2 11)])), ((a 2), .inl (K.1, 10, .inl (ar (F.1 2)))), ((a 3), .inl (K.1, 4, .inl (ar (F.1 3)))), ((a 4), .inl (K.1, 4, .inl (ar (F.1 4)))), ((a 0), .inr (6, [.ref (au 0), .ref (au 1), .ref (au 2), .ref (au 3), .ref (au 5), .ref (au 6), .ref (au 7), .ref (au 8), .ref (au 9), .ref (au 10), .ref (au 11), vZ (U.2 12), vZ (U.2 13), vZ (U.2 14), vZ (U.2 15)])), ((au 5), .inl (K.1, 8, .inl (ar (U.1 5)))), ((au 6), .inl (K.1, 8, .inl (ar (U.1 6)))), ((au 7), .inl (K.1, 8, .inl (ar (U.1 7)))), ((au 8), .inl (K.1, 10, .inl (ar (U.1 8)))), ((au 9), .inl (K.1, 10, .inl (ar (U.1 9)))), ((au 10), .inl (K.1, 10, .inl (ar (U.1 10)))), ((au 11), .inl (K.1, 16, .inl (ar (U.1 11)))), ((au 3), .inr (2, [.ref (aqu 0), .ref (aqu 1), .ref (aqu 2), .ref (aqu 3), .ref (aqu 4), .ref (aqu 5), .ref (aqu 6), vZ (Squ.2 7), vZ (Squ.2 8)])), ((aqu 0), .inl (K.1, 32, .inl (ar (Squ.1 0)))), ((aqu 1), .inl (K.1, 32, .inl (ar (Squ.1 1)))), ((aqu 2), .inl (K.1, 32, .inl (ar (Squ.1 2)))), ((aqu 3), .inl (K.1, Nqu, .inl (ar (Squ.1 3)))), ((aqu 4), .inl (K.1, Nqu, .inl (ar (Squ.1 4)))), ((aqu 5), .inl (K.1, Nqu, .inl (ar (Squ.1 5)))), ((aqu 6), .inl (K.1, Nqu, .inl (ar (Squ.1 6)))), ((a 1), .inr (6, [.ref (au 0), .ref (au 1), .ref (au 2), .ref (ay 3), .ref (ay 5), .ref (ay 6), .ref (ay 7), .ref (ay 8), .ref (ay 9), .ref (ay 10), .ref (ay 11), vZ (U.2 12), vZ (U.2 13), vZ (U.2 14), vZ (U.2 15)])), ((ay 5), .inl (K.1, 8, .inl (ar (U.1 5)))), ((ay 6), .inl (K.1, 8, .inl (ar (U.1 6)))), ((ay 7), .inl (K.1, 8, .inl (ar (U.1 7)))), ((ay 8), .inl (K.1, 10, .inl (ar (U.1 8)))), ((ay 9), .inl (K.1, 10, .inl (ar (U.1 9)))), ((ay 10), .inl (K.1, 10, .inl (ar (U.1 10)))), ((ay 11), .inl (K.1, 16, .inl (ar (V.1 11)))), ((ay 3), .inr (2, [.ref (aq2_8 0), .ref (aq2_8 1), .ref (aq2_8 2), .ref (aq2_8 3), .ref (aq2_8 4), .ref (aq2_8 5), .ref (aq2_8 6), vZ (Sq2_8.2 7), vZ (Sq2_8.2 8)])), ((aq2_8 0), .inl (K.1, 32, .inl (ar (Sq2_8.1 0)))), ((aq2_8 1), .inl (K.1, 32, .inl (ar (Sq2_8.1 1)))), ((aq2_8 2), .inl (K.1, 32, .inl (ar (Sq2_8.1 2)))), ((aq2_8 3), .inl (K.1, Nq2_8, .inl (ar (Sq2_8.1 3)))), ((aq2_8 4), .inl (K.1, Nq2_8, .inl (ar (Sq2_8.1 4)))), ((aq2_8 5), .inl (K.1, Nq2_8, .inl (ar (Sq2_8.1 5)))), ((aq2_8 6), .inl (K.1, Nq2_8, .inl (ar (Sq2_8.1 6)))), ((au 1), .inr (4, [.ref (an 0), .ref (an 1), .ref (an 2), .ref (an 3), .ref (an 4), .ref (an 5), .ref (an 6), .ref (an 7), vZ (Ne.2 8)])), ((an 0), .inl (K.1, 16, .inl (ar (Ne.1 0)))), ((an 1), .inl (K.1, 16, .inl (ar (Ne.1 1)))), ((an 2), .inl (K.1, 16, .inl (ar (Ne.1 2)))), ((an 3), .inl (K.1, 16, .inl (ar (Ne.1 3)))), ((an 4), .inl (K.1, 16, .inl (ar (Ne.1 4)))), ((an 5), .inl (K.1, 16, .inl (ar (Ne.1 5)))), ((an 6), .inl (K.1, 100, .inl (ar (Ne.1 6)))), ((an 7), .inl (K.1, 100, .inl (ar (Ne.1 7)))), ((au 0), .inr (5, [.ref (ato 0), .ref (ato 1), vZ (To.2 2), vZ (To.2 3)])), ((ato 0), .inl (K.1, 10, .inl (ar (To.1 0)))), ((ato 1), .inl (K.1, 10, .inl (ar (To.1 1)))), ((au 2), .inr (0, [.ref (ac 0), .ref (ac 1), .ref (ac 2), vZ (Cr.2 3), vZ (Cr.2 4)])), ((ac 0), .inl (K.1, 8, .inl (ar (Cr.1 0)))), ((ac 1), .inl (K.1, 8, .inl (ar (Cr.1 1)))), ((ac 2), .inl (K.1, 8, .inl (ar (Cr.1 2))))]) rfl (z_lv (lv2 := [(0, .ref h), (1, vZ way), (2, vZ 0)]) ⟨rfl, rfl, rfl, trivial⟩ ?_)
  refine lp_13 _ 0 (U.1 5) ?_ ?_ (Nat.lt_succ_self _)
  · skip
    omega
  · skip
    rfl

