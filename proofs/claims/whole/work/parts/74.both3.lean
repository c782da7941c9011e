/-! ===== class and reference: dawn, hours, forecasts, counts; the beginning ===== -/
theorem dwF_at {To Ne Cr : Bd} {hours : Int} : ∀ (n : Nat) (c : Int), 0 ≤ c → c < n → (dwF To Ne Cr hours n).1 c = bsF To Ne (Cr.1 0 c) (Cr.1 2 c) hours (To.2 3).toNat
  | 0, c, a, b => by omega
  | n + 1, c, a, b => by
    show (if bsF To Ne (Cr.1 0 (n : Int)) (Cr.1 2 (n : Int)) hours (To.2 3).toNat = Cr.1 0 (n : Int) then dwF To Ne Cr hours n else (upz (dwF To Ne Cr hours n).1 (n : Int) (bsF To Ne (Cr.1 0 (n : Int)) (Cr.1 2 (n : Int)) hours (To.2 3).toNat), (dwF To Ne Cr hours n).2 + 1)).1 c = _
    by_cases e : c = (n : Int)
    · subst e
      split
      · rename_i z; rw [dwF_keep n (n : Int) (Int.le_refl _), z]
      · show upz _ _ _ _ = _; rw [upz_self]
    · split
      · exact dwF_at n c a (by omega)
      · show upz _ _ _ _ = _; rw [upz_ne _ _ e]; exact dwF_at n c a (by omega)
section St3
variable {To Ne Cr U : Bd} {Nqu : Nat} {Squ : Bd} {F : Bd} {Nqt : Nat} {A : Ab} {Cq C : Int → List Pt3} {M : Bd} {f : Nat → Option Nat} {hs : Nat → Nat} {Lg : Nat → Bd} {nr : Nat}
theorem lgd_dg (hD : LgD To Ne Cr A M C) : ∀ i : Int, 0 ≤ i → i < 10 → Ne.1 6 (i * 10 + i) = 0 := by
  intro i a b
  have h := hD.1.2.1.2.2.2 i i a b a b
  rw [hD.2.2.2.1 i a b] at h
  by_cases z : Ne.1 6 (i * 10 + i) = -1
  · rw [if_pos z] at h; omega
  · rw [if_neg z] at h; exact h.symm
theorem s_dawn {hours : Int} {Pl Pl2 Th : Int → Int} (hA : LgA To Ne Cr) (hB : LgB Ne Cr A) (hC : LgC To Ne Cr U Nqu Squ F Nqt A Cq) (hD : LgD To Ne Cr A M C) (hP : Pl = (dwF To Ne Cr hours (Cr.2 3).toNat).1) (hP2 : ∀ x : Int, 0 ≤ x → x < Cr.2 3 → Pl2 x = (dwF To Ne Cr hours (Cr.2 3).toNat).1 x) (hT : ∀ t : Int, 0 ≤ t → t < 10 → Th t = aAt Ne (upf Cr.1 0 Pl, Cr.2) A t) :
    LgA To Ne ((upf Cr.1 0 Pl), Cr.2) ∧ LgB Ne ((upf Cr.1 0 Pl), Cr.2) A ∧ LgC To Ne ((upf Cr.1 0 Pl), Cr.2) ((upf U.1 8 Th), U.2) Nqu Squ (F.1, (upf (upf F.2 5 0) 8 0)) Nqt A Cq ∧ LgD To Ne ((upf Cr.1 0 Pl), Cr.2) A ((upf M.1 13 Pl2), M.2) C := by
  have dg := lgd_dg hD
  obtain ⟨a1, a2, a3, a4, a5, a6, a7, a8⟩ := hA
  obtain ⟨c1, c2, c3, c4⟩ := hC
  obtain ⟨d1, d2, d3, d4⟩ := hD
  have hc8 := a1.2.1
  have hpl : ∀ c : Int, 0 ≤ c → c < Cr.2 3 → (0 ≤ Pl c ∧ Pl c < To.2 3) ∧ Pl c ≠ Cr.1 2 c ∧ Ne.1 6 (Pl c * 10 + Cr.1 2 c) ≠ -1 := by
    intro c x y
    have g := a1.2.2.2.1 c x y
    have k := a6 c x y
    rw [hP, dwF_at _ c x (by omega)]
    rcases bsF_in (To := To) (Ne := Ne) (here := Cr.1 0 c) (home := Cr.1 2 c) (hours := hours) (dg _ g.1.1 g.1.2) (To.2 3).toNat (fun t p q => (a2.1 _ t g.1.1 g.1.2 p (by omega)).1) with z | z
    · rw [z]; exact ⟨k.1, g.2.2.1, g.2.2.2.2⟩
    · exact ⟨by omega, z.2.1, z.2.2.1⟩
  obtain ⟨t1, t2, t3, t4, t5, t6⟩ := c1
  refine ⟨⟨⟨a1.1, a1.2.1, a1.2.2.1, fun c x y => ?_, a1.2.2.2.2⟩, a2, a3, a4, a5, fun c x y => ?_, a7, a8⟩, hB, ⟨⟨t1, t2, t3, fun t x y => ⟨hT t x y, (t4 t x y).2⟩, t5, t6⟩, c2, c3, foi_0⟩, ⟨⟨d1.1, d1.2.1, d1.2.2.1, fun c x y => ?_⟩, d2, d3, d4⟩⟩
  · have g := a1.2.2.2.1 c x y
    have p := hpl c x y
    exact ⟨⟨p.1.1, Int.lt_of_lt_of_le p.1.2 a3.2⟩, g.2.1, p.2.1, g.2.2.2.1, p.2.2⟩
  · exact ⟨(hpl c x y).1, (a6 c x y).2⟩
  · have g := d1.2.2.2 c x y
    refine ⟨?_, g.2⟩
    show Pl2 c = Pl c
    rw [hP2 c x y, hP]
theorem aHrs_0 (To Ne Cr : Bd) (A : Ab) : ∀ n : Nat, (aHrs To Ne Cr A n).1 0 = A.1 0
  | 0 => rfl
  | n + 1 => by
    show (aDrive Ne Cr (aHrs To Ne Cr A n)).1 0 = _
    rw [(aDrive_keep Ne Cr _).2.1]; exact aHrs_0 To Ne Cr A n
theorem lgF_2 (To Ne Cr : Bd) (A : Ab) (Lg : Nat → Bd) (k : Nat) : ∀ n : Nat, (lgF To Ne Cr A Lg n k).1 2 = (Lg k).1 2
  | 0 => rfl
  | n + 1 => by
    show (lgF To Ne Cr A Lg n k).1 2 = _
    exact lgF_2 To Ne Cr A Lg k n
theorem lgD_keep {la lz : List Nat} {M2 : Bd} {A2 : Ab} {C2 : Int → List Pt3} (hD : LgD To Ne Cr A M C) (kp : KP la lz M M2) (hx : MX Cr A2 M2 C2) (hl : ∀ t : Int, 0 ≤ t → t < 10 → -1 ≤ M2.1 33 t ∧ M2.1 33 t ≤ 1000) (h1 : [1, 2, 5, 6, 7, 8, 9, 10, 11, 13, 14, 15].all (fun x => !la.contains x) = true) (h2 : [0, 3, 4, 12].all (fun x => !lz.contains x) = true) : LgD To Ne Cr A2 M2 C2 := by
  refine ⟨ms_keep hD.1 kp h1 h2, hx, hl, ?_⟩
  have a : ∀ k ∈ [1, 2, 5, 6, 7, 8, 9, 10, 11, 13, 14, 15], M2.1 k = M.1 k := fun k' hk => kp.1 k' (by have := List.all_eq_true.mp h1 k' hk; simpa using this)
  have b : ∀ k ∈ [0, 3, 4, 12], M2.2 k = M.2 k := fun k' hk => kp.2 k' (by have := List.all_eq_true.mp h2 k' hk; simpa using this)
  rw [a 5 (by simp), a 6 (by simp), a 8 (by simp), a 11 (by simp), b 4 (by simp)]
  exact hD.2.2.2
theorem lgE_keep {la lz : List Nat} {M2 : Bd} (hE : LgE Ne f M hs Lg nr A) (kp : KP la lz M M2) (h1 : [17, 18, 19].all (fun x => !la.contains x) = true) : LgE Ne f M2 hs Lg nr A := by
  have a : ∀ k ∈ [17, 18, 19], M2.1 k = M.1 k := fun k' hk => kp.1 k' (by have := List.all_eq_true.mp h1 k' hk; simpa using this)
  obtain ⟨e1, e2, e3, e4⟩ := hE
  refine ⟨e1, ?_, e3, ?_⟩
  · unfold LR at e2 ⊢
    rw [a 17 (by simp), a 18 (by simp), a 19 (by simp)]
    exact e2
  · rw [a 17 (by simp)]; exact e4
theorem s_goB {n : Nat} (hA : LgA To Ne Cr) (hB : LgB Ne Cr A) (hn : A.2.1 0 + n ≤ 200) (h2 : AL Cr (aHrs To Ne Cr A n)) : LgB Ne Cr (aHrs To Ne Cr A n) := by
  obtain ⟨b1, b2, b3, b4, b5, b6⟩ := hB
  have q := ar_hrs hA.1 hA.2.2.1 b1 b3 n hn
  refine ⟨q.2.1, h2, q.1, ao_hrs b4 n, fun c x y => ?_, fun z c x y => ?_⟩
  · rw [aHrs_0]; exact b5 c x y
  · have hnw := b1.2.1
    have e : n = 0 := by omega
    subst e
    exact b6 z c x y
theorem s_goE {n : Nat} {M2 : Bd} {Lg2 : Nat → Bd} {A2 : Ab} (hE : LgE Ne f M hs Lg nr A) (hl : LR Ne M2 (fun k => lgF To Ne Cr A Lg n k) (A2.2.1 0)) (hL2 : ∀ k : Nat, k < nr → Lg2 k = lgF To Ne Cr A Lg n k) (h17 : M2.1 17 = M.1 17) (hr : 0 ≤ Ne.2 8) : LgE Ne f M2 hs Lg2 nr A2 := by
  obtain ⟨e1, e2, e3, e4⟩ := hE
  refine ⟨e1, ⟨hl.1, fun k h k1 h1 h2 => ?_⟩, fun k hk j j1 j2 => ?_, by rw [h17]; exact e4⟩
  · rw [hL2 k (by omega)]; exact hl.2 k h k1 h1 h2
  · rw [hL2 k hk, lgF_2]; exact e3 k hk j j1 j2
theorem s_counted {rd ho cs : Int} (hE : LgE Ne f M hs Lg nr A) (hr : 0 ≤ rd ∧ rd < Ne.2 8) (hh : 0 ≤ ho ∧ ho < 200) (hc : -1 ≤ cs ∧ cs ≤ 5000) : LgE Ne f ((upf M.1 17 (upz (M.1 17) (200 * rd + ho) cs)), M.2) hs (va_up Lg rd.toNat ((upf (Lg rd.toNat).1 2 (upz ((Lg rd.toNat).1 2) ho cs)), (Lg rd.toNat).2)) nr A := by
  obtain ⟨e1, e2, e3, e4⟩ := hE
  refine ⟨e1, ⟨e2.1, fun k h k1 h1 h2 => ?_⟩, fun k hk j j1 j2 => ?_, fun k h k1 k2 h1 h2 => ?_⟩
  · have g := e2.2 k h k1 h1 h2
    show upz (M.1 17) (200 * rd + ho) cs (200 * (k : Int) + h) = (va_up Lg rd.toNat _ k).1 2 h ∧ (h < A.2.1 0 → M.1 18 _ = (va_up Lg rd.toNat _ k).1 0 h ∧ (va_up Lg rd.toNat _ k).1 1 h = _)
    by_cases e : k = rd.toNat
    · rw [e, va_up_self]
      rw [e] at g
      refine ⟨?_, g.2⟩
      show _ = upz ((Lg rd.toNat).1 2) ho cs h
      by_cases z : h = ho
      · rw [z, show 200 * ((rd.toNat : Nat) : Int) + ho = 200 * rd + ho by omega, upz_self, upz_self]
      · rw [upz_ne _ _ (by omega), upz_ne _ _ z]; exact g.1
    · rw [va_up_ne _ _ e, upz_ne _ _ (by omega)]
      exact g
  · by_cases e : k = rd.toNat
    · rw [e, va_up_self]
      show -1 ≤ upz ((Lg rd.toNat).1 2) ho cs j ∧ upz ((Lg rd.toNat).1 2) ho cs j ≤ 5000
      by_cases z : j = ho
      · rw [z, upz_self]; exact hc
      · rw [upz_ne _ _ z]; rw [e] at hk; exact e3 _ hk j j1 j2
    · rw [va_up_ne _ _ e]; exact e3 k hk j j1 j2
  · show upz (M.1 17) (200 * rd + ho) cs (200 * k + h) = -1
    rw [upz_ne _ _ (by omega)]; exact e4 k h k1 k2 h1 h2
theorem s_roadE {s1 s2 cs ho : Int} {L2 W2 Lm : Int → Int} {hq : Nat} {aq : Nat → Nat} {Lo : Bd} (hE : LgE Ne f M hs Lg nr A) (hr : 0 ≤ Ne.2 8 ∧ Ne.2 8 < 16) (h0 : A.2.1 0 = 0) (hLo : (∀ j, Lo.1 0 j = 0) ∧ (∀ j, Lo.1 1 j = 0) ∧ (∀ j, Lo.1 2 j = -1)) :
    LgE ((upf (upf (upf (upf (upf (upf Ne.1 0 (upz (Ne.1 0) (Ne.2 8) s1)) 1 (upz (Ne.1 1) (Ne.2 8) s2)) 2 (upz (Ne.1 2) (Ne.2 8) cs)) 3 (upz (Ne.1 3) (Ne.2 8) ho)) 6 L2) 7 W2), (upf Ne.2 8 (Ne.2 8 + 1))) (va_up f (Ne.2 8).toNat (some hq)) ((upf (upf (upf (upf (upf M.1 5 (upz (M.1 5) (M.2 4) s1)) 6 (upz (M.1 6) (M.2 4) s2)) 7 (upz (M.1 7) (M.2 4) cs)) 8 (upz (M.1 8) (M.2 4) ho)) 11 Lm), (upf M.2 4 (M.2 4 + 1))) (va_up hs nr hq) (va_up Lg nr Lo) (nr + 1) A := by
  obtain ⟨e1, e2, e3, e4⟩ := hE
  have en := e1.1
  refine ⟨⟨?_, fun k hk => ?_⟩, ⟨e2.1, fun k h k1 h1 h2 => ?_⟩, fun k hk j j1 j2 => ?_, fun k h k1 k2 h1 h2 => ?_⟩
  · show nr + 1 = (Ne.2 8 + 1).toNat; omega
  · by_cases e : k = nr
    · rw [e, ← en, va_up_self, va_up_self]
    · rw [← en, va_up_ne _ _ e, va_up_ne _ _ e]; exact e1.2 k (by omega)
  · have k2 : (k : Int) < Ne.2 8 + 1 := k1
    show M.1 17 (200 * (k : Int) + h) = (va_up Lg nr Lo k).1 2 h ∧ (h < A.2.1 0 → _)
    refine ⟨?_, fun z => by omega⟩
    by_cases e : k = nr
    · rw [e, va_up_self, hLo.2.2]; exact e4 _ h (by omega) (by omega) h1 h2
    · rw [va_up_ne _ _ e]; exact (e2.2 k h (by omega) h1 h2).1
  · by_cases e : k = nr
    · rw [e, va_up_self, hLo.2.2]; omega
    · rw [va_up_ne _ _ e]; exact e3 k (by omega) j j1 j2
  · have k3 : Ne.2 8 + 1 ≤ k := k1
    exact e4 k h (by omega) k2 h1 h2
end St3
/-! the beginning -/
def A00 : Ab := (fun k _ => if k = 3 then -1 else 0, fun _ => 0, fun _ => [], fun _ => [])
theorem sm0 : ∀ n : Nat, smI (fun _ => 0) 0 n = 0
  | 0 => rfl
  | n + 1 => by show smI (fun _ => 0) 0 n + 0 = 0; rw [sm0 n]; rfl
theorem l_begin {To Ne Cr U Squ F M : Bd} {hs : Nat → Nat} {Lg : Nat → Bd} {f : Nat → Option Nat} (hto : To.2 2 = 50 ∧ To.2 3 = 0 ∧ ∀ j, To.1 1 j = 0) (hcr : Cr.2 3 = 0 ∧ Cr.2 4 = 0) (hne : Ne.2 8 = 0 ∧ (∀ j, Ne.1 4 j = 0) ∧ (∀ j, Ne.1 5 j = 0) ∧ (∀ j, Ne.1 7 j = -1) ∧ (∀ i j : Int, 0 ≤ i → i < 10 → 0 ≤ j → j < 10 → Ne.1 6 (i * 10 + j) = if i = j then 0 else -1)) (hu1 : ∀ k j, U.1 k j = 0) (hu2 : U.2 12 = 0 ∧ U.2 13 = 0 ∧ U.2 14 = -1 ∧ U.2 15 = 0) (huq : LnO 32 3300 Squ (fun _ => []) []) (hF : F.2 5 = 0 ∧ F.2 8 = 0)
    (hz : M.2 0 = 0 ∧ M.2 3 = 50 ∧ M.2 4 = 0 ∧ M.2 12 = 0 ∧ M.2 20 = 0 ∧ M.2 21 = 0 ∧ M.2 34 = 0) (h0 : (∀ j, M.1 2 j = 0) ∧ (∀ j, M.1 9 j = 0) ∧ (∀ j, M.1 10 j = 0) ∧ (∀ j, M.1 16 j = 0) ∧ (∀ j, M.1 19 j = 0) ∧ (∀ j, M.1 28 j = 0) ∧ (∀ j, M.1 29 j = 0) ∧ (∀ j, M.1 31 j = 0) ∧ (∀ j, M.1 32 j = 0) ∧ (∀ j, M.1 33 j = 0)) (hhe : ∀ j : Int, 0 ≤ j → j < 32 → M.1 26 j = -1) (hct : ∀ j : Int, 0 ≤ j → j < 3200 → M.1 17 j = -1) (hsp : SPm (M.1 5) (M.1 6) (M.1 8) 0 (M.1 11)) :
    LgA To Ne Cr ∧ LgB Ne Cr A00 ∧ LgC To Ne Cr U 32 Squ F 32 A00 (fun _ => []) ∧ LgD To Ne Cr A00 M (fun _ => []) ∧ LgE Ne f M hs Lg 0 A00 := by
  have n6 : ∀ i j : Int, 0 ≤ i → i < 10 → 0 ≤ j → j < 10 → i ≠ j → Ne.1 6 (i * 10 + j) = -1 := fun i j a b c d e => by rw [hne.2.2.2.2 i j a b c d, if_neg e]
  have hc3 : (Cr.2 3).toNat = 0 := by omega
  have hn8 : (Ne.2 8).toNat = 0 := by omega
  have at0 : ∀ t : Int, aAt Ne Cr A00 t = 0 := by
    intro t
    unfold aAt
    rw [hc3, hn8]; rfl
  refine ⟨⟨⟨by omega, by omega, fun r a b => by omega, fun c a b => by omega, fun i j i1 i2 j1 j2 e q => absurd (n6 i j i1 i2 j1 j2 e) q⟩, ⟨fun i j i1 i2 j1 j2 => ?_, fun i j i1 i2 j1 j2 e q => absurd (n6 i j i1 i2 j1 j2 e) q⟩, by omega, ⟨by omega, fun t a b => by omega⟩, fun t a b => by rw [hto.2.2]; omega, fun c a b => by omega, ?_, fun r a b => by rw [hne.2.1, hne.2.2.1]; omega⟩, ⟨⟨⟨fun r a b => ⟨fun _ => ⟨rfl, rfl⟩, fun c hc => absurd hc List.not_mem_nil, fun c hc => absurd hc List.not_mem_nil⟩, fun c a b => by omega⟩, ?_, fun c a b => by omega, fun t a b => ?_, ?_⟩, fun c a b => by omega, fun c a b => by omega, fun c a b => ?_, fun c a b => by omega, fun _ c a b => ⟨rfl, rfl, rfl⟩⟩, ⟨⟨huq, fun r a b => ⟨rfl, rfl, fun q hq => absurd hq List.not_mem_nil⟩, fun c a b => ?_, fun t a b => ?_, ?_, ⟨fun c a b => by omega, Or.inr ⟨hu2.2.2.1, fun c a b => by omega⟩, ?_, ?_⟩⟩, ?_, Or.inl rfl, ⟨Or.inl hF.1, Or.inl hF.2⟩⟩, ⟨⟨⟨by omega, by omega, fun t a b => by omega, fun t a b => by rw [h0.1, hto.2.2]⟩, ⟨by omega, fun r a b => by omega, fun r a b => by rw [h0.2.1, h0.2.2.1, hne.2.1, hne.2.2.1]; exact ⟨rfl, rfl⟩, fun i j i1 i2 j1 j2 => ?_⟩, ⟨by omega, fun c a b => by omega⟩⟩, ⟨⟨⟨fun _ => [], fun _ => 0, ⟨by omega, fun k a b => ⟨hhe k a b, List.nodup_nil, fun q => absurd rfl q, fun x hx => absurd hx List.not_mem_nil⟩, fun x hx => absurd hx List.not_mem_nil⟩, fun k a b => rfl⟩, fun r a b => ⟨rfl, rfl⟩, fun c a b => ?_, fun c a b => by omega⟩, fun c a b => ?_, fun t a b => ?_, ?_, ?_, ?_⟩, fun t a b => ?_, ?_⟩, ⟨⟨hn8.symm, fun k hk => by omega⟩, ⟨fun k a b => ?_, fun k h a => by omega⟩, fun k hk => by omega, fun k h a b c d => hct _ (by omega) (by omega)⟩⟩
  · rw [hne.2.2.2.2 i j i1 i2 j1 j2]; split <;> omega
  · rw [hc3, hcr.2]; rfl
  · show (0 : Int) ≤ 0 ∧ (0 : Int) ≤ 200; omega
  · show (0 : Int) ≤ 0 ∧ (0 : Int) ≤ 1000000; omega
  · show (0 : Int) ≤ 0 ∧ (0 : Int) ≤ 160000 * 0; omega
  · show (0 : Int) ≤ 0 ∧ (0 : Int) ≤ 1; omega
  · rw [hu1, hu1]; exact ⟨rfl, rfl, fun q => by omega⟩
  · rw [hu1, hu1, hu1, at0]; exact ⟨rfl, rfl, rfl⟩
  · rw [hc3]; exact ⟨hu2.1, hu2.2.2.2, hu2.2.1⟩
  · rw [hu2.2.2.1]; omega
  · rw [hu2.2.2.1]; show (-1 : Int) ≤ 0; omega
  · unfold oc; rw [hc3]; exact Int.le_refl _
  · by_cases e : i = j
    · subst e
      rw [hsp.1 i i1 i2, hne.2.2.2.2 i i i1 i2 i1 i2, if_pos rfl, if_neg (by omega)]
    · rw [n6 i j i1 i2 j1 j2 e, if_pos rfl]
      apply Classical.byContradiction
      intro q
      obtain ⟨r, r1, r2, -⟩ := hsp.2.2.2 i j i1 i2 j1 j2 e q
      omega
  · rw [h0.2.2.2.2.2.1, h0.2.2.2.2.2.2.1]; exact ⟨rfl, rfl⟩
  · rw [h0.2.2.2.1]; rfl
  · rw [h0.2.2.2.2.2.2.2.1, h0.2.2.2.2.2.2.2.2.1]; exact ⟨rfl, rfl⟩
  · exact hz.2.2.2.2.1
  · exact hz.2.2.2.2.2.2
  · rw [hz.2.2.2.2.2.1]; unfold oc; rw [hc3]; exact Int.le_refl _
  · rw [h0.2.2.2.2.2.2.2.2.2]; omega
  · rw [hz.2.2.1]; exact hsp
  · rw [h0.2.2.2.2.1]; omega

