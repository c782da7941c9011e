/-! ===== the reference: shortest ways ===== -/
def RV (fr to hr : Int → Int) (n : Int) : Prop := ∀ r : Int, 0 ≤ r → r < n → (0 ≤ fr r ∧ fr r < 10) ∧ (0 ≤ to r ∧ to r < 10) ∧ (1 ≤ hr r ∧ hr r ≤ 9)
/-- a table of shortest ways -/
def SPm (fr to hr : Int → Int) (n : Int) (L : Int → Int) : Prop :=
  (∀ i : Int, 0 ≤ i → i < 10 → L (10 * i + i) = 0) ∧ (∀ k : Int, 0 ≤ k → k < 100 → 0 ≤ L k ∧ L k ≤ 10000) ∧
  (∀ r j : Int, 0 ≤ r → r < n → 0 ≤ j → j < 10 → L (10 * fr r + j) ≤ hr r + L (10 * to r + j)) ∧
  (∀ i j : Int, 0 ≤ i → i < 10 → 0 ≤ j → j < 10 → i ≠ j → L (10 * i + j) ≠ 10000 → ∃ r : Int, 0 ≤ r ∧ r < n ∧ fr r = i ∧ L (10 * i + j) = hr r + L (10 * to r + j))
theorem sp_le {fr to hr : Int → Int} {n : Int} {L L2 : Int → Int} (hv : RV fr to hr n) (h : SPm fr to hr n L) (h2 : SPm fr to hr n L2) : ∀ (m : Nat) (i j : Int), 0 ≤ i → i < 10 → 0 ≤ j → j < 10 → L (10 * i + j) < m → L2 (10 * i + j) ≤ L (10 * i + j)
  | 0, i, j, i1, i2, j1, j2, hm => by have := (h.2.1 (10 * i + j) (by omega) (by omega)).1; omega
  | m + 1, i, j, i1, i2, j1, j2, hm => by
    by_cases e : i = j
    · subst e; rw [h.1 i i1 i2, h2.1 i i1 i2]; omega
    · by_cases q : L (10 * i + j) = 10000
      · have := (h2.2.1 (10 * i + j) (by omega) (by omega)).2; omega
      · obtain ⟨r, r1, r2, r3, r4⟩ := h.2.2.2 i j i1 i2 j1 j2 e q
        have v := hv r r1 r2
        have ih := sp_le hv h h2 m (to r) j v.2.1.1 v.2.1.2 j1 j2 (by omega)
        have f := h2.2.2.1 r j r1 r2 j1 j2
        rw [r3] at f
        omega
theorem sp_uniq {fr to hr : Int → Int} {n : Int} {L L2 : Int → Int} (hv : RV fr to hr n) (h : SPm fr to hr n L) (h2 : SPm fr to hr n L2) {i j : Int} (i1 : 0 ≤ i) (i2 : i < 10) (j1 : 0 ≤ j) (j2 : j < 10) : L (10 * i + j) = L2 (10 * i + j) := by
  have a := sp_le hv h h2 (L (10 * i + j) + 1).toNat i j i1 i2 j1 j2 (by have := (h.2.1 (10 * i + j) (by omega) (by omega)).1; omega)
  have b := sp_le hv h2 h (L2 (10 * i + j) + 1).toNat i j i1 i2 j1 j2 (by have := (h2.2.1 (10 * i + j) (by omega) (by omega)).1; omega)
  omega
def cnl (L : Int → Int) (j v : Int) : Int := smI (fun k => if L (10 * k + j) < v then 1 else 0) 0 10
theorem cnl_rng (L : Int → Int) (j v : Int) : 0 ≤ cnl L j v ∧ cnl L j v ≤ 10 := by
  refine ⟨smI_nn (fun k _ _ => by split <;> omega), ?_⟩
  have := smI_mono (f := fun k => if L (10 * k + j) < v then 1 else 0) (g := fun _ => 1) (n := 10) (fun k _ _ => by split <;> omega)
  have e : smI (fun _ => (1 : Int)) 0 10 = 10 := rfl
  unfold cnl
  omega
theorem cnl_more {L : Int → Int} {j k v w : Int} (k1 : 0 ≤ k) (k2 : k < 10) (hv : v = L (10 * k + j)) (hw : v < w) : cnl L j v + 1 ≤ cnl L j w := by
  have a := smI_pt2 (f := fun x => if x = k then 1 else if L (10 * x + j) < v then 1 else 0) (g := fun x => if L (10 * x + j) < v then 1 else 0) (k := k) (n := 10) (v := 1) k1 (by omega) (fun x _ _ e => by show (if x = k then _ else _) = _; rw [if_neg e]) (by
    show (if k = k then (1 : Int) else _) = (if L (10 * k + j) < v then 1 else 0) + 1
    rw [if_pos rfl, if_neg (by omega)]; rfl)
  have b := smI_mono (f := fun x => if x = k then 1 else if L (10 * x + j) < v then 1 else 0) (g := fun x => if L (10 * x + j) < w then 1 else 0) (n := 10) (fun x _ _ => by
    show (if x = k then (1 : Int) else if L (10 * x + j) < v then 1 else 0) ≤ (if L (10 * x + j) < w then 1 else 0)
    by_cases e : x = k
    · rw [if_pos e, if_pos (by rw [e]; omega)]; omega
    · rw [if_neg e]
      by_cases q : L (10 * x + j) < v
      · rw [if_pos q, if_pos (by omega)]; omega
      · rw [if_neg q]; split <;> omega)
  unfold cnl
  omega
theorem sp_bnd {fr to hr : Int → Int} {n : Int} {L : Int → Int} (hv : RV fr to hr n) (h : SPm fr to hr n L) : ∀ (m : Nat) (i j : Int), 0 ≤ i → i < 10 → 0 ≤ j → j < 10 → L (10 * i + j) < m → L (10 * i + j) ≠ 10000 → L (10 * i + j) ≤ 9 * cnl L j (L (10 * i + j))
  | 0, i, j, i1, i2, j1, j2, hm, hq => by have := (h.2.1 (10 * i + j) (by omega) (by omega)).1; omega
  | m + 1, i, j, i1, i2, j1, j2, hm, hq => by
    by_cases e : i = j
    · subst e; have := cnl_rng L i (L (10 * i + i)); rw [h.1 i i1 i2] at this ⊢; omega
    · obtain ⟨r, r1, r2, r3, r4⟩ := h.2.2.2 i j i1 i2 j1 j2 e hq
      have v := hv r r1 r2
      have rg := h.2.1 (10 * i + j) (by omega) (by omega)
      have ih := sp_bnd hv h m (to r) j v.2.1.1 v.2.1.2 j1 j2 (by omega) (by omega)
      have c := cnl_more (L := L) (j := j) (k := to r) (v := L (10 * to r + j)) (w := L (10 * i + j)) v.2.1.1 v.2.1.2 rfl (by omega)
      omega
theorem sp_90 {fr to hr : Int → Int} {n : Int} {L : Int → Int} (hv : RV fr to hr n) (h : SPm fr to hr n L) {i j : Int} (i1 : 0 ≤ i) (i2 : i < 10) (j1 : 0 ≤ j) (j2 : j < 10) (hq : L (10 * i + j) ≠ 10000) : L (10 * i + j) ≤ 90 := by
  have a := sp_bnd hv h (L (10 * i + j) + 1).toNat i j i1 i2 j1 j2 (by have := (h.2.1 (10 * i + j) (by omega) (by omega)).1; omega) hq
  have b := cnl_rng L j (L (10 * i + j))
  omega
/-- while it is reckoned -/
def RK (fr to hr : Int → Int) (n : Int) (L : Int → Int) : Prop :=
  (∀ i : Int, 0 ≤ i → i < 10 → L (10 * i + i) = 0) ∧ (∀ k : Int, 0 ≤ k → k < 100 → 0 ≤ L k ∧ L k ≤ 10000) ∧
  (∀ i j : Int, 0 ≤ i → i < 10 → 0 ≤ j → j < 10 → i ≠ j → L (10 * i + j) ≠ 10000 → ∃ r : Int, 0 ≤ r ∧ r < n ∧ fr r = i ∧ hr r + L (10 * to r + j) ≤ L (10 * i + j))
theorem rk_sp {fr to hr : Int → Int} {n : Int} {L : Int → Int} (h : RK fr to hr n L) (hf : ∀ r j : Int, 0 ≤ r → r < n → 0 ≤ j → j < 10 → L (10 * fr r + j) ≤ hr r + L (10 * to r + j)) : SPm fr to hr n L := by
  refine ⟨h.1, h.2.1, hf, fun i j i1 i2 j1 j2 e q => ?_⟩
  obtain ⟨r, r1, r2, r3, r4⟩ := h.2.2 i j i1 i2 j1 j2 e q
  have f := hf r j r1 r2 j1 j2
  rw [r3] at f
  exact ⟨r, r1, r2, r3, by omega⟩
theorem rk_upd {fr to hr : Int → Int} {n : Int} {L : Int → Int} {r t v : Int} (hv : RV fr to hr n) (h : RK fr to hr n L) (r1 : 0 ≤ r) (r2 : r < n) (t1 : 0 ≤ t) (t2 : t < 10) (he : v = hr r + L (10 * to r + t)) (hl : v < L (10 * fr r + t)) : RK fr to hr n (upz L (10 * fr r + t) v) ∧ smI (upz L (10 * fr r + t) v) 0 100 < smI L 0 100 := by
  have w := hv r r1 r2
  have g1 := h.2.1 (10 * fr r + t) (by omega) (by omega)
  have g2 := h.2.1 (10 * to r + t) (by omega) (by omega)
  have le : ∀ x : Int, upz L (10 * fr r + t) v x ≤ L x := by
    intro x; unfold upz; split
    · rename_i e; rw [e]; omega
    · omega
  refine ⟨⟨fun i i1 i2 => ?_, fun k k1 k2 => ?_, fun i j i1 i2 j1 j2 e q => ?_⟩, ?_⟩
  · by_cases e : 10 * i + i = 10 * fr r + t
    · have : i = fr r ∧ i = t := by omega
      have d := h.1 i i1 i2
      rw [e] at d; omega
    · rw [upz_ne _ _ e]; exact h.1 i i1 i2
  · unfold upz; split
    · omega
    · exact h.2.1 k k1 k2
  · by_cases z : 10 * i + j = 10 * fr r + t
    · have zz : i = fr r ∧ j = t := by omega
      rw [z, upz_self]
      refine ⟨r, r1, r2, zz.1.symm, ?_⟩
      have := le (10 * to r + j)
      rw [zz.2] at this ⊢
      omega
    · rw [upz_ne _ _ z] at q ⊢
      obtain ⟨r', a1, a2, a3, a4⟩ := h.2.2 i j i1 i2 j1 j2 e q
      have := le (10 * to r' + j)
      exact ⟨r', a1, a2, a3, by omega⟩
  · rw [smI_pt (f := upz L (10 * fr r + t) v) (g := L) (k := 10 * fr r + t) (n := 100) (by omega) (by omega) (fun x _ _ e => upz_ne _ _ e), upz_self]
    omega
theorem rk_0 {fr to hr : Int → Int} {n : Int} {L : Int → Int} (h : ∀ j : Int, 0 ≤ j → j < 100 → L j = if j % 11 = 0 then 0 else 10000) : RK fr to hr n L := by
  refine ⟨fun i i1 i2 => ?_, fun k k1 k2 => ?_, fun i j i1 i2 j1 j2 e q => ?_⟩
  · rw [h _ (by omega) (by omega), if_pos (by omega)]
  · rw [h _ k1 k2]; split <;> omega
  · rw [h _ (by omega) (by omega)] at q
    by_cases z : (10 * i + j) % 11 = 0
    · omega
    · rw [if_neg z] at q; exact absurd rfl q
/-! a new road -/
def mL (L : Int → Int) (i j : Int) : Int := if L (i * 10 + j) = -1 then 10000 else L (i * 10 + j)
theorem sp_new {fr to hr fr2 to2 hr2 : Int → Int} {n s e t : Int} {Lm Lm2 L L2 : Int → Int} (hn : 0 ≤ n) (hv : RV fr to hr n) (h : SPm fr to hr n Lm) (hL : ∀ i j : Int, 0 ≤ i → i < 10 → 0 ≤ j → j < 10 → -1 ≤ L (i * 10 + j) ∧ L (i * 10 + j) ≤ 1000 ∧ Lm (10 * i + j) = mL L i j)
    (hL2 : ∀ i j : Int, 0 ≤ i → i < 10 → 0 ≤ j → j < 10 → L2 (i * 10 + j) = shv L s e t i j) (hs : 0 ≤ s ∧ s < 10) (he : 0 ≤ e ∧ e < 10) (ht : 1 ≤ t ∧ t ≤ 9)
    (hold : ∀ r : Int, 0 ≤ r → r < n → fr2 r = fr r ∧ to2 r = to r ∧ hr2 r = hr r) (hnew : fr2 n = s ∧ to2 n = e ∧ hr2 n = t) (hm2 : ∀ i j : Int, 0 ≤ i → i < 10 → 0 ≤ j → j < 10 → Lm2 (10 * i + j) = mL L2 i j) : SPm fr2 to2 hr2 (n + 1) Lm2 := by
  have fin : ∀ i j : Int, 0 ≤ i → i < 10 → 0 ≤ j → j < 10 → (L (i * 10 + j) = -1 ∧ Lm (10 * i + j) = 10000) ∨ (0 ≤ L (i * 10 + j) ∧ L (i * 10 + j) ≤ 90 ∧ Lm (10 * i + j) = L (i * 10 + j)) := by
    intro i j i1 i2 j1 j2
    have a := hL i j i1 i2 j1 j2
    have b := h.2.1 (10 * i + j) (by omega) (by omega)
    have c := a.2.2
    unfold mL at c
    by_cases z : L (i * 10 + j) = -1
    · rw [if_pos z] at c; exact Or.inl ⟨z, c⟩
    · rw [if_neg z] at c
      have d := sp_90 hv h i1 i2 j1 j2 (by omega)
      exact Or.inr ⟨by omega, by omega, c⟩
  have nw : ∀ i j : Int, 0 ≤ i → i < 10 → 0 ≤ j → j < 10 → (Lm2 (10 * i + j) = Lm (10 * i + j) ∧ (Lm (10 * i + s) = 10000 ∨ Lm (10 * e + j) = 10000 ∨ Lm (10 * i + j) ≤ Lm (10 * i + s) + t + Lm (10 * e + j))) ∨ (Lm2 (10 * i + j) = Lm (10 * i + s) + t + Lm (10 * e + j) ∧ Lm (10 * i + s) ≤ 90 ∧ Lm (10 * e + j) ≤ 90 ∧ Lm2 (10 * i + j) < Lm (10 * i + j)) := by
    intro i j i1 i2 j1 j2
    have m := hm2 i j i1 i2 j1 j2
    unfold mL at m
    rw [hL2 i j i1 i2 j1 j2] at m
    unfold shv at m
    have a := fin i s i1 i2 hs.1 hs.2
    have b := fin e j he.1 he.2 j1 j2
    have c := fin i j i1 i2 j1 j2
    by_cases q : L (i * 10 + s) ≠ -1 ∧ L (e * 10 + j) ≠ -1 ∧ (L (i * 10 + j) = -1 ∨ L (i * 10 + s) + t + L (e * 10 + j) < L (i * 10 + j))
    · rw [if_pos q] at m
      rw [if_neg (by omega)] at m
      right; omega
    · rw [if_neg q] at m
      left
      refine ⟨?_, by omega⟩
      split at m <;> omega
  have rng : ∀ i j : Int, 0 ≤ i → i < 10 → 0 ≤ j → j < 10 → 0 ≤ Lm (10 * i + j) ∧ (Lm (10 * i + j) ≤ 90 ∨ Lm (10 * i + j) = 10000) := by
    intro i j i1 i2 j1 j2
    have c := fin i j i1 i2 j1 j2
    omega
  have le2 : ∀ i j : Int, 0 ≤ i → i < 10 → 0 ≤ j → j < 10 → Lm2 (10 * i + j) ≤ Lm (10 * i + j) := by
    intro i j i1 i2 j1 j2
    have c := nw i j i1 i2 j1 j2
    omega
  have ej : ∀ j : Int, 0 ≤ j → j < 10 → Lm2 (10 * e + j) = Lm (10 * e + j) := by
    intro j j1 j2
    have c := nw e j he.1 he.2 j1 j2
    have d := rng e s he.1 he.2 hs.1 hs.2
    omega
  have feas : ∀ r j : Int, 0 ≤ r → r < n + 1 → 0 ≤ j → j < 10 → Lm2 (10 * fr2 r + j) ≤ hr2 r + Lm2 (10 * to2 r + j) := by
    intro r j r1 r2 j1 j2
    by_cases q : r = n
    · subst q
      rw [hnew.1, hnew.2.1, hnew.2.2, ej j j1 j2]
      have c := nw s j hs.1 hs.2 j1 j2
      have d := h.1 s hs.1 hs.2
      have g := rng s j hs.1 hs.2 j1 j2
      have g2 := rng e j he.1 he.2 j1 j2
      omega
    · have o := hold r r1 (by omega)
      have v := hv r r1 (by omega)
      rw [o.1, o.2.1, o.2.2]
      have f1 := h.2.2.1 r s r1 (by omega) hs.1 hs.2
      have f2 := h.2.2.1 r j r1 (by omega) j1 j2
      have c1 := nw (fr r) j v.1.1 v.1.2 j1 j2
      have c2 := nw (to r) j v.2.1.1 v.2.1.2 j1 j2
      have g1 := rng (fr r) s v.1.1 v.1.2 hs.1 hs.2
      have g2 := rng (to r) s v.2.1.1 v.2.1.2 hs.1 hs.2
      have g3 := rng (fr r) j v.1.1 v.1.2 j1 j2
      have g4 := rng (to r) j v.2.1.1 v.2.1.2 j1 j2
      have g5 := rng e j he.1 he.2 j1 j2
      omega
  refine ⟨fun i i1 i2 => ?_, fun k k1 k2 => ?_, feas, fun i j i1 i2 j1 j2 hne hq => ?_⟩
  · have c := nw i i i1 i2 i1 i2
    have d := h.1 i i1 i2
    have g1 := rng i s i1 i2 hs.1 hs.2
    have g2 := rng e i he.1 he.2 i1 i2
    omega
  · obtain ⟨i, j, hi, hj, rfl⟩ : ∃ i j : Int, (0 ≤ i ∧ i < 10) ∧ (0 ≤ j ∧ j < 10) ∧ k = 10 * i + j := ⟨k / 10, k % 10, by omega, by omega, by omega⟩
    have c := nw i j hi.1 hi.2 hj.1 hj.2
    have g1 := rng i s hi.1 hi.2 hs.1 hs.2
    have g2 := rng e j he.1 he.2 hj.1 hj.2
    have g3 := rng i j hi.1 hi.2 hj.1 hj.2
    omega
  · have c := nw i j i1 i2 j1 j2
    rcases c with c | c
    · obtain ⟨r, r1, r2, r3, r4⟩ := h.2.2.2 i j i1 i2 j1 j2 hne (by omega)
      have o := hold r r1 r2
      have v := hv r r1 r2
      have f := feas r j r1 (by omega) j1 j2
      have l := le2 (to r) j v.2.1.1 v.2.1.2 j1 j2
      rw [o.1, o.2.1, o.2.2, r3] at f
      refine ⟨r, r1, by omega, by rw [o.1]; exact r3, ?_⟩
      rw [o.2.1, o.2.2]; omega
    · by_cases z : i = s
      · refine ⟨n, hn, by omega, by rw [hnew.1, z], ?_⟩
        rw [hnew.2.1, hnew.2.2, ej j j1 j2, c.1, z, h.1 s hs.1 hs.2]
        omega
      · obtain ⟨r, r1, r2, r3, r4⟩ := h.2.2.2 i s i1 i2 hs.1 hs.2 z (by omega)
        have o := hold r r1 r2
        have v := hv r r1 r2
        have f := feas r j r1 (by omega) j1 j2
        have c2 := nw (to r) j v.2.1.1 v.2.1.2 j1 j2
        have g2 := rng (to r) s v.2.1.1 v.2.1.2 hs.1 hs.2
        rw [o.1, o.2.1, o.2.2, r3] at f
        refine ⟨r, r1, by omega, by rw [o.1]; exact r3, ?_⟩
        rw [o.2.1, o.2.2]; omega
/-- no road yet -/
theorem sp_none {fr to hr : Int → Int} {L : Int → Int} (h : ∀ i j : Int, 0 ≤ i → i < 10 → 0 ≤ j → j < 10 → L (10 * i + j) = if i = j then 0 else 10000) : SPm fr to hr 0 L := by
  refine ⟨fun i i1 i2 => by rw [h i i i1 i2 i1 i2, if_pos rfl], fun k k1 k2 => ?_, fun r j r1 r2 => by omega, fun i j i1 i2 j1 j2 e q => ?_⟩
  · obtain ⟨i, j, hi, hj, rfl⟩ : ∃ i j : Int, (0 ≤ i ∧ i < 10) ∧ (0 ≤ j ∧ j < 10) ∧ k = 10 * i + j := ⟨k / 10, k % 10, by omega, by omega, by omega⟩
    rw [h i j hi.1 hi.2 hj.1 hj.2]; split <;> omega
  · rw [h i j i1 i2 j1 j2, if_neg e] at q; exact absurd rfl q

set_option maxHeartbeats 4000000 in
set_option maxRecDepth 100000 in
theorem c_X8_reckons (zl : Launch) (D : va_G) (K : tyK) (h : Nat) (a : Nat → Nat) (M : Bd) (hr8 : 0 ≤ M.2 4 ∧ M.2 4 ≤ 16) (hrv : RV (M.1 5) (M.1 6) (M.1 8) (M.2 4)) : Mz zl yX8_reckons cX8_reckons 5 (none) 0 0 0 0 D K [.ref h] (wMo K h a M) (fun r_ w2_ gc gs => ∃ (L2 : Int → Int), r_ = none ∧ w2_ = (wMo K h a ((upf M.1 11 L2), M.2)) ∧ gc = 0 ∧ gs = 0 ∧ (SPm (M.1 5) (M.1 6) (M.1 8) (M.2 4) L2)) := by
  refine Mz.ofZ (by decide) rfl (Nat.le_of_ble_eq_true rfl) ?_
  intro zp ze zR zs zm zargs zbelow zmeth zc zA zQ ZC ZE hRf hRc hRs hRl
  refine z_iconst ZC dX8_reckons_0 ?_
  refine z_istore_n ZC 1 dX8_reckons_1 rfl (by decide) ?_
  have lp_2 : ∀ (n_2 : Nat) (k : Int) (L : Int → Int), (0 ≤ k ∧ k ≤ 100) → (∀ j : Int, 0 ≤ j → j < k → L j = if j % 11 = 0 then 0 else 10000) → ((100 - k).toNat) < n_2 → Zw zp zl ze zR zs zm zargs zbelow zmeth zc D zA 5 zQ 0 0 ([(h, .inr (8, [vZ (M.2 0), .ref (a 1), .ref (a 2), vZ (M.2 3), vZ (M.2 4), .ref (a 5), .ref (a 6), .ref (a 7), .ref (a 8), .ref (a 9), .ref (a 10), .ref (a 11), vZ (M.2 12), .ref (a 13), .ref (a 14), .ref (a 15), .ref (a 16), .ref (a 17), .ref (a 18), .ref (a 19), vZ (M.2 20), vZ (M.2 21), .ref (a 22), .ref (a 23), .ref (a 24), .ref (a 25), .ref (a 26), .ref (a 27), .ref (a 28), .ref (a 29), .ref (a 30), .ref (a 31), .ref (a 32), .ref (a 33), vZ (M.2 34), .ref (a 35), vZ (M.2 36), vZ (M.2 37), vZ (M.2 38), .ref (a 39), .ref (a 40), vZ (M.2 41), vZ (M.2 42), vZ (M.2 43)])), ((a 1), .inl (K.1, 10, .inl (ar (M.1 1)))), ((a 2), .inl (K.1, 10, .inl (ar (M.1 2)))), ((a 5), .inl (K.1, 16, .inl (ar (M.1 5)))), ((a 6), .inl (K.1, 16, .inl (ar (M.1 6)))), ((a 7), .inl (K.1, 16, .inl (ar (M.1 7)))), ((a 8), .inl (K.1, 16, .inl (ar (M.1 8)))), ((a 9), .inl (K.1, 16, .inl (ar (M.1 9)))), ((a 10), .inl (K.1, 16, .inl (ar (M.1 10)))), ((a 11), .inl (K.1, 100, .inl (ar L))), ((a 13), .inl (K.1, 8, .inl (ar (M.1 13)))), ((a 14), .inl (K.1, 8, .inl (ar (M.1 14)))), ((a 15), .inl (K.1, 8, .inl (ar (M.1 15)))), ((a 16), .inl (K.1, 8, .inl (ar (M.1 16)))), ((a 17), .inl (K.1, 3200, .inl (ar (M.1 17)))), ((a 18), .inl (K.1, 3200, .inl (ar (M.1 18)))), ((a 19), .inl (K.2.1, 3200, .inl (ar (M.1 19)))), ((a 22), .inl (K.1, 3400, .inl (ar (M.1 22)))), ((a 23), .inl (K.1, 3400, .inl (ar (M.1 23)))), ((a 24), .inl (K.1, 3400, .inl (ar (M.1 24)))), ((a 25), .inl (K.1, 3400, .inl (ar (M.1 25)))), ((a 26), .inl (K.1, 32, .inl (ar (M.1 26)))), ((a 27), .inl (K.1, 32, .inl (ar (M.1 27)))), ((a 28), .inl (K.2.1, 8, .inl (ar (M.1 28)))), ((a 29), .inl (K.1, 8, .inl (ar (M.1 29)))), ((a 30), .inl (K.1, 8, .inl (ar (M.1 30)))), ((a 31), .inl (K.1, 10, .inl (ar (M.1 31)))), ((a 32), .inl (K.1, 10, .inl (ar (M.1 32)))), ((a 33), .inl (K.1, 10, .inl (ar (M.1 33)))), ((a 35), .inl (K.1, 13711, .inl (ar (M.1 35)))), ((a 39), .inl (K.1, 4, .inl (ar (M.1 39)))), ((a 40), .inl (K.1, 4, .inl (ar (M.1 40))))]) 2 [(0, .ref h), (1, vZ k)] [] := by
    intro n_2
    induction n_2 with
    | zero => intro k L hk hL hm_2; exact absurd hm_2 (Nat.not_lt_zero _)
    | succ n_2 ih_2 =>
      intro k L hk hL hm_2
      refine z_iload_n ZC 1 dX8_reckons_2 rfl rfl ?_
      refine z_bipush ZC dX8_reckons_3 (by decide) ?_
      refine z_icmp_ge ZC 34 dX8_reckons_5 (by decide) (by omega) (by omega) (fun c_5 => ?_) (fun c_5 => ?_)
      · skip
        refine z_iconst ZC dX8_reckons_34 ?_
        refine z_istore_n ZC 1 dX8_reckons_35 rfl (by decide) ?_
        have lp_36 : ∀ (n_36 : Nat) (more : Int) (L : Int → Int), (more = 0 ∨ more = 1) → (RK (M.1 5) (M.1 6) (M.1 8) (M.2 4) L) → (more = 0 → ∀ q j : Int, 0 ≤ q → q < M.2 4 → 0 ≤ j → j < 10 → L (10 * M.1 5 q + j) ≤ M.1 8 q + L (10 * M.1 6 q + j)) → (2 * (smI L 0 100).toNat + more.toNat) < n_36 → Zw zp zl ze zR zs zm zargs zbelow zmeth zc D zA 5 zQ 0 0 ([(h, .inr (8, [vZ (M.2 0), .ref (a 1), .ref (a 2), vZ (M.2 3), vZ (M.2 4), .ref (a 5), .ref (a 6), .ref (a 7), .ref (a 8), .ref (a 9), .ref (a 10), .ref (a 11), vZ (M.2 12), .ref (a 13), .ref (a 14), .ref (a 15), .ref (a 16), .ref (a 17), .ref (a 18), .ref (a 19), vZ (M.2 20), vZ (M.2 21), .ref (a 22), .ref (a 23), .ref (a 24), .ref (a 25), .ref (a 26), .ref (a 27), .ref (a 28), .ref (a 29), .ref (a 30), .ref (a 31), .ref (a 32), .ref (a 33), vZ (M.2 34), .ref (a 35), vZ (M.2 36), vZ (M.2 37), vZ (M.2 38), .ref (a 39), .ref (a 40), vZ (M.2 41), vZ (M.2 42), vZ (M.2 43)])), ((a 1), .inl (K.1, 10, .inl (ar (M.1 1)))), ((a 2), .inl (K.1, 10, .inl (ar (M.1 2)))), ((a 5), .inl (K.1, 16, .inl (ar (M.1 5)))), ((a 6), .inl (K.1, 16, .inl (ar (M.1 6)))), ((a 7), .inl (K.1, 16, .inl (ar (M.1 7)))), ((a 8), .inl (K.1, 16, .inl (ar (M.1 8)))), ((a 9), .inl (K.1, 16, .inl (ar (M.1 9)))), ((a 10), .inl (K.1, 16, .inl (ar (M.1 10)))), ((a 11), .inl (K.1, 100, .inl (ar L))), ((a 13), .inl (K.1, 8, .inl (ar (M.1 13)))), ((a 14), .inl (K.1, 8, .inl (ar (M.1 14)))), ((a 15), .inl (K.1, 8, .inl (ar (M.1 15)))), ((a 16), .inl (K.1, 8, .inl (ar (M.1 16)))), ((a 17), .inl (K.1, 3200, .inl (ar (M.1 17)))), ((a 18), .inl (K.1, 3200, .inl (ar (M.1 18)))), ((a 19), .inl (K.2.1, 3200, .inl (ar (M.1 19)))), ((a 22), .inl (K.1, 3400, .inl (ar (M.1 22)))), ((a 23), .inl (K.1, 3400, .inl (ar (M.1 23)))), ((a 24), .inl (K.1, 3400, .inl (ar (M.1 24)))), ((a 25), .inl (K.1, 3400, .inl (ar (M.1 25)))), ((a 26), .inl (K.1, 32, .inl (ar (M.1 26)))), ((a 27), .inl (K.1, 32, .inl (ar (M.1 27)))), ((a 28), .inl (K.2.1, 8, .inl (ar (M.1 28)))), ((a 29), .inl (K.1, 8, .inl (ar (M.1 29)))), ((a 30), .inl (K.1, 8, .inl (ar (M.1 30)))), ((a 31), .inl (K.1, 10, .inl (ar (M.1 31)))), ((a 32), .inl (K.1, 10, .inl (ar (M.1 32)))), ((a 33), .inl (K.1, 10, .inl (ar (M.1 33)))), ((a 35), .inl (K.1, 13711, .inl (ar (M.1 35)))), ((a 39), .inl (K.1, 4, .inl (ar (M.1 39)))), ((a 40), .inl (K.1, 4, .inl (ar (M.1 40))))]) 36 [(0, .ref h), (1, vZ more)] [] := by
          intro n_36
          induction n_36 with
          | zero => intro more L hm hk hf hm_36; exact absurd hm_36 (Nat.not_lt_zero _)
          | succ n_36 ih_36 =>
            intro more L hm hk hf hm_36
            refine z_iload_n ZC 1 dX8_reckons_36 rfl rfl ?_
            refine z_if_eq ZC 144 dX8_reckons_37 (by decide) (by omega) (fun c_37 => ?_) (fun c_37 => ?_)
            · skip
              refine z_vret ZC ZE dX8_reckons_144 (by omega) (by omega) (Nat.le_of_ble_eq_true rfl) ⟨L, rfl, rfl, by omega, by omega, ?_⟩
              · skip
                exact rk_sp hk (hf (by omega))
            · skip
              obtain ⟨S0, hS0⟩ : ∃ S0 : Int, S0 = smI L 0 100 := ⟨_, rfl⟩
              rw [← hS0] at hm_36
              have hs0 : 0 ≤ S0 := by rw [hS0]; exact smI_nn (fun j a b => (hk.2.1 j a (by omega)).1)
              refine z_iconst ZC dX8_reckons_40 ?_
              refine z_istore_n ZC 1 dX8_reckons_41 rfl (by decide) ?_
              refine z_iconst ZC dX8_reckons_42 ?_
              refine z_istore_n ZC 2 dX8_reckons_43 rfl (by decide) ?_
              have lp_44 : ∀ (n_44 : Nat) (more1 : Int) (r : Int) (L : Int → Int), (0 ≤ r ∧ r ≤ M.2 4) → (more1 = 0 ∨ more1 = 1) → (RK (M.1 5) (M.1 6) (M.1 8) (M.2 4) L) → (more1 = 0 → ∀ q j : Int, 0 ≤ q → q < r → 0 ≤ j → j < 10 → L (10 * M.1 5 q + j) ≤ M.1 8 q + L (10 * M.1 6 q + j)) → (0 ≤ smI L 0 100 ∧ smI L 0 100 ≤ S0 ∧ (more1 = 1 → smI L 0 100 < S0)) → ((M.2 4 - r).toNat) < n_44 → Zw zp zl ze zR zs zm zargs zbelow zmeth zc D zA 5 zQ 0 0 ([(h, .inr (8, [vZ (M.2 0), .ref (a 1), .ref (a 2), vZ (M.2 3), vZ (M.2 4), .ref (a 5), .ref (a 6), .ref (a 7), .ref (a 8), .ref (a 9), .ref (a 10), .ref (a 11), vZ (M.2 12), .ref (a 13), .ref (a 14), .ref (a 15), .ref (a 16), .ref (a 17), .ref (a 18), .ref (a 19), vZ (M.2 20), vZ (M.2 21), .ref (a 22), .ref (a 23), .ref (a 24), .ref (a 25), .ref (a 26), .ref (a 27), .ref (a 28), .ref (a 29), .ref (a 30), .ref (a 31), .ref (a 32), .ref (a 33), vZ (M.2 34), .ref (a 35), vZ (M.2 36), vZ (M.2 37), vZ (M.2 38), .ref (a 39), .ref (a 40), vZ (M.2 41), vZ (M.2 42), vZ (M.2 43)])), ((a 1), .inl (K.1, 10, .inl (ar (M.1 1)))), ((a 2), .inl (K.1, 10, .inl (ar (M.1 2)))), ((a 5), .inl (K.1, 16, .inl (ar (M.1 5)))), ((a 6), .inl (K.1, 16, .inl (ar (M.1 6)))), ((a 7), .inl (K.1, 16, .inl (ar (M.1 7)))), ((a 8), .inl (K.1, 16, .inl (ar (M.1 8)))), ((a 9), .inl (K.1, 16, .inl (ar (M.1 9)))), ((a 10), .inl (K.1, 16, .inl (ar (M.1 10)))), ((a 11), .inl (K.1, 100, .inl (ar L))), ((a 13), .inl (K.1, 8, .inl (ar (M.1 13)))), ((a 14), .inl (K.1, 8, .inl (ar (M.1 14)))), ((a 15), .inl (K.1, 8, .inl (ar (M.1 15)))), ((a 16), .inl (K.1, 8, .inl (ar (M.1 16)))), ((a 17), .inl (K.1, 3200, .inl (ar (M.1 17)))), ((a 18), .inl (K.1, 3200, .inl (ar (M.1 18)))), ((a 19), .inl (K.2.1, 3200, .inl (ar (M.1 19)))), ((a 22), .inl (K.1, 3400, .inl (ar (M.1 22)))), ((a 23), .inl (K.1, 3400, .inl (ar (M.1 23)))), ((a 24), .inl (K.1, 3400, .inl (ar (M.1 24)))), ((a 25), .inl (K.1, 3400, .inl (ar (M.1 25)))), ((a 26), .inl (K.1, 32, .inl (ar (M.1 26)))), ((a 27), .inl (K.1, 32, .inl (ar (M.1 27)))), ((a 28), .inl (K.2.1, 8, .inl (ar (M.1 28)))), ((a 29), .inl (K.1, 8, .inl (ar (M.1 29)))), ((a 30), .inl (K.1, 8, .inl (ar (M.1 30)))), ((a 31), .inl (K.1, 10, .inl (ar (M.1 31)))), ((a 32), .inl (K.1, 10, .inl (ar (M.1 32)))), ((a 33), .inl (K.1, 10, .inl (ar (M.1 33)))), ((a 35), .inl (K.1, 13711, .inl (ar (M.1 35)))), ((a 39), .inl (K.1, 4, .inl (ar (M.1 39)))), ((a 40), .inl (K.1, 4, .inl (ar (M.1 40))))]) 44 [(0, .ref h), (1, vZ more1), (2, vZ r)] [] := by
                intro n_44
                induction n_44 with
                | zero => intro more1 r L hr k1 k2 k3 k4 hm_44; exact absurd hm_44 (Nat.not_lt_zero _)
                | succ n_44 ih_44 =>
                  intro more1 r L hr k1 k2 k3 k4 hm_44
                  refine z_iload_n ZC 2 dX8_reckons_44 rfl rfl ?_
                  refine z_aload_n ZC 0 dX8_reckons_45 rfl rfl ?_
                  refine z_get ZC inUX8 0 rfl rfl 4 (by decide) uF_X8_118 rfl dX8_reckons_46 ?_
                  refine z_icmp_ge ZC 141 dX8_reckons_49 (by decide) (by omega) (by omega) (fun c_49 => ?_) (fun c_49 => ?_)
                  · skip
                    refine z_goto ZC 36 dX8_reckons_141 (by decide) ?_
                    refine z_ws (ws2 := [(h, .inr (8, [vZ (M.2 0), .ref (a 1), .ref (a 2), vZ (M.2 3), vZ (M.2 4), .ref (a 5), .ref (a 6), .ref (a 7), .ref (a 8), .ref (a 9), .ref (a 10), .ref (a 11), vZ (M.2 12), .ref (a 13), .ref (a 14), .ref (a 15), .ref (a 16), .ref (a 17), .ref (a 18), .ref (a 19), vZ (M.2 20), vZ (M.2 21), .ref (a 22), .ref (a 23), .ref (a 24), .ref (a 25), .ref (a 26), .ref (a 27), .ref (a 28), .ref (a 29), .ref (a 30), .ref (a 31), .ref (a 32), .ref (a 33), vZ (M.2 34), .ref (a 35), vZ (M.2 36), vZ (M.2 37), vZ (M.2 38), .ref (a 39), .ref (a 40), vZ (M.2 41), vZ (M.2 42), vZ (M.2 43)])), ((a 1), .inl (K.1, 10, .inl (ar (M.1 1)))), ((a 2), .inl (K.1, 10, .inl (ar (M.1 2)))), ((a 5), .inl (K.1, 16, .inl (ar (M.1 5)))), ((a 6), .inl (K.1, 16, .inl (ar (M.1 6)))), ((a 7), .inl (K.1, 16, .inl (ar (M.1 7)))), ((a 8), .inl (K.1, 16, .inl (ar (M.1 8)))), ((a 9), .inl (K.1, 16, .inl (ar (M.1 9)))), ((a 10), .inl (K.1, 16, .inl (ar (M.1 10)))), ((a 11), .inl (K.1, 100, .inl (ar L))), ((a 13), .inl (K.1, 8, .inl (ar (M.1 13)))), ((a 14), .inl (K.1, 8, .inl (ar (M.1 14)))), ((a 15), .inl (K.1, 8, .inl (ar (M.1 15)))), ((a 16), .inl (K.1, 8, .inl (ar (M.1 16)))), ((a 17), .inl (K.1, 3200, .inl (ar (M.1 17)))), ((a 18), .inl (K.1, 3200, .inl (ar (M.1 18)))), ((a 19), .inl (K.2.1, 3200, .inl (ar (M.1 19)))), ((a 22), .inl (K.1, 3400, .inl (ar (M.1 22)))), ((a 23), .inl (K.1, 3400, .inl (ar (M.1 23)))), ((a 24), .inl (K.1, 3400, .inl (ar (M.1 24)))), ((a 25), .inl (K.1, 3400, .inl (ar (M.1 25)))), ((a 26), .inl (K.1, 32, .inl (ar (M.1 26)))), ((a 27), .inl (K.1, 32, .inl (ar (M.1 27)))), ((a 28), .inl (K.2.1, 8, .inl (ar (M.1 28)))), ((a 29), .inl (K.1, 8, .inl (ar (M.1 29)))), ((a 30), .inl (K.1, 8, .inl (ar (M.1 30)))), ((a 31), .inl (K.1, 10, .inl (ar (M.1 31)))), ((a 32), .inl (K.1, 10, .inl (ar (M.1 32)))), ((a 33), .inl (K.1, 10, .inl (ar (M.1 33)))), ((a 35), .inl (K.1, 13711, .inl (ar (M.1 35)))), ((a 39), .inl (K.1, 4, .inl (ar (M.1 39)))), ((a 40), .inl (K.1, 4, .inl (ar (M.1 40))))]) rfl (z_lv (lv2 := [(0, .ref h), (1, vZ more1)]) ⟨rfl, rfl, trivial⟩ ?_)
                    refine ih_36 more1 L ?_ ?_ ?_ (by omega)
                    · skip
                      exact k1
                    · skip
                      exact k2
                    · skip
                      intro q
                      have er : r = M.2 4 := by omega
                      rw [← er]
                      exact k3 q
                  · skip
                    refine z_iconst ZC dX8_reckons_52 ?_
                    refine z_istore_n ZC 3 dX8_reckons_53 rfl (by decide) ?_
                    have lp_54 : ∀ (n_54 : Nat) (more2 : Int) (t : Int) (L : Int → Int), (0 ≤ t ∧ t ≤ 10) → (more2 = 0 ∨ more2 = 1) → (RK (M.1 5) (M.1 6) (M.1 8) (M.2 4) L) → (more2 = 0 → (∀ q j : Int, 0 ≤ q → q < r → 0 ≤ j → j < 10 → L (10 * M.1 5 q + j) ≤ M.1 8 q + L (10 * M.1 6 q + j)) ∧ ∀ j : Int, 0 ≤ j → j < t → L (10 * M.1 5 r + j) ≤ M.1 8 r + L (10 * M.1 6 r + j)) → (0 ≤ smI L 0 100 ∧ smI L 0 100 ≤ S0 ∧ (more2 = 1 → smI L 0 100 < S0)) → ((10 - t).toNat) < n_54 → Zw zp zl ze zR zs zm zargs zbelow zmeth zc D zA 5 zQ 0 0 ([(h, .inr (8, [vZ (M.2 0), .ref (a 1), .ref (a 2), vZ (M.2 3), vZ (M.2 4), .ref (a 5), .ref (a 6), .ref (a 7), .ref (a 8), .ref (a 9), .ref (a 10), .ref (a 11), vZ (M.2 12), .ref (a 13), .ref (a 14), .ref (a 15), .ref (a 16), .ref (a 17), .ref (a 18), .ref (a 19), vZ (M.2 20), vZ (M.2 21), .ref (a 22), .ref (a 23), .ref (a 24), .ref (a 25), .ref (a 26), .ref (a 27), .ref (a 28), .ref (a 29), .ref (a 30), .ref (a 31), .ref (a 32), .ref (a 33), vZ (M.2 34), .ref (a 35), vZ (M.2 36), vZ (M.2 37), vZ (M.2 38), .ref (a 39), .ref (a 40), vZ (M.2 41), vZ (M.2 42), vZ (M.2 43)])), ((a 1), .inl (K.1, 10, .inl (ar (M.1 1)))), ((a 2), .inl (K.1, 10, .inl (ar (M.1 2)))), ((a 5), .inl (K.1, 16, .inl (ar (M.1 5)))), ((a 6), .inl (K.1, 16, .inl (ar (M.1 6)))), ((a 7), .inl (K.1, 16, .inl (ar (M.1 7)))), ((a 8), .inl (K.1, 16, .inl (ar (M.1 8)))), ((a 9), .inl (K.1, 16, .inl (ar (M.1 9)))), ((a 10), .inl (K.1, 16, .inl (ar (M.1 10)))), ((a 11), .inl (K.1, 100, .inl (ar L))), ((a 13), .inl (K.1, 8, .inl (ar (M.1 13)))), ((a 14), .inl (K.1, 8, .inl (ar (M.1 14)))), ((a 15), .inl (K.1, 8, .inl (ar (M.1 15)))), ((a 16), .inl (K.1, 8, .inl (ar (M.1 16)))), ((a 17), .inl (K.1, 3200, .inl (ar (M.1 17)))), ((a 18), .inl (K.1, 3200, .inl (ar (M.1 18)))), ((a 19), .inl (K.2.1, 3200, .inl (ar (M.1 19)))), ((a 22), .inl (K.1, 3400, .inl (ar (M.1 22)))), ((a 23), .inl (K.1, 3400, .inl (ar (M.1 23)))), ((a 24), .inl (K.1, 3400, .inl (ar (M.1 24)))), ((a 25), .inl (K.1, 3400, .inl (ar (M.1 25)))), ((a 26), .inl (K.1, 32, .inl (ar (M.1 26)))), ((a 27), .inl (K.1, 32, .inl (ar (M.1 27)))), ((a 28), .inl (K.2.1, 8, .inl (ar (M.1 28)))), ((a 29), .inl (K.1, 8, .inl (ar (M.1 29)))), ((a 30), .inl (K.1, 8, .inl (ar (M.1 30)))), ((a 31), .inl (K.1, 10, .inl (ar (M.1 31)))), ((a 32), .inl (K.1, 10, .inl (ar (M.1 32)))), ((a 33), .inl (K.1, 10, .inl (ar (M.1 33)))), ((a 35), .inl (K.1, 13711, .inl (ar (M.1 35)))), ((a 39), .inl (K.1, 4, .inl (ar (M.1 39)))), ((a 40), .inl (K.1, 4, .inl (ar (M.1 40))))]) 54 [(0, .ref h), (1, vZ more2), (2, vZ r), (3, vZ t)] [] := by
                      intro n_54
                      induction n_54 with
                      | zero => intro more2 t L ht l1 l2 l3 l4 hm_54; exact absurd hm_54 (Nat.not_lt_zero _)
                      | succ n_54 ih_54 =>
                        intro more2 t L ht l1 l2 l3 l4 hm_54
                        refine z_iload_n ZC 3 dX8_reckons_54 rfl rfl ?_
                        refine z_bipush ZC dX8_reckons_55 (by decide) ?_
                        refine z_icmp_ge ZC 135 dX8_reckons_57 (by decide) (by omega) (by omega) (fun c_57 => ?_) (fun c_57 => ?_)
                        · skip
                          refine z_iinc ZC dX8_reckons_135 rfl (by decide) ?_
                          refine z_goto ZC 44 dX8_reckons_138 (by decide) ?_
                          refine z_ws (ws2 := [(h, .inr (8, [vZ (M.2 0), .ref (a 1), .ref (a 2), vZ (M.2 3), vZ (M.2 4), .ref (a 5), .ref (a 6), .ref (a 7), .ref (a 8), .ref (a 9), .ref (a 10), .ref (a 11), vZ (M.2 12), .ref (a 13), .ref (a 14), .ref (a 15), .ref (a 16), .ref (a 17), .ref (a 18), .ref (a 19), vZ (M.2 20), vZ (M.2 21), .ref (a 22), .ref (a 23), .ref (a 24), .ref (a 25), .ref (a 26), .ref (a 27), .ref (a 28), .ref (a 29), .ref (a 30), .ref (a 31), .ref (a 32), .ref (a 33), vZ (M.2 34), .ref (a 35), vZ (M.2 36), vZ (M.2 37), vZ (M.2 38), .ref (a 39), .ref (a 40), vZ (M.2 41), vZ (M.2 42), vZ (M.2 43)])), ((a 1), .inl (K.1, 10, .inl (ar (M.1 1)))), ((a 2), .inl (K.1, 10, .inl (ar (M.1 2)))), ((a 5), .inl (K.1, 16, .inl (ar (M.1 5)))), ((a 6), .inl (K.1, 16, .inl (ar (M.1 6)))), ((a 7), .inl (K.1, 16, .inl (ar (M.1 7)))), ((a 8), .inl (K.1, 16, .inl (ar (M.1 8)))), ((a 9), .inl (K.1, 16, .inl (ar (M.1 9)))), ((a 10), .inl (K.1, 16, .inl (ar (M.1 10)))), ((a 11), .inl (K.1, 100, .inl (ar L))), ((a 13), .inl (K.1, 8, .inl (ar (M.1 13)))), ((a 14), .inl (K.1, 8, .inl (ar (M.1 14)))), ((a 15), .inl (K.1, 8, .inl (ar (M.1 15)))), ((a 16), .inl (K.1, 8, .inl (ar (M.1 16)))), ((a 17), .inl (K.1, 3200, .inl (ar (M.1 17)))), ((a 18), .inl (K.1, 3200, .inl (ar (M.1 18)))), ((a 19), .inl (K.2.1, 3200, .inl (ar (M.1 19)))), ((a 22), .inl (K.1, 3400, .inl (ar (M.1 22)))), ((a 23), .inl (K.1, 3400, .inl (ar (M.1 23)))), ((a 24), .inl (K.1, 3400, .inl (ar (M.1 24)))), ((a 25), .inl (K.1, 3400, .inl (ar (M.1 25)))), ((a 26), .inl (K.1, 32, .inl (ar (M.1 26)))), ((a 27), .inl (K.1, 32, .inl (ar (M.1 27)))), ((a 28), .inl (K.2.1, 8, .inl (ar (M.1 28)))), ((a 29), .inl (K.1, 8, .inl (ar (M.1 29)))), ((a 30), .inl (K.1, 8, .inl (ar (M.1 30)))), ((a 31), .inl (K.1, 10, .inl (ar (M.1 31)))), ((a 32), .inl (K.1, 10, .inl (ar (M.1 32)))), ((a 33), .inl (K.1, 10, .inl (ar (M.1 33)))), ((a 35), .inl (K.1, 13711, .inl (ar (M.1 35)))), ((a 39), .inl (K.1, 4, .inl (ar (M.1 39)))), ((a 40), .inl (K.1, 4, .inl (ar (M.1 40))))]) rfl (z_lv (lv2 := [(0, .ref h), (1, vZ more2), (2, vZ (r + 1))]) ⟨rfl, rfl, rfl, trivial⟩ ?_)
                          refine ih_44 more2 (r + 1) L ?_ ?_ ?_ ?_ ?_ (dec_lt hm_44 c_49)
                          · skip
                            omega
                          · skip
                            exact l1
                          · skip
                            exact l2
                          · skip
                            intro q x j a b c d
                            by_cases z : x = r
                            · subst z; exact (l3 q).2 j c (by omega)
                            · exact (l3 q).1 x j a (by omega) c d
                          · skip
                            exact l4
                        · skip
                          have hv := hrv r (by omega) (by omega)
                          have g1 := l2.2.1 (10 * M.1 6 r + t) (by omega) (by omega)
                          have g2 := l2.2.1 (10 * M.1 5 r + t) (by omega) (by omega)
                          refine z_aload_n ZC 0 dX8_reckons_60 rfl rfl ?_
                          refine z_get ZC inUX8 0 rfl rfl 8 (by decide) uF_X8_29 rfl dX8_reckons_61 ?_
                          refine z_iload_n ZC 2 dX8_reckons_64 rfl rfl ?_
                          refine z_iald ZC 6 rfl dX8_reckons_65 (by omega) ?_
                          refine z_aload_n ZC 0 dX8_reckons_66 rfl rfl ?_
                          refine z_get ZC inUX8 0 rfl rfl 11 (by decide) uF_X8_38 rfl dX8_reckons_67 ?_
                          refine z_bipush ZC dX8_reckons_70 (by decide) ?_
                          refine z_aload_n ZC 0 dX8_reckons_72 rfl rfl ?_
                          refine z_get ZC inUX8 0 rfl rfl 6 (by decide) uF_X8_23 rfl dX8_reckons_73 ?_
                          refine z_iload_n ZC 2 dX8_reckons_76 rfl rfl ?_
                          refine z_iald ZC 4 rfl dX8_reckons_77 (by omega) ?_
                          refine z_imul ZC dX8_reckons_78 ?_
                          refine z_iload_n ZC 3 dX8_reckons_79 rfl rfl ?_
                          refine z_iadd ZC dX8_reckons_80 ?_
                          refine z_iald ZC 9 rfl dX8_reckons_81 (by omega) ?_
                          refine z_iadd ZC dX8_reckons_82 ?_
                          refine z_nm (fun nn enn => ?_)
                          refine z_istore ZC dX8_reckons_83 (by decide) ?_
                          refine z_iload ZC dX8_reckons_85 rfl ?_
                          refine z_aload_n ZC 0 dX8_reckons_87 rfl rfl ?_
                          refine z_get ZC inUX8 0 rfl rfl 11 (by decide) uF_X8_38 rfl dX8_reckons_88 ?_
                          refine z_bipush ZC dX8_reckons_91 (by decide) ?_
                          refine z_aload_n ZC 0 dX8_reckons_93 rfl rfl ?_
                          refine z_get ZC inUX8 0 rfl rfl 5 (by decide) uF_X8_20 rfl dX8_reckons_94 ?_
                          refine z_iload_n ZC 2 dX8_reckons_97 rfl rfl ?_
                          refine z_iald ZC 3 rfl dX8_reckons_98 (by omega) ?_
                          refine z_imul ZC dX8_reckons_99 ?_
                          refine z_iload_n ZC 3 dX8_reckons_100 rfl rfl ?_
                          refine z_iadd ZC dX8_reckons_101 ?_
                          refine z_iald ZC 9 rfl dX8_reckons_102 (by omega) ?_
                          refine z_icmp_lt ZC 109 dX8_reckons_103 (by decide) (by omega) (by omega) (fun c_103 => ?_) (fun c_103 => ?_)
                          · skip
                            have hup := rk_upd (t := t) (v := nn) hrv l2 hr.1 (by omega) ht.1 (by omega) enn c_103
                            refine z_aload_n ZC 0 dX8_reckons_109 rfl rfl ?_
                            refine z_get ZC inUX8 0 rfl rfl 11 (by decide) uF_X8_38 rfl dX8_reckons_110 ?_
                            refine z_bipush ZC dX8_reckons_113 (by decide) ?_
                            refine z_aload_n ZC 0 dX8_reckons_115 rfl rfl ?_
                            refine z_get ZC inUX8 0 rfl rfl 5 (by decide) uF_X8_20 rfl dX8_reckons_116 ?_
                            refine z_iload_n ZC 2 dX8_reckons_119 rfl rfl ?_
                            refine z_iald ZC 3 rfl dX8_reckons_120 (by omega) ?_
                            refine z_imul ZC dX8_reckons_121 ?_
                            refine z_iload_n ZC 3 dX8_reckons_122 rfl rfl ?_
                            refine z_iadd ZC dX8_reckons_123 ?_
                            refine z_iload ZC dX8_reckons_124 rfl ?_
                            refine z_iast ZC 9 rfl dX8_reckons_126 (by omega) ?_
                            refine z_iconst ZC dX8_reckons_127 ?_
                            refine z_istore_n ZC 1 dX8_reckons_128 rfl (by decide) ?_
                            refine z_iinc ZC dX8_reckons_129 rfl (by decide) ?_
                            refine z_goto ZC 54 dX8_reckons_132 (by decide) ?_
                            refine z_ws (ws2 := [(h, .inr (8, [vZ (M.2 0), .ref (a 1), .ref (a 2), vZ (M.2 3), vZ (M.2 4), .ref (a 5), .ref (a 6), .ref (a 7), .ref (a 8), .ref (a 9), .ref (a 10), .ref (a 11), vZ (M.2 12), .ref (a 13), .ref (a 14), .ref (a 15), .ref (a 16), .ref (a 17), .ref (a 18), .ref (a 19), vZ (M.2 20), vZ (M.2 21), .ref (a 22), .ref (a 23), .ref (a 24), .ref (a 25), .ref (a 26), .ref (a 27), .ref (a 28), .ref (a 29), .ref (a 30), .ref (a 31), .ref (a 32), .ref (a 33), vZ (M.2 34), .ref (a 35), vZ (M.2 36), vZ (M.2 37), vZ (M.2 38), .ref (a 39), .ref (a 40), vZ (M.2 41), vZ (M.2 42), vZ (M.2 43)])), ((a 1), .inl (K.1, 10, .inl (ar (M.1 1)))), ((a 2), .inl (K.1, 10, .inl (ar (M.1 2)))), ((a 5), .inl (K.1, 16, .inl (ar (M.1 5)))), ((a 6), .inl (K.1, 16, .inl (ar (M.1 6)))), ((a 7), .inl (K.1, 16, .inl (ar (M.1 7)))), ((a 8), .inl (K.1, 16, .inl (ar (M.1 8)))), ((a 9), .inl (K.1, 16, .inl (ar (M.1 9)))), ((a 10), .inl (K.1, 16, .inl (ar (M.1 10)))), ((a 11), .inl (K.1, 100, .inl (ar (upz L ((10 * ((M.1 5) r)) + t) nn)))), ((a 13), .inl (K.1, 8, .inl (ar (M.1 13)))), ((a 14), .inl (K.1, 8, .inl (ar (M.1 14)))), ((a 15), .inl (K.1, 8, .inl (ar (M.1 15)))), ((a 16), .inl (K.1, 8, .inl (ar (M.1 16)))), ((a 17), .inl (K.1, 3200, .inl (ar (M.1 17)))), ((a 18), .inl (K.1, 3200, .inl (ar (M.1 18)))), ((a 19), .inl (K.2.1, 3200, .inl (ar (M.1 19)))), ((a 22), .inl (K.1, 3400, .inl (ar (M.1 22)))), ((a 23), .inl (K.1, 3400, .inl (ar (M.1 23)))), ((a 24), .inl (K.1, 3400, .inl (ar (M.1 24)))), ((a 25), .inl (K.1, 3400, .inl (ar (M.1 25)))), ((a 26), .inl (K.1, 32, .inl (ar (M.1 26)))), ((a 27), .inl (K.1, 32, .inl (ar (M.1 27)))), ((a 28), .inl (K.2.1, 8, .inl (ar (M.1 28)))), ((a 29), .inl (K.1, 8, .inl (ar (M.1 29)))), ((a 30), .inl (K.1, 8, .inl (ar (M.1 30)))), ((a 31), .inl (K.1, 10, .inl (ar (M.1 31)))), ((a 32), .inl (K.1, 10, .inl (ar (M.1 32)))), ((a 33), .inl (K.1, 10, .inl (ar (M.1 33)))), ((a 35), .inl (K.1, 13711, .inl (ar (M.1 35)))), ((a 39), .inl (K.1, 4, .inl (ar (M.1 39)))), ((a 40), .inl (K.1, 4, .inl (ar (M.1 40))))]) rfl (z_lv (lv2 := [(0, .ref h), (1, vZ 1), (2, vZ r), (3, vZ (t + 1))]) ⟨rfl, rfl, rfl, rfl, trivial⟩ ?_)
                            refine ih_54 1 (t + 1) (upz L ((10 * ((M.1 5) r)) + t) nn) ?_ ?_ ?_ ?_ ?_ (by omega)
                            · skip
                              omega
                            · skip
                              right; rfl
                            · skip
                              exact hup.1
                            · skip
                              intro q; omega
                            · skip
                              exact ⟨smI_nn (fun j a b => (hup.1.2.1 j a (by omega)).1), by omega, fun q => by omega⟩
                          · skip
                            refine z_goto ZC 129 dX8_reckons_106 (by decide) ?_
                            refine z_iinc ZC dX8_reckons_129 rfl (by decide) ?_
                            refine z_goto ZC 54 dX8_reckons_132 (by decide) ?_
                            refine z_ws (ws2 := [(h, .inr (8, [vZ (M.2 0), .ref (a 1), .ref (a 2), vZ (M.2 3), vZ (M.2 4), .ref (a 5), .ref (a 6), .ref (a 7), .ref (a 8), .ref (a 9), .ref (a 10), .ref (a 11), vZ (M.2 12), .ref (a 13), .ref (a 14), .ref (a 15), .ref (a 16), .ref (a 17), .ref (a 18), .ref (a 19), vZ (M.2 20), vZ (M.2 21), .ref (a 22), .ref (a 23), .ref (a 24), .ref (a 25), .ref (a 26), .ref (a 27), .ref (a 28), .ref (a 29), .ref (a 30), .ref (a 31), .ref (a 32), .ref (a 33), vZ (M.2 34), .ref (a 35), vZ (M.2 36), vZ (M.2 37), vZ (M.2 38), .ref (a 39), .ref (a 40), vZ (M.2 41), vZ (M.2 42), vZ (M.2 43)])), ((a 1), .inl (K.1, 10, .inl (ar (M.1 1)))), ((a 2), .inl (K.1, 10, .inl (ar (M.1 2)))), ((a 5), .inl (K.1, 16, .inl (ar (M.1 5)))), ((a 6), .inl (K.1, 16, .inl (ar (M.1 6)))), ((a 7), .inl (K.1, 16, .inl (ar (M.1 7)))), ((a 8), .inl (K.1, 16, .inl (ar (M.1 8)))), ((a 9), .inl (K.1, 16, .inl (ar (M.1 9)))), ((a 10), .inl (K.1, 16, .inl (ar (M.1 10)))), ((a 11), .inl (K.1, 100, .inl (ar L))), ((a 13), .inl (K.1, 8, .inl (ar (M.1 13)))), ((a 14), .inl (K.1, 8, .inl (ar (M.1 14)))), ((a 15), .inl (K.1, 8, .inl (ar (M.1 15)))), ((a 16), .inl (K.1, 8, .inl (ar (M.1 16)))), ((a 17), .inl (K.1, 3200, .inl (ar (M.1 17)))), ((a 18), .inl (K.1, 3200, .inl (ar (M.1 18)))), ((a 19), .inl (K.2.1, 3200, .inl (ar (M.1 19)))), ((a 22), .inl (K.1, 3400, .inl (ar (M.1 22)))), ((a 23), .inl (K.1, 3400, .inl (ar (M.1 23)))), ((a 24), .inl (K.1, 3400, .inl (ar (M.1 24)))), ((a 25), .inl (K.1, 3400, .inl (ar (M.1 25)))), ((a 26), .inl (K.1, 32, .inl (ar (M.1 26)))), ((a 27), .inl (K.1, 32, .inl (ar (M.1 27)))), ((a 28), .inl (K.2.1, 8, .inl (ar (M.1 28)))), ((a 29), .inl (K.1, 8, .inl (ar (M.1 29)))), ((a 30), .inl (K.1, 8, .inl (ar (M.1 30)))), ((a 31), .inl (K.1, 10, .inl (ar (M.1 31)))), ((a 32), .inl (K.1, 10, .inl (ar (M.1 32)))), ((a 33), .inl (K.1, 10, .inl (ar (M.1 33)))), ((a 35), .inl (K.1, 13711, .inl (ar (M.1 35)))), ((a 39), .inl (K.1, 4, .inl (ar (M.1 39)))), ((a 40), .inl (K.1, 4, .inl (ar (M.1 40))))]) rfl (z_lv (lv2 := [(0, .ref h), (1, vZ more2), (2, vZ r), (3, vZ (t + 1))]) ⟨rfl, rfl, rfl, rfl, trivial⟩ ?_)
                            refine ih_54 more2 (t + 1) L ?_ ?_ ?_ ?_ ?_ (by omega)
                            · skip
                              omega
                            · skip
                              exact l1
                            · skip
                              exact l2
                            · skip
                              intro q
                              refine ⟨(l3 q).1, fun j a b => ?_⟩
                              by_cases z : j = t
                              · subst z; omega
                              · exact (l3 q).2 j a (by omega)
                            · skip
                              exact l4
                    refine z_ws (ws2 := [(h, .inr (8, [vZ (M.2 0), .ref (a 1), .ref (a 2), vZ (M.2 3), vZ (M.2 4), .ref (a 5), .ref (a 6), .ref (a 7), .ref (a 8), .ref (a 9), .ref (a 10), .ref (a 11), vZ (M.2 12), .ref (a 13), .ref (a 14), .ref (a 15), .ref (a 16), .ref (a 17), .ref (a 18), .ref (a 19), vZ (M.2 20), vZ (M.2 21), .ref (a 22), .ref (a 23), .ref (a 24), .ref (a 25), .ref (a 26), .ref (a 27), .ref (a 28), .ref (a 29), .ref (a 30), .ref (a 31), .ref (a 32), .ref (a 33), vZ (M.2 34), .ref (a 35), vZ (M.2 36), vZ (M.2 37), vZ (M.2 38), .ref (a 39), .ref (a 40), vZ (M.2 41), vZ (M.2 42), vZ (M.2 43)])), ((a 1), .inl (K.1, 10, .inl (ar (M.1 1)))), ((a 2), .inl (K.1, 10, .inl (ar (M.1 2)))), ((a 5), .inl (K.1, 16, .inl (ar (M.1 5)))), ((a 6), .inl (K.1, 16, .inl (ar (M.1 6)))), ((a 7), .inl (K.1, 16, .inl (ar (M.1 7)))), ((a 8), .inl (K.1, 16, .inl (ar (M.1 8)))), ((a 9), .inl (K.1, 16, .inl (ar (M.1 9)))), ((a 10), .inl (K.1, 16, .inl (ar (M.1 10)))), ((a 11), .inl (K.1, 100, .inl (ar L))), ((a 13), .inl (K.1, 8, .inl (ar (M.1 13)))), ((a 14), .inl (K.1, 8, .inl (ar (M.1 14)))), ((a 15), .inl (K.1, 8, .inl (ar (M.1 15)))), ((a 16), .inl (K.1, 8, .inl (ar (M.1 16)))), ((a 17), .inl (K.1, 3200, .inl (ar (M.1 17)))), ((a 18), .inl (K.1, 3200, .inl (ar (M.1 18)))), ((a 19), .inl (K.2.1, 3200, .inl (ar (M.1 19)))), ((a 22), .inl (K.1, 3400, .inl (ar (M.1 22)))), ((a 23), .inl (K.1, 3400, .inl (ar (M.1 23)))), ((a 24), .inl (K.1, 3400, .inl (ar (M.1 24)))), ((a 25), .inl (K.1, 3400, .inl (ar (M.1 25)))), ((a 26), .inl (K.1, 32, .inl (ar (M.1 26)))), ((a 27), .inl (K.1, 32, .inl (ar (M.1 27)))), ((a 28), .inl (K.2.1, 8, .inl (ar (M.1 28)))), ((a 29), .inl (K.1, 8, .inl (ar (M.1 29)))), ((a 30), .inl (K.1, 8, .inl (ar (M.1 30)))), ((a 31), .inl (K.1, 10, .inl (ar (M.1 31)))), ((a 32), .inl (K.1, 10, .inl (ar (M.1 32)))), ((a 33), .inl (K.1, 10, .inl (ar (M.1 33)))), ((a 35), .inl (K.1, 13711, .inl (ar (M.1 35)))), ((a 39), .inl (K.1, 4, .inl (ar (M.1 39)))), ((a 40), .inl (K.1, 4, .inl (ar (M.1 40))))]) rfl (z_lv (lv2 := [(0, .ref h), (1, vZ more1), (2, vZ r), (3, vZ 0)]) ⟨rfl, rfl, rfl, rfl, trivial⟩ ?_)
                    refine lp_54 _ more1 0 L ?_ ?_ ?_ ?_ ?_ (Nat.lt_succ_self _)
                    · skip
                      omega
                    · skip
                      exact k1
                    · skip
                      exact k2
                    · skip
                      intro q; exact ⟨k3 q, fun j a b => by omega⟩
                    · skip
                      exact k4
              refine z_ws (ws2 := [(h, .inr (8, [vZ (M.2 0), .ref (a 1), .ref (a 2), vZ (M.2 3), vZ (M.2 4), .ref (a 5), .ref (a 6), .ref (a 7), .ref (a 8), .ref (a 9), .ref (a 10), .ref (a 11), vZ (M.2 12), .ref (a 13), .ref (a 14), .ref (a 15), .ref (a 16), .ref (a 17), .ref (a 18), .ref (a 19), vZ (M.2 20), vZ (M.2 21), .ref (a 22), .ref (a 23), .ref (a 24), .ref (a 25), .ref (a 26), .ref (a 27), .ref (a 28), .ref (a 29), .ref (a 30), .ref (a 31), .ref (a 32), .ref (a 33), vZ (M.2 34), .ref (a 35), vZ (M.2 36), vZ (M.2 37), vZ (M.2 38), .ref (a 39), .ref (a 40), vZ (M.2 41), vZ (M.2 42), vZ (M.2 43)])), ((a 1), .inl (K.1, 10, .inl (ar (M.1 1)))), ((a 2), .inl (K.1, 10, .inl (ar (M.1 2)))), ((a 5), .inl (K.1, 16, .inl (ar (M.1 5)))), ((a 6), .inl (K.1, 16, .inl (ar (M.1 6)))), ((a 7), .inl (K.1, 16, .inl (ar (M.1 7)))), ((a 8), .inl (K.1, 16, .inl (ar (M.1 8)))), ((a 9), .inl (K.1, 16, .inl (ar (M.1 9)))), ((a 10), .inl (K.1, 16, .inl (ar (M.1 10)))), ((a 11), .inl (K.1, 100, .inl (ar L))), ((a 13), .inl (K.1, 8, .inl (ar (M.1 13)))), ((a 14), .inl (K.1, 8, .inl (ar (M.1 14)))), ((a 15), .inl (K.1, 8, .inl (ar (M.1 15)))), ((a 16), .inl (K.1, 8, .inl (ar (M.1 16)))), ((a 17), .inl (K.1, 3200, .inl (ar (M.1 17)))), ((a 18), .inl (K.1, 3200, .inl (ar (M.1 18)))), ((a 19), .inl (K.2.1, 3200, .inl (ar (M.1 19)))), ((a 22), .inl (K.1, 3400, .inl (ar (M.1 22)))), ((a 23), .inl (K.1, 3400, .inl (ar (M.1 23)))), ((a 24), .inl (K.1, 3400, .inl (ar (M.1 24)))), ((a 25), .inl (K.1, 3400, .inl (ar (M.1 25)))), ((a 26), .inl (K.1, 32, .inl (ar (M.1 26)))), ((a 27), .inl (K.1, 32, .inl (ar (M.1 27)))), ((a 28), .inl (K.2.1, 8, .inl (ar (M.1 28)))), ((a 29), .inl (K.1, 8, .inl (ar (M.1 29)))), ((a 30), .inl (K.1, 8, .inl (ar (M.1 30)))), ((a 31), .inl (K.1, 10, .inl (ar (M.1 31)))), ((a 32), .inl (K.1, 10, .inl (ar (M.1 32)))), ((a 33), .inl (K.1, 10, .inl (ar (M.1 33)))), ((a 35), .inl (K.1, 13711, .inl (ar (M.1 35)))), ((a 39), .inl (K.1, 4, .inl (ar (M.1 39)))), ((a 40), .inl (K.1, 4, .inl (ar (M.1 40))))]) rfl (z_lv (lv2 := [(0, .ref h), (1, vZ 0), (2, vZ 0)]) ⟨rfl, rfl, rfl, trivial⟩ ?_)
              refine lp_44 _ 0 0 L ?_ ?_ ?_ ?_ ?_ (Nat.lt_succ_self _)
              · skip
                omega
              · skip
                left; rfl
              · skip
                exact hk
              · skip
                intro _ q j a b; omega
              · skip
                exact ⟨smI_nn (fun j a b => (hk.2.1 j a (by omega)).1), by omega, fun q => by omega⟩
        refine z_ws (ws2 := [(h, .inr (8, [vZ (M.2 0), .ref (a 1), .ref (a 2), vZ (M.2 3), vZ (M.2 4), .ref (a 5), .ref (a 6), .ref (a 7), .ref (a 8), .ref (a 9), .ref (a 10), .ref (a 11), vZ (M.2 12), .ref (a 13), .ref (a 14), .ref (a 15), .ref (a 16), .ref (a 17), .ref (a 18), .ref (a 19), vZ (M.2 20), vZ (M.2 21), .ref (a 22), .ref (a 23), .ref (a 24), .ref (a 25), .ref (a 26), .ref (a 27), .ref (a 28), .ref (a 29), .ref (a 30), .ref (a 31), .ref (a 32), .ref (a 33), vZ (M.2 34), .ref (a 35), vZ (M.2 36), vZ (M.2 37), vZ (M.2 38), .ref (a 39), .ref (a 40), vZ (M.2 41), vZ (M.2 42), vZ (M.2 43)])), ((a 1), .inl (K.1, 10, .inl (ar (M.1 1)))), ((a 2), .inl (K.1, 10, .inl (ar (M.1 2)))), ((a 5), .inl (K.1, 16, .inl (ar (M.1 5)))), ((a 6), .inl (K.1, 16, .inl (ar (M.1 6)))), ((a 7), .inl (K.1, 16, .inl (ar (M.1 7)))), ((a 8), .inl (K.1, 16, .inl (ar (M.1 8)))), ((a 9), .inl (K.1, 16, .inl (ar (M.1 9)))), ((a 10), .inl (K.1, 16, .inl (ar (M.1 10)))), ((a 11), .inl (K.1, 100, .inl (ar L))), ((a 13), .inl (K.1, 8, .inl (ar (M.1 13)))), ((a 14), .inl (K.1, 8, .inl (ar (M.1 14)))), ((a 15), .inl (K.1, 8, .inl (ar (M.1 15)))), ((a 16), .inl (K.1, 8, .inl (ar (M.1 16)))), ((a 17), .inl (K.1, 3200, .inl (ar (M.1 17)))), ((a 18), .inl (K.1, 3200, .inl (ar (M.1 18)))), ((a 19), .inl (K.2.1, 3200, .inl (ar (M.1 19)))), ((a 22), .inl (K.1, 3400, .inl (ar (M.1 22)))), ((a 23), .inl (K.1, 3400, .inl (ar (M.1 23)))), ((a 24), .inl (K.1, 3400, .inl (ar (M.1 24)))), ((a 25), .inl (K.1, 3400, .inl (ar (M.1 25)))), ((a 26), .inl (K.1, 32, .inl (ar (M.1 26)))), ((a 27), .inl (K.1, 32, .inl (ar (M.1 27)))), ((a 28), .inl (K.2.1, 8, .inl (ar (M.1 28)))), ((a 29), .inl (K.1, 8, .inl (ar (M.1 29)))), ((a 30), .inl (K.1, 8, .inl (ar (M.1 30)))), ((a 31), .inl (K.1, 10, .inl (ar (M.1 31)))), ((a 32), .inl (K.1, 10, .inl (ar (M.1 32)))), ((a 33), .inl (K.1, 10, .inl (ar (M.1 33)))), ((a 35), .inl (K.1, 13711, .inl (ar (M.1 35)))), ((a 39), .inl (K.1, 4, .inl (ar (M.1 39)))), ((a 40), .inl (K.1, 4, .inl (ar (M.1 40))))]) rfl (z_lv (lv2 := [(0, .ref h), (1, vZ 1)]) ⟨rfl, rfl, trivial⟩ ?_)
        refine lp_36 _ 1 L ?_ ?_ ?_ (Nat.lt_succ_self _)
        · skip
          right; rfl
        · skip
          exact rk_0 (fun j a b => hL j a (by omega))
        · skip
          intro q; omega
      · skip
        refine z_aload_n ZC 0 dX8_reckons_8 rfl rfl ?_
        refine z_get ZC inUX8 0 rfl rfl 11 (by decide) uF_X8_38 rfl dX8_reckons_9 ?_
        refine z_iload_n ZC 1 dX8_reckons_12 rfl rfl ?_
        refine z_iload_n ZC 1 dX8_reckons_13 rfl rfl ?_
        refine z_bipush ZC dX8_reckons_14 (by decide) ?_
        refine z_irem ZC dX8_reckons_16 (by omega) (by omega) ?_
        refine z_if_ne ZC 24 dX8_reckons_17 (by decide) (by omega) (fun c_17 => ?_) (fun c_17 => ?_)
        · skip
          refine z_sipush ZC dX8_reckons_24 (by decide) ?_
          refine z_iast ZC 9 rfl dX8_reckons_27 (by omega) ?_
          refine z_iinc ZC dX8_reckons_28 rfl (by decide) ?_
          refine z_goto ZC 2 dX8_reckons_31 (by decide) ?_
          refine z_ws (ws2 := [(h, .inr (8, [vZ (M.2 0), .ref (a 1), .ref (a 2), vZ (M.2 3), vZ (M.2 4), .ref (a 5), .ref (a 6), .ref (a 7), .ref (a 8), .ref (a 9), .ref (a 10), .ref (a 11), vZ (M.2 12), .ref (a 13), .ref (a 14), .ref (a 15), .ref (a 16), .ref (a 17), .ref (a 18), .ref (a 19), vZ (M.2 20), vZ (M.2 21), .ref (a 22), .ref (a 23), .ref (a 24), .ref (a 25), .ref (a 26), .ref (a 27), .ref (a 28), .ref (a 29), .ref (a 30), .ref (a 31), .ref (a 32), .ref (a 33), vZ (M.2 34), .ref (a 35), vZ (M.2 36), vZ (M.2 37), vZ (M.2 38), .ref (a 39), .ref (a 40), vZ (M.2 41), vZ (M.2 42), vZ (M.2 43)])), ((a 1), .inl (K.1, 10, .inl (ar (M.1 1)))), ((a 2), .inl (K.1, 10, .inl (ar (M.1 2)))), ((a 5), .inl (K.1, 16, .inl (ar (M.1 5)))), ((a 6), .inl (K.1, 16, .inl (ar (M.1 6)))), ((a 7), .inl (K.1, 16, .inl (ar (M.1 7)))), ((a 8), .inl (K.1, 16, .inl (ar (M.1 8)))), ((a 9), .inl (K.1, 16, .inl (ar (M.1 9)))), ((a 10), .inl (K.1, 16, .inl (ar (M.1 10)))), ((a 11), .inl (K.1, 100, .inl (ar (upz L k 10000)))), ((a 13), .inl (K.1, 8, .inl (ar (M.1 13)))), ((a 14), .inl (K.1, 8, .inl (ar (M.1 14)))), ((a 15), .inl (K.1, 8, .inl (ar (M.1 15)))), ((a 16), .inl (K.1, 8, .inl (ar (M.1 16)))), ((a 17), .inl (K.1, 3200, .inl (ar (M.1 17)))), ((a 18), .inl (K.1, 3200, .inl (ar (M.1 18)))), ((a 19), .inl (K.2.1, 3200, .inl (ar (M.1 19)))), ((a 22), .inl (K.1, 3400, .inl (ar (M.1 22)))), ((a 23), .inl (K.1, 3400, .inl (ar (M.1 23)))), ((a 24), .inl (K.1, 3400, .inl (ar (M.1 24)))), ((a 25), .inl (K.1, 3400, .inl (ar (M.1 25)))), ((a 26), .inl (K.1, 32, .inl (ar (M.1 26)))), ((a 27), .inl (K.1, 32, .inl (ar (M.1 27)))), ((a 28), .inl (K.2.1, 8, .inl (ar (M.1 28)))), ((a 29), .inl (K.1, 8, .inl (ar (M.1 29)))), ((a 30), .inl (K.1, 8, .inl (ar (M.1 30)))), ((a 31), .inl (K.1, 10, .inl (ar (M.1 31)))), ((a 32), .inl (K.1, 10, .inl (ar (M.1 32)))), ((a 33), .inl (K.1, 10, .inl (ar (M.1 33)))), ((a 35), .inl (K.1, 13711, .inl (ar (M.1 35)))), ((a 39), .inl (K.1, 4, .inl (ar (M.1 39)))), ((a 40), .inl (K.1, 4, .inl (ar (M.1 40))))]) rfl (z_lv (lv2 := [(0, .ref h), (1, vZ (k + 1))]) ⟨rfl, rfl, trivial⟩ ?_)
          refine ih_2 (k + 1) (upz L k 10000) ?_ ?_ (by omega)
          · skip
            omega
          · skip
            intro j a b
            unfold upz
            split
            · rename_i z; subst z; split <;> omega
            · exact hL j a (by omega)
        · skip
          refine z_iconst ZC dX8_reckons_20 ?_
          refine z_goto ZC 27 dX8_reckons_21 (by decide) ?_
          refine z_iast ZC 9 rfl dX8_reckons_27 (by omega) ?_
          refine z_iinc ZC dX8_reckons_28 rfl (by decide) ?_
          refine z_goto ZC 2 dX8_reckons_31 (by decide) ?_
          refine z_ws (ws2 := [(h, .inr (8, [vZ (M.2 0), .ref (a 1), .ref (a 2), vZ (M.2 3), vZ (M.2 4), .ref (a 5), .ref (a 6), .ref (a 7), .ref (a 8), .ref (a 9), .ref (a 10), .ref (a 11), vZ (M.2 12), .ref (a 13), .ref (a 14), .ref (a 15), .ref (a 16), .ref (a 17), .ref (a 18), .ref (a 19), vZ (M.2 20), vZ (M.2 21), .ref (a 22), .ref (a 23), .ref (a 24), .ref (a 25), .ref (a 26), .ref (a 27), .ref (a 28), .ref (a 29), .ref (a 30), .ref (a 31), .ref (a 32), .ref (a 33), vZ (M.2 34), .ref (a 35), vZ (M.2 36), vZ (M.2 37), vZ (M.2 38), .ref (a 39), .ref (a 40), vZ (M.2 41), vZ (M.2 42), vZ (M.2 43)])), ((a 1), .inl (K.1, 10, .inl (ar (M.1 1)))), ((a 2), .inl (K.1, 10, .inl (ar (M.1 2)))), ((a 5), .inl (K.1, 16, .inl (ar (M.1 5)))), ((a 6), .inl (K.1, 16, .inl (ar (M.1 6)))), ((a 7), .inl (K.1, 16, .inl (ar (M.1 7)))), ((a 8), .inl (K.1, 16, .inl (ar (M.1 8)))), ((a 9), .inl (K.1, 16, .inl (ar (M.1 9)))), ((a 10), .inl (K.1, 16, .inl (ar (M.1 10)))), ((a 11), .inl (K.1, 100, .inl (ar (upz L k 0)))), ((a 13), .inl (K.1, 8, .inl (ar (M.1 13)))), ((a 14), .inl (K.1, 8, .inl (ar (M.1 14)))), ((a 15), .inl (K.1, 8, .inl (ar (M.1 15)))), ((a 16), .inl (K.1, 8, .inl (ar (M.1 16)))), ((a 17), .inl (K.1, 3200, .inl (ar (M.1 17)))), ((a 18), .inl (K.1, 3200, .inl (ar (M.1 18)))), ((a 19), .inl (K.2.1, 3200, .inl (ar (M.1 19)))), ((a 22), .inl (K.1, 3400, .inl (ar (M.1 22)))), ((a 23), .inl (K.1, 3400, .inl (ar (M.1 23)))), ((a 24), .inl (K.1, 3400, .inl (ar (M.1 24)))), ((a 25), .inl (K.1, 3400, .inl (ar (M.1 25)))), ((a 26), .inl (K.1, 32, .inl (ar (M.1 26)))), ((a 27), .inl (K.1, 32, .inl (ar (M.1 27)))), ((a 28), .inl (K.2.1, 8, .inl (ar (M.1 28)))), ((a 29), .inl (K.1, 8, .inl (ar (M.1 29)))), ((a 30), .inl (K.1, 8, .inl (ar (M.1 30)))), ((a 31), .inl (K.1, 10, .inl (ar (M.1 31)))), ((a 32), .inl (K.1, 10, .inl (ar (M.1 32)))), ((a 33), .inl (K.1, 10, .inl (ar (M.1 33)))), ((a 35), .inl (K.1, 13711, .inl (ar (M.1 35)))), ((a 39), .inl (K.1, 4, .inl (ar (M.1 39)))), ((a 40), .inl (K.1, 4, .inl (ar (M.1 40))))]) rfl (z_lv (lv2 := [(0, .ref h), (1, vZ (k + 1))]) ⟨rfl, rfl, trivial⟩ ?_)
          refine ih_2 (k + 1) (upz L k 0) ?_ ?_ (by omega)
          · skip
            omega
          · skip
            intro j a b
            unfold upz
            split
            · rename_i z; subst z; split <;> omega
            · exact hL j a (by omega)
  refine z_ws (ws2 := [(h, .inr (8, [vZ (M.2 0), .ref (a 1), .ref (a 2), vZ (M.2 3), vZ (M.2 4), .ref (a 5), .ref (a 6), .ref (a 7), .ref (a 8), .ref (a 9), .ref (a 10), .ref (a 11), vZ (M.2 12), .ref (a 13), .ref (a 14), .ref (a 15), .ref (a 16), .ref (a 17), .ref (a 18), .ref (a 19), vZ (M.2 20), vZ (M.2 21), .ref (a 22), .ref (a 23), .ref (a 24), .ref (a 25), .ref (a 26), .ref (a 27), .ref (a 28), .ref (a 29), .ref (a 30), .ref (a 31), .ref (a 32), .ref (a 33), vZ (M.2 34), .ref (a 35), vZ (M.2 36), vZ (M.2 37), vZ (M.2 38), .ref (a 39), .ref (a 40), vZ (M.2 41), vZ (M.2 42), vZ (M.2 43)])), ((a 1), .inl (K.1, 10, .inl (ar (M.1 1)))), ((a 2), .inl (K.1, 10, .inl (ar (M.1 2)))), ((a 5), .inl (K.1, 16, .inl (ar (M.1 5)))), ((a 6), .inl (K.1, 16, .inl (ar (M.1 6)))), ((a 7), .inl (K.1, 16, .inl (ar (M.1 7)))), ((a 8), .inl (K.1, 16, .inl (ar (M.1 8)))), ((a 9), .inl (K.1, 16, .inl (ar (M.1 9)))), ((a 10), .inl (K.1, 16, .inl (ar (M.1 10)))), ((a 11), .inl (K.1, 100, .inl (ar (M.1 11)))), ((a 13), .inl (K.1, 8, .inl (ar (M.1 13)))), ((a 14), .inl (K.1, 8, .inl (ar (M.1 14)))), ((a 15), .inl (K.1, 8, .inl (ar (M.1 15)))), ((a 16), .inl (K.1, 8, .inl (ar (M.1 16)))), ((a 17), .inl (K.1, 3200, .inl (ar (M.1 17)))), ((a 18), .inl (K.1, 3200, .inl (ar (M.1 18)))), ((a 19), .inl (K.2.1, 3200, .inl (ar (M.1 19)))), ((a 22), .inl (K.1, 3400, .inl (ar (M.1 22)))), ((a 23), .inl (K.1, 3400, .inl (ar (M.1 23)))), ((a 24), .inl (K.1, 3400, .inl (ar (M.1 24)))), ((a 25), .inl (K.1, 3400, .inl (ar (M.1 25)))), ((a 26), .inl (K.1, 32, .inl (ar (M.1 26)))), ((a 27), .inl (K.1, 32, .inl (ar (M.1 27)))), ((a 28), .inl (K.2.1, 8, .inl (ar (M.1 28)))), ((a 29), .inl (K.1, 8, .inl (ar (M.1 29)))), ((a 30), .inl (K.1, 8, .inl (ar (M.1 30)))), ((a 31), .inl (K.1, 10, .inl (ar (M.1 31)))), ((a 32), .inl (K.1, 10, .inl (ar (M.1 32)))), ((a 33), .inl (K.1, 10, .inl (ar (M.1 33)))), ((a 35), .inl (K.1, 13711, .inl (ar (M.1 35)))), ((a 39), .inl (K.1, 4, .inl (ar (M.1 39)))), ((a 40), .inl (K.1, 4, .inl (ar (M.1 40))))]) rfl (z_lv (lv2 := [(0, .ref h), (1, vZ 0)]) ⟨rfl, rfl, trivial⟩ ?_)
  refine lp_2 _ 0 (M.1 11) ?_ ?_ (Nat.lt_succ_self _)
  · skip
    omega
  · skip
    intro j a b; omega

set_option maxHeartbeats 4000000 in
set_option maxRecDepth 100000 in
theorem c_X8_way (zl : Launch) (D : va_G) (K : tyK) (h : Nat) (a : Nat → Nat) (M : Bd) (Ne : Bd) (at_ : Int) (wt : Int) (hr8 : 0 ≤ M.2 4 ∧ M.2 4 ≤ 16) (hmn : MSn Ne M) (hnw : NW Ne) (hrv : RV (Ne.1 0) (Ne.1 1) (Ne.1 3) (Ne.2 8)) (ha : 0 ≤ at_ ∧ at_ < 10) (hw : 0 ≤ wt ∧ wt < 10) (hne : at_ ≠ wt) (hfi : Ne.1 6 (at_ * 10 + wt) ≠ -1) : Mz zl yX8_way cX8_way 4 (some .int) 0 0 0 0 D K [.ref h, vZ at_, vZ wt] (wMo K h a M) (fun r_ w2_ gc gs => r_ = some (vZ (Ne.1 7 (at_ * 10 + wt))) ∧ w2_ = (wMo K h a M) ∧ gc = 0 ∧ gs = 0) := by
  refine Mz.ofZ (by decide) rfl (Nat.le_of_ble_eq_true rfl) ?_
  intro zp ze zR zs zm zargs zbelow zmeth zc zA zQ ZC ZE hRf hRc hRs hRl
  obtain ⟨w1, w2, w3⟩ := hnw.2 at_ wt ha.1 ha.2 hw.1 hw.2 hne hfi
  have hnl := hnw.1 at_ wt ha.1 ha.2 hw.1 hw.2
  have e4 : M.2 4 = Ne.2 8 := hmn.1
  refine z_iconst ZC dX8_way_0 ?_
  refine z_istore_n ZC 3 dX8_way_1 rfl (by decide) ?_
  have lp_2 : ∀ (n_2 : Nat) (r : Int), (0 ≤ r ∧ r ≤ Ne.1 7 (at_ * 10 + wt)) → ((16 - r).toNat) < n_2 → Zw zp zl ze zR zs zm zargs zbelow zmeth zc D zA 4 zQ 0 0 ([(h, .inr (8, [vZ (M.2 0), .ref (a 1), .ref (a 2), vZ (M.2 3), vZ (M.2 4), .ref (a 5), .ref (a 6), .ref (a 7), .ref (a 8), .ref (a 9), .ref (a 10), .ref (a 11), vZ (M.2 12), .ref (a 13), .ref (a 14), .ref (a 15), .ref (a 16), .ref (a 17), .ref (a 18), .ref (a 19), vZ (M.2 20), vZ (M.2 21), .ref (a 22), .ref (a 23), .ref (a 24), .ref (a 25), .ref (a 26), .ref (a 27), .ref (a 28), .ref (a 29), .ref (a 30), .ref (a 31), .ref (a 32), .ref (a 33), vZ (M.2 34), .ref (a 35), vZ (M.2 36), vZ (M.2 37), vZ (M.2 38), .ref (a 39), .ref (a 40), vZ (M.2 41), vZ (M.2 42), vZ (M.2 43)])), ((a 1), .inl (K.1, 10, .inl (ar (M.1 1)))), ((a 2), .inl (K.1, 10, .inl (ar (M.1 2)))), ((a 5), .inl (K.1, 16, .inl (ar (M.1 5)))), ((a 6), .inl (K.1, 16, .inl (ar (M.1 6)))), ((a 7), .inl (K.1, 16, .inl (ar (M.1 7)))), ((a 8), .inl (K.1, 16, .inl (ar (M.1 8)))), ((a 9), .inl (K.1, 16, .inl (ar (M.1 9)))), ((a 10), .inl (K.1, 16, .inl (ar (M.1 10)))), ((a 11), .inl (K.1, 100, .inl (ar (M.1 11)))), ((a 13), .inl (K.1, 8, .inl (ar (M.1 13)))), ((a 14), .inl (K.1, 8, .inl (ar (M.1 14)))), ((a 15), .inl (K.1, 8, .inl (ar (M.1 15)))), ((a 16), .inl (K.1, 8, .inl (ar (M.1 16)))), ((a 17), .inl (K.1, 3200, .inl (ar (M.1 17)))), ((a 18), .inl (K.1, 3200, .inl (ar (M.1 18)))), ((a 19), .inl (K.2.1, 3200, .inl (ar (M.1 19)))), ((a 22), .inl (K.1, 3400, .inl (ar (M.1 22)))), ((a 23), .inl (K.1, 3400, .inl (ar (M.1 23)))), ((a 24), .inl (K.1, 3400, .inl (ar (M.1 24)))), ((a 25), .inl (K.1, 3400, .inl (ar (M.1 25)))), ((a 26), .inl (K.1, 32, .inl (ar (M.1 26)))), ((a 27), .inl (K.1, 32, .inl (ar (M.1 27)))), ((a 28), .inl (K.2.1, 8, .inl (ar (M.1 28)))), ((a 29), .inl (K.1, 8, .inl (ar (M.1 29)))), ((a 30), .inl (K.1, 8, .inl (ar (M.1 30)))), ((a 31), .inl (K.1, 10, .inl (ar (M.1 31)))), ((a 32), .inl (K.1, 10, .inl (ar (M.1 32)))), ((a 33), .inl (K.1, 10, .inl (ar (M.1 33)))), ((a 35), .inl (K.1, 13711, .inl (ar (M.1 35)))), ((a 39), .inl (K.1, 4, .inl (ar (M.1 39)))), ((a 40), .inl (K.1, 4, .inl (ar (M.1 40))))]) 2 [(0, .ref h), (1, vZ at_), (2, vZ wt), (3, vZ r)] [] := by
    intro n_2
    induction n_2 with
    | zero => intro r hr hm_2; exact absurd hm_2 (Nat.not_lt_zero _)
    | succ n_2 ih_2 =>
      intro r hr hm_2
      refine z_iload_n ZC 3 dX8_way_2 rfl rfl ?_
      refine z_aload_n ZC 0 dX8_way_3 rfl rfl ?_
      refine z_get ZC inUX8 0 rfl rfl 4 (by decide) uF_X8_118 rfl dX8_way_4 ?_
      refine z_icmp_ge ZC 65 dX8_way_7 (by decide) (by omega) (by omega) (fun c_7 => ?_) (fun c_7 => ?_)
      · skip
        omega
      · skip
        have hm := hmn.2.1 r (by omega) (by omega)
        have hv := hrv r (by omega) (by omega)
        have hl1 := hmn.2.2.2 (Ne.1 1 r) wt hv.2.1.1 hv.2.1.2 hw.1 hw.2
        have hl2 := hmn.2.2.2 at_ wt ha.1 ha.2 hw.1 hw.2
        have hl3 := hnw.1 (Ne.1 1 r) wt hv.2.1.1 hv.2.1.2 hw.1 hw.2
        rw [← hm.2.1] at hl1
        rw [if_neg hfi] at hl2
        have hl4 : (Ne.1 6 (Ne.1 1 r * 10 + wt) = -1 ∧ M.1 11 (10 * M.1 6 r + wt) = 10000) ∨ (Ne.1 6 (Ne.1 1 r * 10 + wt) ≠ -1 ∧ M.1 11 (10 * M.1 6 r + wt) = Ne.1 6 (Ne.1 1 r * 10 + wt)) := by
          rw [hl1, hm.2.1]
          by_cases z : Ne.1 6 (Ne.1 1 r * 10 + wt) = -1
          · rw [if_pos z]; exact Or.inl ⟨z, rfl⟩
          · rw [if_neg z]; exact Or.inr ⟨z, rfl⟩
        refine z_aload_n ZC 0 dX8_way_10 rfl rfl ?_
        refine z_get ZC inUX8 0 rfl rfl 5 (by decide) uF_X8_20 rfl dX8_way_11 ?_
        refine z_iload_n ZC 3 dX8_way_14 rfl rfl ?_
        refine z_iald ZC 3 rfl dX8_way_15 (by omega) ?_
        refine z_iload_n ZC 1 dX8_way_16 rfl rfl ?_
        refine z_icmp_ne ZC 59 dX8_way_17 (by decide) (by omega) (by omega) (fun c_17 => ?_) (fun c_17 => ?_)
        · skip
          refine z_iinc ZC dX8_way_59 rfl (by decide) ?_
          refine z_goto ZC 2 dX8_way_62 (by decide) ?_
          refine z_ws (ws2 := [(h, .inr (8, [vZ (M.2 0), .ref (a 1), .ref (a 2), vZ (M.2 3), vZ (M.2 4), .ref (a 5), .ref (a 6), .ref (a 7), .ref (a 8), .ref (a 9), .ref (a 10), .ref (a 11), vZ (M.2 12), .ref (a 13), .ref (a 14), .ref (a 15), .ref (a 16), .ref (a 17), .ref (a 18), .ref (a 19), vZ (M.2 20), vZ (M.2 21), .ref (a 22), .ref (a 23), .ref (a 24), .ref (a 25), .ref (a 26), .ref (a 27), .ref (a 28), .ref (a 29), .ref (a 30), .ref (a 31), .ref (a 32), .ref (a 33), vZ (M.2 34), .ref (a 35), vZ (M.2 36), vZ (M.2 37), vZ (M.2 38), .ref (a 39), .ref (a 40), vZ (M.2 41), vZ (M.2 42), vZ (M.2 43)])), ((a 1), .inl (K.1, 10, .inl (ar (M.1 1)))), ((a 2), .inl (K.1, 10, .inl (ar (M.1 2)))), ((a 5), .inl (K.1, 16, .inl (ar (M.1 5)))), ((a 6), .inl (K.1, 16, .inl (ar (M.1 6)))), ((a 7), .inl (K.1, 16, .inl (ar (M.1 7)))), ((a 8), .inl (K.1, 16, .inl (ar (M.1 8)))), ((a 9), .inl (K.1, 16, .inl (ar (M.1 9)))), ((a 10), .inl (K.1, 16, .inl (ar (M.1 10)))), ((a 11), .inl (K.1, 100, .inl (ar (M.1 11)))), ((a 13), .inl (K.1, 8, .inl (ar (M.1 13)))), ((a 14), .inl (K.1, 8, .inl (ar (M.1 14)))), ((a 15), .inl (K.1, 8, .inl (ar (M.1 15)))), ((a 16), .inl (K.1, 8, .inl (ar (M.1 16)))), ((a 17), .inl (K.1, 3200, .inl (ar (M.1 17)))), ((a 18), .inl (K.1, 3200, .inl (ar (M.1 18)))), ((a 19), .inl (K.2.1, 3200, .inl (ar (M.1 19)))), ((a 22), .inl (K.1, 3400, .inl (ar (M.1 22)))), ((a 23), .inl (K.1, 3400, .inl (ar (M.1 23)))), ((a 24), .inl (K.1, 3400, .inl (ar (M.1 24)))), ((a 25), .inl (K.1, 3400, .inl (ar (M.1 25)))), ((a 26), .inl (K.1, 32, .inl (ar (M.1 26)))), ((a 27), .inl (K.1, 32, .inl (ar (M.1 27)))), ((a 28), .inl (K.2.1, 8, .inl (ar (M.1 28)))), ((a 29), .inl (K.1, 8, .inl (ar (M.1 29)))), ((a 30), .inl (K.1, 8, .inl (ar (M.1 30)))), ((a 31), .inl (K.1, 10, .inl (ar (M.1 31)))), ((a 32), .inl (K.1, 10, .inl (ar (M.1 32)))), ((a 33), .inl (K.1, 10, .inl (ar (M.1 33)))), ((a 35), .inl (K.1, 13711, .inl (ar (M.1 35)))), ((a 39), .inl (K.1, 4, .inl (ar (M.1 39)))), ((a 40), .inl (K.1, 4, .inl (ar (M.1 40))))]) rfl (z_lv (lv2 := [(0, .ref h), (1, vZ at_), (2, vZ wt), (3, vZ (r + 1))]) ⟨rfl, rfl, rfl, rfl, trivial⟩ ?_)
          refine ih_2 (r + 1) ?_ (by omega)
          · skip
            have : r ≠ Ne.1 7 (at_ * 10 + wt) := by
              intro q
              have z := w2.1
              rw [← q] at z
              omega
            omega
        · skip
          refine z_aload_n ZC 0 dX8_way_20 rfl rfl ?_
          refine z_get ZC inUX8 0 rfl rfl 8 (by decide) uF_X8_29 rfl dX8_way_21 ?_
          refine z_iload_n ZC 3 dX8_way_24 rfl rfl ?_
          refine z_iald ZC 6 rfl dX8_way_25 (by omega) ?_
          refine z_aload_n ZC 0 dX8_way_26 rfl rfl ?_
          refine z_get ZC inUX8 0 rfl rfl 11 (by decide) uF_X8_38 rfl dX8_way_27 ?_
          refine z_bipush ZC dX8_way_30 (by decide) ?_
          refine z_aload_n ZC 0 dX8_way_32 rfl rfl ?_
          refine z_get ZC inUX8 0 rfl rfl 6 (by decide) uF_X8_23 rfl dX8_way_33 ?_
          refine z_iload_n ZC 3 dX8_way_36 rfl rfl ?_
          refine z_iald ZC 4 rfl dX8_way_37 (by omega) ?_
          refine z_imul ZC dX8_way_38 ?_
          refine z_iload_n ZC 2 dX8_way_39 rfl rfl ?_
          refine z_iadd ZC dX8_way_40 ?_
          refine z_iald ZC 9 rfl dX8_way_41 (by omega) ?_
          refine z_iadd ZC dX8_way_42 ?_
          refine z_aload_n ZC 0 dX8_way_43 rfl rfl ?_
          refine z_get ZC inUX8 0 rfl rfl 11 (by decide) uF_X8_38 rfl dX8_way_44 ?_
          refine z_bipush ZC dX8_way_47 (by decide) ?_
          refine z_iload_n ZC 1 dX8_way_49 rfl rfl ?_
          refine z_imul ZC dX8_way_50 ?_
          refine z_iload_n ZC 2 dX8_way_51 rfl rfl ?_
          refine z_iadd ZC dX8_way_52 ?_
          refine z_iald ZC 9 rfl dX8_way_53 (by omega) ?_
          refine z_icmp_ne ZC 59 dX8_way_54 (by decide) (by omega) (by omega) (fun c_54 => ?_) (fun c_54 => ?_)
          · skip
            refine z_iinc ZC dX8_way_59 rfl (by decide) ?_
            refine z_goto ZC 2 dX8_way_62 (by decide) ?_
            refine z_ws (ws2 := [(h, .inr (8, [vZ (M.2 0), .ref (a 1), .ref (a 2), vZ (M.2 3), vZ (M.2 4), .ref (a 5), .ref (a 6), .ref (a 7), .ref (a 8), .ref (a 9), .ref (a 10), .ref (a 11), vZ (M.2 12), .ref (a 13), .ref (a 14), .ref (a 15), .ref (a 16), .ref (a 17), .ref (a 18), .ref (a 19), vZ (M.2 20), vZ (M.2 21), .ref (a 22), .ref (a 23), .ref (a 24), .ref (a 25), .ref (a 26), .ref (a 27), .ref (a 28), .ref (a 29), .ref (a 30), .ref (a 31), .ref (a 32), .ref (a 33), vZ (M.2 34), .ref (a 35), vZ (M.2 36), vZ (M.2 37), vZ (M.2 38), .ref (a 39), .ref (a 40), vZ (M.2 41), vZ (M.2 42), vZ (M.2 43)])), ((a 1), .inl (K.1, 10, .inl (ar (M.1 1)))), ((a 2), .inl (K.1, 10, .inl (ar (M.1 2)))), ((a 5), .inl (K.1, 16, .inl (ar (M.1 5)))), ((a 6), .inl (K.1, 16, .inl (ar (M.1 6)))), ((a 7), .inl (K.1, 16, .inl (ar (M.1 7)))), ((a 8), .inl (K.1, 16, .inl (ar (M.1 8)))), ((a 9), .inl (K.1, 16, .inl (ar (M.1 9)))), ((a 10), .inl (K.1, 16, .inl (ar (M.1 10)))), ((a 11), .inl (K.1, 100, .inl (ar (M.1 11)))), ((a 13), .inl (K.1, 8, .inl (ar (M.1 13)))), ((a 14), .inl (K.1, 8, .inl (ar (M.1 14)))), ((a 15), .inl (K.1, 8, .inl (ar (M.1 15)))), ((a 16), .inl (K.1, 8, .inl (ar (M.1 16)))), ((a 17), .inl (K.1, 3200, .inl (ar (M.1 17)))), ((a 18), .inl (K.1, 3200, .inl (ar (M.1 18)))), ((a 19), .inl (K.2.1, 3200, .inl (ar (M.1 19)))), ((a 22), .inl (K.1, 3400, .inl (ar (M.1 22)))), ((a 23), .inl (K.1, 3400, .inl (ar (M.1 23)))), ((a 24), .inl (K.1, 3400, .inl (ar (M.1 24)))), ((a 25), .inl (K.1, 3400, .inl (ar (M.1 25)))), ((a 26), .inl (K.1, 32, .inl (ar (M.1 26)))), ((a 27), .inl (K.1, 32, .inl (ar (M.1 27)))), ((a 28), .inl (K.2.1, 8, .inl (ar (M.1 28)))), ((a 29), .inl (K.1, 8, .inl (ar (M.1 29)))), ((a 30), .inl (K.1, 8, .inl (ar (M.1 30)))), ((a 31), .inl (K.1, 10, .inl (ar (M.1 31)))), ((a 32), .inl (K.1, 10, .inl (ar (M.1 32)))), ((a 33), .inl (K.1, 10, .inl (ar (M.1 33)))), ((a 35), .inl (K.1, 13711, .inl (ar (M.1 35)))), ((a 39), .inl (K.1, 4, .inl (ar (M.1 39)))), ((a 40), .inl (K.1, 4, .inl (ar (M.1 40))))]) rfl (z_lv (lv2 := [(0, .ref h), (1, vZ at_), (2, vZ wt), (3, vZ (r + 1))]) ⟨rfl, rfl, rfl, rfl, trivial⟩ ?_)
            refine ih_2 (r + 1) ?_ (by omega)
            · skip
              have : r ≠ Ne.1 7 (at_ * 10 + wt) := by
                intro q
                have z := w2
                rw [← q] at z
                have z2 := z.2.2
                have z1 := z.2.1
                omega
              omega
          · skip
            refine z_iload_n ZC 3 dX8_way_57 rfl rfl ?_
            refine z_top (y := Ne.1 7 (at_ * 10 + wt)) (by
              rcases Int.lt_or_le r (Ne.1 7 (at_ * 10 + wt)) with q | q
              · exact absurd ⟨by omega, by omega, by omega⟩ (w3 r hr.1 q)
              · omega) ?_
            exact z_iret ZC ZE dX8_way_58 (by omega) (by omega) (Nat.le_of_ble_eq_true rfl) ⟨rfl, rfl, by omega, by omega⟩
  refine z_ws (ws2 := [(h, .inr (8, [vZ (M.2 0), .ref (a 1), .ref (a 2), vZ (M.2 3), vZ (M.2 4), .ref (a 5), .ref (a 6), .ref (a 7), .ref (a 8), .ref (a 9), .ref (a 10), .ref (a 11), vZ (M.2 12), .ref (a 13), .ref (a 14), .ref (a 15), .ref (a 16), .ref (a 17), .ref (a 18), .ref (a 19), vZ (M.2 20), vZ (M.2 21), .ref (a 22), .ref (a 23), .ref (a 24), .ref (a 25), .ref (a 26), .ref (a 27), .ref (a 28), .ref (a 29), .ref (a 30), .ref (a 31), .ref (a 32), .ref (a 33), vZ (M.2 34), .ref (a 35), vZ (M.2 36), vZ (M.2 37), vZ (M.2 38), .ref (a 39), .ref (a 40), vZ (M.2 41), vZ (M.2 42), vZ (M.2 43)])), ((a 1), .inl (K.1, 10, .inl (ar (M.1 1)))), ((a 2), .inl (K.1, 10, .inl (ar (M.1 2)))), ((a 5), .inl (K.1, 16, .inl (ar (M.1 5)))), ((a 6), .inl (K.1, 16, .inl (ar (M.1 6)))), ((a 7), .inl (K.1, 16, .inl (ar (M.1 7)))), ((a 8), .inl (K.1, 16, .inl (ar (M.1 8)))), ((a 9), .inl (K.1, 16, .inl (ar (M.1 9)))), ((a 10), .inl (K.1, 16, .inl (ar (M.1 10)))), ((a 11), .inl (K.1, 100, .inl (ar (M.1 11)))), ((a 13), .inl (K.1, 8, .inl (ar (M.1 13)))), ((a 14), .inl (K.1, 8, .inl (ar (M.1 14)))), ((a 15), .inl (K.1, 8, .inl (ar (M.1 15)))), ((a 16), .inl (K.1, 8, .inl (ar (M.1 16)))), ((a 17), .inl (K.1, 3200, .inl (ar (M.1 17)))), ((a 18), .inl (K.1, 3200, .inl (ar (M.1 18)))), ((a 19), .inl (K.2.1, 3200, .inl (ar (M.1 19)))), ((a 22), .inl (K.1, 3400, .inl (ar (M.1 22)))), ((a 23), .inl (K.1, 3400, .inl (ar (M.1 23)))), ((a 24), .inl (K.1, 3400, .inl (ar (M.1 24)))), ((a 25), .inl (K.1, 3400, .inl (ar (M.1 25)))), ((a 26), .inl (K.1, 32, .inl (ar (M.1 26)))), ((a 27), .inl (K.1, 32, .inl (ar (M.1 27)))), ((a 28), .inl (K.2.1, 8, .inl (ar (M.1 28)))), ((a 29), .inl (K.1, 8, .inl (ar (M.1 29)))), ((a 30), .inl (K.1, 8, .inl (ar (M.1 30)))), ((a 31), .inl (K.1, 10, .inl (ar (M.1 31)))), ((a 32), .inl (K.1, 10, .inl (ar (M.1 32)))), ((a 33), .inl (K.1, 10, .inl (ar (M.1 33)))), ((a 35), .inl (K.1, 13711, .inl (ar (M.1 35)))), ((a 39), .inl (K.1, 4, .inl (ar (M.1 39)))), ((a 40), .inl (K.1, 4, .inl (ar (M.1 40))))]) rfl (z_lv (lv2 := [(0, .ref h), (1, vZ at_), (2, vZ wt), (3, vZ 0)]) ⟨rfl, rfl, rfl, rfl, trivial⟩ ?_)
  refine lp_2 _ 0 ?_ (Nat.lt_succ_self _)
  · skip
    omega

set_option maxHeartbeats 4000000 in
set_option maxRecDepth 100000 in
theorem c_X8_road (zl : Launch) (D : va_G) (K : tyK) (h : Nat) (a : Nat → Nat) (M : Bd) (s1 : Int) (s2 : Int) (cs : Int) (ho : Int) (hz_s1 : -2147483648 ≤ s1 ∧ s1 < 2147483648) (hz_s2 : -2147483648 ≤ s2 ∧ s2 < 2147483648) (hz_cs : -2147483648 ≤ cs ∧ cs < 2147483648) (hz_ho : -2147483648 ≤ ho ∧ ho < 2147483648) (ht8 : 0 ≤ M.2 0 ∧ M.2 0 ≤ 10) (hr8 : 0 ≤ M.2 4 ∧ M.2 4 ≤ 16) (hn8 : 0 ≤ M.2 20 ∧ M.2 20 ≤ 200) (hrv : RV (M.1 5) (M.1 6) (M.1 8) (M.2 4)) : Mz zl yX8_road cX8_road 5 (some .int) 2 43 0 0 D K [.ref h, vZ s1, vZ s2, vZ cs, vZ ho] (wMo K h a M) (fun r_ w2_ gc gs => ∃ (L2 : Int → Int), ∃ (M2 : Bd), ∃ (v : Int), r_ = some (vZ v) ∧ w2_ = (wMo K h a M2) ∧ gc = 0 ∧ gs = 0 ∧ ((((0 ≤ s1 ∧ s1 < M.2 0) ∧ (0 ≤ s2 ∧ s2 < M.2 0) ∧ s1 ≠ s2 ∧ (1 ≤ cs ∧ cs ≤ 5000) ∧ (1 ≤ ho ∧ ho ≤ 9) ∧ M.2 4 < 16 ∧ M.2 20 = 0) ∧ v = M.2 4 ∧ M2 = ((upf (upf (upf (upf (upf M.1 5 (upz (M.1 5) (M.2 4) s1)) 6 (upz (M.1 6) (M.2 4) s2)) 7 (upz (M.1 7) (M.2 4) cs)) 8 (upz (M.1 8) (M.2 4) ho)) 11 L2), (upf M.2 4 (M.2 4 + 1))) ∧ SPm (upz (M.1 5) (M.2 4) s1) (upz (M.1 6) (M.2 4) s2) (upz (M.1 8) (M.2 4) ho) (M.2 4 + 1) L2) ∨ (¬ ((0 ≤ s1 ∧ s1 < M.2 0) ∧ (0 ≤ s2 ∧ s2 < M.2 0) ∧ s1 ≠ s2 ∧ (1 ≤ cs ∧ cs ≤ 5000) ∧ (1 ≤ ho ∧ ho ≤ 9) ∧ M.2 4 < 16 ∧ M.2 20 = 0) ∧ v = -1 ∧ M2 = M))) := by
  refine Mz.ofZ (by decide) rfl (Nat.le_of_ble_eq_true rfl) ?_
  intro zp ze zR zs zm zargs zbelow zmeth zc zA zQ ZC ZE hRf hRc hRs hRl
  refine z_aload_n ZC 0 dX8_road_0 rfl rfl ?_
  refine z_iload_n ZC 1 dX8_road_1 rfl rfl ?_
  refine z_callV ZC 1 (c_X8_isTown zl D K h a M s1 (by omega) (by omega)) (gdV uM_X8_125 uI_X8_isTown uS_X8_isTown uN_X8 uC_X8_isTown) (by decide +kernel) rfl ⟨by omega, by omega⟩ ⟨by omega, by omega⟩ (Nat.le_of_ble_eq_true rfl) [0, 1, 2, 3, 4, 5, 6, 7, 8, 9, 10, 11, 12, 13, 14, 15, 16, 17, 18, 19, 20, 21, 22, 23, 24, 25, 26, 27, 28, 29, 30, 31] rfl (by decide) rfl rfl rfl rfl dX8_road_2 (fun r w2 gc_2 gs_2 hp => ?_)
  obtain ⟨v_2, rfl, rfl, rfl, rfl, hb_2⟩ := hp
  refine z_ws (ws2 := [(h, .inr (8, [vZ (M.2 0), .ref (a 1), .ref (a 2), vZ (M.2 3), vZ (M.2 4), .ref (a 5), .ref (a 6), .ref (a 7), .ref (a 8), .ref (a 9), .ref (a 10), .ref (a 11), vZ (M.2 12), .ref (a 13), .ref (a 14), .ref (a 15), .ref (a 16), .ref (a 17), .ref (a 18), .ref (a 19), vZ (M.2 20), vZ (M.2 21), .ref (a 22), .ref (a 23), .ref (a 24), .ref (a 25), .ref (a 26), .ref (a 27), .ref (a 28), .ref (a 29), .ref (a 30), .ref (a 31), .ref (a 32), .ref (a 33), vZ (M.2 34), .ref (a 35), vZ (M.2 36), vZ (M.2 37), vZ (M.2 38), .ref (a 39), .ref (a 40), vZ (M.2 41), vZ (M.2 42), vZ (M.2 43)])), ((a 1), .inl (K.1, 10, .inl (ar (M.1 1)))), ((a 2), .inl (K.1, 10, .inl (ar (M.1 2)))), ((a 5), .inl (K.1, 16, .inl (ar (M.1 5)))), ((a 6), .inl (K.1, 16, .inl (ar (M.1 6)))), ((a 7), .inl (K.1, 16, .inl (ar (M.1 7)))), ((a 8), .inl (K.1, 16, .inl (ar (M.1 8)))), ((a 9), .inl (K.1, 16, .inl (ar (M.1 9)))), ((a 10), .inl (K.1, 16, .inl (ar (M.1 10)))), ((a 11), .inl (K.1, 100, .inl (ar (M.1 11)))), ((a 13), .inl (K.1, 8, .inl (ar (M.1 13)))), ((a 14), .inl (K.1, 8, .inl (ar (M.1 14)))), ((a 15), .inl (K.1, 8, .inl (ar (M.1 15)))), ((a 16), .inl (K.1, 8, .inl (ar (M.1 16)))), ((a 17), .inl (K.1, 3200, .inl (ar (M.1 17)))), ((a 18), .inl (K.1, 3200, .inl (ar (M.1 18)))), ((a 19), .inl (K.2.1, 3200, .inl (ar (M.1 19)))), ((a 22), .inl (K.1, 3400, .inl (ar (M.1 22)))), ((a 23), .inl (K.1, 3400, .inl (ar (M.1 23)))), ((a 24), .inl (K.1, 3400, .inl (ar (M.1 24)))), ((a 25), .inl (K.1, 3400, .inl (ar (M.1 25)))), ((a 26), .inl (K.1, 32, .inl (ar (M.1 26)))), ((a 27), .inl (K.1, 32, .inl (ar (M.1 27)))), ((a 28), .inl (K.2.1, 8, .inl (ar (M.1 28)))), ((a 29), .inl (K.1, 8, .inl (ar (M.1 29)))), ((a 30), .inl (K.1, 8, .inl (ar (M.1 30)))), ((a 31), .inl (K.1, 10, .inl (ar (M.1 31)))), ((a 32), .inl (K.1, 10, .inl (ar (M.1 32)))), ((a 33), .inl (K.1, 10, .inl (ar (M.1 33)))), ((a 35), .inl (K.1, 13711, .inl (ar (M.1 35)))), ((a 39), .inl (K.1, 4, .inl (ar (M.1 39)))), ((a 40), .inl (K.1, 4, .inl (ar (M.1 40))))]) rfl ?_
  refine z_st (st2 := [vZ v_2]) rfl ?_
  refine z_if_eq ZC 59 dX8_road_5 (by decide) (by omega) (fun c_5 => ?_) (fun c_5 => ?_)
  · skip
    refine z_iconst ZC dX8_road_59 ?_
    refine z_iret ZC ZE dX8_road_60 (by omega) (by omega) (Nat.le_of_ble_eq_true rfl) ⟨(fun _ => 0), M, (-1), rfl, rfl, by omega, by omega, ?_⟩
    · skip
      right; exact ⟨by omega, rfl, rfl⟩
  · skip
    refine z_aload_n ZC 0 dX8_road_8 rfl rfl ?_
    refine z_iload_n ZC 2 dX8_road_9 rfl rfl ?_
    refine z_callV ZC 1 (c_X8_isTown zl D K h a M s2 (by omega) (by omega)) (gdV uM_X8_125 uI_X8_isTown uS_X8_isTown uN_X8 uC_X8_isTown) (by decide +kernel) rfl ⟨by omega, by omega⟩ ⟨by omega, by omega⟩ (Nat.le_of_ble_eq_true rfl) [0, 1, 2, 3, 4, 5, 6, 7, 8, 9, 10, 11, 12, 13, 14, 15, 16, 17, 18, 19, 20, 21, 22, 23, 24, 25, 26, 27, 28, 29, 30, 31] rfl (by decide) rfl rfl rfl rfl dX8_road_10 (fun r w2 gc_10 gs_10 hp => ?_)
    obtain ⟨v_10, rfl, rfl, rfl, rfl, hb_10⟩ := hp
    refine z_ws (ws2 := [(h, .inr (8, [vZ (M.2 0), .ref (a 1), .ref (a 2), vZ (M.2 3), vZ (M.2 4), .ref (a 5), .ref (a 6), .ref (a 7), .ref (a 8), .ref (a 9), .ref (a 10), .ref (a 11), vZ (M.2 12), .ref (a 13), .ref (a 14), .ref (a 15), .ref (a 16), .ref (a 17), .ref (a 18), .ref (a 19), vZ (M.2 20), vZ (M.2 21), .ref (a 22), .ref (a 23), .ref (a 24), .ref (a 25), .ref (a 26), .ref (a 27), .ref (a 28), .ref (a 29), .ref (a 30), .ref (a 31), .ref (a 32), .ref (a 33), vZ (M.2 34), .ref (a 35), vZ (M.2 36), vZ (M.2 37), vZ (M.2 38), .ref (a 39), .ref (a 40), vZ (M.2 41), vZ (M.2 42), vZ (M.2 43)])), ((a 1), .inl (K.1, 10, .inl (ar (M.1 1)))), ((a 2), .inl (K.1, 10, .inl (ar (M.1 2)))), ((a 5), .inl (K.1, 16, .inl (ar (M.1 5)))), ((a 6), .inl (K.1, 16, .inl (ar (M.1 6)))), ((a 7), .inl (K.1, 16, .inl (ar (M.1 7)))), ((a 8), .inl (K.1, 16, .inl (ar (M.1 8)))), ((a 9), .inl (K.1, 16, .inl (ar (M.1 9)))), ((a 10), .inl (K.1, 16, .inl (ar (M.1 10)))), ((a 11), .inl (K.1, 100, .inl (ar (M.1 11)))), ((a 13), .inl (K.1, 8, .inl (ar (M.1 13)))), ((a 14), .inl (K.1, 8, .inl (ar (M.1 14)))), ((a 15), .inl (K.1, 8, .inl (ar (M.1 15)))), ((a 16), .inl (K.1, 8, .inl (ar (M.1 16)))), ((a 17), .inl (K.1, 3200, .inl (ar (M.1 17)))), ((a 18), .inl (K.1, 3200, .inl (ar (M.1 18)))), ((a 19), .inl (K.2.1, 3200, .inl (ar (M.1 19)))), ((a 22), .inl (K.1, 3400, .inl (ar (M.1 22)))), ((a 23), .inl (K.1, 3400, .inl (ar (M.1 23)))), ((a 24), .inl (K.1, 3400, .inl (ar (M.1 24)))), ((a 25), .inl (K.1, 3400, .inl (ar (M.1 25)))), ((a 26), .inl (K.1, 32, .inl (ar (M.1 26)))), ((a 27), .inl (K.1, 32, .inl (ar (M.1 27)))), ((a 28), .inl (K.2.1, 8, .inl (ar (M.1 28)))), ((a 29), .inl (K.1, 8, .inl (ar (M.1 29)))), ((a 30), .inl (K.1, 8, .inl (ar (M.1 30)))), ((a 31), .inl (K.1, 10, .inl (ar (M.1 31)))), ((a 32), .inl (K.1, 10, .inl (ar (M.1 32)))), ((a 33), .inl (K.1, 10, .inl (ar (M.1 33)))), ((a 35), .inl (K.1, 13711, .inl (ar (M.1 35)))), ((a 39), .inl (K.1, 4, .inl (ar (M.1 39)))), ((a 40), .inl (K.1, 4, .inl (ar (M.1 40))))]) rfl ?_
    refine z_st (st2 := [vZ v_10]) rfl ?_
    refine z_if_eq ZC 59 dX8_road_13 (by decide) (by omega) (fun c_13 => ?_) (fun c_13 => ?_)
    · skip
      refine z_iconst ZC dX8_road_59 ?_
      refine z_iret ZC ZE dX8_road_60 (by omega) (by omega) (Nat.le_of_ble_eq_true rfl) ⟨(fun _ => 0), M, (-1), rfl, rfl, by omega, by omega, ?_⟩
      · skip
        right; exact ⟨by omega, rfl, rfl⟩
    · skip
      refine z_iload_n ZC 1 dX8_road_16 rfl rfl ?_
      refine z_iload_n ZC 2 dX8_road_17 rfl rfl ?_
      refine z_icmp_eq ZC 59 dX8_road_18 (by decide) (by omega) (by omega) (fun c_18 => ?_) (fun c_18 => ?_)
      · skip
        refine z_iconst ZC dX8_road_59 ?_
        refine z_iret ZC ZE dX8_road_60 (by omega) (by omega) (Nat.le_of_ble_eq_true rfl) ⟨(fun _ => 0), M, (-1), rfl, rfl, by omega, by omega, ?_⟩
        · skip
          right; exact ⟨by omega, rfl, rfl⟩
      · skip
        refine z_iload_n ZC 3 dX8_road_21 rfl rfl ?_
        refine z_iconst ZC dX8_road_22 ?_
        refine z_sipush ZC dX8_road_23 (by decide) ?_
        refine z_callS ZC 3 (c_X8_in zl D K cs 1 5000 (by omega) (by omega) (by omega)) (gdS uM_X8_114 uZ_X8_in uN_X8 uC_X8_in) (by decide +kernel) rfl ⟨by omega, by omega⟩ ⟨by omega, by omega⟩ (Nat.le_of_ble_eq_true rfl) [] rfl (by decide) rfl dX8_road_26 (fun r w2 gc_26 gs_26 hp => ?_)
        obtain ⟨b_26, rfl, rfl, rfl, rfl, hb_26⟩ := hp
        refine z_st (st2 := [vZ b_26]) rfl ?_
        refine z_if_eq ZC 59 dX8_road_29 (by decide) (by omega) (fun c_29 => ?_) (fun c_29 => ?_)
        · skip
          refine z_iconst ZC dX8_road_59 ?_
          refine z_iret ZC ZE dX8_road_60 (by omega) (by omega) (Nat.le_of_ble_eq_true rfl) ⟨(fun _ => 0), M, (-1), rfl, rfl, by omega, by omega, ?_⟩
          · skip
            right; exact ⟨by omega, rfl, rfl⟩
        · skip
          refine z_iload ZC dX8_road_32 rfl ?_
          refine z_iconst ZC dX8_road_34 ?_
          refine z_bipush ZC dX8_road_35 (by decide) ?_
          refine z_callS ZC 3 (c_X8_in zl D K ho 1 9 (by omega) (by omega) (by omega)) (gdS uM_X8_114 uZ_X8_in uN_X8 uC_X8_in) (by decide +kernel) rfl ⟨by omega, by omega⟩ ⟨by omega, by omega⟩ (Nat.le_of_ble_eq_true rfl) [] rfl (by decide) rfl dX8_road_37 (fun r w2 gc_37 gs_37 hp => ?_)
          obtain ⟨b_37, rfl, rfl, rfl, rfl, hb_37⟩ := hp
          refine z_st (st2 := [vZ b_37]) rfl ?_
          refine z_if_eq ZC 59 dX8_road_40 (by decide) (by omega) (fun c_40 => ?_) (fun c_40 => ?_)
          · skip
            refine z_iconst ZC dX8_road_59 ?_
            refine z_iret ZC ZE dX8_road_60 (by omega) (by omega) (Nat.le_of_ble_eq_true rfl) ⟨(fun _ => 0), M, (-1), rfl, rfl, by omega, by omega, ?_⟩
            · skip
              right; exact ⟨by omega, rfl, rfl⟩
          · skip
            refine z_aload_n ZC 0 dX8_road_43 rfl rfl ?_
            refine z_get ZC inUX8 0 rfl rfl 4 (by decide) uF_X8_118 rfl dX8_road_44 ?_
            refine z_bipush ZC dX8_road_47 (by decide) ?_
            refine z_icmp_eq ZC 59 dX8_road_49 (by decide) (by omega) (by omega) (fun c_49 => ?_) (fun c_49 => ?_)
            · skip
              refine z_iconst ZC dX8_road_59 ?_
              refine z_iret ZC ZE dX8_road_60 (by omega) (by omega) (Nat.le_of_ble_eq_true rfl) ⟨(fun _ => 0), M, (-1), rfl, rfl, by omega, by omega, ?_⟩
              · skip
                right; exact ⟨by omega, rfl, rfl⟩
            · skip
              refine z_aload_n ZC 0 dX8_road_52 rfl rfl ?_
              refine z_get ZC inUX8 0 rfl rfl 20 (by decide) uF_X8_129 rfl dX8_road_53 ?_
              refine z_if_le ZC 61 dX8_road_56 (by decide) (by omega) (fun c_56 => ?_) (fun c_56 => ?_)
              · skip
                refine z_aload_n ZC 0 dX8_road_61 rfl rfl ?_
                refine z_get ZC inUX8 0 rfl rfl 5 (by decide) uF_X8_20 rfl dX8_road_62 ?_
                refine z_aload_n ZC 0 dX8_road_65 rfl rfl ?_
                refine z_get ZC inUX8 0 rfl rfl 4 (by decide) uF_X8_118 rfl dX8_road_66 ?_
                refine z_iload_n ZC 1 dX8_road_69 rfl rfl ?_
                refine z_iast ZC 3 rfl dX8_road_70 (by omega) ?_
                refine z_aload_n ZC 0 dX8_road_71 rfl rfl ?_
                refine z_get ZC inUX8 0 rfl rfl 6 (by decide) uF_X8_23 rfl dX8_road_72 ?_
                refine z_aload_n ZC 0 dX8_road_75 rfl rfl ?_
                refine z_get ZC inUX8 0 rfl rfl 4 (by decide) uF_X8_118 rfl dX8_road_76 ?_
                refine z_iload_n ZC 2 dX8_road_79 rfl rfl ?_
                refine z_iast ZC 4 rfl dX8_road_80 (by omega) ?_
                refine z_aload_n ZC 0 dX8_road_81 rfl rfl ?_
                refine z_get ZC inUX8 0 rfl rfl 7 (by decide) uF_X8_26 rfl dX8_road_82 ?_
                refine z_aload_n ZC 0 dX8_road_85 rfl rfl ?_
                refine z_get ZC inUX8 0 rfl rfl 4 (by decide) uF_X8_118 rfl dX8_road_86 ?_
                refine z_iload_n ZC 3 dX8_road_89 rfl rfl ?_
                refine z_iast ZC 5 rfl dX8_road_90 (by omega) ?_
                refine z_ws (ws2 := [(h, .inr (8, [vZ (M.2 0), .ref (a 1), .ref (a 2), vZ (M.2 3), vZ (M.2 4), .ref (a 5), .ref (a 6), .ref (a 7), .ref (a 8), .ref (a 9), .ref (a 10), .ref (a 11), vZ (M.2 12), .ref (a 13), .ref (a 14), .ref (a 15), .ref (a 16), .ref (a 17), .ref (a 18), .ref (a 19), vZ (M.2 20), vZ (M.2 21), .ref (a 22), .ref (a 23), .ref (a 24), .ref (a 25), .ref (a 26), .ref (a 27), .ref (a 28), .ref (a 29), .ref (a 30), .ref (a 31), .ref (a 32), .ref (a 33), vZ (M.2 34), .ref (a 35), vZ (M.2 36), vZ (M.2 37), vZ (M.2 38), .ref (a 39), .ref (a 40), vZ (M.2 41), vZ (M.2 42), vZ (M.2 43)])), ((a 1), .inl (K.1, 10, .inl (ar (M.1 1)))), ((a 2), .inl (K.1, 10, .inl (ar (M.1 2)))), ((a 5), .inl (K.1, 16, .inl (ar (upz (M.1 5) (M.2 4) s1)))), ((a 6), .inl (K.1, 16, .inl (ar (upz (M.1 6) (M.2 4) s2)))), ((a 7), .inl (K.1, 16, .inl (ar (upz (M.1 7) (M.2 4) cs)))), ((a 8), .inl (K.1, 16, .inl (ar (M.1 8)))), ((a 9), .inl (K.1, 16, .inl (ar (M.1 9)))), ((a 10), .inl (K.1, 16, .inl (ar (M.1 10)))), ((a 11), .inl (K.1, 100, .inl (ar (M.1 11)))), ((a 13), .inl (K.1, 8, .inl (ar (M.1 13)))), ((a 14), .inl (K.1, 8, .inl (ar (M.1 14)))), ((a 15), .inl (K.1, 8, .inl (ar (M.1 15)))), ((a 16), .inl (K.1, 8, .inl (ar (M.1 16)))), ((a 17), .inl (K.1, 3200, .inl (ar (M.1 17)))), ((a 18), .inl (K.1, 3200, .inl (ar (M.1 18)))), ((a 19), .inl (K.2.1, 3200, .inl (ar (M.1 19)))), ((a 22), .inl (K.1, 3400, .inl (ar (M.1 22)))), ((a 23), .inl (K.1, 3400, .inl (ar (M.1 23)))), ((a 24), .inl (K.1, 3400, .inl (ar (M.1 24)))), ((a 25), .inl (K.1, 3400, .inl (ar (M.1 25)))), ((a 26), .inl (K.1, 32, .inl (ar (M.1 26)))), ((a 27), .inl (K.1, 32, .inl (ar (M.1 27)))), ((a 28), .inl (K.2.1, 8, .inl (ar (M.1 28)))), ((a 29), .inl (K.1, 8, .inl (ar (M.1 29)))), ((a 30), .inl (K.1, 8, .inl (ar (M.1 30)))), ((a 31), .inl (K.1, 10, .inl (ar (M.1 31)))), ((a 32), .inl (K.1, 10, .inl (ar (M.1 32)))), ((a 33), .inl (K.1, 10, .inl (ar (M.1 33)))), ((a 35), .inl (K.1, 13711, .inl (ar (M.1 35)))), ((a 39), .inl (K.1, 4, .inl (ar (M.1 39)))), ((a 40), .inl (K.1, 4, .inl (ar (M.1 40))))]) rfl ?_
                refine z_aload_n ZC 0 dX8_road_91 rfl rfl ?_
                refine z_get ZC inUX8 0 rfl rfl 8 (by decide) uF_X8_29 rfl dX8_road_92 ?_
                refine z_aload_n ZC 0 dX8_road_95 rfl rfl ?_
                refine z_get ZC inUX8 0 rfl rfl 4 (by decide) uF_X8_118 rfl dX8_road_96 ?_
                refine z_iload ZC dX8_road_99 rfl ?_
                refine z_iast ZC 6 rfl dX8_road_101 (by omega) ?_
                refine z_aload_n ZC 0 dX8_road_102 rfl rfl ?_
                refine z_dup ZC dX8_road_103 rfl ?_
                refine z_get ZC inUX8 0 rfl rfl 4 (by decide) uF_X8_118 rfl dX8_road_104 ?_
                refine z_iconst ZC dX8_road_107 ?_
                refine z_iadd ZC dX8_road_108 ?_
                refine z_put ZC inUX8 tyX8_ok nmX8 0 rfl rfl 4 (by decide) uF_X8_118 rfl (rfl) (rfl) (Nat.le_of_ble_eq_true rfl) dX8_road_109 ?_
                have hrv2 : RV (upz (M.1 5) (M.2 4) s1) (upz (M.1 6) (M.2 4) s2) (upz (M.1 8) (M.2 4) ho) (M.2 4 + 1) := by
                  intro r r1 r2
                  by_cases z : r = M.2 4
                  · rw [z, upz_self, upz_self, upz_self]; omega
                  · rw [upz_ne _ _ z, upz_ne _ _ z, upz_ne _ _ z]; exact hrv r r1 (by omega)
                refine z_aload_n ZC 0 dX8_road_112 rfl rfl ?_
                refine z_ws (ws2 := [(h, .inr (8, [vZ (M.2 0), .ref (a 1), .ref (a 2), vZ (M.2 3), vZ ((M.2 4) + 1), .ref (a 5), .ref (a 6), .ref (a 7), .ref (a 8), .ref (a 9), .ref (a 10), .ref (a 11), vZ (M.2 12), .ref (a 13), .ref (a 14), .ref (a 15), .ref (a 16), .ref (a 17), .ref (a 18), .ref (a 19), vZ (M.2 20), vZ (M.2 21), .ref (a 22), .ref (a 23), .ref (a 24), .ref (a 25), .ref (a 26), .ref (a 27), .ref (a 28), .ref (a 29), .ref (a 30), .ref (a 31), .ref (a 32), .ref (a 33), vZ (M.2 34), .ref (a 35), vZ (M.2 36), vZ (M.2 37), vZ (M.2 38), .ref (a 39), .ref (a 40), vZ (M.2 41), vZ (M.2 42), vZ (M.2 43)])), ((a 1), .inl (K.1, 10, .inl (ar (M.1 1)))), ((a 2), .inl (K.1, 10, .inl (ar (M.1 2)))), ((a 5), .inl (K.1, 16, .inl (ar (upz (M.1 5) (M.2 4) s1)))), ((a 6), .inl (K.1, 16, .inl (ar (upz (M.1 6) (M.2 4) s2)))), ((a 7), .inl (K.1, 16, .inl (ar (upz (M.1 7) (M.2 4) cs)))), ((a 8), .inl (K.1, 16, .inl (ar (upz (M.1 8) (M.2 4) ho)))), ((a 9), .inl (K.1, 16, .inl (ar (M.1 9)))), ((a 10), .inl (K.1, 16, .inl (ar (M.1 10)))), ((a 11), .inl (K.1, 100, .inl (ar (M.1 11)))), ((a 13), .inl (K.1, 8, .inl (ar (M.1 13)))), ((a 14), .inl (K.1, 8, .inl (ar (M.1 14)))), ((a 15), .inl (K.1, 8, .inl (ar (M.1 15)))), ((a 16), .inl (K.1, 8, .inl (ar (M.1 16)))), ((a 17), .inl (K.1, 3200, .inl (ar (M.1 17)))), ((a 18), .inl (K.1, 3200, .inl (ar (M.1 18)))), ((a 19), .inl (K.2.1, 3200, .inl (ar (M.1 19)))), ((a 22), .inl (K.1, 3400, .inl (ar (M.1 22)))), ((a 23), .inl (K.1, 3400, .inl (ar (M.1 23)))), ((a 24), .inl (K.1, 3400, .inl (ar (M.1 24)))), ((a 25), .inl (K.1, 3400, .inl (ar (M.1 25)))), ((a 26), .inl (K.1, 32, .inl (ar (M.1 26)))), ((a 27), .inl (K.1, 32, .inl (ar (M.1 27)))), ((a 28), .inl (K.2.1, 8, .inl (ar (M.1 28)))), ((a 29), .inl (K.1, 8, .inl (ar (M.1 29)))), ((a 30), .inl (K.1, 8, .inl (ar (M.1 30)))), ((a 31), .inl (K.1, 10, .inl (ar (M.1 31)))), ((a 32), .inl (K.1, 10, .inl (ar (M.1 32)))), ((a 33), .inl (K.1, 10, .inl (ar (M.1 33)))), ((a 35), .inl (K.1, 13711, .inl (ar (M.1 35)))), ((a 39), .inl (K.1, 4, .inl (ar (M.1 39)))), ((a 40), .inl (K.1, 4, .inl (ar (M.1 40))))]) rfl ?_
                have hy_hr8_113_0 : 0 ≤ ((M.2 4) + 1) ∧ ((M.2 4) + 1) ≤ 16 := by show 0 ≤ M.2 4 + 1 ∧ M.2 4 + 1 ≤ 16; omega
                have hy_hrv_113_0 : RV ((upz (M.1 5) (M.2 4) s1)) ((upz (M.1 6) (M.2 4) s2)) ((upz (M.1 8) (M.2 4) ho)) (((M.2 4) + 1)) := hrv2
                refine z_callV ZC 0 (c_X8_reckons zl D K h a ((upf (upf (upf (upf M.1 5 (upz (M.1 5) (M.2 4) s1)) 6 (upz (M.1 6) (M.2 4) s2)) 7 (upz (M.1 7) (M.2 4) cs)) 8 (upz (M.1 8) (M.2 4) ho)), (upf M.2 4 ((M.2 4) + 1))) (hy_hr8_113_0) (hy_hrv_113_0)) (gdV uM_X8_108 uI_X8_reckons uS_X8_reckons uN_X8 uC_X8_reckons) (by decide +kernel) rfl ⟨by omega, by omega⟩ ⟨by omega, by omega⟩ (Nat.le_of_ble_eq_true rfl) [0, 1, 2, 3, 4, 5, 6, 7, 8, 9, 10, 11, 12, 13, 14, 15, 16, 17, 18, 19, 20, 21, 22, 23, 24, 25, 26, 27, 28, 29, 30, 31] rfl (by decide) rfl rfl rfl rfl dX8_road_113 (fun r w2 gc_113 gs_113 hp => ?_)
                obtain ⟨L2_113, rfl, rfl, rfl, rfl, hsp_113⟩ := hp
                have hsp_113 : SPm ((upz (M.1 5) (M.2 4) s1)) ((upz (M.1 6) (M.2 4) s2)) ((upz (M.1 8) (M.2 4) ho)) (((M.2 4) + 1)) L2_113 := hsp_113
                refine z_ws (ws2 := [(h, .inr (8, [vZ (M.2 0), .ref (a 1), .ref (a 2), vZ (M.2 3), vZ ((M.2 4) + 1), .ref (a 5), .ref (a 6), .ref (a 7), .ref (a 8), .ref (a 9), .ref (a 10), .ref (a 11), vZ (M.2 12), .ref (a 13), .ref (a 14), .ref (a 15), .ref (a 16), .ref (a 17), .ref (a 18), .ref (a 19), vZ (M.2 20), vZ (M.2 21), .ref (a 22), .ref (a 23), .ref (a 24), .ref (a 25), .ref (a 26), .ref (a 27), .ref (a 28), .ref (a 29), .ref (a 30), .ref (a 31), .ref (a 32), .ref (a 33), vZ (M.2 34), .ref (a 35), vZ (M.2 36), vZ (M.2 37), vZ (M.2 38), .ref (a 39), .ref (a 40), vZ (M.2 41), vZ (M.2 42), vZ (M.2 43)])), ((a 1), .inl (K.1, 10, .inl (ar (M.1 1)))), ((a 2), .inl (K.1, 10, .inl (ar (M.1 2)))), ((a 5), .inl (K.1, 16, .inl (ar (upz (M.1 5) (M.2 4) s1)))), ((a 6), .inl (K.1, 16, .inl (ar (upz (M.1 6) (M.2 4) s2)))), ((a 7), .inl (K.1, 16, .inl (ar (upz (M.1 7) (M.2 4) cs)))), ((a 8), .inl (K.1, 16, .inl (ar (upz (M.1 8) (M.2 4) ho)))), ((a 9), .inl (K.1, 16, .inl (ar (M.1 9)))), ((a 10), .inl (K.1, 16, .inl (ar (M.1 10)))), ((a 11), .inl (K.1, 100, .inl (ar L2_113))), ((a 13), .inl (K.1, 8, .inl (ar (M.1 13)))), ((a 14), .inl (K.1, 8, .inl (ar (M.1 14)))), ((a 15), .inl (K.1, 8, .inl (ar (M.1 15)))), ((a 16), .inl (K.1, 8, .inl (ar (M.1 16)))), ((a 17), .inl (K.1, 3200, .inl (ar (M.1 17)))), ((a 18), .inl (K.1, 3200, .inl (ar (M.1 18)))), ((a 19), .inl (K.2.1, 3200, .inl (ar (M.1 19)))), ((a 22), .inl (K.1, 3400, .inl (ar (M.1 22)))), ((a 23), .inl (K.1, 3400, .inl (ar (M.1 23)))), ((a 24), .inl (K.1, 3400, .inl (ar (M.1 24)))), ((a 25), .inl (K.1, 3400, .inl (ar (M.1 25)))), ((a 26), .inl (K.1, 32, .inl (ar (M.1 26)))), ((a 27), .inl (K.1, 32, .inl (ar (M.1 27)))), ((a 28), .inl (K.2.1, 8, .inl (ar (M.1 28)))), ((a 29), .inl (K.1, 8, .inl (ar (M.1 29)))), ((a 30), .inl (K.1, 8, .inl (ar (M.1 30)))), ((a 31), .inl (K.1, 10, .inl (ar (M.1 31)))), ((a 32), .inl (K.1, 10, .inl (ar (M.1 32)))), ((a 33), .inl (K.1, 10, .inl (ar (M.1 33)))), ((a 35), .inl (K.1, 13711, .inl (ar (M.1 35)))), ((a 39), .inl (K.1, 4, .inl (ar (M.1 39)))), ((a 40), .inl (K.1, 4, .inl (ar (M.1 40))))]) rfl ?_
                refine z_st (st2 := []) rfl ?_
                refine z_aload_n ZC 0 dX8_road_116 rfl rfl ?_
                refine z_get ZC inUX8 0 rfl rfl 4 (by decide) uF_X8_118 rfl dX8_road_117 ?_
                refine z_iconst ZC dX8_road_120 ?_
                refine z_isub ZC dX8_road_121 ?_
                refine z_iret ZC ZE dX8_road_122 (by omega) (by omega) (Nat.le_of_ble_eq_true rfl) ⟨L2_113, ((upf (upf (upf (upf (upf M.1 5 (upz (M.1 5) (M.2 4) s1)) 6 (upz (M.1 6) (M.2 4) s2)) 7 (upz (M.1 7) (M.2 4) cs)) 8 (upz (M.1 8) (M.2 4) ho)) 11 L2_113), (upf M.2 4 ((M.2 4) + 1))), (((M.2 4) + 1) - 1), rfl, rfl, by omega, by omega, ?_⟩
                · skip
                  left
                  exact ⟨by omega, by omega, rfl, hsp_113⟩
              · skip
                refine z_iconst ZC dX8_road_59 ?_
                refine z_iret ZC ZE dX8_road_60 (by omega) (by omega) (Nat.le_of_ble_eq_true rfl) ⟨(fun _ => 0), M, (-1), rfl, rfl, by omega, by omega, ?_⟩
                · skip
                  right; exact ⟨by omega, rfl, rfl⟩

