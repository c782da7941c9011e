/-! ===== plain facts: sums, a new road's shortenings ===== -/
def smI (f : Int → Int) (a : Int) : Nat → Int
  | 0 => 0
  | n + 1 => smI f a n + f (a + (n : Int))
theorem smI_next {f : Int → Int} {a h : Int} (ha : a ≤ h) : smI f a (h + 1 - a).toNat = smI f a (h - a).toNat + f h := by
  rw [show (h + 1 - a).toNat = (h - a).toNat + 1 by omega]
  show smI f a (h - a).toNat + f (a + ((h - a).toNat : Int)) = _
  rw [show a + ((h - a).toNat : Int) = h by omega]
def shv (L : Int → Int) (s e t i j : Int) : Int := if L (i * 10 + s) ≠ -1 ∧ L (e * 10 + j) ≠ -1 ∧ (L (i * 10 + j) = -1 ∨ L (i * 10 + s) + t + L (e * 10 + j) < L (i * 10 + j)) then L (i * 10 + s) + t + L (e * 10 + j) else L (i * 10 + j)
theorem shv_end {L : Int → Int} {s e t j : Int} (ht : 1 ≤ t) (hL : ∀ k : Int, 0 ≤ k → k < 100 → -1 ≤ L k ∧ L k ≤ 10000) (hs : 0 ≤ s ∧ s < 10) (he : 0 ≤ e ∧ e < 10) (hj : 0 ≤ j ∧ j < 10) : shv L s e t e j = L (e * 10 + j) := by
  have h1 := hL (e * 10 + s) (by omega) (by omega)
  have h2 := hL (e * 10 + j) (by omega) (by omega)
  unfold shv
  rw [if_neg]
  rintro ⟨a, b, c | c⟩ <;> omega
/-- the road by which a way goes on -/
def wayP (fr to hr L : Int → Int) (i j r : Int) : Prop := fr r = i ∧ L (to r * 10 + j) ≠ -1 ∧ hr r + L (to r * 10 + j) = L (i * 10 + j)
theorem rg_1 {x : Int} (h : -1 ≤ x ∧ x ≤ 10000) : -2147483648 ≤ x ∧ x < 2147483648 := by omega
theorem rg_m1 : -2147483648 ≤ (-1 : Int) ∧ (-1 : Int) < 2147483648 := by omega
theorem ix10 {i j : Int} (h1 : 0 ≤ i ∧ i < 10) (h2 : 0 ≤ j ∧ j < 10) : 0 ≤ i * 10 + j ∧ i * 10 + j < ((100 : Nat) : Int) ∧ ((100 : Nat) : Int) < 2147483648 := by omega
theorem ix10e {x y i j : Int} (hx : 0 ≤ x ∧ x < 10) (hy : 0 ≤ y ∧ y < 10) (hi : 0 ≤ i ∧ i < 10) (hj : 0 ≤ j ∧ j < 10) : x * 10 + y = i * 10 + j ↔ x = i ∧ y = j := by omega
theorem rg3 {x t z : Int} (h : -1 ≤ x ∧ x ≤ 10000) (ht : 1 ≤ t ∧ t ≤ 9) (hz : -1 ≤ z ∧ z ≤ 10000) : -2147483648 ≤ x + t + z ∧ x + t + z < 2147483648 := by omega
/-- the first of the numbers above lo that P holds of, else w -/
def fwp (P : Int → Prop) (lo n w m : Int) : Prop := ((∀ r : Int, lo < r → r < n → ¬ P r) → m = w) ∧ ∀ q : Int, lo < q → q < n → P q → (∀ r : Int, lo < r → r < q → ¬ P r) → m = q
theorem fwp_no {P : Int → Prop} {lo n w m : Int} (h : fwp P lo n w m) (hP : ¬ P lo) : fwp P (lo - 1) n w m := by
  refine ⟨fun q => h.1 (fun r h1 h2 => q r (by omega) h2), fun q h1 h2 h3 h4 => ?_⟩
  rcases Int.lt_or_le lo q with z | z
  · exact h.2 q z h2 h3 (fun r h5 h6 => h4 r (by omega) h6)
  · have : q = lo := by omega
    subst this
    exact absurd h3 hP
theorem fwp_yes {P : Int → Prop} {lo n w : Int} (hP : P lo) (hn : lo < n) : fwp P (lo - 1) n w lo := by
  refine ⟨fun q => absurd hP (q lo (by omega) hn), fun q h1 h2 h3 h4 => ?_⟩
  rcases Int.lt_or_le lo q with z | z
  · exact absurd hP (h4 lo (by omega) z)
  · omega
theorem fwp_0 (P : Int → Prop) (n w : Int) : fwp P (n - 1) n w w := ⟨fun _ => rfl, fun q h1 h2 => by omega⟩
