/-! ===== plain facts: roots ===== -/
def isq : Nat → Int → Int
  | 0, _ => 0
  | n + 1, v => if ((n : Int) + 1) * ((n : Int) + 1) ≤ v then (n : Int) + 1 else isq n v
def drk (hf far : Int) : Int := 3 * isq 100 (hf * hf - far * far)
theorem sq_le {i k : Int} (h0 : 0 ≤ i) (h : i ≤ k) : i * i ≤ k * k := Int.mul_le_mul h h h0 (by omega)
theorem sq_nn (i : Int) : 0 ≤ i * i := by
  rcases Int.le_total 0 i with h | h
  · exact Int.mul_nonneg h h
  · exact Int.mul_nonneg_of_nonpos_of_nonpos h h
theorem isq_drop {v : Int} {n : Nat} (hv : v < ((n : Int) + 1) * ((n : Int) + 1)) : ∀ {k : Nat}, n ≤ k → isq k v = isq n v
  | 0, h => by rw [Nat.le_zero.mp h]
  | k + 1, h => by
    rcases Nat.lt_or_ge n (k + 1) with q | q
    · have h1 := isq_drop hv (k := k) (by omega)
      have h2 := sq_le (i := (n : Int) + 1) (k := (k : Int) + 1) (by omega) (by omega)
      rw [← h1]
      show (if ((k : Int) + 1) * ((k : Int) + 1) ≤ v then (k : Int) + 1 else isq k v) = isq k v
      rw [if_neg (by omega)]
    · rw [show n = k + 1 by omega]
theorem isq_step {v i : Int} (hi : 0 < i) : isq i.toNat v = if i * i ≤ v then i else isq (i - 1).toNat v := by
  obtain ⟨n, hn⟩ : ∃ n : Nat, i = (n : Int) + 1 := ⟨(i - 1).toNat, by omega⟩
  subst hn
  rw [show ((n : Int) + 1).toNat = n + 1 by omega, show ((n : Int) + 1 - 1).toNat = n by omega]
  rfl
theorem isq_rng (v : Int) : ∀ n : Nat, 0 ≤ isq n v ∧ isq n v ≤ n
  | 0 => ⟨Int.le_refl 0, Int.le_refl 0⟩
  | n + 1 => by
    have h := isq_rng v n
    show 0 ≤ (if ((n : Int) + 1) * ((n : Int) + 1) ≤ v then (n : Int) + 1 else isq n v) ∧ (if ((n : Int) + 1) * ((n : Int) + 1) ≤ v then (n : Int) + 1 else isq n v) ≤ ((n + 1 : Nat) : Int)
    split <;> omega
theorem drk_rng (a b : Int) : 0 ≤ drk a b ∧ drk a b ≤ 300 := by
  have h := isq_rng (a * a - b * b) 100
  unfold drk
  omega
