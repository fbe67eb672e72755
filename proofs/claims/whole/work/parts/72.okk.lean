section OKK
/-- what holds of the class's numbers -/
def OkK (C : CF) : Prop := (C 0 0 3 ≤ 6 ∧ C 0 0 4 ≤ 4 ∧ C 0 0 5 ≤ 40 ∧ C 0 0 6 ≤ 99 ∧ C 0 0 7 ≤ 99 ∧ C 0 0 8 ≤ 99)
  ∧ (∀ u : Nat, u < C 0 0 3 → C 10 u 0 ≤ 9999 ∧ C 10 u 1 ≤ 9999 ∧ C 10 u 2 ≤ 36000000 ∧ C 10 u 3 ≤ 2 ^ 40)
  ∧ (∀ p : Nat, p < C 0 0 4 → C 9 p 0 < 2 ∧ C 9 p 1 ≤ 1000 ∧ C 9 p 2 ≤ 1000 ∧ C 9 p 3 ≤ 100 ∧ C 9 p 5 ≤ 3)
  ∧ (∀ p t : Nat, p < C 0 0 4 → t < C 9 p 5 → C 12 (3 * p + t) 0 < 65536 ∧ C 12 (3 * p + t) 1 ≤ 500)
  ∧ (∀ k : Nat, k < C 0 0 5 → C 11 k 0 = k ∧ C 11 k 1 < C 0 0 3 ∧ 1 ≤ C 11 k 2 ∧ C 11 k 2 ≤ 100 ∧ C 11 k 3 ≤ 900 ∧ C 11 k 4 < 65536 ∧ C 11 k 5 < 2 ∧ C 11 k 6 < 2 ∧ C 11 k 7 < 2 ∧ C 11 k 8 < 2 ∧ C 11 k 9 ≤ C 11 k 3 ∧ C 11 k 10 < C 11 k 2 ∧ C 11 k 11 ≤ 900 ∧ C 11 k 12 ≤ 900 ∧ C 11 k 13 < 65536)
  ∧ (C 4 0 2 ≤ 40000 ∧ C 4 0 2 ≤ C 7 100 0 ∧ C 7 100 0 ≤ 100000 ∧ (C 7 100 0 = 0 ∨ 10 ≤ C 7 100 0))
  ∧ (∀ e : Nat, e < C 4 0 2 → C 13 e 0 < 40 ∧ C 13 e 1 < 6 ∧ C 13 e 2 < 4 ∧ C 13 e 3 ≤ 900 ∧ C 13 e 4 ≤ 900 ∧ C 13 e 5 ≤ 178200)
  ∧ (C 5 0 3 ≤ 60 ∧ C 5 0 3 ≤ C 8 100 0 ∧ cpO (C 8 100 0) ∧ ∀ j : Nat, j < C 8 100 0 → C 8 0 j < 128)
theorem ix3 (x : Int32) {n : Nat} (hn : n < 2 ^ 30) : (∃ k : Nat, k < n ∧ nI k = x) ∨ (x < 0 ∨ nI n ≤ x) := by
  by_cases h : x < 0
  · exact Or.inr (Or.inl h)
  · by_cases h2 : nI n ≤ x
    · exact Or.inr (Or.inr h2)
    · refine Or.inl ?_
      have e0 : (0 : Int32).toInt = 0 := by decide
      rw [Int32.lt_iff_toInt_lt, e0] at h
      rw [Int32.le_iff_toInt_le, nI_toInt (by omega)] at h2
      refine ⟨x.toInt.toNat, by omega, ?_⟩
      apply Int32.toInt_inj.mp
      rw [nI_toInt (by omega)]
      omega
theorem ix_out {x : Int32} {n : Nat} (hn : n < 2 ^ 30) (h : x < 0 ∨ nI n ≤ x) {m : Nat} (hm : m ≤ n) : ∀ k : Nat, k < m → nI k ≠ x := by
  intro k hk e
  subst e
  have e0 : (0 : Int32).toInt = 0 := by decide
  rcases h with h | h
  · rw [Int32.lt_iff_toInt_lt, e0, nI_toInt (by omega)] at h
    omega
  · rw [Int32.le_iff_toInt_le, nI_toInt (by omega), nI_toInt (by omega)] at h
    omega
theorem ix_dead {k m : Nat} (hk : m ≤ k) (h6 : k < 2 ^ 30) : ∀ j : Nat, j < m → nI j ≠ nI k := fun j hj e => by
  have := nI_inj (by omega) (by omega) e
  omega
end OKK
