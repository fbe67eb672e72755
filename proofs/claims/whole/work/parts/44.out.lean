section OUTP
/-- the pages of the log's first j entries; of coloured jobs alone where b isn't 0 -/
def ouN (C : CF) (b : Nat) : Nat → Nat
  | 0 => 0
  | j + 1 => ouN C b j + if b = 0 ∨ C 60 12 (C 60 21 j) ≠ 0 then C 60 23 j else 0
theorem ouN_y {C : CF} {b j : Nat} (h : b = 0 ∨ C 60 12 (C 60 21 j) ≠ 0) : ouN C b (j + 1) = ouN C b j + C 60 23 j := by
  unfold ouN
  rw [if_pos h]
  cases j <;> rfl
theorem ouN_n {C : CF} {b j : Nat} (h : ¬ b = 0) (h2 : C 60 12 (C 60 21 j) = 0) : ouN C b (j + 1) = ouN C b j := by
  show ouN C b j + (if b = 0 ∨ C 60 12 (C 60 21 j) ≠ 0 then C 60 23 j else 0) = _
  rw [if_neg (by omega)]
  rfl
theorem ouN_le {C : CF} {b : Nat} (h : ∀ e : Nat, C 60 23 e ≤ 900) : ∀ j : Nat, ouN C b j ≤ 900 * j
  | 0 => Nat.le_refl _
  | j + 1 => by
    have h1 := ouN_le (b := b) h j
    have h2 := h j
    unfold ouN
    split <;> omega
end OUTP
