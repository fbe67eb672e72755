section DIG
/-- a number's digits from st on -/
def digN (st v : Nat) (g : Nat → Nat) : Nat → Nat := fun j => if st ≤ j ∧ j < st + sb_dg v then sb_dec v (j - st) else g j
theorem dg_1 {v : Nat} (h : v < 10) : sb_dg v = 1 := by
  unfold sb_dg
  rw [if_pos h]
theorem dg_2 {v : Nat} (h : ¬ v < 10) (h2 : v < 100) : sb_dg v = 2 := by
  unfold sb_dg
  rw [if_neg h, if_pos h2]
theorem dg_3 {v : Nat} (h : ¬ v < 100) (h2 : v < 1000) : sb_dg v = 3 := by
  unfold sb_dg
  rw [if_neg (by omega), if_neg h, if_pos h2]
theorem dig1 {v ix : Nat} {g : Nat → Nat} (h : v < 10) (hx : 1 ≤ ix) : upN g (ix - 1) (48 + v % 10) = digN (ix - sb_dg v) v g := by
  funext j
  unfold upN digN sb_dec
  rw [dg_1 h]
  by_cases e : j = ix - 1
  · subst e
    rw [if_pos rfl, if_pos (by omega), show 1 - 1 - (ix - 1 - (ix - 1)) = 0 by omega, Nat.pow_zero, Nat.div_one]
  · rw [if_neg e, if_neg (by omega)]
theorem dig2 {v ix : Nat} {g : Nat → Nat} (h : ¬ v < 10) (h2 : v < 100) (hx : 2 ≤ ix) : upN (upN g (ix - 1) (48 + v % 10)) (ix - 1 - 1) (48 + v / 10) = digN (ix - sb_dg v) v g := by
  funext j
  unfold upN digN sb_dec
  rw [dg_2 h h2]
  by_cases e : j = ix - 1 - 1
  · subst e
    rw [if_pos rfl, if_pos (by omega), show 2 - 1 - (ix - 1 - 1 - (ix - 2)) = 1 by omega, Nat.pow_one, show v / 10 % 10 = v / 10 by omega]
  · rw [if_neg e]
    by_cases e2 : j = ix - 1
    · subst e2
      rw [if_pos rfl, if_pos (by omega), show 2 - 1 - (ix - 1 - (ix - 2)) = 0 by omega, Nat.pow_zero, Nat.div_one]
    · rw [if_neg e2, if_neg (by omega)]
theorem dig3 {v ix : Nat} {g : Nat → Nat} (h : ¬ v < 100) (h2 : v < 1000) (hx : 3 ≤ ix) : upN (upN (upN g (ix - 1) (48 + v % 100 % 10)) (ix - 1 - 1) (48 + v % 100 / 10)) (ix - 1 - 1 - 1) (48 + v / 100 % 10) = digN (ix - sb_dg v) v g := by
  funext j
  unfold upN digN sb_dec
  rw [dg_3 h h2]
  by_cases e : j = ix - 1 - 1 - 1
  · subst e
    rw [if_pos rfl, if_pos (by omega), show 3 - 1 - (ix - 1 - 1 - 1 - (ix - 3)) = 2 by omega]
  · rw [if_neg e]
    by_cases e2 : j = ix - 1 - 1
    · subst e2
      rw [if_pos rfl, if_pos (by omega), show 3 - 1 - (ix - 1 - 1 - (ix - 3)) = 1 by omega, Nat.pow_one]
      omega
    · rw [if_neg e2]
      by_cases e3 : j = ix - 1
      · subst e3
        rw [if_pos rfl, if_pos (by omega), show 3 - 1 - (ix - 1 - (ix - 3)) = 0 by omega, Nat.pow_zero, Nat.div_one]
        omega
      · rw [if_neg e3, if_neg (by omega)]
end DIG
