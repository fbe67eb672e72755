section BIND
/-- how many copies a release staples: ts to be stapled, m sheets of a copy, the sheets from f to e, st staples -/
def bndN (ts m f e st : Nat) : Nat := if ts = 0 ∨ m < 2 then 0 else min st (e / m - (f + m - 1) / m)
theorem bnd_le {m f e i : Nat} (hm : 2 ≤ m) (h : i = 0 ∨ (f + m - 1) / m + i ≤ e / m) : ((f + m - 1) / m + i + 1) * m ≤ f + e + 3 * m := by
  have h1 := Nat.div_mul_le_self (f + m - 1) m
  have h2 := Nat.div_mul_le_self e m
  generalize (f + m - 1) / m = q at *
  generalize e / m = r at *
  rw [Nat.add_mul, Nat.add_mul, Nat.one_mul]
  rcases h with rfl | h
  · rw [Nat.zero_mul]
    omega
  · have h3 := Nat.mul_le_mul_right m h
    rw [Nat.add_mul] at h3
    omega
theorem bnd_go {m f e i : Nat} (hm : 2 ≤ m) : ((f + m - 1) / m + i + 1) * m ≤ e ↔ (f + m - 1) / m + i + 1 ≤ e / m := (Nat.le_div_iff_mul_le (by omega)).symm
theorem bnd_x1 {ts m f e i st : Nat} (ht : ts ≠ 0) (hm : 2 ≤ m) (h : i = 0 ∨ (f + m - 1) / m + i ≤ e / m) (hi : i ≤ st) (hx : e < ((f + m - 1) / m + i + 1) * m) : bndN ts m f e st = i := by
  have hx2 : ¬ (f + m - 1) / m + i + 1 ≤ e / m := fun z => absurd (bnd_go hm |>.mpr z) (by omega)
  unfold bndN
  rw [if_neg (by omega)]
  omega
theorem bnd_x2 {ts m f e i st : Nat} (ht : ts ≠ 0) (hm : 2 ≤ m) (hi : i ≤ st) (h0 : st - i = 0) (hx : ¬ e < ((f + m - 1) / m + i + 1) * m) : bndN ts m f e st = i := by
  have hx2 := (bnd_go hm).mp (show ((f + m - 1) / m + i + 1) * m ≤ e by omega)
  unfold bndN
  rw [if_neg (by omega)]
  omega
theorem bnd_x0 {ts m f e st : Nat} (h : ts = 0 ∨ m < 2) : bndN ts m f e st = 0 := if_pos h
theorem bnd_st (C : CF) (k p a b c d : Nat) : up3 (up3 C 60 6 p c) 60 20 k d = up3 (up3 (up3 (up3 C 60 6 p a) 60 20 k b) 60 6 p c) 60 20 k d := by
  funext i j f
  simp only [up3]
  repeat' split
  all_goals first | rfl | omega
theorem bnd_s0 (C : CF) (k p : Nat) : up3 (up3 C 60 6 p (C 60 6 p - 0)) 60 20 k (C 60 20 k + 0) = C := by
  funext i j f
  simp only [up3]
  repeat' split
  all_goals first | rfl | (rename_i z; obtain ⟨rfl, rfl, rfl⟩ := z; rfl)
end BIND
