section QD
theorem qdR_0 {C : CF} {k p : Nat} (h : rkR C k p ≤ 0) : qdR C p (k + 1) = qdR C p k + 0 := by
  show qdR C p k + (if 0 < rkR C k p then 1 else 0) = _
  rw [if_neg (by omega)]
theorem qdR_1 {C : CF} {k p : Nat} (h : ¬ rkR C k p ≤ 0) : qdR C p (k + 1) = qdR C p k + 1 := by
  show qdR C p k + (if 0 < rkR C k p then 1 else 0) = _
  rw [if_pos (by omega)]
theorem q2R_1 {C : CF} {k p r : Nat} (h : rkR C k p = r) : q2R C p r (k + 1) = q2R C p r k + 1 := by
  show q2R C p r k + (if rkR C k p = r then 1 else 0) = _
  rw [if_pos h]
theorem q2R_0 {C : CF} {k p r : Nat} (h : ¬ rkR C k p = r) : q2R C p r (k + 1) = q2R C p r k := by
  show q2R C p r k + (if rkR C k p = r then 1 else 0) = _
  rw [if_neg h]
  rfl
theorem q12 (C : CF) (p : Nat) : ∀ n, q2R C p 2 n + q2R C p 1 n = qdR C p n
  | 0 => rfl
  | n + 1 => by
    have e := q12 C p n
    have e2 := rkR_le C n p
    show q2R C p 2 n + (if rkR C n p = 2 then 1 else 0) + (q2R C p 1 n + (if rkR C n p = 1 then 1 else 0)) = qdR C p n + (if 0 < rkR C n p then 1 else 0)
    by_cases h2 : rkR C n p = 2
    · rw [if_pos h2, if_neg (by omega), if_pos (by omega)]
      omega
    · by_cases h1 : rkR C n p = 1
      · rw [if_neg h2, if_pos h1, if_pos (by omega)]
        omega
      · rw [if_neg h2, if_neg h1, if_neg (by omega)]
        omega
theorem bsR_k {C : CF} {k j : Nat} (h : pgR C k j ≤ (bsR C k j).2) : bsR C k (j + 1) = bsR C k j := by
  show (if pgR C k j ≤ (bsR C k j).2 then bsR C k j else (j + 1, pgR C k j)) = _
  rw [if_pos h]
theorem bsR_n {C : CF} {k j : Nat} (h : ¬ pgR C k j ≤ (bsR C k j).2) : bsR C k (j + 1) = (j + 1, pgR C k j) := by
  show (if pgR C k j ≤ (bsR C k j).2 then bsR C k j else (j + 1, pgR C k j)) = _
  rw [if_neg h]
theorem bsR_2 {C : CF} {k : Nat} (h : ∀ p, p < 4 → pgR C k p ≤ 900) : ∀ j, j ≤ 4 → (bsR C k j).2 ≤ 900
  | 0, _ => by simp [bsR]
  | j + 1, hj => by
    have e := bsR_2 h j (by omega)
    have e2 := h j (by omega)
    by_cases c : pgR C k j ≤ (bsR C k j).2
    · rw [bsR_k c]
      exact e
    · rw [bsR_n c]
      exact e2
theorem bsR_b {C : CF} {k : Nat} (hO : OkR C) (hk : k < C 60 100 30) : ∀ j, j ≤ C 60 100 29 → (bsR C k j).2 ≤ 900
  | 0, _ => by simp [bsR]
  | j + 1, hj => by
    have e := bsR_b hO hk j (by omega)
    have e2 := pgR_le (hO.rk hk (show j < C 60 100 29 by omega))
    by_cases c : pgR C k j ≤ (bsR C k j).2
    · rw [bsR_k c]
      exact e
    · rw [bsR_n c]
      exact e2
end QD
