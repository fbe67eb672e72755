section SUMS
theorem pgU_1 {D : CF} {u n : Nat} (h : D 60 16 (D 60 21 n) = u) : pgU D u (n + 1) = pgU D u n + D 60 23 n := by
  show pgU D u n + (if D 60 16 (D 60 21 n) = u then D 60 23 n else 0) = _
  rw [if_pos h]
theorem pgU_0 {D : CF} {u n : Nat} (h : ¬ D 60 16 (D 60 21 n) = u) : pgU D u (n + 1) = pgU D u n + 0 := by
  show pgU D u n + (if D 60 16 (D 60 21 n) = u then D 60 23 n else 0) = _
  rw [if_neg h]
theorem pgJ_1 {D : CF} {k n : Nat} (h : D 60 21 n = k) : pgJ D k (n + 1) = pgJ D k n + D 60 23 n := by
  show pgJ D k n + (if D 60 21 n = k then D 60 23 n else 0) = _
  rw [if_pos h]
theorem pgJ_0 {D : CF} {k n : Nat} (h : ¬ D 60 21 n = k) : pgJ D k (n + 1) = pgJ D k n + 0 := by
  show pgJ D k n + (if D 60 21 n = k then D 60 23 n else 0) = _
  rw [if_neg h]
theorem csU_1 {C : CF} {u n : Nat} (h : C 13 n 1 = u) : csU C u (n + 1) = csU C u n + C 13 n 5 := by
  show csU C u n + (if C 13 n 1 = u then C 13 n 5 else 0) = _
  rw [if_pos h]
theorem csU_0 {C : CF} {u n : Nat} (h : ¬ C 13 n 1 = u) : csU C u (n + 1) = csU C u n + 0 := by
  show csU C u n + (if C 13 n 1 = u then C 13 n 5 else 0) = _
  rw [if_neg h]
theorem pgU_le {D : CF} {u : Nat} (h : ∀ e : Nat, D 60 23 e ≤ 900) : ∀ n : Nat, pgU D u n ≤ 900 * n
  | 0 => Nat.le_refl _
  | n + 1 => by
    have h1 := pgU_le (u := u) h n
    have h2 := h n
    unfold pgU
    split <;> omega
theorem pgJ_le {D : CF} {u : Nat} (h : ∀ e : Nat, D 60 23 e ≤ 900) : ∀ n : Nat, pgJ D u n ≤ 900 * n
  | 0 => Nat.le_refl _
  | n + 1 => by
    have h1 := pgJ_le (u := u) h n
    have h2 := h n
    unfold pgJ
    split <;> omega
theorem csU_le {D C : CF} (hS : Sm D C) {u : Nat} : ∀ n : Nat, n ≤ D 60 100 31 → csU C u n ≤ 178200 * n
  | 0, _ => Nat.le_refl _
  | n + 1, hn => by
    have h1 := csU_le hS (u := u) n (by omega)
    have h2 := (hS.2.2.2.2.2.2.1 n (by omega)).2.2.2.2.2
    unfold csU
    split <;> omega
/-- the pages of the first m jobs that are out; of coloured jobs alone where b isn't 0 -/
def jsN (D : CF) (b : Nat) : Nat → Nat
  | 0 => 0
  | m + 1 => jsN D b m + if b = 0 ∨ D 60 12 m ≠ 0 then ptoN (D 60 13 m) (D 60 17 m) (D 60 19 m) else 0
theorem jsN_1 {D : CF} {b m : Nat} (h : b = 0 ∨ D 60 12 m ≠ 0) : jsN D b (m + 1) = jsN D b m + ptoN (D 60 13 m) (D 60 17 m) (D 60 19 m) := by
  show jsN D b m + (if b = 0 ∨ D 60 12 m ≠ 0 then _ else 0) = _
  rw [if_pos h]
theorem jsN_0 {D : CF} {b m : Nat} (h : ¬ (b = 0 ∨ D 60 12 m ≠ 0)) : jsN D b (m + 1) = jsN D b m + 0 := by
  show jsN D b m + (if b = 0 ∨ D 60 12 m ≠ 0 then _ else 0) = _
  rw [if_neg h]
/-- by the log's first n entries -/
def jsL (D : CF) (b n : Nat) : Nat → Nat
  | 0 => 0
  | m + 1 => jsL D b n m + if b = 0 ∨ D 60 12 m ≠ 0 then pgJ D m n else 0
theorem jsL_0 (D : CF) (b : Nat) : ∀ m : Nat, jsL D b 0 m = 0
  | 0 => rfl
  | m + 1 => by
    show jsL D b 0 m + (if b = 0 ∨ D 60 12 m ≠ 0 then 0 else 0) = 0
    rw [jsL_0 D b m]
    split <;> rfl
theorem jsL_s (D : CF) (b n : Nat) : ∀ m : Nat, jsL D b (n + 1) m = jsL D b n m + if D 60 21 n < m ∧ (b = 0 ∨ D 60 12 (D 60 21 n) ≠ 0) then D 60 23 n else 0
  | 0 => by
    rw [if_neg (fun z => absurd z.1 (Nat.not_lt_zero _))]
    rfl
  | m + 1 => by
    have e := jsL_s D b n m
    show jsL D b (n + 1) m + (if b = 0 ∨ D 60 12 m ≠ 0 then pgJ D m n + (if D 60 21 n = m then D 60 23 n else 0) else 0) = jsL D b n m + (if b = 0 ∨ D 60 12 m ≠ 0 then pgJ D m n else 0) + _
    rw [e]
    by_cases hb : b = 0 ∨ D 60 12 m ≠ 0
    · rw [if_pos hb, if_pos hb]
      by_cases h1 : D 60 21 n = m
      · rw [if_pos h1, if_neg (fun z => absurd z.1 (by omega)), if_pos ⟨by omega, by rw [h1]; exact hb⟩]
        omega
      · rw [if_neg h1]
        by_cases h2 : D 60 21 n < m ∧ (b = 0 ∨ D 60 12 (D 60 21 n) ≠ 0)
        · rw [if_pos h2, if_pos ⟨by omega, h2.2⟩]
          omega
        · rw [if_neg h2, if_neg (fun z => h2 ⟨by omega, z.2⟩)]
          omega
    · rw [if_neg hb, if_neg hb]
      by_cases h2 : D 60 21 n < m ∧ (b = 0 ∨ D 60 12 (D 60 21 n) ≠ 0)
      · rw [if_pos h2, if_pos ⟨by omega, h2.2⟩]
        omega
      · rw [if_neg h2, if_neg (fun z => ?_)]
        rcases Nat.lt_or_ge (D 60 21 n) m with y | y
        · exact h2 ⟨y, z.2⟩
        · have y2 : D 60 21 n = m := by omega
          exact hb (by rw [← y2]; exact z.2)
theorem jsL_ou {D : CF} {b m : Nat} : ∀ n : Nat, (∀ e : Nat, e < n → D 60 21 e < m) → jsL D b n m = ouN D b n
  | 0, _ => jsL_0 D b m
  | n + 1, h => by
    rw [jsL_s, jsL_ou n (fun e he => h e (by omega))]
    show _ = ouN D b n + (if b = 0 ∨ D 60 12 (D 60 21 n) ≠ 0 then D 60 23 n else 0)
    have h1 := h n (Nat.lt_succ_self n)
    by_cases hb : b = 0 ∨ D 60 12 (D 60 21 n) ≠ 0
    · rw [if_pos hb, if_pos ⟨h1, hb⟩]
    · rw [if_neg hb, if_neg (fun z => hb z.2)]
theorem js_ou {D : CF} (hL : OkL D) (b : Nat) : jsN D b (D 60 100 30) = ouN D b (D 60 100 31) := by
  have key : ∀ m : Nat, m ≤ D 60 100 30 → jsN D b m = jsL D b (D 60 100 31) m := by
    intro m
    induction m with
    | zero => intro _; rfl
    | succ m ih =>
      intro hm
      show jsN D b m + (if b = 0 ∨ D 60 12 m ≠ 0 then ptoN (D 60 13 m) (D 60 17 m) (D 60 19 m) else 0) = jsL D b (D 60 100 31) m + (if b = 0 ∨ D 60 12 m ≠ 0 then pgJ D m (D 60 100 31) else 0)
      rw [ih (by omega), hL.2.2.1 m (by omega)]
  rw [key _ (Nat.le_refl _), jsL_ou _ hL.1]
theorem ou_0 (D : CF) (n : Nat) : ouN D 0 (n + 1) = ouN D 0 n + D 60 23 n := ouN_y (Or.inl rfl)
end SUMS
