section PLP
/-- pages of the copy at hand that are out, behind s sheets -/
def pcN (d g s : Nat) : Nat := if d = 0 then s % csN d g else 2 * (s % csN d g)
theorem cs_g {d g : Nat} (hg : 1 ≤ g) : (d = 0 → csN d g = g) ∧ (d ≠ 0 → csN d g = (g + 1) / 2) := by
  unfold csN
  constructor <;> intro h <;> simp [h]
theorem sh_pon {d g s : Nat} (hg : 1 ≤ g) : shN d g (pcN d g s) = ponN d g s := by
  have hc := csN_pos (d := d) hg
  have h1 := cs_g (d := d) hg
  have hr := Nat.mod_lt s (show 0 < csN d g by omega)
  unfold shN pcN ponN
  by_cases hd : d = 0
  · simp only [hd, if_true]
  · have e := h1.2 hd
    simp only [hd, if_false]
    generalize hm : csN d g = m at *
    generalize hrr : s % m = r at *
    by_cases c : r = m - 1 ∧ g % 2 = 1
    · rw [if_pos c]
      omega
    · rw [if_neg c]
      omega
theorem pc_lt {d g s : Nat} (hg : 1 ≤ g) : pcN d g s < g := by
  have hc := csN_pos (d := d) hg
  have h1 := cs_g (d := d) hg
  have hr := Nat.mod_lt s (show 0 < csN d g by omega)
  unfold pcN
  by_cases hd : d = 0
  · have e := h1.1 hd
    simp only [hd, if_true] at *
    omega
  · have e := h1.2 hd
    simp only [hd, if_false]
    omega
theorem pc_end {d g s : Nat} (hg : 1 ≤ g) : g ≤ pcN d g s + ponN d g s ↔ s % csN d g + 1 = csN d g := by
  have hc := csN_pos (d := d) hg
  have h1 := cs_g (d := d) hg
  have hr := Nat.mod_lt s (show 0 < csN d g by omega)
  unfold pcN ponN
  by_cases hd : d = 0
  · have e := h1.1 hd
    simp only [hd, if_true] at *
    omega
  · have e := h1.2 hd
    simp only [hd, if_false]
    generalize hm : csN d g = m at *
    generalize hrr : s % m = r at *
    by_cases c : r = m - 1 ∧ g % 2 = 1
    · rw [if_pos c]
      omega
    · rw [if_neg c]
      omega
theorem mod_up {s m : Nat} (hm : 1 ≤ m) : (s % m + 1 = m → (s + 1) % m = 0 ∧ (s + 1) / m = s / m + 1) ∧ (s % m + 1 ≠ m → (s + 1) % m = s % m + 1 ∧ (s + 1) / m = s / m) := by
  have h1 := Nat.div_add_mod s m
  have h2 := Nat.mod_lt s (show 0 < m by omega)
  generalize hq : s / m = q at *
  generalize hr : s % m = r at *
  constructor
  · intro h
    have e : s + 1 = m * (q + 1) + 0 := by
      rw [Nat.mul_add, Nat.mul_one]
      omega
    rw [e, Nat.mul_add_mod, Nat.mul_add_div (by omega), Nat.zero_mod, Nat.zero_div]
    exact ⟨rfl, rfl⟩
  · intro h
    have e : s + 1 = m * q + (r + 1) := by omega
    rw [e, Nat.mul_add_mod, Nat.mul_add_div (by omega), Nat.mod_eq_of_lt (by omega), Nat.div_eq_of_lt (by omega)]
    exact ⟨rfl, rfl⟩
theorem pc_next {d g s : Nat} (hg : 1 ≤ g) : pcN d g (s + 1) = if g ≤ pcN d g s + ponN d g s then 0 else pcN d g s + ponN d g s := by
  have hc := csN_pos (d := d) hg
  have he := pc_end (d := d) (s := s) hg
  have hu := mod_up (s := s) hc
  by_cases h : s % csN d g + 1 = csN d g
  · rw [if_pos (he.mpr h)]
    unfold pcN
    rw [(hu.1 h).1]
    split <;> rfl
  · rw [if_neg (fun z => h (he.mp z))]
    have h2 := (hu.2 h).1
    have h1 := cs_g (d := d) hg
    have hr := Nat.mod_lt s (show 0 < csN d g by omega)
    unfold pcN ponN
    rw [h2]
    by_cases hd : d = 0
    · simp only [hd, if_true]
    · simp only [hd, if_false]
      rw [if_neg (by omega)]
      omega
/-- sheets of the copy at hand that came in this release; whether all of it came; copies that came whole -/
def cpS (m s0 j : Nat) : Nat := min j ((s0 + j) % m)
def fsS (m s0 j : Nat) : Nat := if s0 % m = 0 ∨ s0 / m < (s0 + j) / m then 1 else 0
def ktS (m s0 j : Nat) : Nat := if m < 2 then 0 else (s0 + j) / m - (s0 + m - 1) / m
theorem cpS_0 (m s0 : Nat) : cpS m s0 0 = 0 := by
  unfold cpS
  omega
theorem ktS_0 {m s0 : Nat} : ktS m s0 0 = 0 := by
  unfold ktS
  split
  · rfl
  · have h := Nat.div_le_div_right (c := m) (show s0 + 0 ≤ s0 + m - 1 by omega)
    omega
theorem cl_div {m s0 : Nat} (hm : 1 ≤ m) : (s0 + m - 1) / m = if s0 % m = 0 then s0 / m else s0 / m + 1 := by
  have h1 := Nat.div_add_mod s0 m
  have h2 := Nat.mod_lt s0 (show 0 < m by omega)
  generalize hq : s0 / m = q at *
  generalize hr : s0 % m = r at *
  by_cases h : r = 0
  · rw [if_pos h, show s0 + m - 1 = m * q + (m - 1) by omega, Nat.mul_add_div (by omega), Nat.div_eq_of_lt (by omega), Nat.add_zero]
  · rw [if_neg h]
    have e : s0 + m - 1 = m * (q + 1) + (r - 1) := by
      rw [Nat.mul_add, Nat.mul_one]
      omega
    rw [e, Nat.mul_add_div (by omega), Nat.div_eq_of_lt (by omega), Nat.add_zero]
theorem st_end {m s0 j : Nat} (hm : 1 ≤ m) (h : (s0 + j) % m + 1 = m) : cpS m s0 (j + 1) = 0 ∧ fsS m s0 (j + 1) = 1 ∧ ktS m s0 (j + 1) = ktS m s0 j + (if fsS m s0 j = 1 ∧ 2 ≤ cpS m s0 j + 1 then 1 else 0) := by
  have hu := (mod_up (s := s0 + j) hm).1 h
  have hle : s0 / m ≤ (s0 + j) / m := Nat.div_le_div_right (Nat.le_add_right _ _)
  have hcl := cl_div (s0 := s0) hm
  have e1 := Nat.div_add_mod s0 m
  have e2 := Nat.div_add_mod (s0 + j) m
  have b1 := Nat.mod_lt s0 (show 0 < m by omega)
  unfold cpS fsS ktS
  rw [← Nat.add_assoc, hu.1, hu.2, hcl]
  generalize hq0 : s0 / m = a at *
  generalize hr0 : s0 % m = b at *
  generalize hq : (s0 + j) / m = q at *
  generalize hr : (s0 + j) % m = r at *
  refine ⟨by omega, by rw [if_pos (by omega)], ?_⟩
  by_cases hm2 : m < 2
  · rw [if_pos hm2, if_pos hm2, if_neg (by split <;> omega)]
  · rw [if_neg hm2, if_neg hm2]
    rcases Nat.lt_or_ge a q with hlt | hge
    · obtain ⟨d, rfl⟩ : ∃ d, q = a + 1 + d := ⟨q - a - 1, by omega⟩
      have e3 : m * (a + 1 + d) = m * a + m + m * d := by
        rw [Nat.mul_add, Nat.mul_add, Nat.mul_one]
      rw [e3] at e2
      have hj : r ≤ j := by omega
      by_cases hb : b = 0
      · simp only [hb, true_or, if_true, true_and]
        rw [if_pos (by omega)]
        omega
      · rw [if_neg hb, if_pos (Or.inr (by omega)), if_pos ⟨rfl, by omega⟩]
        omega
    · obtain rfl : q = a := by omega
      by_cases hb : b = 0
      · simp only [hb, true_or, if_true, true_and]
        rw [if_pos (by omega)]
        omega
      · simp only [hb, Nat.lt_irrefl, or_self, if_false, Nat.zero_ne_one, false_and]
        omega
theorem st_go {m s0 j : Nat} (hm : 1 ≤ m) (h : (s0 + j) % m + 1 ≠ m) : cpS m s0 (j + 1) = cpS m s0 j + 1 ∧ fsS m s0 (j + 1) = fsS m s0 j ∧ ktS m s0 (j + 1) = ktS m s0 j := by
  have hu := (mod_up (s := s0 + j) hm).2 h
  unfold cpS fsS ktS
  rw [← Nat.add_assoc, hu.1, hu.2]
  exact ⟨by omega, rfl, rfl⟩
theorem ktS_le (m s0 j : Nat) : ktS m s0 j ≤ s0 + j := by
  unfold ktS
  split
  · omega
  · have := Nat.div_le_self (s0 + j) m
    generalize (s0 + j) / m = x at *
    generalize (s0 + m - 1) / m = y
    omega
/-- all pages are out just when all sheets are -/
theorem pto_lt {d g n s : Nat} (hg : 1 ≤ g) (h : s < csN d g * n) : ptoN d g s < n * g := by
  have h1 := pto_step d g s hg
  have h2 := pto_mono d g (s + 1) (csN d g * n - (s + 1)) hg
  rw [show s + 1 + (csN d g * n - (s + 1)) = csN d g * n by omega, pto_all _ _ _ hg] at h2
  have h3 := (ponN_le d g s).1
  omega
theorem pto_pos {d g s : Nat} (hg : 1 ≤ g) (h : 0 < s) : 0 < ptoN d g s := by
  have h1 := pto_step d g (s - 1) hg
  rw [show s - 1 + 1 = s by omega] at h1
  have h3 := (ponN_le d g (s - 1)).1
  omega
end PLP
section SIM
def capF : Nat → Nat
  | 0 => 0
  | n + 1 => capN (capF n) n
theorem capF_ok : ∀ n : Nat, n ≤ capF n ∧ capF n ≤ 2 * n + 10 ∧ (n ≠ 0 → 10 ≤ capF n) ∧ (n = 0 → capF n = 0)
  | 0 => by unfold capF; omega
  | n + 1 => by
    have h := capF_ok n
    unfold capF capN
    by_cases h1 : n = capF n
    · rw [if_pos h1]
      by_cases h2 : capF n = 0
      · rw [if_pos h2]
        omega
      · rw [if_neg h2]
        omega
    · rw [if_neg h1]
      have : n ≠ 0 := fun z => h1 (by rw [h.2.2.2 z]; exact z)
      omega
/-- the costs of a user's entries -/
def csU (C : CF) (u : Nat) : Nat → Nat
  | 0 => 0
  | n + 1 => csU C u n + if C 13 n 1 = u then C 13 n 5 else 0
/-- the class's state C shows the model's state D -/
def Sm (D C : CF) : Prop := (C 0 0 3 = D 60 100 28 ∧ C 0 0 4 = D 60 100 29 ∧ C 0 0 5 = D 60 100 30 ∧ C 0 0 6 = D 60 100 32 ∧ C 0 0 7 = D 60 100 33 ∧ C 0 0 8 = D 60 100 34)
  ∧ (∀ u : Nat, u < D 60 100 28 → C 10 u 0 = D 60 0 (2 * u) ∧ C 10 u 1 = D 60 0 (2 * u + 1) ∧ C 10 u 2 = D 60 1 u ∧ C 10 u 3 = D 60 7 u)
  ∧ (∀ p : Nat, p < D 60 100 29 → C 9 p 0 = D 60 11 p ∧ C 9 p 1 = D 60 4 p ∧ C 9 p 2 = (if D 60 11 p = 0 then 0 else D 60 5 p) ∧ C 9 p 3 = D 60 6 p ∧ C 9 p 5 = D 60 2 p)
  ∧ (∀ p t : Nat, p < D 60 100 29 → t < D 60 2 p → C 12 (3 * p + t) 0 = D 60 8 (3 * p + t) ∧ C 12 (3 * p + t) 1 = D 60 3 (3 * p + t))
  ∧ (∀ k : Nat, k < D 60 100 30 → C 11 k 0 = k ∧ C 11 k 1 = D 60 16 k ∧ C 11 k 2 = D 60 17 k ∧ C 11 k 3 = D 60 17 k * D 60 18 k ∧ C 11 k 4 = D 60 9 k ∧ C 11 k 5 = D 60 12 k ∧ C 11 k 6 = D 60 13 k ∧ C 11 k 7 = D 60 14 k ∧ C 11 k 8 = D 60 15 k ∧ C 11 k 9 = ptoN (D 60 13 k) (D 60 17 k) (D 60 19 k) ∧ C 11 k 10 = pcN (D 60 13 k) (D 60 17 k) (D 60 19 k) ∧ C 11 k 11 = D 60 19 k ∧ C 11 k 12 = D 60 20 k ∧ C 11 k 13 = D 60 10 k)
  ∧ (C 4 0 2 = D 60 100 31 ∧ C 7 100 0 = capF (D 60 100 31))
  ∧ (∀ e : Nat, e < D 60 100 31 → C 13 e 0 = D 60 21 e ∧ C 13 e 1 = D 60 16 (D 60 21 e) ∧ C 13 e 2 = D 60 22 e ∧ C 13 e 3 = D 60 23 e ∧ C 13 e 4 = D 60 24 e ∧ C 13 e 5 ≤ 178200)
  ∧ (∀ u : Nat, u < D 60 100 28 → csU C u (D 60 100 31) = D 60 7 u)
  ∧ (C 5 0 3 = D 61 27 0 ∧ C 5 0 3 ≤ 60 ∧ C 5 0 3 ≤ C 8 100 0 ∧ cpO (C 8 100 0) ∧ (∀ j : Nat, j < C 8 100 0 → C 8 0 j < 128) ∧ ∀ j : Nat, j < C 5 0 3 → C 8 0 j = D 60 27 j)
/-- the sums over the log's first n entries: the pages of a user; of a job -/
def pgU (D : CF) (u : Nat) : Nat → Nat
  | 0 => 0
  | n + 1 => pgU D u n + if D 60 16 (D 60 21 n) = u then D 60 23 n else 0
def pgJ (D : CF) (k : Nat) : Nat → Nat
  | 0 => 0
  | n + 1 => pgJ D k n + if D 60 21 n = k then D 60 23 n else 0
/-- what the log says of users and jobs; what isn't there yet is bare -/
def OkL (D : CF) : Prop := (∀ e : Nat, e < D 60 100 31 → D 60 21 e < D 60 100 30) ∧ (∀ u : Nat, pgU D u (D 60 100 31) = D 60 1 u) ∧ (∀ k : Nat, k < D 60 100 30 → pgJ D k (D 60 100 31) = ptoN (D 60 13 k) (D 60 17 k) (D 60 19 k))
  ∧ (∀ u : Nat, D 60 100 28 ≤ u → D 60 7 u = 0) ∧ (∀ k : Nat, D 60 100 30 ≤ k → D 60 19 k = 0 ∧ D 60 20 k = 0 ∧ D 60 14 k = 0 ∧ D 60 15 k = 0) ∧ (∀ p : Nat, D 60 100 29 ≤ p → D 60 2 p = 0) ∧ (∀ u : Nat, D 60 7 u ≤ 178200 * D 60 100 31)
theorem Sm.okk {D C : CF} (hS : Sm D C) (hM : OkM D) (hL : OkL D) : OkK C := by
  obtain ⟨⟨c3, c4, c5, c6, c7, c8⟩, sU, sP, sT, sJ, ⟨sl, sc⟩, sE, sC, sB⟩ := hS
  obtain ⟨hO, hG, hX⟩ := hM
  obtain ⟨oU, oP, oJ, oTc, oY, o8, o9, o10, o11, o12, o13, o14, o15, oX, oQ, oB, oK, oS, oJk, oM, oCo, oSh, oLg, oPo, oLl, oL2, oL3, oL4, oLle, oE1, oE2, oE3, oE4⟩ := id hO
  have hcf := capF_ok (D 60 100 31)
  refine ⟨⟨by omega, by omega, by omega, by omega, by omega, by omega⟩, fun u hu => ?_, fun p hp => ?_, fun p t hp ht => ?_, fun k hk => ?_, ⟨by omega, by omega, by omega, ?_⟩, fun e he => ?_, ⟨sB.2.1, sB.2.2.1, sB.2.2.2.1, sB.2.2.2.2.1⟩⟩
  · rw [c3] at hu
    obtain ⟨q0, q1, q2, q3⟩ := sU u hu
    have h7 := hL.2.2.2.2.2.2 u
    have h1 := oPo u
    exact ⟨by rw [q0]; exact oQ _, by rw [q1]; exact oQ _, by rw [q2]; exact h1, by rw [q3]; omega⟩
  · rw [c4] at hp
    obtain ⟨q0, q1, q2, q3, q5⟩ := sP p hp
    have h5 := oK p
    exact ⟨by rw [q0]; exact o11 p, by rw [q1]; exact oB p, by rw [q2]; split <;> omega, by rw [q3]; exact oS p, by rw [q5]; exact oTc p⟩
  · rw [c4] at hp
    rw [(sP p hp).2.2.2.2] at ht
    obtain ⟨q0, q1⟩ := sT p t hp ht
    exact ⟨by rw [q0]; exact o8 _, by rw [q1]; exact oY _⟩
  · rw [c5] at hk
    obtain ⟨q0, q1, q2, q3, q4, q5, q6, q7, q8, q9, q10, q11, q12, q13⟩ := sJ k hk
    obtain ⟨b1, b2, b3, b4, b5, b6, b7⟩ := oJk k hk
    obtain ⟨-, -, -, -, -, -, -, d8, -, d10, -⟩ := hO.jk hk
    have h19 : D 60 19 k ≤ 900 := by
      have e1 := csN_le (d := D 60 13 k) b2
      have e2 : csN (D 60 13 k) (D 60 17 k) * D 60 18 k ≤ 100 * 9 := Nat.mul_le_mul (by omega) b5
      omega
    exact ⟨q0, by rw [q1, c3]; exact b1, by rw [q2]; exact b2, by rw [q2]; exact b3, by rw [q3]; exact d10, by rw [q4]; exact o9 k, by rw [q5]; exact o12 k, by rw [q6]; exact o13 k, by rw [q7]; exact o14 k, by rw [q8]; exact o15 k, by rw [q9, q3]; exact d8, by rw [q10, q2]; exact pc_lt b2, by rw [q11]; exact h19, by rw [q12]; exact b7, by rw [q13]; exact o10 k⟩
  · rcases Nat.eq_zero_or_pos (D 60 100 31) with h | h
    · left
      rw [sc]
      exact hcf.2.2.2 h
    · right
      rw [sc]
      exact hcf.2.2.1 (by omega)
  · rw [sl] at he
    obtain ⟨q0, q1, q2, q3, q4, q5⟩ := sE e he
    have hj := hL.1 e he
    have hu := (oJk _ hj).1
    exact ⟨by rw [q0]; exact oE1 e, by rw [q1]; omega, by rw [q2]; exact oE2 e, by rw [q3]; exact oE3 e, by rw [q4]; exact oE4 e, q5⟩
end SIM
