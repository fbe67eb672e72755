section PURE
theorem ix_of {x : Int32} {n : Nat} (hn : n < 2 ^ 30) (h1 : nI 0 ≤ x) (h2 : x ≤ nI n - nI 1) : ∃ k : Nat, k < n ∧ nI k = x := by
  have e0 : (nI 0).toInt = 0 := nI_toInt (by decide)
  have e1 := pk_sub_toInt (a := n) (b := 1) hn (by decide)
  rw [Int32.le_iff_toInt_le] at h1 h2
  rw [e0] at h1
  rw [e1] at h2
  refine ⟨x.toInt.toNat, by omega, ?_⟩
  apply Int32.toInt_inj.mp
  rw [nI_toInt (by omega)]
  omega
theorem ix_no {x : Int32} {n : Nat} (hn : n < 2 ^ 30) (h : ¬ (nI 0 ≤ x ∧ x ≤ nI n - nI 1)) : ∀ k : Nat, k < n → nI k ≠ x := by
  intro k hk e
  subst e
  have e0 : (nI 0).toInt = 0 := nI_toInt (by decide)
  have e1 := pk_sub_toInt (a := n) (b := 1) hn (by decide)
  have e2 : (nI k).toInt = k := nI_toInt (by omega)
  refine h ⟨?_, ?_⟩
  · rw [Int32.le_iff_toInt_le, e0, e2]
    omega
  · rw [Int32.le_iff_toInt_le, e1, e2]
    omega
theorem nI_inj {a b : Nat} (ha : a < 2 ^ 31) (hb : b < 2 ^ 31) (h : nI a = nI b) : a = b := (nI_eq ha hb).mp h
/-- a number within: as a number -/
theorem rg_of {x : Int32} {a b : Nat} (hb : b < 2 ^ 31) (h1 : nI a ≤ x) (h2 : x ≤ nI b) (ha : a < 2 ^ 31) : ∃ k : Nat, a ≤ k ∧ k ≤ b ∧ nI k = x := by
  rw [Int32.le_iff_toInt_le, nI_toInt ha] at h1
  rw [Int32.le_iff_toInt_le, nI_toInt hb] at h2
  refine ⟨x.toInt.toNat, by omega, by omega, ?_⟩
  apply Int32.toInt_inj.mp
  rw [nI_toInt (by omega)]
  omega
theorem rg_no {x : Int32} {a b : Nat} (ha : a < 2 ^ 31) (hb : b < 2 ^ 31) (h : ¬ (nI a ≤ x ∧ x ≤ nI b)) : ∀ k : Nat, a ≤ k → k ≤ b → nI k ≠ x := by
  intro k h1 h2 e
  subst e
  exact h ⟨(nI_leI ha (by omega)).mpr h1, (nI_leI (by omega) hb).mpr h2⟩
theorem g_dec {n : Nat} (h : 0 < n) : nI n + Int32.ofInt (-1) = nI (n - 1) := by
  have e := pk_m1 (n - 1)
  rw [show n - 1 + 1 = n by omega] at e
  exact e
theorem lrow_up (g : Nat → Nat) (j x : Nat) : (fun k => lN (upN g j x k)) = upN (fun k => lN (g k)) j (lN x) := by
  funext k
  by_cases h : k = j
  · subst h; simp [upN]
  · simp [upN, h]
end PURE
section PURE2
theorem i_le {x a : Int32} (h : ¬ x < a) : a ≤ x := by
  rw [Int32.lt_iff_toInt_lt] at h
  rw [Int32.le_iff_toInt_le]
  omega
theorem i_nle {x a : Int32} (h : x < a) : ¬ a ≤ x := by
  rw [Int32.lt_iff_toInt_lt] at h
  rw [Int32.le_iff_toInt_le]
  omega
/-- a paper's letter -/
abbrev isPap (q : Nat) : Prop := q = 97 ∨ q = 98 ∨ q = 108
end PURE2
section PURE3
/-- the reference's words for a job: d duplex, g pages of a copy -/
def csN (d g : Nat) : Nat := if d = 0 then g else (g + 1) / 2
def ponN (d g s : Nat) : Nat := if d = 0 then 1 else if s % csN d g = csN d g - 1 ∧ g % 2 = 1 then 1 else 2
def ptoN (d g s : Nat) : Nat := s / csN d g * g + (if d = 0 then s % csN d g else 2 * (s % csN d g))
def tfN (nt q w0 w1 w2 x0 x1 x2 : Nat) : Nat := if 0 < nt ∧ w0 = q ∧ 0 < x0 then 2 else if 1 < nt ∧ w1 = q ∧ 0 < x1 then 3 else if 2 < nt ∧ w2 = q ∧ 0 < x2 then 4 else if (0 < nt ∧ w0 = q) ∨ (1 < nt ∧ w1 = q) ∨ (2 < nt ∧ w2 = q) then 1 else 0
abbrev tfC (C : Nat → Nat → Nat → Nat) (k p : Nat) : Nat := tfN (C 60 2 p) (C 60 9 k) (C 60 8 (3 * p + 0)) (C 60 8 (3 * p + 1)) (C 60 8 (3 * p + 2)) (C 60 25 0) (C 60 25 1) (C 60 25 2)
def rsC (C : Nat → Nat → Nat → Nat) (k p s : Nat) : Nat :=
  if s = csN (C 60 13 k) (C 60 17 k) * C 60 18 k then 100 else if C 60 15 k ≠ 0 then 120 else if C 60 12 k ≠ 0 ∧ C 60 11 p = 0 then 110
  else if tfC C k p = 0 then 107 else if tfC C k p = 1 then 112
  else if C 60 100 35 < (if C 60 12 k = 0 then 2 * ponN (C 60 13 k) (C 60 17 k) s else ponN (C 60 13 k) (C 60 17 k) s) then 116
  else if C 60 12 k ≠ 0 ∧ C 60 100 36 < 3 * ponN (C 60 13 k) (C 60 17 k) s then 99
  else if C 60 100 37 < ponN (C 60 13 k) (C 60 17 k) s then 113 else 45
theorem csN_pos {d g : Nat} (h : 1 ≤ g) : 1 ≤ csN d g := by
  unfold csN
  split <;> omega
theorem csN_le {d g : Nat} (h : 1 ≤ g) : csN d g ≤ g := by
  unfold csN
  split <;> omega
theorem ponN_le (d g s : Nat) : 1 ≤ ponN d g s ∧ ponN d g s ≤ 2 := by
  unfold ponN
  split
  · omega
  · split <;> omega
theorem rs_facts {C : Nat → Nat → Nat → Nat} {k p s : Nat} (h : rsC C k p s = 45) : s ≠ csN (C 60 13 k) (C 60 17 k) * C 60 18 k ∧ C 60 15 k = 0 ∧ (C 60 12 k ≠ 0 → C 60 11 p ≠ 0) ∧ tfC C k p ≠ 0 ∧ tfC C k p ≠ 1 ∧ (C 60 12 k = 0 → 2 * ponN (C 60 13 k) (C 60 17 k) s ≤ C 60 100 35) ∧ (C 60 12 k ≠ 0 → ponN (C 60 13 k) (C 60 17 k) s ≤ C 60 100 35) ∧ (C 60 12 k ≠ 0 → 3 * ponN (C 60 13 k) (C 60 17 k) s ≤ C 60 100 36) ∧ ponN (C 60 13 k) (C 60 17 k) s ≤ C 60 100 37 := by
  by_cases hc : C 60 12 k = 0
  · simp only [rsC, hc, if_true, ne_eq, not_true, false_and, if_false] at h
    repeat' split at h
    all_goals first | omega | (refine ⟨?_, ?_, ?_, ?_, ?_, ?_, ?_, ?_, ?_⟩ <;> first | assumption | omega | (intro z; omega))
  · simp only [rsC, hc, if_false, ne_eq, not_false_eq_true, true_and] at h
    repeat' split at h
    all_goals first | omega | (refine ⟨?_, ?_, ?_, ?_, ?_, ?_, ?_, ?_, ?_⟩ <;> first | assumption | omega | (intro z; omega))
end PURE3
section PURE4
abbrev S6 (C : CF) (x0 x1 x2 b c q : Nat) : CF := up3 (up3 (up3 (up3 (up3 (up3 C 60 25 0 x0) 60 25 1 x1) 60 25 2 x2) 60 100 35 b) 60 100 36 c) 60 100 37 q
theorem S6_0 (C : CF) (x0 x1 x2 b c q y : Nat) : up3 (S6 C x0 x1 x2 b c q) 60 25 0 y = S6 C y x1 x2 b c q := by
  funext i j f
  simp only [S6, up3]
  repeat' split
  all_goals first | rfl | omega
theorem S6_1 (C : CF) (x0 x1 x2 b c q y : Nat) : up3 (S6 C x0 x1 x2 b c q) 60 25 1 y = S6 C x0 y x2 b c q := by
  funext i j f
  simp only [S6, up3]
  repeat' split
  all_goals first | rfl | omega
theorem S6_2 (C : CF) (x0 x1 x2 b c q y : Nat) : up3 (S6 C x0 x1 x2 b c q) 60 25 2 y = S6 C x0 x1 y b c q := by
  funext i j f
  simp only [S6, up3]
  repeat' split
  all_goals first | rfl | omega
theorem S6_b (C : CF) (x0 x1 x2 b c q y : Nat) : up3 (S6 C x0 x1 x2 b c q) 60 100 35 y = S6 C x0 x1 x2 y c q := by
  funext i j f
  simp only [S6, up3]
  repeat' split
  all_goals first | rfl | omega
theorem S6_c (C : CF) (x0 x1 x2 b c q y : Nat) : up3 (S6 C x0 x1 x2 b c q) 60 100 36 y = S6 C x0 x1 x2 b y q := by
  funext i j f
  simp only [S6, up3]
  repeat' split
  all_goals first | rfl | omega
theorem S6_q (C : CF) (x0 x1 x2 b c q y : Nat) : up3 (S6 C x0 x1 x2 b c q) 60 100 37 y = S6 C x0 x1 x2 b c y := by
  funext i j f
  simp only [S6, up3]
  repeat' split
  all_goals first | rfl | omega
end PURE4
section PURE5
theorem al_lt {d g n : Nat} (h : 1 ≤ g) (h2 : g ≤ 100) (hn : n ≤ 9) : csN d g * n < 2 ^ 31 := by
  have e := csN_le (d := d) h
  have e2 : csN d g * n ≤ 100 * 9 := Nat.mul_le_mul (by omega) hn
  omega
theorem tf_pos {C : Nat → Nat → Nat → Nat} {k p t : Nat} (h : tfC C k p = t + 2) : 0 < C 60 25 t := by
  unfold tfC tfN at h
  split at h
  · obtain rfl : t = 0 := by omega
    omega
  · split at h
    · obtain rfl : t = 1 := by omega
      omega
    · split at h
      · obtain rfl : t = 2 := by omega
        omega
      · split at h <;> omega
end PURE5
