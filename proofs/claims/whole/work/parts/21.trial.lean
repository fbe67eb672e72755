section TRIAL
theorem pto_step (d g s : Nat) (hg : 1 ≤ g) : ptoN d g (s + 1) = ptoN d g s + ponN d g s := by
  have hc := csN_pos (d := d) hg
  generalize hcs : csN d g = m at hc
  have hm := Nat.div_add_mod s m
  have hr := Nat.mod_lt s (show 0 < m by omega)
  generalize hq : s / m = q at hm
  generalize hrr : s % m = r at hm hr
  unfold ptoN ponN
  rw [hcs, hq, hrr]
  by_cases h1 : r + 1 < m
  · have e : s + 1 = m * q + (r + 1) := by omega
    rw [e, Nat.mul_add_div (by omega), Nat.mul_add_mod, Nat.div_eq_of_lt h1, Nat.mod_eq_of_lt h1, Nat.add_zero]
    by_cases hd : d = 0
    · simp only [hd, if_true]
      omega
    · have h2 : ¬ (r = m - 1 ∧ g % 2 = 1) := by omega
      simp only [hd, if_false, h2]
      omega
  · have e0 : r + 1 = m := by omega
    have e : s + 1 = m * (q + 1) + 0 := by
      rw [Nat.mul_add, Nat.mul_one]
      omega
    rw [e, Nat.mul_add_div (by omega), Nat.mul_add_mod, Nat.zero_div, Nat.zero_mod, Nat.add_zero, Nat.add_mul, Nat.one_mul]
    unfold csN at hcs
    by_cases hd : d = 0
    · simp only [hd, if_true] at hcs ⊢
      omega
    · simp only [hd, if_false] at hcs ⊢
      by_cases h2 : g % 2 = 1
      · have h3 : r = m - 1 ∧ g % 2 = 1 := ⟨by omega, h2⟩
        simp only [h3, and_self, if_true]
        omega
      · have h3 : ¬ (r = m - 1 ∧ g % 2 = 1) := fun z => h2 z.2
        simp only [h3, if_false]
        omega
theorem pto_0 (d g : Nat) : ptoN d g 0 = 0 := by
  unfold ptoN
  simp
theorem pto_mono (d g s n : Nat) (hg : 1 ≤ g) : ptoN d g s ≤ ptoN d g (s + n) := by
  induction n with
  | zero => exact Nat.le_refl _
  | succ n ih =>
    rw [← Nat.add_assoc, pto_step d g (s + n) hg]
    omega
/-- all sheets of all copies have all pages -/
theorem pto_all (d g n : Nat) (hg : 1 ≤ g) : ptoN d g (csN d g * n) = n * g := by
  have hc := csN_pos (d := d) hg
  unfold ptoN
  rw [Nat.mul_div_cancel_left n (by omega), Nat.mul_mod_right]
  simp
/-- the pages of the first i sheets of a release -/
def PT (C : CF) (k i : Nat) : Nat := ptoN (C 60 13 k) (C 60 17 k) (C 60 19 k + i) - ptoN (C 60 13 k) (C 60 17 k) (C 60 19 k)
theorem PT_step (C : CF) (k i : Nat) (hg : 1 ≤ C 60 17 k) : PT C k (i + 1) = PT C k i + ponN (C 60 13 k) (C 60 17 k) (C 60 19 k + i) := by
  have h := pto_mono (C 60 13 k) (C 60 17 k) (C 60 19 k) i hg
  unfold PT
  rw [← Nat.add_assoc, pto_step _ _ _ hg]
  omega
theorem PT_0 (C : CF) (k : Nat) : PT C k 0 = 0 := by
  unfold PT
  rw [Nat.add_zero]
  omega
theorem avT_c (C : CF) (k p t : Nat) : (t < C 60 2 p ∧ C 60 8 (3 * p + t) = C 60 9 k ∧ (if t < C 60 2 p ∧ C 60 8 (3 * p + t) = C 60 9 k then C 60 3 (3 * p + t) else 0) = C 60 3 (3 * p + t)) ∨ (¬ (t < C 60 2 p ∧ C 60 8 (3 * p + t) = C 60 9 k) ∧ (if t < C 60 2 p ∧ C 60 8 (3 * p + t) = C 60 9 k then C 60 3 (3 * p + t) else 0) = 0) := by
  by_cases h : t < C 60 2 p ∧ C 60 8 (3 * p + t) = C 60 9 k
  · exact Or.inl ⟨h.1, h.2, if_pos h⟩
  · exact Or.inr ⟨h, if_neg h⟩
/-- the sheets of the job k's paper in the tray t of the printer p -/
def avT (C : CF) (k p t : Nat) : Nat := if t < C 60 2 p ∧ C 60 8 (3 * p + t) = C 60 9 k then C 60 3 (3 * p + t) else 0
def dT (C : CF) (k p n t : Nat) : Nat := if t = 0 then min n (avT C k p 0) else if t = 1 then min (n - avT C k p 0) (avT C k p 1) else min (n - avT C k p 0 - avT C k p 1) (avT C k p 2)
def bkN (jc x : Nat) : Nat := if jc = 0 then 2 * x else x
def ckN (jc x : Nat) : Nat := if jc = 0 then 0 else 3 * x
abbrev qiC (C : CF) (k : Nat) : Nat := 2 * C 60 16 k + (if C 60 12 k = 0 then 0 else 1)
/-- the trial behind j sheets -/
def TrS (C : CF) (k p j : Nat) : CF := S6 C (C 60 3 (3 * p + 0) - dT C k p j 0) (C 60 3 (3 * p + 1) - dT C k p j 1) (C 60 3 (3 * p + 2) - dT C k p j 2) (C 60 4 p - bkN (C 60 12 k) (PT C k j)) (C 60 5 p - ckN (C 60 12 k) (PT C k j)) (C 60 0 (qiC C k) - PT C k j)
/-- the reason that stands behind i sheets -/
def coR (C : CF) (k p i : Nat) : Nat :=
  if C 60 19 k + i = csN (C 60 13 k) (C 60 17 k) * C 60 18 k then 100 else if C 60 15 k ≠ 0 then 120 else if C 60 12 k ≠ 0 ∧ C 60 11 p = 0 then 110
  else if ¬ ((0 < C 60 2 p ∧ C 60 8 (3 * p + 0) = C 60 9 k) ∨ (1 < C 60 2 p ∧ C 60 8 (3 * p + 1) = C 60 9 k) ∨ (2 < C 60 2 p ∧ C 60 8 (3 * p + 2) = C 60 9 k)) then 107
  else if avT C k p 0 + avT C k p 1 + avT C k p 2 ≤ i then 112
  else if C 60 4 p < bkN (C 60 12 k) (PT C k (i + 1)) then 116
  else if C 60 12 k ≠ 0 ∧ C 60 5 p < 3 * PT C k (i + 1) then 99
  else if C 60 0 (qiC C k) < PT C k (i + 1) then 113 else 45
/-- what the first j sheets took was there -/
def TrI (C : CF) (k p j : Nat) : Prop := j ≤ avT C k p 0 + avT C k p 1 + avT C k p 2 ∧ bkN (C 60 12 k) (PT C k j) ≤ C 60 4 p ∧ ckN (C 60 12 k) (PT C k j) ≤ C 60 5 p ∧ PT C k j ≤ C 60 0 (qiC C k) ∧ C 60 19 k + j ≤ csN (C 60 13 k) (C 60 17 k) * C 60 18 k
def RK (C : CF) (k p : Nat) : Prop := k < 40 ∧ p < 4 ∧ C 60 2 p ≤ 3 ∧ C 60 9 k < 65536 ∧ (∀ t : Nat, C 60 8 t < 65536) ∧ (∀ t : Nat, C 60 3 t ≤ 500) ∧ (∀ t : Nat, C 60 25 t ≤ 500) ∧ C 60 13 k < 2 ∧ 1 ≤ C 60 17 k ∧ C 60 17 k ≤ 100 ∧ C 60 18 k ≤ 9 ∧ C 60 15 k < 2 ∧ C 60 12 k < 2 ∧ C 60 11 p < 2 ∧ C 60 16 k < 6 ∧ C 60 4 p ≤ 1000 ∧ C 60 5 p ≤ 1000 ∧ (∀ i : Nat, C 60 0 i ≤ 9999) ∧ C 60 19 k ≤ csN (C 60 13 k) (C 60 17 k) * C 60 18 k
theorem TrS_0 (C : CF) (k p : Nat) : S6 C (C 60 3 (3 * p + 0)) (C 60 3 (3 * p + 1)) (C 60 3 (3 * p + 2)) (C 60 4 p) (C 60 5 p) (C 60 0 (2 * C 60 16 k + (if C 60 12 k = 0 then 0 else 1))) = TrS C k p 0 := by
  unfold TrS
  have e0 : dT C k p 0 0 = 0 := by simp [dT]
  have e1 : dT C k p 0 1 = 0 := by simp [dT]
  have e2 : dT C k p 0 2 = 0 := by simp [dT]
  rw [e0, e1, e2, PT_0]
  have e3 : bkN (C 60 12 k) 0 = 0 := by simp [bkN]
  have e4 : ckN (C 60 12 k) 0 = 0 := by simp [ckN]
  rw [e3, e4]
  rfl
theorem TrI_0 {C : CF} {k p : Nat} (h : C 60 19 k ≤ csN (C 60 13 k) (C 60 17 k) * C 60 18 k) : TrI C k p 0 := by
  refine ⟨by omega, ?_, ?_, ?_, by omega⟩ <;> rw [PT_0] <;> simp [bkN, ckN]
theorem TrS_x {C : CF} {k p j : Nat} (hY : ∀ t : Nat, C 60 3 t ≤ 500) (hx : ∀ t : Nat, C 60 25 t ≤ 500) : ∀ t : Nat, TrS C k p j 60 25 t ≤ 500 := by
  intro t
  have h0 := hY (3 * p + 0)
  have h1 := hY (3 * p + 1)
  have h2 := hY (3 * p + 2)
  have h3 := hx t
  simp only [TrS, S6, up3]
  repeat' split
  all_goals omega
theorem tf_split {C : CF} {k p j : Nat} (i1 : j ≤ avT C k p 0 + avT C k p 1 + avT C k p 2) : (tfN (C 60 2 p) (C 60 9 k) (C 60 8 (3 * p + 0)) (C 60 8 (3 * p + 1)) (C 60 8 (3 * p + 2)) (C 60 3 (3 * p + 0) - dT C k p j 0) (C 60 3 (3 * p + 1) - dT C k p j 1) (C 60 3 (3 * p + 2) - dT C k p j 2) = 0 ↔ ¬ ((0 < C 60 2 p ∧ C 60 8 (3 * p + 0) = C 60 9 k) ∨ (1 < C 60 2 p ∧ C 60 8 (3 * p + 1) = C 60 9 k) ∨ (2 < C 60 2 p ∧ C 60 8 (3 * p + 2) = C 60 9 k)))
    ∧ (tfN (C 60 2 p) (C 60 9 k) (C 60 8 (3 * p + 0)) (C 60 8 (3 * p + 1)) (C 60 8 (3 * p + 2)) (C 60 3 (3 * p + 0) - dT C k p j 0) (C 60 3 (3 * p + 1) - dT C k p j 1) (C 60 3 (3 * p + 2) - dT C k p j 2) = 1 ↔ ((0 < C 60 2 p ∧ C 60 8 (3 * p + 0) = C 60 9 k) ∨ (1 < C 60 2 p ∧ C 60 8 (3 * p + 1) = C 60 9 k) ∨ (2 < C 60 2 p ∧ C 60 8 (3 * p + 2) = C 60 9 k)) ∧ avT C k p 0 + avT C k p 1 + avT C k p 2 ≤ j) := by
  have e0 : dT C k p j 0 = min j (avT C k p 0) := by simp [dT]
  have e1 : dT C k p j 1 = min (j - avT C k p 0) (avT C k p 1) := by simp [dT]
  have e2 : dT C k p j 2 = min (j - avT C k p 0 - avT C k p 1) (avT C k p 2) := by simp [dT]
  rw [e0, e1, e2]
  unfold tfN
  clear e0 e1 e2
  have v0 := avT_c C k p 0
  have v1 := avT_c C k p 1
  have v2 := avT_c C k p 2
  rw [show (if 0 < C 60 2 p ∧ C 60 8 (3 * p + 0) = C 60 9 k then C 60 3 (3 * p + 0) else 0) = avT C k p 0 from rfl] at v0
  rw [show (if 1 < C 60 2 p ∧ C 60 8 (3 * p + 1) = C 60 9 k then C 60 3 (3 * p + 1) else 0) = avT C k p 1 from rfl] at v1
  rw [show (if 2 < C 60 2 p ∧ C 60 8 (3 * p + 2) = C 60 9 k then C 60 3 (3 * p + 2) else 0) = avT C k p 2 from rfl] at v2
  rcases v0 with ⟨a1, a2, a3⟩ | ⟨a1, a3⟩ <;> rcases v1 with ⟨b1, b2, b3⟩ | ⟨b1, b3⟩ <;> rcases v2 with ⟨c1, c2, c3⟩ | ⟨c1, c3⟩
  all_goals rw [a3, b3, c3] at i1 ⊢
  all_goals (constructor <;> (repeat' split) <;> omega)
theorem trS_next {C : CF} {k p j t a b c q : Nat} (hg : 1 ≤ C 60 17 k) (hnt : C 60 2 p ≤ 3) (ht : t < C 60 2 p) (htf : tfC (TrS C k p j) k p = t + 2) (ha : TrS C k p j 60 25 t - 1 = a)
    (hb : b + (if C 60 12 k = 0 then 2 * ponN (C 60 13 k) (C 60 17 k) (C 60 19 k + j) else ponN (C 60 13 k) (C 60 17 k) (C 60 19 k + j)) = C 60 4 p - bkN (C 60 12 k) (PT C k j))
    (hc : c + (if C 60 12 k = 0 then 0 else 3 * ponN (C 60 13 k) (C 60 17 k) (C 60 19 k + j)) = C 60 5 p - ckN (C 60 12 k) (PT C k j)) (hq : q + ponN (C 60 13 k) (C 60 17 k) (C 60 19 k + j) = C 60 0 (qiC C k) - PT C k j) (hI : TrI C k p j) :
    TrS C k p (j + 1) = up3 (up3 (up3 (up3 (TrS C k p j) 60 25 t a) 60 100 35 b) 60 100 36 c) 60 100 37 q := by
  obtain ⟨i1, i2, i3, i4, i5⟩ := hI
  have hst := PT_step C k j hg
  have eb : b = C 60 4 p - bkN (C 60 12 k) (PT C k (j + 1)) := by
    rw [hst]
    unfold bkN at *
    split at hb <;> rename_i z <;> simp only [z, if_true, if_false] at * <;> omega
  have ec : c = C 60 5 p - ckN (C 60 12 k) (PT C k (j + 1)) := by
    rw [hst]
    unfold ckN at *
    split at hc <;> rename_i z <;> simp only [z, if_true, if_false] at * <;> omega
  have eq : q = C 60 0 (qiC C k) - PT C k (j + 1) := by
    rw [hst]
    omega
  have e0 : dT C k p j 0 = min j (avT C k p 0) := by simp [dT]
  have e1 : dT C k p j 1 = min (j - avT C k p 0) (avT C k p 1) := by simp [dT]
  have e2 : dT C k p j 2 = min (j - avT C k p 0 - avT C k p 1) (avT C k p 2) := by simp [dT]
  have f0 : dT C k p (j + 1) 0 = min (j + 1) (avT C k p 0) := by simp [dT]
  have f1 : dT C k p (j + 1) 1 = min (j + 1 - avT C k p 0) (avT C k p 1) := by simp [dT]
  have f2 : dT C k p (j + 1) 2 = min (j + 1 - avT C k p 0 - avT C k p 1) (avT C k p 2) := by simp [dT]
  have htf : tfN (C 60 2 p) (C 60 9 k) (C 60 8 (3 * p + 0)) (C 60 8 (3 * p + 1)) (C 60 8 (3 * p + 2)) (C 60 3 (3 * p + 0) - dT C k p j 0) (C 60 3 (3 * p + 1) - dT C k p j 1) (C 60 3 (3 * p + 2) - dT C k p j 2) = t + 2 := htf
  rw [e0, e1, e2] at htf
  unfold tfN at htf
  have key : (t = 0 ∧ C 60 3 (3 * p + 0) - dT C k p (j + 1) 0 = C 60 3 (3 * p + 0) - dT C k p j 0 - 1 ∧ dT C k p (j + 1) 1 = dT C k p j 1 ∧ dT C k p (j + 1) 2 = dT C k p j 2) ∨ (t = 1 ∧ C 60 3 (3 * p + 1) - dT C k p (j + 1) 1 = C 60 3 (3 * p + 1) - dT C k p j 1 - 1 ∧ dT C k p (j + 1) 0 = dT C k p j 0 ∧ dT C k p (j + 1) 2 = dT C k p j 2) ∨ (t = 2 ∧ C 60 3 (3 * p + 2) - dT C k p (j + 1) 2 = C 60 3 (3 * p + 2) - dT C k p j 2 - 1 ∧ dT C k p (j + 1) 0 = dT C k p j 0 ∧ dT C k p (j + 1) 1 = dT C k p j 1) := by
    rw [e0, e1, e2, f0, f1, f2]
    clear hb hc hq i2 i3 i4 i5 hst eb ec eq ha e0 e1 e2 f0 f1 f2
    have v0 := avT_c C k p 0
    have v1 := avT_c C k p 1
    have v2 := avT_c C k p 2
    rw [show (if 0 < C 60 2 p ∧ C 60 8 (3 * p + 0) = C 60 9 k then C 60 3 (3 * p + 0) else 0) = avT C k p 0 from rfl] at v0
    rw [show (if 1 < C 60 2 p ∧ C 60 8 (3 * p + 1) = C 60 9 k then C 60 3 (3 * p + 1) else 0) = avT C k p 1 from rfl] at v1
    rw [show (if 2 < C 60 2 p ∧ C 60 8 (3 * p + 2) = C 60 9 k then C 60 3 (3 * p + 2) else 0) = avT C k p 2 from rfl] at v2
    rcases v0 with ⟨a1, a2, a3⟩ | ⟨a1, a3⟩ <;> rcases v1 with ⟨b1, b2, b3⟩ | ⟨b1, b3⟩ <;> rcases v2 with ⟨c1, c2, c3⟩ | ⟨c1, c3⟩
    all_goals rw [a3, b3, c3] at i1 htf ⊢
    all_goals (repeat' split at htf) <;> omega
  rcases key with ⟨rfl, k1, k2, k3⟩ | ⟨rfl, k1, k2, k3⟩ | ⟨rfl, k1, k2, k3⟩
  · have ha : C 60 3 (3 * p + 0) - dT C k p j 0 - 1 = a := ha
    rw [show TrS C k p j = S6 C _ _ _ _ _ _ from rfl, S6_0, S6_b, S6_c, S6_q, ← ha, ← k1, ← k2, ← k3, eb, ec, eq]
    rfl
  · have ha : C 60 3 (3 * p + 1) - dT C k p j 1 - 1 = a := ha
    rw [show TrS C k p j = S6 C _ _ _ _ _ _ from rfl, S6_1, S6_b, S6_c, S6_q, ← ha, ← k1, ← k2, ← k3, eb, ec, eq]
    rfl
  · have ha : C 60 3 (3 * p + 2) - dT C k p j 2 - 1 = a := ha
    rw [show TrS C k p j = S6 C _ _ _ _ _ _ from rfl, S6_2, S6_b, S6_c, S6_q, ← ha, ← k1, ← k2, ← k3, eb, ec, eq]
    rfl
theorem TrI_next {C : CF} {k p j : Nat} (hg : 1 ≤ C 60 17 k) (h : coR C k p j = 45) (hI : TrI C k p j) : TrI C k p (j + 1) := by
  obtain ⟨i1, i2, i3, i4, i5⟩ := hI
  unfold coR at h
  by_cases hc : C 60 12 k = 0
  · simp only [hc, ne_eq, not_true, false_and, if_false] at h
    refine ⟨?_, ?_, ?_, ?_, ?_⟩ <;> simp only [hc, ckN, if_true] at * <;> (repeat' split at h) <;> omega
  · simp only [hc, ne_eq, not_false_eq_true, true_and] at h
    refine ⟨?_, ?_, ?_, ?_, ?_⟩ <;> simp only [hc, ckN, if_false] at * <;> (repeat' split at h) <;> omega
end TRIAL
