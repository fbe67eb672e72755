section PLAN
def htD (D : CF) (k p : Nat) : Nat := if (0 < D 60 2 p ∧ D 60 8 (3 * p + 0) = D 60 9 k) ∨ (1 < D 60 2 p ∧ D 60 8 (3 * p + 1) = D 60 9 k) ∨ (2 < D 60 2 p ∧ D 60 8 (3 * p + 2) = D 60 9 k) then 1 else 0
abbrev csD (D : CF) (k : Nat) : Nat := csN (D 60 13 k) (D 60 17 k)
/-- the class's plan behind j sheets, its reason s -/
def plF (D C : CF) (k p j s : Nat) : Nat → Nat
  | 0 => htD D k p
  | 1 => avT D k p 0 + avT D k p 1 + avT D k p 2
  | 2 => D 60 0 (qiC D k)
  | 3 => PT D k j
  | 4 => j
  | 5 => pcN (D 60 13 k) (D 60 17 k) (D 60 19 k + j)
  | 6 => cpS (csD D k) (D 60 19 k) j
  | 7 => fsS (csD D k) (D 60 19 k) j
  | 8 => ktS (csD D k) (D 60 19 k) j
  | 9 => s
  | f + 10 => C 6 0 (f + 10)
def PlC (D C : CF) (k p j s : Nat) : CF := fun kk ii ff => if kk = 6 ∧ ii = 0 then plF D C k p j s ff else C kk ii ff
theorem PlC_eq {C C2 D : CF} {k p j s : Nat} (h0 : htD D k p = C2 6 0 0) (h1 : avT D k p 0 + avT D k p 1 + avT D k p 2 = C2 6 0 1) (h2 : D 60 0 (qiC D k) = C2 6 0 2) (h3 : PT D k j = C2 6 0 3) (h4 : j = C2 6 0 4) (h5 : pcN (D 60 13 k) (D 60 17 k) (D 60 19 k + j) = C2 6 0 5) (h6 : cpS (csD D k) (D 60 19 k) j = C2 6 0 6) (h7 : fsS (csD D k) (D 60 19 k) j = C2 6 0 7) (h8 : ktS (csD D k) (D 60 19 k) j = C2 6 0 8) (h9 : s = C2 6 0 9) (hr : ∀ f : Nat, C2 6 0 (f + 10) = C 6 0 (f + 10)) (ho : ∀ kk ii ff : Nat, ¬ (kk = 6 ∧ ii = 0) → C2 kk ii ff = C kk ii ff) : PlC D C k p j s = C2 := by
  funext kk ii ff
  unfold PlC
  by_cases hn : kk = 6 ∧ ii = 0
  · obtain ⟨rfl, rfl⟩ := hn
    rw [if_pos ⟨rfl, rfl⟩]
    match ff with
    | 0 => exact h0
    | 1 => exact h1
    | 2 => exact h2
    | 3 => exact h3
    | 4 => exact h4
    | 5 => exact h5
    | 6 => exact h6
    | 7 => exact h7
    | 8 => exact h8
    | 9 => exact h9
    | f + 10 => exact (hr f).symm
  · rw [if_neg hn]
    exact (ho kk ii ff hn).symm
theorem PlC_s (D C : CF) (k p j s s2 : Nat) : up3 (PlC D C k p j s) 6 0 9 s2 = PlC D C k p j s2 := by
  refine (PlC_eq (D := D) (k := k) (p := p) (j := j) (s := s2) rfl rfl rfl rfl rfl rfl rfl rfl rfl rfl (fun f => ?_) (fun kk ii ff hn => ?_)).symm
  · show (if 6 = 6 ∧ 0 = 0 ∧ f + 10 = 9 then s2 else PlC D C k p j s 6 0 (f + 10)) = _
    rw [if_neg (by omega)]
    rfl
  · show (if kk = 6 ∧ ii = 0 ∧ ff = 9 then s2 else PlC D C k p j s kk ii ff) = _
    rw [if_neg (fun z => hn ⟨z.1, z.2.1⟩)]
    unfold PlC
    rw [if_neg hn]
theorem PlC_PlC (D C : CF) (k p j s k2 p2 j2 s2 : Nat) : PlC D (PlC D C k p j s) k2 p2 j2 s2 = PlC D C k2 p2 j2 s2 := by
  refine (PlC_eq (C := PlC D C k p j s) (C2 := PlC D C k2 p2 j2 s2) (D := D) (k := k2) (p := p2) (j := j2) (s := s2) rfl rfl rfl rfl rfl rfl rfl rfl rfl rfl (fun f => rfl) (fun kk ii ff hn => ?_))
  unfold PlC
  rw [if_neg hn, if_neg hn]
/-- the class's rows of paper and sheets -/
def htK (C : CF) (p q : Nat) : Nat := if (0 < C 9 p 5 ∧ C 12 (3 * p + 0) 0 = q) ∨ (1 < C 9 p 5 ∧ C 12 (3 * p + 1) 0 = q) ∨ (2 < C 9 p 5 ∧ C 12 (3 * p + 2) 0 = q) then 1 else 0
def avK (C : CF) (p q t : Nat) : Nat := if t < C 9 p 5 ∧ C 12 (3 * p + t) 0 = q then C 12 (3 * p + t) 1 else 0
theorem avK_y {C : CF} {p q t : Nat} (h1 : t < C 9 p 5) (h2 : C 12 (3 * p + t) 0 = q) : avK C p q t = C 12 (3 * p + t) 1 := by
  unfold avK
  rw [if_pos ⟨h1, h2⟩]
theorem avK_n {C : CF} {p q t : Nat} (h1 : ¬ t < C 9 p 5) : avK C p q t = 0 := by
  unfold avK
  rw [if_neg (fun z => h1 z.1)]
theorem avK_q {C : CF} {p q t : Nat} (h1 : ¬ C 12 (3 * p + t) 0 = q) : avK C p q t = 0 := by
  unfold avK
  rw [if_neg (fun z => h1 z.2)]
def dK (C : CF) (p q n t : Nat) : Nat := if t = 0 then min n (avK C p q 0) else if t = 1 then min (n - avK C p q 0) (avK C p q 1) else min (n - avK C p q 0 - avK C p q 1) (avK C p q 2)
/-- the trays behind n sheets of the paper q -/
def tkC (C : CF) (p q n : Nat) : CF := up3 (up3 (up3 C 12 (3 * p + 0) 1 (C 12 (3 * p + 0) 1 - dK C p q n 0)) 12 (3 * p + 1) 1 (C 12 (3 * p + 1) 1 - dK C p q n 1)) 12 (3 * p + 2) 1 (C 12 (3 * p + 2) 1 - dK C p q n 2)
theorem up3_self (C : CF) (k i f : Nat) : up3 C k i f (C k i f) = C := by
  funext k2 i2 f2
  unfold up3
  split
  · rename_i h
    obtain ⟨rfl, rfl, rfl⟩ := h
    rfl
  · rfl
theorem sm_av {D C : CF} (hS : Sm D C) {k p : Nat} (hk : k < D 60 100 30) (hp : p < D 60 100 29) {t : Nat} : avK C p (D 60 9 k) t = avT D k p t := by
  have e5 := (hS.2.2.1 p hp).2.2.2.2
  unfold avK avT
  rw [e5]
  by_cases h : t < D 60 2 p
  · obtain ⟨a, b⟩ := hS.2.2.2.1 p t hp h
    rw [a, b]
  · rw [if_neg (fun z => h z.1), if_neg (fun z => h z.1)]
theorem or_cg {a b c a2 b2 c2 : Prop} (h1 : a ↔ a2) (h2 : b ↔ b2) (h3 : c ↔ c2) : (a ∨ b ∨ c) ↔ (a2 ∨ b2 ∨ c2) := by rw [h1, h2, h3]
theorem sm_ht {D C : CF} (hS : Sm D C) {k p : Nat} (hk : k < D 60 100 30) (hp : p < D 60 100 29) : htK C p (D 60 9 k) = htD D k p := by
  have e5 := (hS.2.2.1 p hp).2.2.2.2
  have key : ∀ t : Nat, (t < C 9 p 5 ∧ C 12 (3 * p + t) 0 = D 60 9 k) ↔ (t < D 60 2 p ∧ D 60 8 (3 * p + t) = D 60 9 k) := by
    intro t
    rw [e5]
    by_cases h : t < D 60 2 p
    · rw [(hS.2.2.2.1 p t hp h).1]
    · exact ⟨fun z => absurd z.1 h, fun z => absurd z.1 h⟩
  unfold htK htD
  exact if_cg (or_cg (key 0) (key 1) (key 2)) (fun _ => rfl)
/-- what the walk of a plan stands on -/
theorem co_100 {D : CF} {k j : Nat} (hg : 1 ≤ D 60 17 k) (hj : D 60 19 k + j ≤ csN (D 60 13 k) (D 60 17 k) * D 60 18 k) : D 60 17 k * D 60 18 k - ptoN (D 60 13 k) (D 60 17 k) (D 60 19 k) ≤ PT D k j ↔ D 60 19 k + j = csN (D 60 13 k) (D 60 17 k) * D 60 18 k := by
  have h1 := pto_mono (D 60 13 k) (D 60 17 k) (D 60 19 k) j hg
  unfold PT
  constructor
  · intro h
    rcases Nat.lt_or_ge (D 60 19 k + j) (csN (D 60 13 k) (D 60 17 k) * D 60 18 k) with z | z
    · have h2 := pto_lt hg z
      rw [Nat.mul_comm] at h2
      omega
    · omega
  · intro h
    rw [h, pto_all _ _ _ hg, Nat.mul_comm]
    exact Nat.le_refl _
theorem lt_100 {D : CF} {k j : Nat} (hg : 1 ≤ D 60 17 k) (hj : D 60 19 k + j ≤ csN (D 60 13 k) (D 60 17 k) * D 60 18 k) : PT D k j ≤ D 60 17 k * D 60 18 k ∧ ptoN (D 60 13 k) (D 60 17 k) (D 60 19 k) ≤ D 60 17 k * D 60 18 k := by
  have h1 := pto_mono (D 60 13 k) (D 60 17 k) (D 60 19 k + j) (csN (D 60 13 k) (D 60 17 k) * D 60 18 k - (D 60 19 k + j)) hg
  have h2 := pto_mono (D 60 13 k) (D 60 17 k) (D 60 19 k) j hg
  rw [show D 60 19 k + j + (csN (D 60 13 k) (D 60 17 k) * D 60 18 k - (D 60 19 k + j)) = csN (D 60 13 k) (D 60 17 k) * D 60 18 k by omega, pto_all _ _ _ hg, Nat.mul_comm] at h1
  unfold PT
  omega
end PLAN
