section LNS
/-- the class behind a line: its letters, their number, the builder's flag and room -/
def lnC (C : CF) (x n cap : Nat) (g : Nat → Nat) : CF := fun kk ii ff => if kk = 5 ∧ ii = 0 ∧ ff = 2 then x else if kk = 5 ∧ ii = 0 ∧ ff = 3 then n else if kk = 8 ∧ ii = 100 ∧ ff = 0 then cap else if kk = 8 ∧ ii = 0 then g ff else C kk ii ff
theorem lnC_k {C : CF} {x n cap kk : Nat} {g : Nat → Nat} (h : kk ≠ 5) (h2 : kk ≠ 8) : lnC C x n cap g kk = C kk := by
  funext ii ff
  unfold lnC
  rw [if_neg (fun z => h z.1), if_neg (fun z => h z.1), if_neg (fun z => h2 z.1), if_neg (fun z => h2 z.1)]
theorem cc_5 {A : AF} {C : CF} {i : Nat} : cc A C 5 i = if i = 0 then some (A 5 0, .inr (1, sbFs (A 8 0) (C 5 0))) else none := by
  simp [cc]
theorem cc_8 {A : AF} {C : CF} {i : Nat} : cc A C 8 i = if i = 0 then some (A 8 0, aN .byte (C 8 100 0) (C 8 0)) else none := by
  simp [cc]
theorem Rep.line {A : AF} {C : CF} {M M2 : Wd} {x n cap b : Nat} {g : Nat → Nat} (hM : Rep A C M) (hf : ∀ r2 : Role, r2 ≠ (5, 0) → r2 ≠ (8, 0) → r2 ≠ (51, 0) → M2 r2 = M r2) (h5 : M2 (5, 0) = some (A 5 0, .inr (1, [.ref b, .int (nI 0), .int (nI x), .int (nI n)]))) (h8 : M2 (8, 0) = some (b, aN .byte cap g)) : Rep (up2 A 8 0 b) (lnC C x n cap g) M2 := by
  have hA : ∀ k : Nat, k ≠ 8 → up2 A 8 0 b k = A k := fun k h => by funext i; exact up2_k h
  have hC : ∀ k : Nat, k ≠ 5 → k ≠ 8 → lnC C x n cap g k = C k := fun k a b => lnC_k a b
  intro k2 i2 y hx
  have n5 := no_5x hx
  by_cases k5 : k2 = 5
  · subst k5
    rw [cc_5] at hx
    by_cases hi : i2 = 0
    · subst hi
      rw [if_pos rfl] at hx
      rw [h5, ← hx, hA 5 (by decide), up2_s]
      rfl
    · rw [if_neg hi] at hx
      cases hx
  by_cases k8 : k2 = 8
  · subst k8
    rw [cc_8] at hx
    by_cases hi : i2 = 0
    · subst hi
      rw [if_pos rfl] at hx
      rw [h8, ← hx, up2_s]
      rfl
    · rw [if_neg hi] at hx
      cases hx
  rw [hf _ (fun z => k5 (by cases z; rfl)) (fun z => k8 (by cases z; rfl)) (fun z => n5.2.1 (by cases z; rfl))]
  refine hM k2 i2 y ?_
  rw [← hx]
  have hm : modFs (up2 A 8 0 b) = modFs A := by
    unfold modFs
    rw [hA 60 (by decide)]
  have hfm : farmFs (up2 A 8 0 b) = farmFs A := by
    unfold farmFs
    rw [hA 1 (by decide), hA 2 (by decide), hA 3 (by decide), hA 4 (by decide), hA 5 (by decide), hA 6 (by decide)]
  unfold cc
  rw [if_neg k5, if_neg k5, if_neg k8, if_neg k8]
  unfold listFs
  simp only [cg_row (hC 60 (by decide) (by decide)) (hC 61 (by decide) (by decide)), hm, hfm, hA 60 (by decide), hA 0 (by decide), hA 1 (by decide), hA 2 (by decide), hA 3 (by decide), hA 4 (by decide), hA 6 (by decide), hA 7 (by decide), hA 9 (by decide), hA 10 (by decide), hA 11 (by decide), hA 12 (by decide), hA 13 (by decide), hA 14 (by decide), hA 70 (by decide), hC 60 (by decide) (by decide), hC 61 (by decide) (by decide), hC 0 (by decide) (by decide), hC 4 (by decide) (by decide), hC 6 (by decide) (by decide), hC 7 (by decide) (by decide), hC 9 (by decide) (by decide), hC 10 (by decide) (by decide), hC 11 (by decide) (by decide), hC 12 (by decide) (by decide), hC 13 (by decide) (by decide), hC 70 (by decide) (by decide)]
theorem dg3 {v : Nat} (h : v < 1000) : sb_dg v ≤ 3 := by
  unfold sb_dg
  repeat' split
  all_goals omega
abbrev paO (D : CF) (k : Nat) : Nat := ptoN (D 60 13 k) (D 60 17 k) (D 60 19 k)
/-- a job's line: how many letters, which -/
def lnN (D : CF) (k : Nat) : Nat := 0 + sb_dg k + 2 + sb_dg (paO D k) + 1 + sb_dg (D 60 17 k * D 60 18 k) + 1 + (wdP D k).1 + (wdC (D 60 12 k)).1 + (wdD (D 60 13 k)).1 + (wdS (D 60 14 k)).1
def lnT (D : CF) (k : Nat) : Nat → Nat :=
  let n1 := 0 + sb_dg k
  let n2 := n1 + 2
  let n3 := n2 + sb_dg (paO D k)
  let n4 := n3 + 1
  let n5 := n4 + sb_dg (D 60 17 k * D 60 18 k)
  let n6 := n5 + 1
  let n7 := n6 + (wdP D k).1
  let n8 := n7 + (wdC (D 60 12 k)).1
  let n9 := n8 + (wdD (D 60 13 k)).1
  apT n9 (apT n8 (apT n7 (apT n6 (apT n5 (apT n4 (apT n3 (apT n2 (apT n1 (apT 0 (fun _ => 0) (sb_dec k)) (chF [58, 32])) (sb_dec (paO D k))) (fun _ => 47)) (sb_dec (D 60 17 k * D 60 18 k))) (fun _ => 32)) (wdP D k).2) (wdC (D 60 12 k)).2) (wdD (D 60 13 k)).2) (wdS (D 60 14 k)).2
abbrev ppQ (Z : Zp) (q : Nat) : Nat := if q = 97 then sQ Z "SpoolFarm" 343 else if q = 98 then sQ Z "SpoolFarm" 345 else sQ Z "SpoolFarm" 347
abbrev ppB (Z : Zp) (q : Nat) : Nat := if q = 97 then sB Z "SpoolFarm" 343 else if q = 98 then sB Z "SpoolFarm" 345 else sB Z "SpoolFarm" 347
theorem pp_s (Z : Zp) (D : CF) (k : Nat) : ∀ U : State, Stat Z U → zS Z (ppQ Z (D 60 9 k)) (ppB Z (D 60 9 k)) (wdP D k).1 (wdP D k).2 U := by
  intro U h
  unfold ppQ ppB wdP
  by_cases h1 : D 60 9 k = 97
  · rw [if_pos h1, if_pos h1, if_pos h1]
    exact ts_K_343 U h
  · rw [if_neg h1, if_neg h1, if_neg h1]
    by_cases h2 : D 60 9 k = 98
    · rw [if_pos h2, if_pos h2, if_pos h2]
      exact ts_K_345 U h
    · rw [if_neg h2, if_neg h2, if_neg h2]
      exact ts_K_347 U h
theorem pp_w (D : CF) (k : Nat) : (wdP D k).1 ≤ 6 ∧ ∀ j : Nat, j < (wdP D k).1 → (wdP D k).2 j < 128 := by
  unfold wdP
  by_cases h1 : D 60 9 k = 97
  · rw [if_pos h1]
    exact ⟨by decide, tl_K_343⟩
  · rw [if_neg h1]
    by_cases h2 : D 60 9 k = 98
    · rw [if_pos h2]
      exact ⟨by decide, tl_K_345⟩
    · rw [if_neg h2]
      exact ⟨by decide, tl_K_347⟩
theorem tn_C (Z : Zp) (x : Nat) : ∀ U : State, Stat Z U → zS Z (if x = 0 then sQ Z "SpoolFarm" 318 else sQ Z "SpoolFarm" 316) (if x = 0 then sB Z "SpoolFarm" 318 else sB Z "SpoolFarm" 316) (wdC x).1 (wdC x).2 U := by
  intro U h
  unfold wdC
  by_cases h1 : x = 0
  · rw [if_pos h1, if_pos h1, if_pos h1]
    exact ts_K_318 U h
  · rw [if_neg h1, if_neg h1, if_neg h1]
    exact ts_K_316 U h
theorem tn_D (Z : Zp) (x : Nat) : ∀ U : State, Stat Z U → zS Z (if x = 0 then sQ Z "SpoolFarm" 318 else sQ Z "SpoolFarm" 320) (if x = 0 then sB Z "SpoolFarm" 318 else sB Z "SpoolFarm" 320) (wdD x).1 (wdD x).2 U := by
  intro U h
  unfold wdD
  by_cases h1 : x = 0
  · rw [if_pos h1, if_pos h1, if_pos h1]
    exact ts_K_318 U h
  · rw [if_neg h1, if_neg h1, if_neg h1]
    exact ts_K_320 U h
theorem tn_S (Z : Zp) (x : Nat) : ∀ U : State, Stat Z U → zS Z (if x = 0 then sQ Z "SpoolFarm" 318 else sQ Z "SpoolFarm" 322) (if x = 0 then sB Z "SpoolFarm" 318 else sB Z "SpoolFarm" 322) (wdS x).1 (wdS x).2 U := by
  intro U h
  unfold wdS
  by_cases h1 : x = 0
  · rw [if_pos h1, if_pos h1, if_pos h1]
    exact ts_K_318 U h
  · rw [if_neg h1, if_neg h1, if_neg h1]
    exact ts_K_322 U h
theorem wd_C (x : Nat) : (wdC x).1 ≤ 7 ∧ ∀ j : Nat, j < (wdC x).1 → (wdC x).2 j < 128 := by
  unfold wdC
  by_cases h1 : x = 0
  · rw [if_pos h1]
    exact ⟨by decide, fun j h => absurd h (Nat.not_lt_zero j)⟩
  · rw [if_neg h1]
    exact ⟨by decide, tl_K_316⟩
theorem wd_D (x : Nat) : (wdD x).1 ≤ 7 ∧ ∀ j : Nat, j < (wdD x).1 → (wdD x).2 j < 128 := by
  unfold wdD
  by_cases h1 : x = 0
  · rw [if_pos h1]
    exact ⟨by decide, fun j h => absurd h (Nat.not_lt_zero j)⟩
  · rw [if_neg h1]
    exact ⟨by decide, tl_K_320⟩
theorem wd_S (x : Nat) : (wdS x).1 ≤ 8 ∧ ∀ j : Nat, j < (wdS x).1 → (wdS x).2 j < 128 := by
  unfold wdS
  by_cases h1 : x = 0
  · rw [if_pos h1]
    exact ⟨by decide, fun j h => absurd h (Nat.not_lt_zero j)⟩
  · rw [if_neg h1]
    exact ⟨by decide, tl_K_322⟩
end LNS
