section MLN
/-- the model behind a line: its letters, their number -/
def lnR (C : CF) (n : Nat) (g : Nat → Nat) : CF := fun kk ii ff => if kk = 61 ∧ ii = 27 ∧ ff = 0 then n else if kk = 60 ∧ ii = 27 then g ff else C kk ii ff
theorem lnR_k {C : CF} {n kk : Nat} {g : Nat → Nat} (h : kk ≠ 61) (h2 : kk ≠ 60) : lnR C n g kk = C kk := by
  funext ii ff
  unfold lnR
  rw [if_neg (fun z => h z.1), if_neg (fun z => h2 z.1)]
theorem lnR_60 {C : CF} {n ii : Nat} {g : Nat → Nat} (h : ii ≠ 27) : lnR C n g 60 ii = C 60 ii := by
  funext ff
  unfold lnR
  rw [if_neg (fun z => absurd z.1 (by decide)), if_neg (fun z => h z.2)]
theorem lnR_61 {C : CF} {n ii : Nat} {g : Nat → Nat} (h : ii ≠ 27) : lnR C n g 61 ii = C 61 ii := by
  funext ff
  unfold lnR
  rw [if_neg (fun z => h z.2.1), if_neg (fun z => absurd z.1 (by decide))]
theorem Rep.fr5 {A : AF} {C : CF} {M M2 : Wd} (hM : Rep A C M) (hf : ∀ r2 : Role, r2 ≠ (50, 0) → r2 ≠ (50, 1) → r2 ≠ (51, 0) → M2 r2 = M r2) : Rep A C M2 := by
  intro k2 i2 x hx
  have n5 := no_5x hx
  rw [hf _ (fun z => n5.1 (by cases z; rfl)) (fun z => n5.1 (by cases z; rfl)) (fun z => n5.2.1 (by cases z; rfl))]
  exact hM k2 i2 x hx
theorem Rep.mline {A : AF} {C : CF} {M M2 : Wd} {n a b : Nat} {g : Nat → Nat} (hM : Rep A C M) (hf : ∀ r2 : Role, r2 ≠ (60, 100) → r2 ≠ (60, 26) → r2 ≠ (60, 27) → r2 ≠ (50, 0) → r2 ≠ (50, 1) → r2 ≠ (51, 0) → M2 r2 = M r2)
    (h100 : M2 (60, 100) = some (A 60 100, .inr (12, (modFs A (C 60 100)).set 26 (.ref a)))) (h26 : M2 (60, 26) = some (a, .inr (0, [.ref b, .int (nI 0), .int (nI 0), .int (nI 0)]))) (h27 : M2 (60, 27) = some (b, aN .byte n g)) : Rep (up2 (up2 A 60 26 a) 60 27 b) (lnR C n g) M2 := by
  have hA : ∀ k : Nat, k ≠ 60 → up2 (up2 A 60 26 a) 60 27 b k = A k := fun k h => by funext i; rw [up2_k h, up2_k h]
  have hA6 : ∀ i : Nat, i ≠ 26 → i ≠ 27 → up2 (up2 A 60 26 a) 60 27 b 60 i = A 60 i := fun i h1 h2 => by rw [up2_i h2, up2_i h1]
  have hC : ∀ k : Nat, k ≠ 61 → k ≠ 60 → lnR C n g k = C k := fun k h1 h2 => lnR_k h1 h2
  intro k2 i2 x hx
  have n5 := no_5x hx
  by_cases k60 : k2 = 60
  · subst k60
    unfold cc at hx
    rw [if_pos rfl] at hx
    by_cases h1 : i2 = 100
    · subst h1
      rw [if_pos rfl] at hx
      rw [h100, ← hx, hA6 100 (by decide) (by decide), lnR_60 (by decide)]
      unfold modFs
      simp only [hA6 0 (by decide) (by decide), hA6 1 (by decide) (by decide), hA6 2 (by decide) (by decide), hA6 3 (by decide) (by decide), hA6 4 (by decide) (by decide), hA6 5 (by decide) (by decide), hA6 6 (by decide) (by decide), hA6 7 (by decide) (by decide), hA6 8 (by decide) (by decide), hA6 9 (by decide) (by decide), hA6 10 (by decide) (by decide), hA6 11 (by decide) (by decide), hA6 12 (by decide) (by decide), hA6 13 (by decide) (by decide), hA6 14 (by decide) (by decide), hA6 15 (by decide) (by decide), hA6 16 (by decide) (by decide), hA6 17 (by decide) (by decide), hA6 18 (by decide) (by decide), hA6 19 (by decide) (by decide), hA6 20 (by decide) (by decide), hA6 21 (by decide) (by decide), hA6 22 (by decide) (by decide), hA6 23 (by decide) (by decide), hA6 24 (by decide) (by decide), hA6 25 (by decide) (by decide)]
      rw [show up2 (up2 A 60 26 a) 60 27 b 60 26 = a by rw [up2_i (by decide), up2_s]]
      rfl
    · rw [if_neg h1] at hx
      by_cases h2 : i2 < 26
      · rw [if_pos h2, hA6 i2 (by omega) (by omega)] at hx
        have e : rowEv (lnR C n g) i2 = rowEv C i2 := by
          unfold rowEv rowLen
          rw [lnR_60 (show (7 : Nat) ≠ 27 by decide), lnR_60 (show i2 ≠ 27 by omega), lnR_61 (show i2 ≠ 27 by omega)]
        rw [e] at hx
        rw [hf _ (fun z => h1 (by cases z; rfl)) (fun z => by cases z; omega) (fun z => by cases z; omega) (fun z => by cases z) (fun z => by cases z) (fun z => by cases z)]
        refine hM 60 i2 x ?_
        unfold cc
        rw [if_pos rfl, if_neg h1, if_pos h2]
        exact hx
      · rw [if_neg h2] at hx
        by_cases h3 : i2 = 26
        · subst h3
          rw [if_pos rfl] at hx
          rw [h26, ← hx, up2_i (by decide), up2_s, up2_s]
          rfl
        · rw [if_neg h3] at hx
          by_cases h4 : i2 = 27
          · subst h4
            rw [if_pos rfl] at hx
            rw [h27, ← hx, up2_s]
            rfl
          · rw [if_neg h4] at hx
            cases hx
  rw [hf _ (fun z => k60 (by cases z; rfl)) (fun z => k60 (by cases z; rfl)) (fun z => k60 (by cases z; rfl)) (fun z => n5.1 (by cases z; rfl)) (fun z => n5.1 (by cases z; rfl)) (fun z => n5.2.1 (by cases z; rfl))]
  refine hM k2 i2 x ?_
  rw [← hx]
  have hfm : farmFs (up2 (up2 A 60 26 a) 60 27 b) = farmFs A := by
    unfold farmFs
    rw [hA 1 (by decide), hA 2 (by decide), hA 3 (by decide), hA 4 (by decide), hA 5 (by decide), hA 6 (by decide)]
  unfold cc
  rw [if_neg k60, if_neg k60]
  unfold listFs
  simp only [hfm, hA 0 (by decide), hA 1 (by decide), hA 2 (by decide), hA 3 (by decide), hA 4 (by decide), hA 5 (by decide), hA 6 (by decide), hA 7 (by decide), hA 8 (by decide), hA 9 (by decide), hA 10 (by decide), hA 11 (by decide), hA 12 (by decide), hA 13 (by decide), hA 14 (by decide), hA 70 (by decide), hC 0 (by decide) (by decide), hC 4 (by decide) (by decide), hC 5 (by decide) (by decide), hC 6 (by decide) (by decide), hC 7 (by decide) (by decide), hC 8 (by decide) (by decide), hC 9 (by decide) (by decide), hC 10 (by decide) (by decide), hC 11 (by decide) (by decide), hC 12 (by decide) (by decide), hC 13 (by decide) (by decide), hC 70 (by decide) (by decide)]
/-- between two words of a line: the builder, its letters, the room taken -/
def JP (Mb : Wd) (sb n : Nat) (T : Nat → Nat) (c0 s0 : Nat) : Wd → Nat → Nat → Prop := fun M2 c2 s2 => c2 ≤ c0 ∧ s2 ≤ s0 ∧ (∀ r2 : Role, r2 ≠ (50, 0) → r2 ≠ (50, 1) → r2 ≠ (51, 0) → M2 r2 = Mb r2) ∧ ∃ (b x cap : Nat) (g : Nat → Nat), M2 (50, 0) = some (sb, .inr (1, [.ref b, .int (nI 0), .int (nI x), .int (nI n)])) ∧ M2 (50, 1) = some (b, aN .byte cap g) ∧ n ≤ cap ∧ cpO cap ∧ (∀ j : Nat, j < n → g j = T j) ∧ ∀ j : Nat, j < cap → g j < 128
abbrev ppR (Z : Zp) (q : Nat) : Nat := if q = 97 then sQ Z "SpoolFarmModel" 255 else if q = 98 then sQ Z "SpoolFarmModel" 257 else sQ Z "SpoolFarmModel" 259
abbrev ppRB (Z : Zp) (q : Nat) : Nat := if q = 97 then sB Z "SpoolFarmModel" 255 else if q = 98 then sB Z "SpoolFarmModel" 257 else sB Z "SpoolFarmModel" 259
theorem pr_s (Z : Zp) (D : CF) (k : Nat) : ∀ U : State, Stat Z U → zS Z (ppR Z (D 60 9 k)) (ppRB Z (D 60 9 k)) (wdP D k).1 (wdP D k).2 U := by
  intro U h
  unfold ppR ppRB wdP
  by_cases h1 : D 60 9 k = 97
  · rw [if_pos h1, if_pos h1, if_pos h1]
    exact ts_R_255 U h
  · rw [if_neg h1, if_neg h1, if_neg h1]
    by_cases h2 : D 60 9 k = 98
    · rw [if_pos h2, if_pos h2, if_pos h2]
      exact ts_R_257 U h
    · rw [if_neg h2, if_neg h2, if_neg h2]
      exact ts_R_259 U h
end MLN
