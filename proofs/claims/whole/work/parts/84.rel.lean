section REL
variable {Z : Zp} {l : Launch}
/-- the addresses behind a new entry -/
def AL (A : AF) (e y d : Nat) : AF := fun kk ii => if kk = 13 ∧ ii = e then y else if kk = 7 ∧ ii = 0 then d else A kk ii
def enF (e0 e1 e2 e3 e4 e5 : Nat) : Nat → Nat
  | 0 => e0
  | 1 => e1
  | 2 => e2
  | 3 => e3
  | 4 => e4
  | _ => e5
/-- the state behind a new entry -/
def adE (C : CF) (e0 e1 e2 e3 e4 e5 : Nat) : CF := fun kk ii ff => if kk = 13 ∧ ii = C 4 0 2 then enF e0 e1 e2 e3 e4 e5 ff else if kk = 4 ∧ ii = 0 ∧ ff = 0 then C 4 0 0 + 1 else if kk = 4 ∧ ii = 0 ∧ ff = 2 then C 4 0 2 + 1 else if kk = 7 ∧ ii = 100 ∧ ff = 0 then capN (C 7 100 0) (C 4 0 2) else C kk ii ff
theorem adE_k {C : CF} {e0 e1 e2 e3 e4 e5 kk : Nat} (h1 : kk ≠ 13) (h2 : kk ≠ 4) (h3 : kk ≠ 7) : adE C e0 e1 e2 e3 e4 e5 kk = C kk := by
  funext ii ff
  unfold adE
  rw [if_neg (fun z => h1 z.1), if_neg (fun z => h2 z.1), if_neg (fun z => h2 z.1), if_neg (fun z => h3 z.1)]
theorem adE_13 {C : CF} {e0 e1 e2 e3 e4 e5 ii : Nat} (h : ii ≠ C 4 0 2) : adE C e0 e1 e2 e3 e4 e5 13 ii = C 13 ii := by
  funext ff
  unfold adE
  rw [if_neg (fun z => h z.2), if_neg (by omega), if_neg (by omega), if_neg (by omega)]
theorem adE_13s {C : CF} {e0 e1 e2 e3 e4 e5 : Nat} : adE C e0 e1 e2 e3 e4 e5 13 (C 4 0 2) = enF e0 e1 e2 e3 e4 e5 := by
  funext ff
  unfold adE
  rw [if_pos ⟨rfl, rfl⟩]
theorem adE_0 {C : CF} {e0 e1 e2 e3 e4 e5 : Nat} : adE C e0 e1 e2 e3 e4 e5 4 0 0 = C 4 0 0 + 1 := by
  unfold adE
  rw [if_neg (by omega), if_pos ⟨rfl, rfl, rfl⟩]
theorem adE_2 {C : CF} {e0 e1 e2 e3 e4 e5 : Nat} : adE C e0 e1 e2 e3 e4 e5 4 0 2 = C 4 0 2 + 1 := by
  unfold adE
  rw [if_neg (by omega), if_neg (by omega), if_pos ⟨rfl, rfl, rfl⟩]
theorem adE_7 {C : CF} {e0 e1 e2 e3 e4 e5 : Nat} : adE C e0 e1 e2 e3 e4 e5 7 100 0 = capN (C 7 100 0) (C 4 0 2) := by
  unfold adE
  rw [if_neg (by omega), if_neg (by omega), if_neg (by omega), if_pos ⟨rfl, rfl, rfl⟩]
theorem AL_k {A : AF} {e y d kk : Nat} (h1 : kk ≠ 13) (h3 : kk ≠ 7) : AL A e y d kk = A kk := by
  funext ii
  unfold AL
  rw [if_neg (fun z => h1 z.1), if_neg (fun z => h3 z.1)]
theorem AL_13 {A : AF} {e y d ii : Nat} (h : ii ≠ e) : AL A e y d 13 ii = A 13 ii := by
  unfold AL
  rw [if_neg (fun z => h z.2), if_neg (fun z => absurd z.1 (by decide))]
theorem AL_13s {A : AF} {e y d : Nat} : AL A e y d 13 e = y := by
  unfold AL
  rw [if_pos ⟨rfl, rfl⟩]
theorem AL_7 {A : AF} {e y d : Nat} : AL A e y d 7 0 = d := by
  unfold AL
  rw [if_neg (fun z => absurd z.1 (by decide)), if_pos ⟨rfl, rfl⟩]
theorem cc_ent {A : AF} {C : CF} {i : Nat} : cc A C 13 i = if i < C 4 0 2 then some (A 13 i, .inr (5, entryFs (C 13 i))) else none := by
  simp [cc]
theorem cc_4 {A : AF} {C : CF} {i : Nat} : cc A C 4 i = if i = 0 then some (A 4 0, .inr (4, listFs A (C 4 0))) else none := by
  simp [cc]
theorem cc_7 {A : AF} {C : CF} {i : Nat} : cc A C 7 i = if i = 0 ∧ 0 < C 7 100 0 then some (A 7 0, aR "java/lang/Object" (C 7 100 0) (fun j => if j < C 4 0 2 then some (A 13 j) else none)) else none := by
  simp [cc]
theorem cc_ad {A : AF} {C : CF} {e0 e1 e2 e3 e4 e5 e y d : Nat} (k2 i2 : Nat) (h1 : k2 ≠ 13) (h2 : k2 ≠ 4) (h3 : k2 ≠ 7) : cc (AL A e y d) (adE C e0 e1 e2 e3 e4 e5) k2 i2 = cc A C k2 i2 := by
  have hA : ∀ k : Nat, k ≠ 13 → k ≠ 7 → AL A e y d k = A k := fun k a b => AL_k a b
  have hC : ∀ k : Nat, k ≠ 13 → k ≠ 4 → k ≠ 7 → adE C e0 e1 e2 e3 e4 e5 k = C k := fun k a b c => adE_k a b c
  have hr : ∀ i : Nat, rowEv (adE C e0 e1 e2 e3 e4 e5) i = rowEv C i := by
    intro i
    unfold rowEv rowLen
    rw [hC 60 (by decide) (by decide) (by decide), hC 61 (by decide) (by decide) (by decide)]
  have hm : modFs (AL A e y d) = modFs A := by
    unfold modFs
    rw [hA 60 (by decide) (by decide)]
  have hf : farmFs (AL A e y d) = farmFs A := by
    unfold farmFs
    rw [hA 1 (by decide) (by decide), hA 2 (by decide) (by decide), hA 3 (by decide) (by decide), hA 4 (by decide) (by decide), hA 5 (by decide) (by decide), hA 6 (by decide) (by decide)]
  unfold cc
  rw [if_neg h1, if_neg h1, if_neg h2, if_neg h2, if_neg h3, if_neg h3]
  simp only [hr, hm, hf, hA 60 (by decide) (by decide), hA 0 (by decide) (by decide), hA 1 (by decide) (by decide), hA 2 (by decide) (by decide), hA 3 (by decide) (by decide), hA 5 (by decide) (by decide), hA 6 (by decide) (by decide), hA 8 (by decide) (by decide), hA 9 (by decide) (by decide), hA 10 (by decide) (by decide), hA 11 (by decide) (by decide), hA 12 (by decide) (by decide), hA 14 (by decide) (by decide), hA 70 (by decide) (by decide), hC 60 (by decide) (by decide) (by decide), hC 61 (by decide) (by decide) (by decide), hC 0 (by decide) (by decide) (by decide), hC 5 (by decide) (by decide) (by decide), hC 6 (by decide) (by decide) (by decide), hC 8 (by decide) (by decide) (by decide), hC 9 (by decide) (by decide) (by decide), hC 10 (by decide) (by decide) (by decide), hC 11 (by decide) (by decide) (by decide), hC 12 (by decide) (by decide) (by decide), hC 70 (by decide) (by decide) (by decide)]
theorem Rep.entry {A : AF} {C : CF} {M M2 : Wd} {e0 e1 e2 e3 e4 e5 y d : Nat} (hM : Rep A C M) (hf : ∀ r2 : Role, r2 ≠ (4, 0) → r2 ≠ (7, 0) → r2 ≠ (50, 0) → r2 ≠ (51, 1) → M2 r2 = M r2)
    (h4 : M2 (4, 0) = some (A 4 0, .inr (4, [.int (nI (C 4 0 0 + 1)), .ref d, .int (nI (C 4 0 2 + 1))])))
    (h7 : M2 (7, 0) = some (d, aR "java/lang/Object" (capN (C 7 100 0) (C 4 0 2)) (upN (fun j => if j < C 4 0 2 then some (A 13 j) else none) (C 4 0 2) (some y))))
    (h5 : M2 (50, 0) = some (y, .inr (5, [.int (nI e0), .int (nI e1), .int (nI e2), .int (nI e3), .int (nI e4), .long (lN e5)]))) : Rep (AL A (C 4 0 2) y d) (adE C e0 e1 e2 e3 e4 e5) (wmv M2 (50, 0) (13, C 4 0 2)) := by
  intro k2 i2 x hx
  unfold wmv
  by_cases k13 : k2 = 13
  · subst k13
    rw [cc_ent, adE_2] at hx
    by_cases hi : i2 = C 4 0 2
    · subst hi
      rw [if_pos (by omega), AL_13s, adE_13s] at hx
      rw [if_pos rfl, h5]
      exact hx
    · by_cases hl : i2 < C 4 0 2
      · rw [if_pos (by omega), AL_13 hi, adE_13 hi] at hx
        rw [if_neg (fun z => hi (by cases z; rfl)), if_neg (fun z => by cases z), hf _ (fun z => by cases z) (fun z => by cases z) (fun z => by cases z) (fun z => by cases z)]
        exact hM 13 i2 x (by rw [cc_ent, if_pos hl]; exact hx)
      · rw [if_neg (by omega)] at hx
        cases hx
  by_cases k4 : k2 = 4
  · subst k4
    rw [cc_4] at hx
    by_cases hi : i2 = 0
    · subst hi
      rw [if_pos rfl] at hx
      rw [if_neg (fun z => by cases z), if_neg (fun z => by cases z), h4, ← hx]
      unfold listFs
      rw [adE_0, adE_2, AL_7, AL_k (by decide) (by decide)]
    · rw [if_neg hi] at hx
      cases hx
  by_cases k7 : k2 = 7
  · subst k7
    rw [cc_7] at hx
    by_cases hi : i2 = 0 ∧ 0 < adE C e0 e1 e2 e3 e4 e5 7 100 0
    · rw [if_pos hi] at hx
      rw [hi.1, if_neg (fun z => by cases z), if_neg (fun z => by cases z), h7, ← hx, adE_7, AL_7, adE_2]
      refine congrArg some (congrArg (fun q => (d, aR "java/lang/Object" (capN (C 7 100 0) (C 4 0 2)) q)) ?_)
      funext j
      unfold upN
      by_cases hj : j = C 4 0 2
      · rw [if_pos hj, if_pos (by omega), hj, AL_13s]
      · rw [if_neg hj, AL_13 hj]
        show (if j < C 4 0 2 then some (A 13 j) else none) = _
        by_cases hj2 : j < C 4 0 2
        · rw [if_pos hj2, if_pos (by omega)]
        · rw [if_neg hj2, if_neg (by omega)]
    · rw [if_neg hi] at hx
      cases hx
  rw [cc_ad k2 i2 k13 k4 k7] at hx
  have n50 : k2 ≠ 50 := by
    intro z
    subst z
    simp [cc] at hx
  have n51 : k2 ≠ 51 := by
    intro z
    subst z
    simp [cc] at hx
  rw [if_neg (fun z => k13 (by cases z; rfl)), if_neg (fun z => n50 (by cases z; rfl)), hf _ (fun z => k4 (by cases z; rfl)) (fun z => k7 (by cases z; rfl)) (fun z => n50 (by cases z; rfl)) (fun z => n51 (by cases z; rfl))]
  exact hM k2 i2 x hx
/-- the room a new entry takes -/
def lgC (C : CF) : Nat := 1 + if C 4 0 2 = C 7 100 0 then 1 else 0
def lgS (C : CF) : Nat := 6 + if C 4 0 2 = C 7 100 0 then capN (C 7 100 0) (C 4 0 2) else 0
theorem wb_y {D : CF} {k p n : Nat} (h : D 60 14 k ≠ 0) : min (ktS (csD D k) (D 60 19 k) n) (D 60 6 p) = wbN D k p n := by
  unfold wbN bndN ktS csD
  by_cases h2 : csN (D 60 13 k) (D 60 17 k) < 2
  · rw [if_pos (Or.inr h2), if_pos h2, Nat.zero_min]
  · rw [if_neg h2, if_neg (show ¬ (D 60 14 k = 0 ∨ csN (D 60 13 k) (D 60 17 k) < 2) from fun z => Or.elim z h h2), Nat.min_comm]
theorem wb_n {D : CF} {k p n : Nat} (h : D 60 14 k = 0) : 0 = wbN D k p n := by
  unfold wbN bndN
  rw [if_pos (Or.inl h)]
theorem tkC_k {C : CF} {p q n kk : Nat} (h : kk ≠ 12) : tkC C p q n kk = C kk := by
  unfold tkC
  rw [up3_k h, up3_k h, up3_k h]
def coN (D : CF) (k n : Nat) : Nat := prN D k * PT D k n + D 60 100 34 * n
abbrev qf (D : CF) (k : Nat) : Nat := if D 60 12 k = 0 then 0 else 1
/-- the class behind a job's sheets, but for the log -/
def rlK0 (D C : CF) (k p n : Nat) : CF := up3 (up3 (up3 (up3 (up3 (up3 (up3 (up3 (up3 (up3 (up3 (tkC (PlC D C k p n (coR D k p n)) p (D 60 9 k) n) 9 p 1 (D 60 4 p - bkN (D 60 12 k) (PT D k n))) 9 p 2 (C 9 p 2 - ckN (D 60 12 k) (PT D k n))) 9 p 3 (D 60 6 p - wbN D k p n)) 10 (D 60 16 k) (if D 60 12 k = 0 then 0 else 1) (D 60 0 (qiC D k) - PT D k n)) 10 (D 60 16 k) 2 (D 60 1 (D 60 16 k) + PT D k n)) 10 (D 60 16 k) 3 (D 60 7 (D 60 16 k) + coN D k n)) 11 k 9 (ptoN (D 60 13 k) (D 60 17 k) (D 60 19 k) + PT D k n)) 11 k 10 (pcN (D 60 13 k) (D 60 17 k) (D 60 19 k + n))) 11 k 11 (D 60 19 k + n)) 11 k 12 (D 60 20 k + wbN D k p n)) 11 k 13 (coR D k p n)
def rlK (D C : CF) (k p n : Nat) : CF := adE (rlK0 D C k p n) k (D 60 16 k) p (PT D k n) n (coN D k n)
end REL
