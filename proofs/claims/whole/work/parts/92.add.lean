section ADDS
/-- the state with one more of a kind: its number N, its fields F; the farm counts them in its field f -/
def adO (C : CF) (K N : Nat) (F : Nat → Nat) (f : Nat) : CF := fun kk ii ff => if kk = K ∧ ii = N then F ff else if kk = 0 ∧ ii = 0 ∧ ff = f then N + 1 else C kk ii ff
theorem adO_k {C : CF} {K N f kk : Nat} {F : Nat → Nat} (h : kk ≠ K) (h0 : kk ≠ 0) : adO C K N F f kk = C kk := by
  funext ii ff
  unfold adO
  rw [if_neg (fun z => h z.1), if_neg (fun z => h0 z.1)]
theorem adO_s {C : CF} {K N f : Nat} {F : Nat → Nat} : adO C K N F f K N = F := by
  funext ff
  unfold adO
  rw [if_pos ⟨rfl, rfl⟩]
theorem adO_i {C : CF} {K N f ii : Nat} {F : Nat → Nat} (h : ii ≠ N) (hK : K ≠ 0) : adO C K N F f K ii = C K ii := by
  funext ff
  unfold adO
  rw [if_neg (fun z => h z.2), if_neg (fun z => hK z.1)]
theorem adO_0 {C : CF} {K N f ff : Nat} {F : Nat → Nat} (hK : K ≠ 0) (h : ff ≠ f) : adO C K N F f 0 0 ff = C 0 0 ff := by
  unfold adO
  rw [if_neg (fun z => hK z.1.symm), if_neg (fun z => h z.2.2)]
theorem adO_0s {C : CF} {K N f : Nat} {F : Nat → Nat} (hK : K ≠ 0) : adO C K N F f 0 0 f = N + 1 := by
  unfold adO
  rw [if_neg (fun z => hK z.1.symm), if_pos ⟨rfl, rfl, rfl⟩]
def usF (a b : Nat) : Nat → Nat
  | 0 => a
  | 1 => b
  | _ => 0
def joF (k u c w q cb db : Nat) : Nat → Nat
  | 0 => k
  | 1 => u
  | 2 => c
  | 3 => c * w
  | 4 => q
  | 5 => cb
  | 6 => db
  | 13 => 45
  | _ => 0
def prF (c b s : Nat) : Nat → Nat
  | 0 => c
  | 1 => b
  | 2 => if c = 0 then 0 else b
  | 3 => s
  | _ => 0
theorem cc_0 {A : AF} {C : CF} {i : Nat} : cc A C 0 i = if i = 0 then some (A 0 0, .inr (11, farmFs A (C 0 0))) else none := by
  simp [cc]
theorem cc_1 {A : AF} {C : CF} {i : Nat} : cc A C 1 i = if i = 0 then some (A 1 0, aR "SpoolFarm$User" 6 (fun j => if j < C 0 0 3 then some (A 10 j) else none)) else none := by
  simp [cc]
theorem cc_2 {A : AF} {C : CF} {i : Nat} : cc A C 2 i = if i = 0 then some (A 2 0, aR "SpoolFarm$Printer" 4 (fun j => if j < C 0 0 4 then some (A 9 j) else none)) else none := by
  simp [cc]
theorem cc_3 {A : AF} {C : CF} {i : Nat} : cc A C 3 i = if i = 0 then some (A 3 0, aR "SpoolFarm$Job" 40 (fun j => if j < C 0 0 5 then some (A 11 j) else none)) else none := by
  simp [cc]
theorem cc_10 {A : AF} {C : CF} {i : Nat} : cc A C 10 i = if i < C 0 0 3 then some (A 10 i, .inr (10, userFs (C 10 i))) else none := by
  simp [cc]
theorem cc_11 {A : AF} {C : CF} {i : Nat} : cc A C 11 i = if i < C 0 0 5 then some (A 11 i, .inr (6, jobFs (C 11 i))) else none := by
  simp [cc]
theorem cc_9 {A : AF} {C : CF} {i : Nat} : cc A C 9 i = if i < C 0 0 4 then some (A 9 i, .inr (8, prnFs (A 14 i) (C 9 i))) else none := by
  simp [cc]
theorem cc_12 {A : AF} {C : CF} {i : Nat} : cc A C 12 i = if i / 3 < C 0 0 4 ∧ i % 3 < C 9 (i / 3) 5 then some (A 12 i, .inr (9, trayFs (C 12 i))) else none := by
  simp [cc]
theorem cc_14 {A : AF} {C : CF} {i : Nat} : cc A C 14 i = if i < C 0 0 4 then some (A 14 i, aR "SpoolFarm$Tray" 3 (fun j => if j < C 9 i 5 then some (A 12 (3 * i + j)) else none)) else none := by
  simp [cc]
/-- the row of all that are there, with one more -/
theorem row_up {N N2 : Nat} {a a2 : Nat → Nat} {y : Nat} (hN : N2 = N + 1) (h1 : a2 N = y) (h2 : ∀ j : Nat, j ≠ N → a2 j = a j) : upN (fun j => if j < N then some (a j) else none) N (some y) = fun j => if j < N2 then some (a2 j) else none := by
  subst hN
  funext j
  unfold upN
  by_cases hj : j = N
  · rw [if_pos hj, if_pos (by omega), hj, h1]
  · rw [if_neg hj, h2 j hj]
    show (if j < N then some (a j) else none) = _
    by_cases hl : j < N
    · rw [if_pos hl, if_pos (by omega)]
    · rw [if_neg hl, if_neg (by omega)]
theorem cg_row {C C2 : CF} (h1 : C2 60 = C 60) (h2 : C2 61 = C 61) (i : Nat) : rowEv C2 i = rowEv C i := by
  unfold rowEv rowLen
  rw [h1, h2]
theorem no_5x {A : AF} {C : CF} {k i : Nat} {x : Nat × Ev} (h : cc A C k i = some x) : k ≠ 50 ∧ k ≠ 51 ∧ k ≠ 52 := by
  refine ⟨fun z => ?_, fun z => ?_, fun z => ?_⟩ <;> (subst z; simp [cc] at h)
theorem Rep.user {A : AF} {C : CF} {M M2 : Wd} {F : Nat → Nat} {y : Nat} (hM : Rep A C M) (hf : ∀ r2 : Role, r2 ≠ (0, 0) → r2 ≠ (1, 0) → r2 ≠ (50, 0) → M2 r2 = M r2)
    (h0 : M2 (0, 0) = some (A 0 0, .inr (11, (farmFs A (C 0 0)).set 3 (.int (nI (C 0 0 3 + 1)))))) (hr : M2 (1, 0) = some (A 1 0, aR "SpoolFarm$User" 6 (upN (fun j => if j < C 0 0 3 then some (A 10 j) else none) (C 0 0 3) (some y)))) (h5 : M2 (50, 0) = some (y, .inr (10, userFs F))) : Rep (up2 A 10 (C 0 0 3) y) (adO C 10 (C 0 0 3) F 3) (wmv M2 (50, 0) (10, C 0 0 3)) := by
  have hA : ∀ k : Nat, k ≠ 10 → up2 A 10 (C 0 0 3) y k = A k := fun k h => by funext i; exact up2_k h
  have hC : ∀ k : Nat, k ≠ 10 → k ≠ 0 → adO C 10 (C 0 0 3) F 3 k = C k := fun k a b => adO_k a b
  have n3 : adO C 10 (C 0 0 3) F 3 0 0 3 = C 0 0 3 + 1 := adO_0s (by decide)
  have n0 : ∀ f : Nat, f ≠ 3 → adO C 10 (C 0 0 3) F 3 0 0 f = C 0 0 f := fun f h => adO_0 (by decide) h
  intro k2 i2 x hx
  have n5 := no_5x hx
  unfold wmv
  by_cases k10 : k2 = 10
  · subst k10
    rw [cc_10, n3] at hx
    by_cases hi : i2 = C 0 0 3
    · subst hi
      rw [if_pos (by omega), up2_s, adO_s] at hx
      rw [if_pos rfl, h5]
      exact hx
    · by_cases hl : i2 < C 0 0 3
      · rw [if_pos (by omega), up2_i hi, adO_i hi (by decide)] at hx
        rw [if_neg (fun z => hi (by cases z; rfl)), if_neg (fun z => by cases z), hf _ (fun z => by cases z) (fun z => by cases z) (fun z => by cases z)]
        exact hM 10 i2 x (by rw [cc_10, if_pos hl]; exact hx)
      · rw [if_neg (by omega)] at hx
        cases hx
  rw [if_neg (fun z => k10 (by cases z; rfl)), if_neg (fun z => n5.1 (by cases z; rfl))]
  by_cases k0 : k2 = 0
  · subst k0
    rw [cc_0] at hx
    by_cases hi : i2 = 0
    · subst hi
      rw [if_pos rfl] at hx
      rw [h0, ← hx]
      unfold farmFs
      rw [n3, n0 4 (by decide), n0 5 (by decide), n0 6 (by decide), n0 7 (by decide), n0 8 (by decide), hA 0 (by decide), hA 1 (by decide), hA 2 (by decide), hA 3 (by decide), hA 4 (by decide), hA 5 (by decide), hA 6 (by decide)]
      rfl
    · rw [if_neg hi] at hx
      cases hx
  by_cases k1 : k2 = 1
  · subst k1
    rw [cc_1] at hx
    by_cases hi : i2 = 0
    · subst hi
      rw [if_pos rfl] at hx
      rw [hr, ← hx, hA 1 (by decide), row_up (N2 := adO C 10 (C 0 0 3) F 3 0 0 3) (a2 := up2 A 10 (C 0 0 3) y 10) n3 up2_s (fun j hj => up2_i hj)]
    · rw [if_neg hi] at hx
      cases hx
  rw [hf _ (fun z => k0 (by cases z; rfl)) (fun z => k1 (by cases z; rfl)) (fun z => n5.1 (by cases z; rfl))]
  refine hM k2 i2 x ?_
  rw [← hx]
  have hm : modFs (up2 A 10 (C 0 0 3) y) = modFs A := by
    unfold modFs
    rw [hA 60 (by decide)]
  unfold cc
  rw [if_neg k10, if_neg k10, if_neg k0, if_neg k0, if_neg k1, if_neg k1]
  unfold listFs
  simp only [cg_row (hC 60 (by decide) (by decide)) (hC 61 (by decide) (by decide)), hm, n0 4 (by decide), n0 5 (by decide), hA 60 (by decide), hA 2 (by decide), hA 3 (by decide), hA 4 (by decide), hA 5 (by decide), hA 6 (by decide), hA 7 (by decide), hA 8 (by decide), hA 9 (by decide), hA 11 (by decide), hA 12 (by decide), hA 13 (by decide), hA 14 (by decide), hA 70 (by decide), hC 60 (by decide) (by decide), hC 61 (by decide) (by decide), hC 4 (by decide) (by decide), hC 5 (by decide) (by decide), hC 6 (by decide) (by decide), hC 7 (by decide) (by decide), hC 8 (by decide) (by decide), hC 9 (by decide) (by decide), hC 11 (by decide) (by decide), hC 12 (by decide) (by decide), hC 13 (by decide) (by decide), hC 70 (by decide) (by decide)]
theorem Rep.job {A : AF} {C : CF} {M M2 : Wd} {F : Nat → Nat} {y : Nat} (hM : Rep A C M) (hf : ∀ r2 : Role, r2 ≠ (0, 0) → r2 ≠ (3, 0) → r2 ≠ (50, 0) → M2 r2 = M r2)
    (h0 : M2 (0, 0) = some (A 0 0, .inr (11, (farmFs A (C 0 0)).set 5 (.int (nI (C 0 0 5 + 1)))))) (hr : M2 (3, 0) = some (A 3 0, aR "SpoolFarm$Job" 40 (upN (fun j => if j < C 0 0 5 then some (A 11 j) else none) (C 0 0 5) (some y)))) (h5 : M2 (50, 0) = some (y, .inr (6, jobFs F))) : Rep (up2 A 11 (C 0 0 5) y) (adO C 11 (C 0 0 5) F 5) (wmv M2 (50, 0) (11, C 0 0 5)) := by
  have hA : ∀ k : Nat, k ≠ 11 → up2 A 11 (C 0 0 5) y k = A k := fun k h => by funext i; exact up2_k h
  have hC : ∀ k : Nat, k ≠ 11 → k ≠ 0 → adO C 11 (C 0 0 5) F 5 k = C k := fun k a b => adO_k a b
  have n3 : adO C 11 (C 0 0 5) F 5 0 0 5 = C 0 0 5 + 1 := adO_0s (by decide)
  have n0 : ∀ f : Nat, f ≠ 5 → adO C 11 (C 0 0 5) F 5 0 0 f = C 0 0 f := fun f h => adO_0 (by decide) h
  intro k2 i2 x hx
  have n5 := no_5x hx
  unfold wmv
  by_cases k10 : k2 = 11
  · subst k10
    rw [cc_11, n3] at hx
    by_cases hi : i2 = C 0 0 5
    · subst hi
      rw [if_pos (by omega), up2_s, adO_s] at hx
      rw [if_pos rfl, h5]
      exact hx
    · by_cases hl : i2 < C 0 0 5
      · rw [if_pos (by omega), up2_i hi, adO_i hi (by decide)] at hx
        rw [if_neg (fun z => hi (by cases z; rfl)), if_neg (fun z => by cases z), hf _ (fun z => by cases z) (fun z => by cases z) (fun z => by cases z)]
        exact hM 11 i2 x (by rw [cc_11, if_pos hl]; exact hx)
      · rw [if_neg (by omega)] at hx
        cases hx
  rw [if_neg (fun z => k10 (by cases z; rfl)), if_neg (fun z => n5.1 (by cases z; rfl))]
  by_cases k0 : k2 = 0
  · subst k0
    rw [cc_0] at hx
    by_cases hi : i2 = 0
    · subst hi
      rw [if_pos rfl] at hx
      rw [h0, ← hx]
      unfold farmFs
      rw [n3, n0 4 (by decide), n0 3 (by decide), n0 6 (by decide), n0 7 (by decide), n0 8 (by decide), hA 0 (by decide), hA 1 (by decide), hA 2 (by decide), hA 3 (by decide), hA 4 (by decide), hA 5 (by decide), hA 6 (by decide)]
      rfl
    · rw [if_neg hi] at hx
      cases hx
  by_cases k1 : k2 = 3
  · subst k1
    rw [cc_3] at hx
    by_cases hi : i2 = 0
    · subst hi
      rw [if_pos rfl] at hx
      rw [hr, ← hx, hA 3 (by decide), row_up (N2 := adO C 11 (C 0 0 5) F 5 0 0 5) (a2 := up2 A 11 (C 0 0 5) y 11) n3 up2_s (fun j hj => up2_i hj)]
    · rw [if_neg hi] at hx
      cases hx
  rw [hf _ (fun z => k0 (by cases z; rfl)) (fun z => k1 (by cases z; rfl)) (fun z => n5.1 (by cases z; rfl))]
  refine hM k2 i2 x ?_
  rw [← hx]
  have hm : modFs (up2 A 11 (C 0 0 5) y) = modFs A := by
    unfold modFs
    rw [hA 60 (by decide)]
  unfold cc
  rw [if_neg k10, if_neg k10, if_neg k0, if_neg k0, if_neg k1, if_neg k1]
  unfold listFs
  simp only [cg_row (hC 60 (by decide) (by decide)) (hC 61 (by decide) (by decide)), hm, n0 4 (by decide), n0 3 (by decide), hA 60 (by decide), hA 1 (by decide), hA 2 (by decide), hA 4 (by decide), hA 5 (by decide), hA 6 (by decide), hA 7 (by decide), hA 8 (by decide), hA 9 (by decide), hA 10 (by decide), hA 12 (by decide), hA 13 (by decide), hA 14 (by decide), hA 70 (by decide), hC 60 (by decide) (by decide), hC 61 (by decide) (by decide), hC 4 (by decide) (by decide), hC 5 (by decide) (by decide), hC 6 (by decide) (by decide), hC 7 (by decide) (by decide), hC 8 (by decide) (by decide), hC 9 (by decide) (by decide), hC 10 (by decide) (by decide), hC 12 (by decide) (by decide), hC 13 (by decide) (by decide), hC 70 (by decide) (by decide)]
end ADDS
