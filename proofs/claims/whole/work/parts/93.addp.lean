section ADDP
theorem Rep.prn {A : AF} {C : CF} {M M2 : Wd} {c b s y q : Nat} (hM : Rep A C M) (hf : ∀ r2 : Role, r2 ≠ (0, 0) → r2 ≠ (2, 0) → r2 ≠ (50, 0) → r2 ≠ (50, 1) → M2 r2 = M r2)
    (h0 : M2 (0, 0) = some (A 0 0, .inr (11, (farmFs A (C 0 0)).set 4 (.int (nI (C 0 0 4 + 1)))))) (hr : M2 (2, 0) = some (A 2 0, aR "SpoolFarm$Printer" 4 (upN (fun j => if j < C 0 0 4 then some (A 9 j) else none) (C 0 0 4) (some y)))) (h5 : M2 (50, 0) = some (y, .inr (8, prnFs q (prF c b s)))) (h6 : M2 (50, 1) = some (q, aR "SpoolFarm$Tray" 3 (fun _ => none))) : Rep (up2 (up2 A 9 (C 0 0 4) y) 14 (C 0 0 4) q) (adO C 9 (C 0 0 4) (prF c b s) 4) (wmv (wmv M2 (50, 0) (9, C 0 0 4)) (50, 1) (14, C 0 0 4)) := by
  have hA : ∀ k : Nat, k ≠ 9 → k ≠ 14 → up2 (up2 A 9 (C 0 0 4) y) 14 (C 0 0 4) q k = A k := fun k h h2 => by funext i; rw [up2_k h2, up2_k h]
  have hC : ∀ k : Nat, k ≠ 9 → k ≠ 0 → adO C 9 (C 0 0 4) (prF c b s) 4 k = C k := fun k a b => adO_k a b
  have n3 : adO C 9 (C 0 0 4) (prF c b s) 4 0 0 4 = C 0 0 4 + 1 := adO_0s (by decide)
  have n0 : ∀ f : Nat, f ≠ 4 → adO C 9 (C 0 0 4) (prF c b s) 4 0 0 f = C 0 0 f := fun f h => adO_0 (by decide) h
  intro k2 i2 x hx
  have n5 := no_5x hx
  unfold wmv
  by_cases k14 : k2 = 14
  · subst k14
    rw [cc_14, n3] at hx
    by_cases hi : i2 = C 0 0 4
    · subst hi
      rw [if_pos (by omega), up2_s, adO_s] at hx
      rw [if_pos rfl]
      show (if ((50, 1) : Role) = (9, C 0 0 4) then M2 (50, 0) else if ((50, 1) : Role) = (50, 0) then none else M2 (50, 1)) = some x
      rw [if_neg (fun z => by cases z), if_neg (fun z => by cases z), h6, ← hx]
      refine congrArg some (congrArg (fun g => (q, aR "SpoolFarm$Tray" 3 g)) ?_)
      funext j
      rw [if_neg (show ¬ j < prF c b s 5 from Nat.not_lt_zero j)]
    · by_cases hl : i2 < C 0 0 4
      · rw [if_pos (by omega), up2_i hi, up2_k (by decide), adO_i hi (by decide)] at hx
        rw [if_neg (fun z => hi (by cases z; rfl)), if_neg (fun z => by cases z)]
        show (if ((14, i2) : Role) = (9, C 0 0 4) then M2 (50, 0) else if ((14, i2) : Role) = (50, 0) then none else M2 (14, i2)) = some x
        rw [if_neg (fun z => by cases z), if_neg (fun z => by cases z), hf _ (fun z => by cases z) (fun z => by cases z) (fun z => by cases z) (fun z => by cases z)]
        refine hM 14 i2 x ?_
        rw [cc_14, if_pos hl, ← hx, hA 12 (by decide) (by decide)]
      · rw [if_neg (by omega)] at hx
        cases hx
  rw [if_neg (fun z => k14 (by cases z; rfl)), if_neg (fun z => n5.1 (by cases z; rfl))]
  show (if ((k2, i2) : Role) = (9, C 0 0 4) then M2 (50, 0) else if ((k2, i2) : Role) = (50, 0) then none else M2 (k2, i2)) = some x
  by_cases k10 : k2 = 9
  · subst k10
    rw [cc_9, n3] at hx
    by_cases hi : i2 = C 0 0 4
    · subst hi
      rw [if_pos (by omega), up2_s, up2_k (by decide), up2_s, adO_s] at hx
      rw [if_pos rfl, h5]
      exact hx
    · by_cases hl : i2 < C 0 0 4
      · have hAi : ∀ k : Nat, up2 (up2 A 9 (C 0 0 4) y) 14 (C 0 0 4) q k i2 = A k i2 := fun k => by rw [up2_i hi, up2_i hi]
        rw [if_pos (by omega), hAi, hAi, adO_i hi (by decide)] at hx
        rw [if_neg (fun z => hi (by cases z; rfl)), if_neg (fun z => by cases z), hf _ (fun z => by cases z) (fun z => by cases z) (fun z => by cases z) (fun z => by cases z)]
        exact hM 9 i2 x (by rw [cc_9, if_pos hl]; exact hx)
      · rw [if_neg (by omega)] at hx
        cases hx
  rw [if_neg (fun z => k10 (by cases z; rfl)), if_neg (fun z => n5.1 (by cases z; rfl))]
  by_cases k0 : k2 = 0
  · subst k0
    rw [cc_0] at hx
    by_cases hi : i2 = 0
    · subst hi
      rw [if_pos rfl] at hx
      rw [h0, ← hx]
      unfold farmFs
      rw [n3, n0 5 (by decide), n0 3 (by decide), n0 6 (by decide), n0 7 (by decide), n0 8 (by decide), hA 0 (by decide) (by decide), hA 1 (by decide) (by decide), hA 2 (by decide) (by decide), hA 3 (by decide) (by decide), hA 4 (by decide) (by decide), hA 5 (by decide) (by decide), hA 6 (by decide) (by decide)]
      rfl
    · rw [if_neg hi] at hx
      cases hx
  by_cases k1 : k2 = 2
  · subst k1
    rw [cc_2] at hx
    by_cases hi : i2 = 0
    · subst hi
      rw [if_pos rfl] at hx
      rw [hr, ← hx, hA 2 (by decide) (by decide), row_up (N2 := adO C 9 (C 0 0 4) (prF c b s) 4 0 0 4) (a2 := up2 (up2 A 9 (C 0 0 4) y) 14 (C 0 0 4) q 9) n3 (by rw [up2_k (by decide), up2_s]) (fun j hj => by rw [up2_k (by decide), up2_i hj])]
    · rw [if_neg hi] at hx
      cases hx
  rw [hf _ (fun z => k0 (by cases z; rfl)) (fun z => k1 (by cases z; rfl)) (fun z => n5.1 (by cases z; rfl)) (fun z => n5.1 (by cases z; rfl))]
  refine hM k2 i2 x ?_
  by_cases k12 : k2 = 12
  · subst k12
    rw [cc_12, n3, hA 12 (by decide) (by decide), hC 12 (by decide) (by decide)] at hx
    rw [cc_12]
    by_cases hi : i2 / 3 = C 0 0 4
    · rw [hi, adO_s, if_neg (show ¬ (C 0 0 4 < C 0 0 4 + 1 ∧ i2 % 3 < prF c b s 5) from fun z => absurd z.2 (Nat.not_lt_zero _))] at hx
      cases hx
    · rw [adO_i hi (by decide)] at hx
      by_cases h3 : i2 / 3 < C 0 0 4 + 1 ∧ i2 % 3 < C 9 (i2 / 3) 5
      · rw [if_pos h3] at hx
        rw [if_pos ⟨by omega, h3.2⟩]
        exact hx
      · rw [if_neg h3] at hx
        cases hx
  rw [← hx]
  have hm : modFs (up2 (up2 A 9 (C 0 0 4) y) 14 (C 0 0 4) q) = modFs A := by
    unfold modFs
    rw [hA 60 (by decide) (by decide)]
  unfold cc
  rw [if_neg k0, if_neg k0, if_neg k10, if_neg k10, if_neg k12, if_neg k12, if_neg k14, if_neg k14, if_neg k1, if_neg k1]
  unfold listFs
  simp only [cg_row (hC 60 (by decide) (by decide)) (hC 61 (by decide) (by decide)), hm, n0 5 (by decide), n0 3 (by decide), hA 60 (by decide) (by decide), hA 1 (by decide) (by decide), hA 3 (by decide) (by decide), hA 4 (by decide) (by decide), hA 5 (by decide) (by decide), hA 6 (by decide) (by decide), hA 7 (by decide) (by decide), hA 8 (by decide) (by decide), hA 10 (by decide) (by decide), hA 11 (by decide) (by decide), hA 13 (by decide) (by decide), hA 70 (by decide) (by decide), hC 60 (by decide) (by decide), hC 61 (by decide) (by decide), hC 4 (by decide) (by decide), hC 5 (by decide) (by decide), hC 6 (by decide) (by decide), hC 7 (by decide) (by decide), hC 8 (by decide) (by decide), hC 10 (by decide) (by decide), hC 11 (by decide) (by decide), hC 13 (by decide) (by decide), hC 70 (by decide) (by decide)]
/-- the state with one more tray at the printer p -/
def adT (C : CF) (p q s : Nat) : CF := fun kk ii ff => if kk = 12 ∧ ii = 3 * p + C 9 p 5 then (if ff = 0 then q else s) else if kk = 9 ∧ ii = p ∧ ff = 5 then C 9 p 5 + 1 else C kk ii ff
theorem adT_k {C : CF} {p q s kk : Nat} (h : kk ≠ 12) (h0 : kk ≠ 9) : adT C p q s kk = C kk := by
  funext ii ff
  unfold adT
  rw [if_neg (fun z => h z.1), if_neg (fun z => h0 z.1)]
theorem adT_12s {C : CF} {p q s : Nat} : adT C p q s 12 (3 * p + C 9 p 5) = fun ff => if ff = 0 then q else s := by
  funext ff
  unfold adT
  rw [if_pos ⟨rfl, rfl⟩]
theorem adT_12 {C : CF} {p q s i : Nat} (h : i ≠ 3 * p + C 9 p 5) : adT C p q s 12 i = C 12 i := by
  funext ff
  unfold adT
  rw [if_neg (fun z => h z.2), if_neg (fun z => absurd z.1 (by decide))]
theorem adT_9 {C : CF} {p q s i ff : Nat} (h : ¬ (i = p ∧ ff = 5)) : adT C p q s 9 i ff = C 9 i ff := by
  unfold adT
  rw [if_neg (fun z => absurd z.1 (by decide)), if_neg (fun z => h z.2)]
theorem adT_9s {C : CF} {p q s : Nat} : adT C p q s 9 p 5 = C 9 p 5 + 1 := by
  unfold adT
  rw [if_neg (fun z => absurd z.1 (by decide)), if_pos ⟨rfl, rfl, rfl⟩]
theorem Rep.tray {A : AF} {C : CF} {M M2 : Wd} {p q s y : Nat} (hM : Rep A C M) (hp : p < C 0 0 4) (hN : C 9 p 5 < 3) (hT : ∀ i : Nat, i < C 0 0 4 → C 9 i 5 ≤ 3) (hf : ∀ r2 : Role, r2 ≠ (9, p) → r2 ≠ (14, p) → r2 ≠ (50, 0) → M2 r2 = M r2)
    (h0 : M2 (9, p) = some (A 9 p, .inr (8, (prnFs (A 14 p) (C 9 p)).set 5 (.int (nI (C 9 p 5 + 1)))))) (hr : M2 (14, p) = some (A 14 p, aR "SpoolFarm$Tray" 3 (upN (fun j => if j < C 9 p 5 then some (A 12 (3 * p + j)) else none) (C 9 p 5) (some y)))) (h5 : M2 (50, 0) = some (y, .inr (9, [.int (nI q), .int (nI s)]))) : Rep (up2 A 12 (3 * p + C 9 p 5) y) (adT C p q s) (wmv M2 (50, 0) (12, 3 * p + C 9 p 5)) := by
  have hA : ∀ k : Nat, k ≠ 12 → up2 A 12 (3 * p + C 9 p 5) y k = A k := fun k h => by funext i; exact up2_k h
  have hC : ∀ k : Nat, k ≠ 12 → k ≠ 9 → adT C p q s k = C k := fun k a b => adT_k a b
  intro k2 i2 x hx
  have n5 := no_5x hx
  unfold wmv
  by_cases k12 : k2 = 12
  · subst k12
    rw [cc_12, hC 0 (by decide) (by decide)] at hx
    by_cases hi : i2 = 3 * p + C 9 p 5
    · subst hi
      rw [show (3 * p + C 9 p 5) / 3 = p by omega, show (3 * p + C 9 p 5) % 3 = C 9 p 5 by omega, adT_9s, if_pos ⟨hp, by omega⟩, up2_s, adT_12s] at hx
      rw [if_pos rfl, h5]
      exact hx
    · rw [if_neg (fun z => hi (by cases z; rfl)), if_neg (fun z => by cases z), hf _ (fun z => by cases z) (fun z => by cases z) (fun z => by cases z)]
      rw [up2_i hi, adT_12 hi] at hx
      refine hM 12 i2 x ?_
      rw [cc_12]
      by_cases h3 : i2 / 3 = p
      · rw [h3, adT_9s] at hx
        rw [h3]
        by_cases h4 : p < C 0 0 4 ∧ i2 % 3 < C 9 p 5 + 1
        · rw [if_pos h4] at hx
          rw [if_pos ⟨hp, by omega⟩]
          exact hx
        · rw [if_neg h4] at hx
          cases hx
      · rw [adT_9 (fun z => h3 z.1)] at hx
        exact hx
  rw [if_neg (fun z => k12 (by cases z; rfl)), if_neg (fun z => n5.1 (by cases z; rfl))]
  by_cases k9 : k2 = 9
  · subst k9
    rw [cc_9, hC 0 (by decide) (by decide), hA 9 (by decide), hA 14 (by decide)] at hx
    by_cases hi : i2 = p
    · subst hi
      rw [if_pos hp] at hx
      rw [h0, ← hx]
      unfold prnFs
      rw [adT_9s, adT_9 (by omega), adT_9 (by omega), adT_9 (by omega), adT_9 (by omega)]
      rfl
    · rw [hf _ (fun z => hi (by cases z; rfl)) (fun z => by cases z) (fun z => by cases z)]
      refine hM 9 i2 x ?_
      rw [cc_9, ← hx]
      unfold prnFs
      rw [adT_9 (by omega), adT_9 (by omega), adT_9 (by omega), adT_9 (by omega), adT_9 (by omega)]
  by_cases k14 : k2 = 14
  · subst k14
    rw [cc_14, hC 0 (by decide) (by decide), hA 14 (by decide)] at hx
    by_cases hi : i2 = p
    · subst hi
      rw [if_pos hp] at hx
      rw [hr, ← hx, row_up (N2 := adT C i2 q s 9 i2 5) (a := fun j => A 12 (3 * i2 + j)) (a2 := fun j => up2 A 12 (3 * i2 + C 9 i2 5) y 12 (3 * i2 + j)) adT_9s up2_s (fun j hj => up2_i (by omega))]
    · rw [hf _ (fun z => by cases z) (fun z => hi (by cases z; rfl)) (fun z => by cases z)]
      refine hM 14 i2 x ?_
      rw [cc_14, ← hx, adT_9 (by omega)]
      by_cases h4 : i2 < C 0 0 4
      · rw [if_pos h4, if_pos h4]
        refine congrArg some (congrArg (fun g => (A 14 i2, aR "SpoolFarm$Tray" 3 g)) ?_)
        funext j
        by_cases h5 : j < C 9 i2 5
        · rw [if_pos h5, if_pos h5]
          by_cases h6 : 3 * i2 + j = 3 * p + C 9 p 5
          · exact absurd (show i2 = p by have := hT i2 h4; omega) hi
          · rw [up2_i h6]
        · rw [if_neg h5, if_neg h5]
      · rw [if_neg h4, if_neg h4]
  rw [hf _ (fun z => k9 (by cases z; rfl)) (fun z => k14 (by cases z; rfl)) (fun z => n5.1 (by cases z; rfl))]
  refine hM k2 i2 x ?_
  rw [← hx]
  have hm : modFs (up2 A 12 (3 * p + C 9 p 5) y) = modFs A := by
    unfold modFs
    rw [hA 60 (by decide)]
  have hfm : farmFs (up2 A 12 (3 * p + C 9 p 5) y) = farmFs A := by
    unfold farmFs
    rw [hA 1 (by decide), hA 2 (by decide), hA 3 (by decide), hA 4 (by decide), hA 5 (by decide), hA 6 (by decide)]
  unfold cc
  rw [if_neg k9, if_neg k9, if_neg k12, if_neg k12, if_neg k14, if_neg k14]
  unfold listFs
  simp only [cg_row (hC 60 (by decide) (by decide)) (hC 61 (by decide) (by decide)), hm, hfm, hA 60 (by decide), hA 0 (by decide), hA 1 (by decide), hA 2 (by decide), hA 3 (by decide), hA 4 (by decide), hA 5 (by decide), hA 6 (by decide), hA 7 (by decide), hA 8 (by decide), hA 9 (by decide), hA 10 (by decide), hA 11 (by decide), hA 13 (by decide), hA 70 (by decide), hC 60 (by decide) (by decide), hC 61 (by decide) (by decide), hC 0 (by decide) (by decide), hC 4 (by decide) (by decide), hC 5 (by decide) (by decide), hC 6 (by decide) (by decide), hC 7 (by decide) (by decide), hC 8 (by decide) (by decide), hC 10 (by decide) (by decide), hC 11 (by decide) (by decide), hC 13 (by decide) (by decide), hC 70 (by decide) (by decide)]
end ADDP
