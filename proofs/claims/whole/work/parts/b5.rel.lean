section RELK
/-! releases: the rows besides the model's stay; the room they take -/
theorem S6_kk {C : CF} {x0 x1 x2 b c q kk : Nat} (h : kk ≠ 60) : S6 C x0 x1 x2 b c q kk = C kk := by
  unfold S6
  rw [up3_k h, up3_k h, up3_k h, up3_k h, up3_k h, up3_k h]
theorem grw_kk {C : CF} {i kk : Nat} (h : kk ≠ 60) (h1 : kk ≠ 61) : grw C i kk = C kk := by
  funext a b
  simp only [grw]
  rw [if_neg (fun z => h1 z.1), if_neg (fun z => h z.1)]
theorem gwN_kk {C : CF} {kk : Nat} (h : kk ≠ 60) (h1 : kk ≠ 61) : gwN C kk = C kk := by
  unfold gwN
  split
  · rw [grw_kk h h1, grw_kk h h1, grw_kk h h1, grw_kk h h1]
  · rfl
theorem rlR_kk {C : CF} {k p kk : Nat} (h : kk ≠ 60) (h1 : kk ≠ 61) : rlR C k p kk = C kk := by
  unfold rlR
  split
  · exact S6_kk h
  · unfold noC
    rw [up3_k h, up3_k h, up3_k h, up3_k h, up3_k h, gwN_kk h h1]
    unfold rlB
    rw [up3_k h, up3_k h, up3_k h, up3_k h, up3_k h, up3_k h, up3_k h, up3_k h, up3_k h, up3_k h, up3_k h, up3_k h]
    exact S6_kk h
theorem raS_kk {C : CF} {u p kk : Nat} (h : kk ≠ 60) (h1 : kk ≠ 61) : ∀ j : Nat, raS C u p j kk = C kk
  | 0 => rfl
  | j + 1 => by
    have ih := raS_kk (C := C) (u := u) (p := p) h h1 j
    show (if raG (raS C u p j) u j then rlR (raS C u p j) j p else raS C u p j) kk = C kk
    split
    · rw [rlR_kk h h1, ih]
    · exact ih
theorem raS_27 {C : CF} {u p : Nat} : ∀ j : Nat, raS C u p j 60 100 27 = C 60 100 27
  | 0 => rfl
  | j + 1 => by
    have ih := raS_27 (C := C) (u := u) (p := p) j
    show (if raG (raS C u p j) u j then rlR (raS C u p j) j p else raS C u p j) 60 100 27 = C 60 100 27
    split
    · rw [rl_k 27 (by omega), ih]
    · exact ih
theorem rlR_no {C : CF} {k p : Nat} (h : nR C k p = 0) : rlR C k p 60 100 31 = C 60 100 31 ∧ rlR C k p 61 21 0 = C 61 21 0 := by
  unfold rlR
  rw [if_pos h]
  exact ⟨rfl, rfl⟩
theorem rlR_yes {C : CF} {k p : Nat} (h : ¬ nR C k p = 0) : rlR C k p 60 100 31 = C 60 100 31 + 1 ∧ rlR C k p 61 21 0 = (if C 60 100 31 = C 61 21 0 then 2 * C 61 21 0 else C 61 21 0) := by
  unfold rlR
  rw [if_neg h]
  have e31 : gwN (rlB C k p (nR C k p)) 60 100 31 = C 60 100 31 := by
    unfold gwN
    split <;> rfl
  have e21 : gwN (rlB C k p (nR C k p)) 61 21 0 = (if C 60 100 31 = C 61 21 0 then 2 * C 61 21 0 else C 61 21 0) := by
    unfold gwN
    rw [show rlB C k p (nR C k p) 60 100 31 = C 60 100 31 from rfl, show rlB C k p (nR C k p) 61 21 0 = C 61 21 0 from rfl]
    split
    · rfl
    · rfl
  constructor
  · show gwN (rlB C k p (nR C k p)) 60 100 31 + 1 = _
    rw [e31]
  · exact e21
/-- what a releaseAll takes, by the log it leaves -/
theorem ra_pot {D : CF} {u p : Nat} : ∀ j : Nat, D 60 100 31 ≤ raS D u p j 60 100 31 ∧ raS D u p j 60 100 31 ≤ D 60 100 31 + j ∧ kaC D u p j ≤ 2 * (raS D u p j 60 100 31 - D 60 100 31) ∧ kaL D u p j + 4 * capF (D 60 100 31) ≤ 6 * (raS D u p j 60 100 31 - D 60 100 31) + 4 * capF (raS D u p j 60 100 31) ∧ raC D u p j ≤ 4 * (raS D u p j 60 100 31 - D 60 100 31) ∧ raL D u p j + 8 * D 61 21 0 ≤ 8 * raS D u p j 61 21 0
  | 0 => by
    show D 60 100 31 ≤ D 60 100 31 ∧ D 60 100 31 ≤ D 60 100 31 + 0 ∧ 0 ≤ 2 * (D 60 100 31 - D 60 100 31) ∧ 0 + 4 * capF (D 60 100 31) ≤ 6 * (D 60 100 31 - D 60 100 31) + 4 * capF (D 60 100 31) ∧ 0 ≤ 4 * (D 60 100 31 - D 60 100 31) ∧ 0 + 8 * D 61 21 0 ≤ 8 * D 61 21 0
    omega
  | j + 1 => by
    obtain ⟨h1, h2, h3, h4, h5, h6⟩ := ra_pot (D := D) (u := u) (p := p) j
    have eS : raS D u p (j + 1) = if raG (raS D u p j) u j then rlR (raS D u p j) j p else raS D u p j := rfl
    have eA : kaC D u p (j + 1) = kaC D u p j + if raG (raS D u p j) u j ∧ 0 < nR (raS D u p j) j p then lC (raS D u p j 60 100 31) else 0 := rfl
    have eB : kaL D u p (j + 1) = kaL D u p j + if raG (raS D u p j) u j ∧ 0 < nR (raS D u p j) j p then lS (raS D u p j 60 100 31) else 0 := rfl
    have eC : raC D u p (j + 1) = raC D u p j + if raG (raS D u p j) u j then rC (raS D u p j) j p else 0 := rfl
    have eL : raL D u p (j + 1) = raL D u p j + if raG (raS D u p j) u j then rS (raS D u p j) j p else 0 := rfl
    rw [eS, eA, eB, eC, eL]
    by_cases g : raG (raS D u p j) u j
    · rw [if_pos g, if_pos g, if_pos g]
      by_cases n : nR (raS D u p j) j p = 0
      · have e := rlR_no n
        rw [if_neg (by omega), if_neg (by omega), e.1, e.2]
        unfold rC rS
        rw [if_pos n, if_pos n]
        omega
      · have e := rlR_yes n
        have hp := lS_pot (raS D u p j 60 100 31)
        rw [if_pos ⟨g, by omega⟩, if_pos ⟨g, by omega⟩, e.1, e.2]
        unfold rC rS
        rw [if_neg n, if_neg n]
        unfold gC gS
        by_cases z : raS D u p j 60 100 31 = raS D u p j 61 21 0
        · rw [if_pos z, if_pos z, if_pos z]
          omega
        · rw [if_neg z, if_neg z, if_neg z]
          omega
    · rw [if_neg g, if_neg g, if_neg g, if_neg (fun z => g z.1), if_neg (fun z => g z.1)]
      omega
theorem pg0 {D : CF} {k p : Nat} (hR : RK D k p) : pgR D k p = 0 ↔ nR D k p = 0 := by
  unfold pgR
  constructor
  · intro h
    rcases Nat.eq_zero_or_pos (nR D k p) with z | z
    · exact z
    · have := PT_pos (D := D) (k := k) hR.2.2.2.2.2.2.2.2.1 _ z
      omega
  · intro h
    rw [h, PT_0]
/-- a release that may come out -/
def RlY (C : CF) (x y : Int32) : Prop := ∃ k p : Nat, nI k = x ∧ nI p = y ∧ k < C 60 100 30 ∧ p < C 60 100 29 ∧ 0 < nR C k p
/-- behind a release: what was thrown, what stays, what the log took -/
def AgR (Z : Zp) (A : AF) (C : CF) (x y : Int32) (k : Nat) (A2 : AF) (C2 : CF) : Prop := C2 60 100 27 = k ∧ Iv C2 ∧ St4 A A2 ∧ (C2 7 100 0 = 0 → A2 7 0 = zD Z) ∧ ((C2 60 100 31 = C 60 100 31 + 1 ∧ C2 61 21 0 = (if C 60 100 31 = C 61 21 0 then 2 * C 61 21 0 else C 61 21 0)) ∨ (C2 60 100 31 = C 60 100 31 ∧ C2 61 21 0 = C 61 21 0 ∧ ¬ RlY C x y))
theorem Iv.c7 {C : CF} (h : Iv C) : C 7 100 0 = capF (C 60 100 31) := h.1.2.2.2.2.2.1.2
set_option maxHeartbeats 4000000 in
theorem ag_release {Z : Zp} {A A1 A2 : AF} {C C1 C2 : CF} {x y : Int32} {k : Nat} {v : Option Value} (hI : Iv C) (hA7 : C 7 100 0 = 0 → A 7 0 = zD Z) (hlg : C 60 100 31 + 1 ≤ 40000) (h6 : W_release A C x y k A1 C1) (h7 : K7_release A1 C1 x y v A2 C2) : AgR Z A C x y k A2 C2 ∧ ∃ b : Int32, v = some (.int b) ∧ (k = 0 → lN (C2 70 0 0) = b.toInt64) := by
  obtain ⟨w1, w3, -⟩ := w_release h6
  have e6 : C1 60 = C 60 := w1 60 (by decide) (by decide)
  have e61 : C1 61 = C 61 := w1 61 (by decide) (by decide)
  have hS := hI.1
  have hM := hI.2.1
  have hL := hI.2.2
  have c4 : C 0 0 4 = C 60 100 29 := hS.1.2.1
  have c5 : C 0 0 5 = C 60 100 30 := hS.1.2.2.1
  have oP : C 60 100 29 ≤ 4 := hM.1.2.1
  have oJ : C 60 100 30 ≤ 40 := hM.1.2.2.1
  have hc7 := hI.c7
  have hcf := capF_ok (C 60 100 31)
  obtain ⟨kS, kM, kL⟩ := keep_th hS hM hL 0
  have hE : E2 (up3 C1 60 100 27 0) (up3 C 60 100 27 0) := e2_up ⟨e6, e61⟩ rfl rfl rfl
  have hn : ∀ a b : Nat, nR (up3 C 60 100 27 0) a b = nR C a b := fun _ _ => rfl
  unfold K7_release at h7
  simp only [pgR_q e6] at h7
  rw [e6] at h7
  obtain ⟨bA, rfl, h7⟩ := h7
  have hAG : St4 A1 (AG A1 bA) ∧ AG A1 bA 7 0 = A1 7 0 := ⟨⟨rfl, rfl, rfl, rfl⟩, rfl⟩
  -- an end without a change of the log
  have flat : ∀ t : Nat, A = A1 → ¬ RlY C x y → C2 60 100 27 = t → Iv C2 → C2 60 100 31 = C 60 100 31 → C2 61 21 0 = C 61 21 0 → AgR Z A C x y t (AG A1 bA) C2 := by
    intro t a1 a2 a3 a4 a5 a6
    refine ⟨a3, a4, w3.trans hAG.1, fun h => ?_, Or.inr ⟨a5, a6, a2⟩⟩
    rw [hAG.2, ← a1]
    exact hA7 (by rw [hc7, ← a5, ← a4.c7]; exact h)
  unfold W_release at h6
  rcases h6 with ⟨rfl, r, o, C9, ho, hC1, h6⟩ | ⟨rfl, h6⟩ | ⟨rfl, h6⟩
  · unfold K6_release at h6
    obtain ⟨a6, d6, hA6, k6, p6, g1, g2, g3, g4, g5, g6, g7, g8⟩ := h6
    rw [hn] at g5 g6
    have hk := hM.1.rk (k := k6) (p := p6) (by omega) (by omega)
    rcases h7 with ⟨k7, p7, m1, m2, m3, m4, m5, m6, m7⟩ | ⟨k7, p7, m1, m2, m3, m4, m5, m6, m7⟩ | ⟨k7, m1, m2, m3, m4, m5⟩ | ⟨m3, m4, m5⟩
    · have q1 : k6 = k7 := nI_inj (by omega) (by omega) (g2.trans m2.symm)
      subst q1
      have q2 : p6 = p7 := nI_inj (by omega) (by omega) (g4.trans m4.symm)
      subst q2
      obtain ⟨r1, r2, r3, -⟩ := rl_all kS kM kL (k := k6) (p := p6) (by show k6 < C 60 100 30; omega) (by show p6 < C 60 100 29; omega) hlg
      obtain ⟨r4, r5⟩ := r3 g6
      have hE2 := e2_rlR hE k6 p6
      have hlo : ∀ kk : Nat, kk < 15 → C2 kk = rlK (up3 C 60 100 27 0) C k6 p6 (nR (up3 C 60 100 27 0) k6 p6) kk := by
        intro kk h
        rw [← m6, rlR_kk (by omega) (by omega), up3_k (by omega), ← hC1, up3_k (by omega), ← g7]
      rw [← m6] at hlo ⊢
      have hIv : Iv (rlR (up3 C1 60 100 27 0) k6 p6) := iv_cl ⟨r4, r1, r2⟩ hE2.1 hE2.2 hlo
      have y1 := rlR_yes (C := up3 C 60 100 27 0) (k := k6) (p := p6) (by rw [hn]; omega)
      have z31 : rlR (up3 C1 60 100 27 0) k6 p6 60 100 31 = C 60 100 31 + 1 := by rw [hE2.1]; exact y1.1
      refine ⟨⟨?_, hIv, w3.trans hAG.1, fun h => ?_, Or.inl ⟨z31, by rw [hE2.2]; exact y1.2⟩⟩, ?_⟩
      · rw [rl_k 27 (by omega)]
        exact up3_s
      · have h2 := hIv.c7
        have h3 := (capF_ok (C 60 100 31 + 1)).2.2.1 (by omega)
        rw [z31] at h2
        omega
      · cases Option.some.inj g8
        rw [← m7]
        refine ⟨_, rfl, fun _ => ?_⟩
        rw [rlR_kk (by decide) (by decide), up3_k (by decide), ← hC1, up3_s, ho]
        rfl
    · have q1 : k6 = k7 := nI_inj (by omega) (by omega) (g2.trans m2.symm)
      subst q1
      have q2 : p6 = p7 := nI_inj (by omega) (by omega) (g4.trans m4.symm)
      subst q2
      have := (pg0 hk).mp m5
      omega
    · exact absurd g4 (m3 _ (by omega))
    · exact absurd g2 (m3 _ (by omega))
  · unfold E6_release at h6
    obtain ⟨a1, h6⟩ := h6
    have nono : (∀ k : Nat, k < C 60 100 30 → nI k ≠ x) ∨ (∀ p : Nat, p < C 60 100 29 → nI p ≠ y) := by
      rcases h6 with ⟨-, g1, -⟩ | ⟨k6, -, -, -, g1, -⟩ | ⟨k6, p6, g1, -⟩
      · exact Or.inl (fun k h => g1 k (by omega))
      · exact Or.inr (fun k h => g1 k (by omega))
      · exact absurd g1 (by decide +kernel)
    have hC : C = C1 := by
      rcases h6 with ⟨-, -, g1⟩ | ⟨k6, -, -, -, -, g1⟩ | ⟨k6, p6, g1, -⟩
      · exact g1
      · exact g1
      · exact absurd g1 (by decide +kernel)
    have nr : ¬ RlY C x y := by
      rintro ⟨k9, p9, t1, t2, t3, t4, -⟩
      rcases nono with q | q
      · exact q _ t3 t1
      · exact q _ t4 t2
    have fin : C2 = up3 C1 60 100 27 1 → some (Value.int (nI 0)) = v → AgR Z A C x y 1 (AG A1 bA) C2 ∧ ∃ b : Int32, v = some (.int b) ∧ (1 = 0 → lN (C2 70 0 0) = b.toInt64) := by
      intro t1 t2
      obtain ⟨b1, b2, -, b4, b5⟩ := agb_th hI (fun kk _ => congrFun hC.symm kk) e6 e61 1 (St5.rf (A := A))
      rw [← t2]
      rw [t1]
      rw [t1] at flat
      exact ⟨flat 1 a1 nr b1 b2 b4 b5, _, rfl, fun h => absurd h (by decide)⟩
    rcases h7 with ⟨k7, p7, m1, m2, m3, m4, m5, m6, m7⟩ | ⟨k7, p7, m1, m2, m3, m4, m5, m6, m7⟩ | ⟨k7, m1, m2, m3, m4, m5⟩ | ⟨m3, m4, m5⟩
    · rcases nono with q | q
      · exact absurd m2 (q _ m1)
      · exact absurd m4 (q _ m3)
    · rcases nono with q | q
      · exact absurd m2 (q _ m1)
      · exact absurd m4 (q _ m3)
    · exact fin m4.symm m5
    · exact fin m4.symm m5
  · unfold E6_release at h6
    obtain ⟨a1, h6⟩ := h6
    rcases h6 with ⟨g1, -⟩ | ⟨k6, g1, -⟩ | ⟨k6, p6, -, g1, g2, g3, g4, g5, g7⟩
    · exact absurd g1 (by decide +kernel)
    · exact absurd g1 (by decide +kernel)
    · rw [hn] at g5
      have hk := hM.1.rk (k := k6) (p := p6) (by omega) (by omega)
      have hz := (pg0 hk).mpr g5
      rcases h7 with ⟨k7, p7, m1, m2, m3, m4, m5, m6, m7⟩ | ⟨k7, p7, m1, m2, m3, m4, m5, m6, m7⟩ | ⟨k7, m1, m2, m3, m4, m5⟩ | ⟨m3, m4, m5⟩
      · have q1 : k6 = k7 := nI_inj (by omega) (by omega) (g2.trans m2.symm)
        subst q1
        have q2 : p6 = p7 := nI_inj (by omega) (by omega) (g4.trans m4.symm)
        subst q2
        exact absurd hz m5
      · obtain ⟨⟨b1, b2, -, b4, b5⟩, -⟩ := agb_sc (A := A) (A2 := A) (w := plF (up3 C 60 100 27 0) C k6 p6 (nR (up3 C 60 100 27 0) k6 p6) (coR (up3 C 60 100 27 0) k6 p6 (nR (up3 C 60 100 27 0) k6 p6))) hI (fun kk h => by rw [← g7]; rfl) e6 e61 m6 St5.rf
        refine ⟨flat 2 a1 ?_ b1 b2 b4 b5, ?_⟩
        · rintro ⟨k9, p9, t1, t2, t3, t4, t5⟩
          have q1 : k6 = k9 := nI_inj (by omega) (by omega) (g2.trans t1.symm)
          subst q1
          have q2 : p6 = p9 := nI_inj (by omega) (by omega) (g4.trans t2.symm)
          subst q2
          omega
        · rw [← m7]
          exact ⟨_, rfl, fun h => absurd h (by decide)⟩
      · exact absurd g4 (m3 _ (by omega))
      · exact absurd g2 (m3 _ (by omega))
/-- behind a releaseAll -/
def AgA (Z : Zp) (A : AF) (C : CF) (x y : Int32) (k : Nat) (A2 : AF) (C1 C2 : CF) : Prop := C2 60 100 27 = k ∧ Iv C2 ∧ St4 A A2 ∧ (C2 7 100 0 = 0 → A2 7 0 = zD Z) ∧ ((∃ u p : Nat, u < C 60 100 28 ∧ nI u = x ∧ p < C 60 100 29 ∧ nI p = y ∧ C2 60 100 31 = raS (up3 C 60 100 27 0) u p (C 60 100 30) 60 100 31 ∧ C2 61 21 0 = raS (up3 C 60 100 27 0) u p (C 60 100 30) 61 21 0) ∨ (C2 60 100 31 = C 60 100 31 ∧ C2 61 21 0 = C 61 21 0 ∧ ¬ ∃ u p : Nat, u < C 60 100 28 ∧ nI u = x ∧ p < C 60 100 29 ∧ nI p = y))
set_option maxHeartbeats 4000000 in
theorem ag_releaseAll {Z : Zp} {A A1 A2 : AF} {C C1 C2 : CF} {x y : Int32} {k : Nat} {v : Option Value} (hI : Iv C) (hA7 : C 7 100 0 = 0 → A 7 0 = zD Z) (hlg : C 60 100 31 + 40 ≤ 40000) (h6 : W_releaseAll A C Z x y k A1 C1) (h7 : K7_releaseAll A1 C1 Z x y v A2 C2) : AgA Z A C x y k A2 C1 C2 ∧ ∃ b : Int32, v = some (.int b) ∧ (k = 0 → lN (C2 70 0 0) = b.toInt64) := by
  obtain ⟨w1, w3, -⟩ := w_releaseAll h6
  have e6 : C1 60 = C 60 := w1 60 (by decide) (by decide)
  have e61 : C1 61 = C 61 := w1 61 (by decide) (by decide)
  have hS := hI.1
  have hM := hI.2.1
  have hL := hI.2.2
  have c3 : C 0 0 3 = C 60 100 28 := hS.1.1
  have c4 : C 0 0 4 = C 60 100 29 := hS.1.2.1
  have oU : C 60 100 28 ≤ 6 := hM.1.1
  have oP : C 60 100 29 ≤ 4 := hM.1.2.1
  have hc7 := hI.c7
  obtain ⟨kS, kM, kL⟩ := keep_th hS hM hL 0
  have hE : E2 (up3 C1 60 100 27 0) (up3 C 60 100 27 0) := e2_up ⟨e6, e61⟩ rfl rfl rfl
  unfold K7_releaseAll at h7
  rw [e6] at h7
  obtain ⟨bA, rfl, h7⟩ := h7
  have hAG : St4 A1 (AG A1 bA) ∧ AG A1 bA 7 0 = A1 7 0 := ⟨⟨rfl, rfl, rfl, rfl⟩, rfl⟩
  unfold W_releaseAll at h6
  rcases h6 with ⟨rfl, r, o, C9, ho, hC1, h6⟩ | ⟨rfl, h6⟩
  · unfold K6_releaseAll at h6
    obtain ⟨a6, d6, hA6, u6, p6, g1, g2, g3, g4, g5, g6, g7, g8, g9⟩ := h6
    rcases h7 with ⟨u7, p7, m1, m2, m3, m4, m6, m7⟩ | ⟨k7, m1, m2, m3, m4, m5⟩ | ⟨m3, m4, m5⟩
    · have q1 : u6 = u7 := nI_inj (by omega) (by omega) (g2.trans m2.symm)
      subst q1
      have q2 : p6 = p7 := nI_inj (by omega) (by omega) (g4.trans m4.symm)
      subst q2
      have hE2 := e2_raS hE u6 p6 (C 60 100 30)
      have hO := raS_ok (u := u6) (p := p6) kM (by show p6 < C 60 100 29; omega) hlg (C 60 100 30) (Nat.le_refl _)
      have hlo : ∀ kk : Nat, kk < 15 → raS (up3 C1 60 100 27 0) u6 p6 (C 60 100 30) kk = C9 kk := by
        intro kk h
        rw [raS_kk (by omega) (by omega), up3_k (by omega), ← hC1, up3_k (by omega)]
      have hIv : Iv (raS (up3 C1 60 100 27 0) u6 p6 (C 60 100 30)) := iv_cl ⟨g5, hO.1, g6⟩ hE2.1 hE2.2 hlo
      rw [← m6]
      refine ⟨⟨?_, hIv, w3.trans hAG.1, fun h => ?_, Or.inl ⟨u6, p6, m1, m2, m3, m4, by rw [hE2.1], by rw [hE2.2]⟩⟩, ?_⟩
      · rw [raS_27]
        exact up3_s
      · rw [hAG.2, ← hA6]
        have h2 : C9 7 100 0 = 0 := by rw [← hlo 7 (by decide)]; exact h
        exact g7 h2
      · cases Option.some.inj g9
        rw [← m7]
        refine ⟨_, rfl, fun _ => ?_⟩
        rw [raN_q hE, raS_kk (by decide) (by decide), up3_k (by decide), ← hC1, up3_s, ho]
        rfl
    · exact absurd g4 (m3 _ (by omega))
    · exact absurd g2 (m3 _ (by omega))
  · unfold E6_releaseAll at h6
    obtain ⟨a1, h6⟩ := h6
    have nono : (∀ k : Nat, k < C 60 100 28 → nI k ≠ x) ∨ (∀ p : Nat, p < C 60 100 29 → nI p ≠ y) := by
      rcases h6 with ⟨-, g1, -⟩ | ⟨k6, -, -, -, g1, -⟩
      · exact Or.inl (fun k h => g1 k (by omega))
      · exact Or.inr (fun k h => g1 k (by omega))
    have hC : C = C1 := by
      rcases h6 with ⟨-, -, g1⟩ | ⟨k6, -, -, -, -, g1⟩
      · exact g1
      · exact g1
    have fin : C2 = up3 C1 60 100 27 1 → some (Value.int (nI 0)) = v → AgA Z A C x y 1 (AG A1 bA) C1 C2 ∧ ∃ b : Int32, v = some (.int b) ∧ (1 = 0 → lN (C2 70 0 0) = b.toInt64) := by
      intro t1 t2
      obtain ⟨b1, b2, -, b4, b5⟩ := agb_th hI (fun kk _ => congrFun hC.symm kk) e6 e61 1 (St5.rf (A := A))
      rw [← t2]
      rw [← t1] at b1 b2 b4 b5
      refine ⟨⟨b1, b2, w3.trans hAG.1, fun h => ?_, Or.inr ⟨b4, b5, ?_⟩⟩, _, rfl, fun h => absurd h (by decide)⟩
      · rw [hAG.2, ← a1]
        exact hA7 (by rw [hc7, ← b4, ← b2.c7]; exact h)
      · rintro ⟨u9, p9, t1, t2, t3, t4⟩
        rcases nono with q | q
        · exact q _ t1 t2
        · exact q _ t3 t4
    rcases h7 with ⟨u7, p7, m1, m2, m3, m4, m6, m7⟩ | ⟨k7, m1, m2, m3, m4, m5⟩ | ⟨m3, m4, m5⟩
    · rcases nono with q | q
      · exact absurd m2 (q _ m1)
      · exact absurd m4 (q _ m3)
    · exact fin m4.symm m5
    · exact fin m4.symm m5
end RELK
