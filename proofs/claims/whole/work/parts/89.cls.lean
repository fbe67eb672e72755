theorem held_iff {D C : CF} (hS : Sm D C) (hM : OkM D) {j : Nat} (hj : j < D 60 100 30) : (C 11 j 8 = 0 ∧ C 11 j 9 < C 11 j 3) ↔ (¬ dnR D j ∧ D 60 15 j = 0) := by
  obtain ⟨q0, q1, q2, q3, q4, q5, q6, q7, q8, q9, q10, q11, q12, q13⟩ := hS.2.2.2.2.1 j hj
  obtain ⟨h40, hd, hg, hg2, hcp, ho, hal, hpt, hu, h9, hc1⟩ := hM.1.jk hj
  rw [q8, q9, q3]
  unfold dnR
  constructor
  · intro h
    refine ⟨fun z => ?_, h.1⟩
    have e := h.2
    rw [z, pto_all _ _ _ hg, Nat.mul_comm] at e
    omega
  · intro h
    refine ⟨h.2, ?_⟩
    have e := pto_lt (d := D 60 13 j) hg (show D 60 19 j < csN (D 60 13 j) (D 60 17 j) * D 60 18 j by omega)
    rw [Nat.mul_comm] at e
    exact e
theorem PT_pos {D : CF} {k : Nat} (hg : 1 ≤ D 60 17 k) : ∀ n : Nat, 0 < n → 0 < PT D k n
  | 0, h => absurd h (Nat.lt_irrefl _)
  | n + 1, _ => by
    have e := PT_step D k n hg
    have e2 := ponN_le (D 60 13 k) (D 60 17 k) (D 60 19 k + n)
    omega
theorem rl_dn {D : CF} {k p : Nat} (hM : OkM D) (hk : k < D 60 100 30) (hp : p < D 60 100 29) (hn : 0 < nR D k p) : dnR (rlR D k p) k ↔ coR D k p (nR D k p) = 100 := by
  have hR := hM.1.rk hk hp
  have hF := nR_FR hR
  obtain ⟨r0, r1, r2, r3, r4, r5, r6, r7, r8, r9, r10, r11, r12, r13, r14, r15, r16, r17, r18, r19, -⟩ := rl_tab hM hR hF hn
  have hco := co_c D k p (nR D k p)
  have h5 := hF.1.2.2.2.2
  unfold dnR
  rw [r19, r13, r17, r18, if_pos rfl]
  omega
theorem pg_pos {D : CF} {k p : Nat} (hM : OkM D) (hk : k < D 60 100 30) (hp : p < D 60 100 29) : 0 < nR D k p ↔ pgR D k p ≠ 0 := by
  have hR := hM.1.rk hk hp
  constructor
  · intro h
    have := PT_pos (D := D) (k := k) hR.2.2.2.2.2.2.2.2.1 _ h
    unfold pgR
    omega
  · intro h
    rcases Nat.eq_zero_or_pos (nR D k p) with z | z
    · unfold pgR at h
      rw [z, PT_0] at h
      exact absurd rfl h
    · exact z
/-- one job of a releaseAll -/
theorem ra_no {D : CF} {u p j : Nat} (h : ¬ raG (raS D u p j) u j) : raS D u p (j + 1) = raS D u p j ∧ raN D u p (j + 1) = raN D u p j ∧ kaC D u p (j + 1) = kaC D u p j ∧ kaL D u p (j + 1) = kaL D u p j := by
  refine ⟨?_, ?_, ?_, ?_⟩
  · show (if raG (raS D u p j) u j then _ else _) = _
    rw [if_neg h]
  · show _ + (if raG (raS D u p j) u j ∧ _ then 1 else 0) = _
    rw [if_neg (fun z => h z.1), Nat.add_zero]
  · show _ + (if raG (raS D u p j) u j ∧ _ then _ else 0) = _
    rw [if_neg (fun z => h z.1), Nat.add_zero]
  · show _ + (if raG (raS D u p j) u j ∧ _ then _ else 0) = _
    rw [if_neg (fun z => h z.1), Nat.add_zero]
theorem ra_y0 {D Dj : CF} {u p j : Nat} (e : raS D u p j = Dj) (h : raG Dj u j) (hn : nR Dj j p = 0) (hM : OkM Dj) (hk : j < Dj 60 100 30) (hp : p < Dj 60 100 29) : raS D u p (j + 1) = rlR Dj j p ∧ raN D u p (j + 1) = raN D u p j ∧ kaC D u p (j + 1) = kaC D u p j ∧ kaL D u p (j + 1) = kaL D u p j := by
  subst e
  have h2 : ¬ 0 < nR (raS D u p j) j p := by omega
  have h3 : pgR (raS D u p j) j p = 0 := by
    rcases Nat.eq_zero_or_pos (pgR (raS D u p j) j p) with z | z
    · exact z
    · exact absurd ((pg_pos hM hk hp).mpr (by omega)) h2
  refine ⟨?_, ?_, ?_, ?_⟩
  · show (if raG (raS D u p j) u j then _ else _) = _
    rw [if_pos h]
  · show _ + (if raG (raS D u p j) u j ∧ pgR (raS D u p j) j p ≠ 0 ∧ _ then 1 else 0) = _
    rw [if_neg (fun z => z.2.1 h3), Nat.add_zero]
  · show _ + (if raG (raS D u p j) u j ∧ 0 < nR (raS D u p j) j p then _ else 0) = _
    rw [if_neg (fun z => h2 z.2), Nat.add_zero]
  · show _ + (if raG (raS D u p j) u j ∧ 0 < nR (raS D u p j) j p then _ else 0) = _
    rw [if_neg (fun z => h2 z.2), Nat.add_zero]
theorem ra_y1 {D Dj : CF} {u p j : Nat} (e : raS D u p j = Dj) (h : raG Dj u j) (hn : 0 < nR Dj j p) (hM : OkM Dj) (hk : j < Dj 60 100 30) (hp : p < Dj 60 100 29) : raS D u p (j + 1) = rlR Dj j p ∧ raN D u p (j + 1) = raN D u p j + (if coR Dj j p (nR Dj j p) = 100 then 1 else 0) ∧ kaC D u p (j + 1) = kaC D u p j + lC (Dj 60 100 31) ∧ kaL D u p (j + 1) = kaL D u p j + lS (Dj 60 100 31) := by
  subst e
  have h3 := (pg_pos hM hk hp).mp hn
  have h4 := rl_dn hM hk hp hn
  refine ⟨?_, ?_, ?_, ?_⟩
  · show (if raG (raS D u p j) u j then _ else _) = _
    rw [if_pos h]
  · show _ + (if raG (raS D u p j) u j ∧ pgR (raS D u p j) j p ≠ 0 ∧ dnR (rlR (raS D u p j) j p) j then 1 else 0) = _
    by_cases c : coR (raS D u p j) j p (nR (raS D u p j) j p) = 100
    · rw [if_pos c, if_pos ⟨h, h3, h4.mpr c⟩]
    · rw [if_neg c, if_neg (fun z => c (h4.mp z.2.2))]
  · show _ + (if raG (raS D u p j) u j ∧ 0 < nR (raS D u p j) j p then _ else 0) = _
    rw [if_pos ⟨h, hn⟩]
  · show _ + (if raG (raS D u p j) u j ∧ 0 < nR (raS D u p j) j p then _ else 0) = _
    rw [if_pos ⟨h, hn⟩]
theorem rl_7 {D C : CF} (hS : Sm D C) {k p n : Nat} : rlK D C k p n 7 100 0 ≠ 0 := by
  show adE (rlK0 D C k p n) k (D 60 16 k) p (PT D k n) n (coN D k n) 7 100 0 ≠ 0
  rw [adE_7]
  show capN (C 7 100 0) (C 4 0 2) ≠ 0
  have h := hS.2.2.2.2.2.1
  rw [h.1, h.2]
  have e : capN (capF (D 60 100 31)) (D 60 100 31) = capF (D 60 100 31 + 1) := rfl
  have := capF_ok (D 60 100 31 + 1)
  omega
theorem PlC_o {D C : CF} {k p j s kk : Nat} (h : kk ≠ 6) : PlC D C k p j s kk = C kk := by
  funext ii ff
  unfold PlC
  rw [if_neg (fun z => h z.1)]
set_option maxHeartbeats 4000000 in
set_option maxRecDepth 100000 in
theorem k_X6_releaseAll (Z : Zp) (l : Launch) (A : AF) (C : CF) (D : CF) (hS : Sm D C) (hM : OkM D) (hL : OkL D) (x y : Int32) (hA7 : C 7 100 0 = 0 → A 7 0 = zD Z) (hlg4 : D 60 100 31 + 40 ≤ 40000) (mc ms : Nat) (hm3 : 3 ≤ mc ∧ 18 ≤ ms) (hmr : ∀ u p : Nat, nI u = x → nI p = y → u < C 0 0 3 → p < C 0 0 4 → 2 + kaC D u p (D 60 100 30) ≤ mc ∧ 12 + kaL D u p (D 60 100 30) ≤ ms) (hfl : l.stackTraces = false) : CtS Z l yX6_releaseAll wsX6_releaseAll ({ frames := 8, cells := mc, slots := ms, locals := 223 }) [.ref (A 0 0), .int x, .int y] A C mc ms (fun v A2 C2 => ∃ (a : Nat → Nat) (d : Nat), AO A a d = A2 ∧ (∃ k_2 k_6 : Nat, k_2 < C 0 0 3 ∧ nI k_2 = x ∧ k_6 < C 0 0 4 ∧ nI k_6 = y ∧ Sm (raS D k_2 k_6 (D 60 100 30)) C2 ∧ OkL (raS D k_2 k_6 (D 60 100 30)) ∧ (C2 7 100 0 = 0 → d = zD Z) ∧ (∀ kk : Nat, 15 ≤ kk → C2 kk = C kk) ∧ some (.int (nI (raN D k_2 k_6 (D 60 100 30)))) = v)) (fun E A2 C2 => A = A2 ∧ ((E = "java/lang/IndexOutOfBoundsException" ∧ (∀ k : Nat, k < C 0 0 3 → nI k ≠ x) ∧ C = C2) ∨ (∃ k_2 : Nat, E = "java/lang/IndexOutOfBoundsException" ∧ k_2 < C 0 0 3 ∧ nI k_2 = x ∧ (∀ k : Nat, k < C 0 0 4 → nI k ≠ y) ∧ C = C2))) := by
  refine CtS.of (cc0 := cX6_releaseAll) (maxL := 9) (ret := (some .int)) (by decide) rfl (Nat.le_of_ble_eq_true rfl) ?_
  intro M0_ p_ e_ s_ m_ args_ below_ meth_ c_ S hz hml hex hlo hr hin
  refine s_loc (L2 := [(0, .ref (A 0 0)), (1, .int x), (2, .int y)]) rfl ?_
  have i_RX1 : ∀ w ∈ u_ws RX1 TX1 14, w ∈ wsX6_releaseAll := by decide +kernel
  have i_RX2 : ∀ w ∈ u_ws RX2 TX2 10, w ∈ wsX6_releaseAll := by decide +kernel
  have i_RX6 : ∀ w ∈ u_ws RX6 TX6 12, w ∈ wsX6_releaseAll := by decide +kernel
  have hK := hS.okk hM hL
  obtain ⟨⟨k3, k4, k5, k6, k7, k8⟩, kU, kP, kT, kJ, kL, kE, kB⟩ := id hK
  obtain ⟨hO, hG, hX⟩ := id hM
  have cu := hS.1.1
  have cp := hS.1.2.1
  have cj := hS.1.2.2.1
  have m1 : 0 + 1 ≤ mc := by omega
  have m2 : 0 + 1 + 1 ≤ mc := by omega
  have m3 : 0 + 1 + 1 + 0 + 1 ≤ mc := by omega
  have s1 : 0 + 6 ≤ ms := by omega
  have s2 : 0 + 6 + 6 ≤ ms := by omega
  have s3 : 0 + 6 + 6 + 0 + 6 ≤ ms := by omega
  refine s_aload_n (pc := 0) S 0 dX6_releaseAll_0 rfl rfl ?_
  refine s_iload_n (pc := 1) S 1 dX6_releaseAll_1 rfl rfl ?_
  refine s_callV (pc := 2) S hz hml [.int x] (k_X6_userAt Z l A C x k3 hfl) (cwV 1 S.2.2.2.2 gX6_releaseAll_X6_userAt rfl rfl rfl (by decide +kernel) ⟨by first | exact Nat.le_of_ble_eq_true rfl | exact m1 | exact m2 | exact m3 | exact s1 | exact s2 | exact s3 | exact c1 | exact d1 | exact c2 | exact d2_ | exact c3 | exact d3 | exact c9 | exact d9, by first | exact Nat.le_of_ble_eq_true rfl | exact m1 | exact m2 | exact m3 | exact s1 | exact s2 | exact s3 | exact c1 | exact d1 | exact c2 | exact d2_ | exact c3 | exact d3 | exact c9 | exact d9⟩) (cc_farm (A := A) (C := C)) rfl rfl rfl (by first | exact Nat.le_of_ble_eq_true rfl | exact m1 | exact m2 | exact m3 | exact s1 | exact s2 | exact s3 | exact c1 | exact d1 | exact c2 | exact d2_ | exact c3 | exact d3 | exact c9 | exact d9) dX6_releaseAll_2 ⟨by first | exact Nat.le_of_ble_eq_true rfl | exact m1 | exact m2 | exact m3 | exact s1 | exact s2 | exact s3 | exact c1 | exact d1 | exact c2 | exact d2_ | exact c3 | exact d3 | exact c9 | exact d9, by first | exact Nat.le_of_ble_eq_true rfl | exact m1 | exact m2 | exact m3 | exact s1 | exact s2 | exact s3 | exact c1 | exact d1 | exact c2 | exact d2_ | exact c3 | exact d3 | exact c9 | exact d9⟩ (fun E A2 C2 h_1 => ?_) (fun v A2 C2 h_1 => ?_)
  · obtain ⟨rfl, rfl, n_4, rfl⟩ := h_1
    exact s_out S hz hex hlo ⟨rfl, Or.inl ⟨rfl, n_4, rfl⟩⟩ (by first | exact Nat.le_of_ble_eq_true rfl | exact m1 | exact m2 | exact m3 | exact s1 | exact s2 | exact s3 | exact c1 | exact d1 | exact c2 | exact d2_ | exact c3 | exact d3 | exact c9 | exact d9) (by first | exact Nat.le_of_ble_eq_true rfl | exact m1 | exact m2 | exact m3 | exact s1 | exact s2 | exact s3 | exact c1 | exact d1 | exact c2 | exact d2_ | exact c3 | exact d3 | exact c9 | exact d9)
  · obtain ⟨rfl, rfl, k_2, hk_3, rfl, rfl⟩ := h_1
    have hD_k_2 : k_2 < D 60 100 28 := by omega
    refine s_pop (pc := 5) S dX6_releaseAll_5 rfl ?_
    refine s_aload_n (pc := 6) S 0 dX6_releaseAll_6 rfl rfl ?_
    refine s_iload_n (pc := 7) S 2 dX6_releaseAll_7 rfl rfl ?_
    refine s_callV (pc := 8) S hz hml [.int y] (k_X6_printerAt Z l A C y k4 hfl) (cwV 1 S.2.2.2.2 gX6_releaseAll_X6_printerAt rfl rfl rfl (by decide +kernel) ⟨by first | exact Nat.le_of_ble_eq_true rfl | exact m1 | exact m2 | exact m3 | exact s1 | exact s2 | exact s3 | exact c1 | exact d1 | exact c2 | exact d2_ | exact c3 | exact d3 | exact c9 | exact d9, by first | exact Nat.le_of_ble_eq_true rfl | exact m1 | exact m2 | exact m3 | exact s1 | exact s2 | exact s3 | exact c1 | exact d1 | exact c2 | exact d2_ | exact c3 | exact d3 | exact c9 | exact d9⟩) (cc_farm (A := A) (C := C)) rfl rfl rfl (by first | exact Nat.le_of_ble_eq_true rfl | exact m1 | exact m2 | exact m3 | exact s1 | exact s2 | exact s3 | exact c1 | exact d1 | exact c2 | exact d2_ | exact c3 | exact d3 | exact c9 | exact d9) dX6_releaseAll_8 ⟨by first | exact Nat.le_of_ble_eq_true rfl | exact m1 | exact m2 | exact m3 | exact s1 | exact s2 | exact s3 | exact c1 | exact d1 | exact c2 | exact d2_ | exact c3 | exact d3 | exact c9 | exact d9, by first | exact Nat.le_of_ble_eq_true rfl | exact m1 | exact m2 | exact m3 | exact s1 | exact s2 | exact s3 | exact c1 | exact d1 | exact c2 | exact d2_ | exact c3 | exact d3 | exact c9 | exact d9⟩ (fun E A2 C2 h_5 => ?_) (fun v A2 C2 h_5 => ?_)
    · obtain ⟨rfl, rfl, n_8, rfl⟩ := h_5
      exact s_out S hz hex hlo ⟨rfl, Or.inr (⟨k_2, rfl, hk_3, rfl, n_8, rfl⟩)⟩ (by first | exact Nat.le_of_ble_eq_true rfl | exact m1 | exact m2 | exact m3 | exact s1 | exact s2 | exact s3 | exact c1 | exact d1 | exact c2 | exact d2_ | exact c3 | exact d3 | exact c9 | exact d9) (by first | exact Nat.le_of_ble_eq_true rfl | exact m1 | exact m2 | exact m3 | exact s1 | exact s2 | exact s3 | exact c1 | exact d1 | exact c2 | exact d2_ | exact c3 | exact d3 | exact c9 | exact d9)
    · obtain ⟨rfl, rfl, k_6, hk_7, rfl, rfl⟩ := h_5
      have hD_k_6 : k_6 < D 60 100 29 := by omega
      refine s_astore_n (pc := 11) S [(3, .ref (A 9 k_6)), (0, .ref (A 0 0)), (1, .int (nI k_2)), (2, .int (nI k_6))] dX6_releaseAll_11 rfl (by decide) rfl ?_
      refine s_iconst (pc := 12) S (v := (nI 0)) dX6_releaseAll_12 (by decide) ?_
      refine s_istore (pc := 13) S [(4, .int (nI 0)), (3, .ref (A 9 k_6)), (0, .ref (A 0 0)), (1, .int (nI k_2)), (2, .int (nI k_6))] dX6_releaseAll_13 (by decide) rfl ?_
      refine s_aload_n (pc := 15) S 2 dX6_releaseAll_15 rfl rfl ?_
      refine s_get (pc := 16) S hz (ref := "SpoolFarm") (v := .ref (A 3 0)) (cc_farm (A := A) (C := C)) i_RX6 rfl 2 (Nat.le_of_ble_eq_true rfl) (by decide +kernel) (fun _ h => h) rfl dX6_releaseAll_16 ?_
      refine s_astore (pc := 19) S [(5, .ref (A 3 0)), (4, .int (nI 0)), (3, .ref (A 9 k_6)), (0, .ref (A 0 0)), (1, .int (nI k_2)), (2, .int (nI k_6))] dX6_releaseAll_19 (by decide) rfl ?_
      refine s_aload (pc := 21) S 0 dX6_releaseAll_21 rfl ?_
      refine s_alen (pc := 23) S hz (n := 40) (cc_jobs (A := A) (C := C)) dX6_releaseAll_23 ?_
      refine s_istore (pc := 24) S [(6, .int (nI 40)), (5, .ref (A 3 0)), (4, .int (nI 0)), (3, .ref (A 9 k_6)), (0, .ref (A 0 0)), (1, .int (nI k_2)), (2, .int (nI k_6))] dX6_releaseAll_24 (by decide) rfl ?_
      refine s_iconst (pc := 26) S (v := (nI 0)) dX6_releaseAll_26 (by decide) ?_
      refine s_istore (pc := 27) S [(7, .int (nI 0)), (6, .int (nI 40)), (5, .ref (A 3 0)), (4, .int (nI 0)), (3, .ref (A 9 k_6)), (0, .ref (A 0 0)), (1, .int (nI k_2)), (2, .int (nI k_6))] dX6_releaseAll_27 (by decide) rfl ?_
      refine s_perm [0, 3, 1, 2, 4, 6, 7, 5] [(7, .int (nI 0)), (4, .int (nI 0)), (6, .int (nI 40)), (5, .ref (A 3 0)), (3, .ref (A 9 k_6)), (1, .int (nI k_2)), (2, .int (nI k_6)), (0, .ref (A 0 0))] rfl ?_
      refine s_loc (L2 := [(7, .int (nI 0)), (4, .int (nI (raN D k_2 k_6 (min 0 (D 60 100 30))))), (6, .int (nI 40)), (5, .ref (A 3 0)), (3, .ref (A 9 k_6)), (1, .int (nI k_2)), (2, .int (nI k_6)), (0, .ref (A 0 0))]) (by rw [Nat.zero_min]; rfl) ?_
      have hmr2 := hmr k_2 k_6 rfl rfl (by assumption) (by assumption)
      refine s_A (AO_self A) ?_
      refine s_loopV (σ := Nat × (Nat → Nat) × Nat × CF) (fun y => y.1 ≤ 40 ∧ Sm (raS D k_2 k_6 (min y.1 (D 60 100 30))) y.2.2.2 ∧ OkL (raS D k_2 k_6 (min y.1 (D 60 100 30))) ∧ (y.2.2.2 7 100 0 = 0 → y.2.2.1 = zD Z) ∧ ∀ kk : Nat, 15 ≤ kk → y.2.2.2 kk = C kk) (fun y => 40 - y.1) (fun y => 0 + 1 + 1 + kaC D k_2 k_6 (min y.1 (D 60 100 30))) (fun y => 0 + 6 + 6 + kaL D k_2 k_6 (min y.1 (D 60 100 30))) (fun y => AO A y.2.1 y.2.2.1) (fun y => y.2.2.2) (fun y => [(7, .int (nI (y.1))), (4, .int (nI (raN D k_2 k_6 (min y.1 (D 60 100 30))))), (6, .int (nI 40)), (5, .ref ((AO A y.2.1 y.2.2.1) 3 0)), (3, .ref ((AO A y.2.1 y.2.2.1) 9 k_6)), (1, .int (nI k_2)), (2, .int (nI k_6)), (0, .ref ((AO A y.2.1 y.2.2.1) 0 0))]) (0, A 13, A 7 0, C) ⟨by dsimp only; omega, by dsimp only; rw [Nat.zero_min]; exact hS, by dsimp only; rw [Nat.zero_min]; exact hL, hA7, fun _ _ => rfl⟩ (by dsimp only; rw [Nat.zero_min]; rfl) (by dsimp only; rw [Nat.zero_min]; rfl) rfl rfl rfl ?_
      intro y hI ih
      obtain ⟨j, a, d, Cj⟩ := y
      obtain ⟨hj40, hSj, hLj, hz7, hk15⟩ := hI
      dsimp only at hj40 hSj hLj hz7 hk15 ih ⊢
      have hD_p : k_6 < D 60 100 29 := by omega
      obtain ⟨hMj, h31, h28, h29, h30⟩ := raS_ok (u := k_2) hM hD_p hlg4 (min j (D 60 100 30)) (Nat.min_le_right _ _)
      have cjj := hSj.1.2.2.1
      have cpp := hSj.1.2.1
      have hpC : k_6 < Cj 0 0 4 := by omega
      have hmj := raN_le D k_2 k_6 (min j (D 60 100 30))
      refine s_iload (pc := 29) S 0 dX6_releaseAll_29 rfl ?_
      refine s_iload (pc := 31) S 2 dX6_releaseAll_31 rfl ?_
      refine s_icmp_geN (pc := 33) S 117 dX6_releaseAll_33 (by decide) (by omega) (by omega) (fun c_9 => ?_) (fun c_9 => ?_)
      · refine s_iload (pc := 117) S 1 dX6_releaseAll_117 rfl ?_
        have ej : min j (D 60 100 30) = (D 60 100 30) := by omega
        rw [ej] at hSj hLj
        refine s_top (u := .int (nI (raN D k_2 k_6 (D 60 100 30)))) (by rw [ej]) ?_
        have c9 : 0 + 1 + 1 + kaC D k_2 k_6 (min j (D 60 100 30)) ≤ mc := by rw [ej]; omega
        have d9 : 0 + 6 + 6 + kaL D k_2 k_6 (min j (D 60 100 30)) ≤ ms := by rw [ej]; omega
        exact s_iret (pc := 119) S hz hlo hr ⟨a, d, rfl, k_2, k_6, hk_3, rfl, hk_7, rfl, hSj, hLj, hz7, hk15, rfl⟩ (by first | exact Nat.le_of_ble_eq_true rfl | exact m1 | exact m2 | exact m3 | exact s1 | exact s2 | exact s3 | exact c1 | exact d1 | exact c2 | exact d2_ | exact c3 | exact d3 | exact c9 | exact d9) (by first | exact Nat.le_of_ble_eq_true rfl | exact m1 | exact m2 | exact m3 | exact s1 | exact s2 | exact s3 | exact c1 | exact d1 | exact c2 | exact d2_ | exact c3 | exact d3 | exact c9 | exact d9) dX6_releaseAll_119
      · refine s_aload (pc := 36) S 3 dX6_releaseAll_36 rfl ?_
        refine s_iload (pc := 38) S 0 dX6_releaseAll_38 rfl ?_
        by_cases lv_10 : j < Cj 0 0 5
        · refine s_aald (pc := 40) S hz (v := .ref ((AO A a d) 11 j)) (cc_jobs (A := (AO A a d)) (C := Cj)) (by omega) (by decide) (by rw [if_pos lv_10]; rfl) dX6_releaseAll_40 ?_
          have em : min j (D 60 100 30) = j := by omega
          rw [em] at hSj hLj h28 h29 h30 hMj h31 hmj cjj cpp
          obtain ⟨Dj, hDj⟩ : ∃ Dj : CF, raS D k_2 k_6 j = Dj := ⟨_, rfl⟩
          rw [hDj] at hSj hLj h28 h29 h30 hMj h31 cjj cpp
          have hjD : j < Dj 60 100 30 := by omega
          have hpD : k_6 < Dj 60 100 29 := by omega
          have hjC : j < Cj 0 0 5 := lv_10
          have hKj := hSj.okk hMj hLj
          have qj1 := (hSj.2.2.2.2.1 j hjD).2.1
          have hq16 := (hMj.1.jk hjD).2.2.2.2.2.2.2.2.1
          have hlgj := lg_eq hSj
          have hmono := ka_mono D k_2 k_6 (j + 1) (D 60 100 30 - (j + 1))
          rw [show j + 1 + (D 60 100 30 - (j + 1)) = D 60 100 30 by omega] at hmono
          have hm0 := ka_mono D k_2 k_6 j 1
          have c1 : 0 + 1 + 1 + kaC D k_2 k_6 (min j (D 60 100 30)) + 0 ≤ mc := by rw [em]; omega
          have c2 : 0 + 1 + 1 + kaC D k_2 k_6 (min j (D 60 100 30)) + 0 + 0 ≤ mc := by rw [em]; omega
          have d1 : 0 + 6 + 6 + kaL D k_2 k_6 (min j (D 60 100 30)) + 0 ≤ ms := by rw [em]; omega
          have d2_ : 0 + 6 + 6 + kaL D k_2 k_6 (min j (D 60 100 30)) + 0 + 0 ≤ ms := by rw [em]; omega
          refine s_astore (pc := 41) S [(8, .ref ((AO A a d) 11 j)), (7, .int (nI j)), (4, .int (nI (raN D k_2 k_6 (min j (D 60 100 30))))), (6, .int (nI 40)), (5, .ref ((AO A a d) 3 0)), (3, .ref ((AO A a d) 9 k_6)), (1, .int (nI k_2)), (2, .int (nI k_6)), (0, .ref ((AO A a d) 0 0))] dX6_releaseAll_41 (by decide) rfl ?_
          refine s_aload (pc := 43) S 0 dX6_releaseAll_43 rfl ?_
          refine s_ifnull (pc := 45) S dX6_releaseAll_45 ?_
          refine s_aload (pc := 48) S 0 dX6_releaseAll_48 rfl ?_
          refine s_get (pc := 50) S hz (ref := "SpoolFarm$Job") (v := .int (nI (Dj 60 16 j))) (cc_job (A := (AO A a d)) (C := Cj) lv_10) i_RX1 rfl 1 (Nat.le_of_ble_eq_true rfl) (by decide +kernel) (fun _ h => h) (congrArg (fun x => some (Value.int (nI x))) (show Cj 11 j 1 = Dj 60 16 j from qj1)) dX6_releaseAll_50 ?_
          refine s_iload_n (pc := 53) S 6 dX6_releaseAll_53 rfl rfl ?_
          refine s_icmp_neN (pc := 54) S 111 dX6_releaseAll_54 (by decide) (by omega) (by omega) (fun c_11 => ?_) (fun c_11 => ?_)
          · refine s_iinc (pc := 111) S 1 [(7, .int (nI (j + 1))), (8, .ref ((AO A a d) 11 j)), (4, .int (nI (raN D k_2 k_6 (min j (D 60 100 30))))), (6, .int (nI 40)), (5, .ref ((AO A a d) 3 0)), (3, .ref ((AO A a d) 9 k_6)), (1, .int (nI k_2)), (2, .int (nI k_6)), (0, .ref ((AO A a d) 0 0))] dX6_releaseAll_111 rfl (nI_add _ 1) (by decide) rfl ?_
            refine s_goto (pc := 114) S 29 dX6_releaseAll_114 (by decide) ?_
            have ej : min (j + 1) (D 60 100 30) = j + 1 := by omega
            have hng : ¬ raG (raS D k_2 k_6 j) k_2 j := by rw [hDj]; exact (fun z => c_11 z.1)
            obtain ⟨hS1, hN1, hC1, hL1⟩ := ra_no hng
            refine s_perm [0, 2, 3, 4, 5, 6, 7, 8] [(7, .int (nI (j + 1))), (4, .int (nI (raN D k_2 k_6 (min j (D 60 100 30))))), (6, .int (nI 40)), (5, .ref ((AO A a d) 3 0)), (3, .ref ((AO A a d) 9 k_6)), (1, .int (nI k_2)), (2, .int (nI k_6)), (0, .ref ((AO A a d) 0 0))] rfl ?_
            refine s_loc (L2 := [(7, .int (nI (j + 1))), (4, .int (nI (raN D k_2 k_6 (min (j + 1) (D 60 100 30))))), (6, .int (nI 40)), (5, .ref ((AO A a d) 3 0)), (3, .ref ((AO A a d) 9 k_6)), (1, .int (nI k_2)), (2, .int (nI k_6)), (0, .ref ((AO A a d) 0 0))]) (by rw [ej, em, hN1]) ?_
            refine s_room (c2 := 0 + 1 + 1 + kaC D k_2 k_6 (min (j + 1) (D 60 100 30))) (s2 := 0 + 6 + 6 + kaL D k_2 k_6 (min (j + 1) (D 60 100 30))) (by rw [ej, em, hC1]) (by rw [ej, em, hL1]) ?_
            exact ih (j + 1, a, d, Cj) ⟨by dsimp only; omega, by dsimp only; rw [ej, hS1, hDj]; exact hSj, by dsimp only; rw [ej, hS1, hDj]; exact hLj, hz7, hk15⟩ (by dsimp only; omega)
          · refine s_aload (pc := 57) S 0 dX6_releaseAll_57 rfl ?_
            refine s_callV (pc := 59) S hz hml [] (k_X1_isHeld Z l (AO A a d) Cj j hjC hKj) (cwV 0 S.2.2.2.2 gX6_releaseAll_X1_isHeld rfl rfl rfl (by decide +kernel) ⟨by first | exact Nat.le_of_ble_eq_true rfl | exact m1 | exact m2 | exact m3 | exact s1 | exact s2 | exact s3 | exact c1 | exact d1 | exact c2 | exact d2_ | exact c3 | exact d3 | exact c9 | exact d9, by first | exact Nat.le_of_ble_eq_true rfl | exact m1 | exact m2 | exact m3 | exact s1 | exact s2 | exact s3 | exact c1 | exact d1 | exact c2 | exact d2_ | exact c3 | exact d3 | exact c9 | exact d9⟩) (cc_job (A := (AO A a d)) (C := Cj) lv_10) rfl rfl rfl (by first | exact Nat.le_of_ble_eq_true rfl | exact m1 | exact m2 | exact m3 | exact s1 | exact s2 | exact s3 | exact c1 | exact d1 | exact c2 | exact d2_ | exact c3 | exact d3 | exact c9 | exact d9) dX6_releaseAll_59 ⟨by first | exact Nat.le_of_ble_eq_true rfl | exact m1 | exact m2 | exact m3 | exact s1 | exact s2 | exact s3 | exact c1 | exact d1 | exact c2 | exact d2_ | exact c3 | exact d3 | exact c9 | exact d9, by first | exact Nat.le_of_ble_eq_true rfl | exact m1 | exact m2 | exact m3 | exact s1 | exact s2 | exact s3 | exact c1 | exact d1 | exact c2 | exact d2_ | exact c3 | exact d3 | exact c9 | exact d9⟩ (fun _ _ _ h => h.elim) (fun v A2 C2 h_12 => ?_)
            rcases h_12 with ⟨rfl, rfl, ⟨hh1, hh2, rfl⟩ | ⟨hh3, rfl⟩⟩
            · have hgo : raG Dj k_2 j := ⟨c_11, ((held_iff hSj hMj hjD).mp ⟨hh1, hh2⟩).1, ((held_iff hSj hMj hjD).mp ⟨hh1, hh2⟩).2⟩
              refine s_if_eqN (pc := 62) S 111 dX6_releaseAll_62 (by decide) (by decide) (fun h => absurd h (by decide)) (fun _ => ?_)
              refine s_aload_n (pc := 65) S 8 dX6_releaseAll_65 rfl rfl ?_
              refine s_aload (pc := 66) S 0 dX6_releaseAll_66 rfl ?_
              refine s_aload_n (pc := 68) S 5 dX6_releaseAll_68 rfl rfl ?_
              refine s_callV (pc := 69) S hz hml [.ref ((AO A a d) 11 j), .ref ((AO A a d) 9 k_6)] (k_X6_makePlan Z l (AO A a d) Cj Dj j k_6 hSj hMj hLj hjD hpD) (cwV 2 S.2.2.2.2 gX6_releaseAll_X6_makePlan rfl rfl rfl (by decide +kernel) ⟨by first | exact Nat.le_of_ble_eq_true rfl | exact m1 | exact m2 | exact m3 | exact s1 | exact s2 | exact s3 | exact c1 | exact d1 | exact c2 | exact d2_ | exact c3 | exact d3 | exact c9 | exact d9, by first | exact Nat.le_of_ble_eq_true rfl | exact m1 | exact m2 | exact m3 | exact s1 | exact s2 | exact s3 | exact c1 | exact d1 | exact c2 | exact d2_ | exact c3 | exact d3 | exact c9 | exact d9⟩) (cc_farm (A := (AO A a d)) (C := Cj)) rfl rfl rfl (by first | exact Nat.le_of_ble_eq_true rfl | exact m1 | exact m2 | exact m3 | exact s1 | exact s2 | exact s3 | exact c1 | exact d1 | exact c2 | exact d2_ | exact c3 | exact d3 | exact c9 | exact d9) dX6_releaseAll_69 ⟨by first | exact Nat.le_of_ble_eq_true rfl | exact m1 | exact m2 | exact m3 | exact s1 | exact s2 | exact s3 | exact c1 | exact d1 | exact c2 | exact d2_ | exact c3 | exact d3 | exact c9 | exact d9, by first | exact Nat.le_of_ble_eq_true rfl | exact m1 | exact m2 | exact m3 | exact s1 | exact s2 | exact s3 | exact c1 | exact d1 | exact c2 | exact d2_ | exact c3 | exact d3 | exact c9 | exact d9⟩ (fun _ _ _ h => h.elim) (fun v A2 C2 h_13 => ?_)
              obtain ⟨rfl, rfl, rfl⟩ := h_13
              have hRj := hMj.1.rk hjD hpD
              have hz1 := (nR_FR hRj).le hRj
              have hz2 := co_lt Dj j k_6 (nR Dj j k_6)
              refine s_aload_n (pc := 72) S 8 dX6_releaseAll_72 rfl rfl ?_
              refine s_get (pc := 73) S hz (ref := "SpoolFarm") (v := .ref ((AO A a d) 6 0)) (cc_farm (A := (AO A a d)) (C := (PlC Dj Cj j k_6 (nR Dj j k_6) (coR Dj j k_6 (nR Dj j k_6))))) i_RX6 rfl 11 (Nat.le_of_ble_eq_true rfl) (by decide +kernel) (fun _ h => h) rfl dX6_releaseAll_73 ?_
              refine s_get (pc := 76) S hz (ref := "SpoolFarm$Plan") (v := .int (nI (nR Dj j k_6))) (cc_plan (A := (AO A a d)) (C := (PlC Dj Cj j k_6 (nR Dj j k_6) (coR Dj j k_6 (nR Dj j k_6))))) i_RX2 rfl 4 (Nat.le_of_ble_eq_true rfl) (by decide +kernel) (fun _ h => h) rfl dX6_releaseAll_76 ?_
              refine s_if_leN (pc := 79) S 111 dX6_releaseAll_79 (by decide) (by omega) (fun c_14 => ?_) (fun c_14 => ?_)
              · refine s_iinc (pc := 111) S 1 [(7, .int (nI (j + 1))), (8, .ref ((AO A a d) 11 j)), (4, .int (nI (raN D k_2 k_6 (min j (D 60 100 30))))), (6, .int (nI 40)), (5, .ref ((AO A a d) 3 0)), (3, .ref ((AO A a d) 9 k_6)), (1, .int (nI k_2)), (2, .int (nI k_6)), (0, .ref ((AO A a d) 0 0))] dX6_releaseAll_111 rfl (nI_add _ 1) (by decide) rfl ?_
                refine s_goto (pc := 114) S 29 dX6_releaseAll_114 (by decide) ?_
                have ej : min (j + 1) (D 60 100 30) = j + 1 := by omega
                have hno : nR Dj j k_6 = 0 := by omega
                obtain ⟨hS1, hN1, hC1, hL1⟩ := ra_y0 hDj hgo hno hMj hjD hpD
                have hall := rl_all hSj hMj hLj hjD hpD (by omega)
                refine s_perm [0, 2, 3, 4, 5, 6, 7, 8] [(7, .int (nI (j + 1))), (4, .int (nI (raN D k_2 k_6 (min j (D 60 100 30))))), (6, .int (nI 40)), (5, .ref ((AO A a d) 3 0)), (3, .ref ((AO A a d) 9 k_6)), (1, .int (nI k_2)), (2, .int (nI k_6)), (0, .ref ((AO A a d) 0 0))] rfl ?_
                refine s_loc (L2 := [(7, .int (nI (j + 1))), (4, .int (nI (raN D k_2 k_6 (min (j + 1) (D 60 100 30))))), (6, .int (nI 40)), (5, .ref ((AO A a d) 3 0)), (3, .ref ((AO A a d) 9 k_6)), (1, .int (nI k_2)), (2, .int (nI k_6)), (0, .ref ((AO A a d) 0 0))]) (by rw [ej, em, hN1]) ?_
                refine s_room (c2 := 0 + 1 + 1 + kaC D k_2 k_6 (min (j + 1) (D 60 100 30))) (s2 := 0 + 6 + 6 + kaL D k_2 k_6 (min (j + 1) (D 60 100 30))) (by rw [ej, em, hC1]; omega) (by rw [ej, em, hL1]; omega) ?_
                exact ih (j + 1, a, d, PlC Dj Cj j k_6 (nR Dj j k_6) (coR Dj j k_6 (nR Dj j k_6))) ⟨by dsimp only; omega, by dsimp only; rw [ej, hS1]; exact (hall.2.2.2 hno _).1, by dsimp only; rw [ej, hS1]; exact hall.2.1, hz7, fun kk hk => (PlC_o (by omega)).trans (hk15 kk hk)⟩ (by dsimp only; omega)
              · refine s_aload_n (pc := 82) S 8 dX6_releaseAll_82 rfl rfl ?_
                refine s_aload (pc := 83) S 0 dX6_releaseAll_83 rfl ?_
                refine s_iload_n (pc := 85) S 7 dX6_releaseAll_85 rfl rfl ?_
                have hpos : 0 < nR Dj j k_6 := by omega
                obtain ⟨hS1, hN1, hC1, hL1⟩ := ra_y1 hDj hgo hpos hMj hjD hpD
                have c3 : 0 + 1 + 1 + kaC D k_2 k_6 (min j (D 60 100 30)) + 0 + 0 + lgC Cj ≤ mc := by rw [em]; omega
                have d3 : 0 + 6 + 6 + kaL D k_2 k_6 (min j (D 60 100 30)) + 0 + 0 + lgS Cj ≤ ms := by rw [em]; omega
                refine s_callV (pc := 86) S hz hml [.ref ((AO A a d) 11 j), .int (nI k_6)] (k_X6_carryOutPlan Z l (AO A a d) Cj Dj j k_6 (nR Dj j k_6) hSj hMj hLj hjD hpD (nR_FR hRj) hpos hz7 (by rw [hSj.2.2.2.2.2.1.1]; omega) (lgC Cj) (lgS Cj) (lg_le Cj).1 (lg_le Cj).2) (cwV 2 S.2.2.2.2 gX6_releaseAll_X6_carryOutPlan rfl rfl rfl (by decide +kernel) ⟨by first | exact Nat.le_of_ble_eq_true rfl | exact m1 | exact m2 | exact m3 | exact s1 | exact s2 | exact s3 | exact c1 | exact d1 | exact c2 | exact d2_ | exact c3 | exact d3 | exact c9 | exact d9, by first | exact Nat.le_of_ble_eq_true rfl | exact m1 | exact m2 | exact m3 | exact s1 | exact s2 | exact s3 | exact c1 | exact d1 | exact c2 | exact d2_ | exact c3 | exact d3 | exact c9 | exact d9⟩) (cc_farm (A := (AO A a d)) (C := (PlC Dj Cj j k_6 (nR Dj j k_6) (coR Dj j k_6 (nR Dj j k_6))))) rfl rfl rfl (by first | exact Nat.le_of_ble_eq_true rfl | exact m1 | exact m2 | exact m3 | exact s1 | exact s2 | exact s3 | exact c1 | exact d1 | exact c2 | exact d2_ | exact c3 | exact d3 | exact c9 | exact d9) dX6_releaseAll_86 ⟨by first | exact Nat.le_of_ble_eq_true rfl | exact m1 | exact m2 | exact m3 | exact s1 | exact s2 | exact s3 | exact c1 | exact d1 | exact c2 | exact d2_ | exact c3 | exact d3 | exact c9 | exact d9, by first | exact Nat.le_of_ble_eq_true rfl | exact m1 | exact m2 | exact m3 | exact s1 | exact s2 | exact s3 | exact c1 | exact d1 | exact c2 | exact d2_ | exact c3 | exact d3 | exact c9 | exact d9⟩ (fun _ _ _ h => h.elim) (fun v A2 C2 h_15 => ?_)
                obtain ⟨y_, d_, rfl, rfl, rfl⟩ := h_15
                refine s_A (AL_AO A a d (Cj 4 0 2) y_ d_).symm ?_
                refine s_loc (L2 := [(8, .ref ((AO A (fun i => if i = Cj 4 0 2 then y_ else a i) d_) 11 j)), (7, .int (nI j)), (4, .int (nI (raN D k_2 k_6 (min j (D 60 100 30))))), (6, .int (nI 40)), (5, .ref ((AO A (fun i => if i = Cj 4 0 2 then y_ else a i) d_) 3 0)), (3, .ref ((AO A (fun i => if i = Cj 4 0 2 then y_ else a i) d_) 9 k_6)), (1, .int (nI k_2)), (2, .int (nI k_6)), (0, .ref ((AO A (fun i => if i = Cj 4 0 2 then y_ else a i) d_) 0 0))]) rfl ?_
                refine s_iload (pc := 89) S 2 dX6_releaseAll_89 rfl ?_
                refine s_aload_n (pc := 91) S 8 dX6_releaseAll_91 rfl rfl ?_
                refine s_get (pc := 92) S hz (ref := "SpoolFarm") (v := .ref ((AO A (fun i => if i = Cj 4 0 2 then y_ else a i) d_) 6 0)) (cc_farm (A := (AO A (fun i => if i = Cj 4 0 2 then y_ else a i) d_)) (C := (rlK Dj Cj j k_6 (nR Dj j k_6)))) i_RX6 rfl 11 (Nat.le_of_ble_eq_true rfl) (by decide +kernel) (fun _ h => h) rfl dX6_releaseAll_92 ?_
                refine s_get (pc := 95) S hz (ref := "SpoolFarm$Plan") (v := .int (nI (coR Dj j k_6 (nR Dj j k_6)))) (cc_plan (A := (AO A (fun i => if i = Cj 4 0 2 then y_ else a i) d_)) (C := (rlK Dj Cj j k_6 (nR Dj j k_6)))) i_RX2 rfl 9 (Nat.le_of_ble_eq_true rfl) (by decide +kernel) (fun _ h => h) rfl dX6_releaseAll_95 ?_
                refine s_bipush (pc := 98) S (v := (nI 100)) dX6_releaseAll_98 (by decide) ?_
                refine s_icmp_neN (pc := 100) S 107 dX6_releaseAll_100 (by decide) (by omega) (by omega) (fun c_16 => ?_) (fun c_16 => ?_)
                · refine s_iconst (pc := 107) S (v := (nI 0)) dX6_releaseAll_107 (by decide) ?_
                  refine s_iaddN (pc := 108) S dX6_releaseAll_108 ?_
                  refine s_istore (pc := 109) S [(4, .int (nI ((raN D k_2 k_6 (min j (D 60 100 30))) + 0))), (8, .ref ((AO A (fun i => if i = Cj 4 0 2 then y_ else a i) d_) 11 j)), (7, .int (nI j)), (6, .int (nI 40)), (5, .ref ((AO A (fun i => if i = Cj 4 0 2 then y_ else a i) d_) 3 0)), (3, .ref ((AO A (fun i => if i = Cj 4 0 2 then y_ else a i) d_) 9 k_6)), (1, .int (nI k_2)), (2, .int (nI k_6)), (0, .ref ((AO A (fun i => if i = Cj 4 0 2 then y_ else a i) d_) 0 0))] dX6_releaseAll_109 (by decide) rfl ?_
                  refine s_iinc (pc := 111) S 2 [(7, .int (nI (j + 1))), (4, .int (nI ((raN D k_2 k_6 (min j (D 60 100 30))) + 0))), (8, .ref ((AO A (fun i => if i = Cj 4 0 2 then y_ else a i) d_) 11 j)), (6, .int (nI 40)), (5, .ref ((AO A (fun i => if i = Cj 4 0 2 then y_ else a i) d_) 3 0)), (3, .ref ((AO A (fun i => if i = Cj 4 0 2 then y_ else a i) d_) 9 k_6)), (1, .int (nI k_2)), (2, .int (nI k_6)), (0, .ref ((AO A (fun i => if i = Cj 4 0 2 then y_ else a i) d_) 0 0))] dX6_releaseAll_111 rfl (nI_add _ 1) (by decide) rfl ?_
                  refine s_goto (pc := 114) S 29 dX6_releaseAll_114 (by decide) ?_
                  have ej : min (j + 1) (D 60 100 30) = j + 1 := by omega
                  have hall := rl_all hSj hMj hLj hjD hpD (by omega)
                  have hall3 := hall.2.2.1 hpos
                  refine s_perm [0, 1, 3, 4, 5, 6, 7, 8] [(7, .int (nI (j + 1))), (4, .int (nI ((raN D k_2 k_6 (min j (D 60 100 30))) + 0))), (6, .int (nI 40)), (5, .ref ((AO A (fun i => if i = Cj 4 0 2 then y_ else a i) d_) 3 0)), (3, .ref ((AO A (fun i => if i = Cj 4 0 2 then y_ else a i) d_) 9 k_6)), (1, .int (nI k_2)), (2, .int (nI k_6)), (0, .ref ((AO A (fun i => if i = Cj 4 0 2 then y_ else a i) d_) 0 0))] rfl ?_
                  refine s_loc (L2 := [(7, .int (nI (j + 1))), (4, .int (nI (raN D k_2 k_6 (min (j + 1) (D 60 100 30))))), (6, .int (nI 40)), (5, .ref ((AO A (fun i => if i = Cj 4 0 2 then y_ else a i) d_) 3 0)), (3, .ref ((AO A (fun i => if i = Cj 4 0 2 then y_ else a i) d_) 9 k_6)), (1, .int (nI k_2)), (2, .int (nI k_6)), (0, .ref ((AO A (fun i => if i = Cj 4 0 2 then y_ else a i) d_) 0 0))]) (by rw [ej, em, hN1, if_neg c_16]) ?_
                  refine s_room (c2 := 0 + 1 + 1 + kaC D k_2 k_6 (min (j + 1) (D 60 100 30))) (s2 := 0 + 6 + 6 + kaL D k_2 k_6 (min (j + 1) (D 60 100 30))) (by rw [ej, em, hC1, hlgj.1]; omega) (by rw [ej, em, hL1, hlgj.2]; omega) ?_
                  exact ih (j + 1, (fun i => if i = Cj 4 0 2 then y_ else a i), d_, rlK Dj Cj j k_6 (nR Dj j k_6)) ⟨by dsimp only; omega, by dsimp only; rw [ej, hS1]; exact hall3.1, by dsimp only; rw [ej, hS1]; exact hall.2.1, (fun z => absurd z (rl_7 hSj)), fun kk hk => (K_o Dj Cj j k_6 (nR Dj j k_6) kk (by omega) (by omega) (by omega) (by omega) (by omega) (by omega) (by omega) (by omega)).trans (hk15 kk hk)⟩ (by dsimp only; omega)
                · refine s_iconst (pc := 103) S (v := (nI 1)) dX6_releaseAll_103 (by decide) ?_
                  refine s_goto (pc := 104) S 108 dX6_releaseAll_104 (by decide) ?_
                  refine s_iaddN (pc := 108) S dX6_releaseAll_108 ?_
                  refine s_istore (pc := 109) S [(4, .int (nI ((raN D k_2 k_6 (min j (D 60 100 30))) + 1))), (8, .ref ((AO A a d) 11 j)), (7, .int (nI j)), (6, .int (nI 40)), (5, .ref ((AO A a d) 3 0)), (3, .ref ((AO A a d) 9 k_6)), (1, .int (nI k_2)), (2, .int (nI k_6)), (0, .ref ((AO A a d) 0 0))] dX6_releaseAll_109 (by decide) rfl ?_
                  refine s_iinc (pc := 111) S 2 [(7, .int (nI (j + 1))), (4, .int (nI ((raN D k_2 k_6 (min j (D 60 100 30))) + 1))), (8, .ref ((AO A a d) 11 j)), (6, .int (nI 40)), (5, .ref ((AO A a d) 3 0)), (3, .ref ((AO A a d) 9 k_6)), (1, .int (nI k_2)), (2, .int (nI k_6)), (0, .ref ((AO A a d) 0 0))] dX6_releaseAll_111 rfl (nI_add _ 1) (by decide) rfl ?_
                  refine s_goto (pc := 114) S 29 dX6_releaseAll_114 (by decide) ?_
                  have ej : min (j + 1) (D 60 100 30) = j + 1 := by omega
                  have hall := rl_all hSj hMj hLj hjD hpD (by omega)
                  have hall3 := hall.2.2.1 hpos
                  refine s_perm [0, 1, 3, 4, 5, 6, 7, 8] [(7, .int (nI (j + 1))), (4, .int (nI ((raN D k_2 k_6 (min j (D 60 100 30))) + 1))), (6, .int (nI 40)), (5, .ref ((AO A (fun i => if i = Cj 4 0 2 then y_ else a i) d_) 3 0)), (3, .ref ((AO A (fun i => if i = Cj 4 0 2 then y_ else a i) d_) 9 k_6)), (1, .int (nI k_2)), (2, .int (nI k_6)), (0, .ref ((AO A (fun i => if i = Cj 4 0 2 then y_ else a i) d_) 0 0))] rfl ?_
                  refine s_loc (L2 := [(7, .int (nI (j + 1))), (4, .int (nI (raN D k_2 k_6 (min (j + 1) (D 60 100 30))))), (6, .int (nI 40)), (5, .ref ((AO A (fun i => if i = Cj 4 0 2 then y_ else a i) d_) 3 0)), (3, .ref ((AO A (fun i => if i = Cj 4 0 2 then y_ else a i) d_) 9 k_6)), (1, .int (nI k_2)), (2, .int (nI k_6)), (0, .ref ((AO A (fun i => if i = Cj 4 0 2 then y_ else a i) d_) 0 0))]) (by rw [ej, em, hN1, if_pos c_16]) ?_
                  refine s_room (c2 := 0 + 1 + 1 + kaC D k_2 k_6 (min (j + 1) (D 60 100 30))) (s2 := 0 + 6 + 6 + kaL D k_2 k_6 (min (j + 1) (D 60 100 30))) (by rw [ej, em, hC1, hlgj.1]; omega) (by rw [ej, em, hL1, hlgj.2]; omega) ?_
                  exact ih (j + 1, (fun i => if i = Cj 4 0 2 then y_ else a i), d_, rlK Dj Cj j k_6 (nR Dj j k_6)) ⟨by dsimp only; omega, by dsimp only; rw [ej, hS1]; exact hall3.1, by dsimp only; rw [ej, hS1]; exact hall.2.1, (fun z => absurd z (rl_7 hSj)), fun kk hk => (K_o Dj Cj j k_6 (nR Dj j k_6) kk (by omega) (by omega) (by omega) (by omega) (by omega) (by omega) (by omega) (by omega)).trans (hk15 kk hk)⟩ (by dsimp only; omega)
            · refine s_if_eqN (pc := 62) S 111 dX6_releaseAll_62 (by decide) (by decide) (fun _ => ?_) (fun h => absurd h (by decide))
              refine s_iinc (pc := 111) S 1 [(7, .int (nI (j + 1))), (8, .ref ((AO A a d) 11 j)), (4, .int (nI (raN D k_2 k_6 (min j (D 60 100 30))))), (6, .int (nI 40)), (5, .ref ((AO A a d) 3 0)), (3, .ref ((AO A a d) 9 k_6)), (1, .int (nI k_2)), (2, .int (nI k_6)), (0, .ref ((AO A a d) 0 0))] dX6_releaseAll_111 rfl (nI_add _ 1) (by decide) rfl ?_
              refine s_goto (pc := 114) S 29 dX6_releaseAll_114 (by decide) ?_
              have ej : min (j + 1) (D 60 100 30) = j + 1 := by omega
              have hng : ¬ raG (raS D k_2 k_6 j) k_2 j := by rw [hDj]; exact (fun z => hh3 ((held_iff hSj hMj hjD).mpr z.2))
              obtain ⟨hS1, hN1, hC1, hL1⟩ := ra_no hng
              refine s_perm [0, 2, 3, 4, 5, 6, 7, 8] [(7, .int (nI (j + 1))), (4, .int (nI (raN D k_2 k_6 (min j (D 60 100 30))))), (6, .int (nI 40)), (5, .ref ((AO A a d) 3 0)), (3, .ref ((AO A a d) 9 k_6)), (1, .int (nI k_2)), (2, .int (nI k_6)), (0, .ref ((AO A a d) 0 0))] rfl ?_
              refine s_loc (L2 := [(7, .int (nI (j + 1))), (4, .int (nI (raN D k_2 k_6 (min (j + 1) (D 60 100 30))))), (6, .int (nI 40)), (5, .ref ((AO A a d) 3 0)), (3, .ref ((AO A a d) 9 k_6)), (1, .int (nI k_2)), (2, .int (nI k_6)), (0, .ref ((AO A a d) 0 0))]) (by rw [ej, em, hN1]) ?_
              refine s_room (c2 := 0 + 1 + 1 + kaC D k_2 k_6 (min (j + 1) (D 60 100 30))) (s2 := 0 + 6 + 6 + kaL D k_2 k_6 (min (j + 1) (D 60 100 30))) (by rw [ej, em, hC1]; omega) (by rw [ej, em, hL1]; omega) ?_
              exact ih (j + 1, a, d, Cj) ⟨by dsimp only; omega, by dsimp only; rw [ej, hS1, hDj]; exact hSj, by dsimp only; rw [ej, hS1, hDj]; exact hLj, hz7, hk15⟩ (by dsimp only; omega)
        · refine s_aald (pc := 40) S hz (v := .null) (cc_jobs (A := (AO A a d)) (C := Cj)) (by omega) (by decide) (by rw [if_neg lv_10]; rfl) dX6_releaseAll_40 ?_
          refine s_astoreN (pc := 41) S [(8, .null), (7, .int (nI j)), (4, .int (nI (raN D k_2 k_6 (min j (D 60 100 30))))), (6, .int (nI 40)), (5, .ref ((AO A a d) 3 0)), (3, .ref ((AO A a d) 9 k_6)), (1, .int (nI k_2)), (2, .int (nI k_6)), (0, .ref ((AO A a d) 0 0))] dX6_releaseAll_41 (by decide) rfl ?_
          refine s_aloadN (pc := 43) S 0 dX6_releaseAll_43 rfl ?_
          refine s_ifnullN (pc := 45) S 111 dX6_releaseAll_45 (by decide) ?_
          refine s_iinc (pc := 111) S 1 [(7, .int (nI (j + 1))), (8, .null), (4, .int (nI (raN D k_2 k_6 (min j (D 60 100 30))))), (6, .int (nI 40)), (5, .ref ((AO A a d) 3 0)), (3, .ref ((AO A a d) 9 k_6)), (1, .int (nI k_2)), (2, .int (nI k_6)), (0, .ref ((AO A a d) 0 0))] dX6_releaseAll_111 rfl (nI_add _ 1) (by decide) rfl ?_
          refine s_goto (pc := 114) S 29 dX6_releaseAll_114 (by decide) ?_
          have ej : min (j + 1) (D 60 100 30) = min j (D 60 100 30) := by omega
          refine s_perm [0, 2, 3, 4, 5, 6, 7, 8] [(7, .int (nI (j + 1))), (4, .int (nI (raN D k_2 k_6 (min j (D 60 100 30))))), (6, .int (nI 40)), (5, .ref ((AO A a d) 3 0)), (3, .ref ((AO A a d) 9 k_6)), (1, .int (nI k_2)), (2, .int (nI k_6)), (0, .ref ((AO A a d) 0 0))] rfl ?_
          refine s_loc (L2 := [(7, .int (nI (j + 1))), (4, .int (nI (raN D k_2 k_6 (min (j + 1) (D 60 100 30))))), (6, .int (nI 40)), (5, .ref ((AO A a d) 3 0)), (3, .ref ((AO A a d) 9 k_6)), (1, .int (nI k_2)), (2, .int (nI k_6)), (0, .ref ((AO A a d) 0 0))]) (by rw [ej]) ?_
          refine s_room (c2 := 0 + 1 + 1 + kaC D k_2 k_6 (min (j + 1) (D 60 100 30))) (s2 := 0 + 6 + 6 + kaL D k_2 k_6 (min (j + 1) (D 60 100 30))) (by rw [ej]) (by rw [ej]) ?_
          exact ih (j + 1, a, d, Cj) ⟨by dsimp only; omega, by dsimp only; rw [ej]; exact hSj, by dsimp only; rw [ej]; exact hLj, hz7, hk15⟩ (by dsimp only; omega)
