theorem lg_le (C : CF) : (1 ≤ lgC C ∧ 6 ≤ lgS C) ∧ (C 4 0 2 = C 7 100 0 → 2 ≤ lgC C ∧ 6 + capN (C 7 100 0) (C 4 0 2) ≤ lgS C) := by
  unfold lgC lgS
  refine ⟨by omega, fun h => ?_⟩
  rw [if_pos h, if_pos h]
  omega
set_option maxHeartbeats 4000000 in
set_option maxRecDepth 100000 in
theorem k_X6_release (Z : Zp) (l : Launch) (A : AF) (C : CF) (D : CF) (hS : Sm D C) (hM : OkM D) (hL : OkL D) (x y : Int32) (hA7 : C 7 100 0 = 0 → A 7 0 = zD Z) (hlg : C 4 0 2 + 1 ≤ 40000) (mc ms : Nat) (hm3 : 3 ≤ mc ∧ 18 ≤ ms) (hmr : ∀ k p : Nat, nI k = x → nI p = y → k < C 0 0 5 → p < C 0 0 4 → 0 < nR D k p → 2 + lgC C ≤ mc ∧ 12 + lgS C ≤ ms) (hfl : l.stackTraces = false) : CtS Z l yX6_release wsX6_release ({ frames := 8, cells := mc, slots := ms, locals := 223 }) [.ref (A 0 0), .int x, .int y] A C mc ms (fun v A2 C2 => ∃ a d : Nat, AL A (C 4 0 2) a d = A2 ∧ (∃ k_2 k_6 : Nat, k_2 < C 0 0 5 ∧ nI k_2 = x ∧ k_6 < C 0 0 4 ∧ nI k_6 = y ∧ ¬ nR D k_2 k_6 = 0 ∧ 0 < nR D k_2 k_6 ∧ (rlK D C k_2 k_6 (nR D k_2 k_6)) = C2 ∧ some (.int (nI (pgR D k_2 k_6))) = v)) (fun E A2 C2 => A = A2 ∧ ((E = "java/lang/IndexOutOfBoundsException" ∧ (∀ k : Nat, k < C 0 0 5 → nI k ≠ x) ∧ C = C2) ∨ (∃ k_2 : Nat, E = "java/lang/IndexOutOfBoundsException" ∧ k_2 < C 0 0 5 ∧ nI k_2 = x ∧ (∀ k : Nat, k < C 0 0 4 → nI k ≠ y) ∧ C = C2) ∨ (∃ k_2 k_6 : Nat, E = "java/lang/UnsupportedOperationException" ∧ k_2 < C 0 0 5 ∧ nI k_2 = x ∧ k_6 < C 0 0 4 ∧ nI k_6 = y ∧ nR D k_2 k_6 = 0 ∧ (PlC D C k_2 k_6 (nR D k_2 k_6) (coR D k_2 k_6 (nR D k_2 k_6))) = C2))) := by
  refine CtS.of (cc0 := cX6_release) (maxL := 4) (ret := (some .int)) (by decide) rfl (Nat.le_of_ble_eq_true rfl) ?_
  intro M0_ p_ e_ s_ m_ args_ below_ meth_ c_ S hz hml hex hlo hr hin
  refine s_loc (L2 := [(0, .ref (A 0 0)), (1, .int x), (2, .int y)]) rfl ?_
  have i_RX2 : ∀ w ∈ u_ws RX2 TX2 10, w ∈ wsX6_release := by decide +kernel
  have i_RX6 : ∀ w ∈ u_ws RX6 TX6 12, w ∈ wsX6_release := by decide +kernel
  have hK := hS.okk hM hL
  obtain ⟨⟨k3, k4, k5, k6, k7, k8⟩, kU, kP, kT, kJ, kL, kE, kB⟩ := id hK
  obtain ⟨hO, hG, hX⟩ := id hM
  have cu := hS.1.1
  have cp := hS.1.2.1
  have cj := hS.1.2.2.1
  have m1 : 0 + 1 ≤ mc := by omega
  have m2 : 0 + 1 + 1 ≤ mc := by omega
  have m3 : 0 + 1 + 1 + 0 + 1 ≤ mc := by omega
  have s1 : 0 + 6 ≤ ms := by omega
  have s2 : 0 + 6 + 6 ≤ ms := by omega
  have s3 : 0 + 6 + 6 + 0 + 6 ≤ ms := by omega
  refine s_aload_n (pc := 0) S 0 dX6_release_0 rfl rfl ?_
  refine s_iload_n (pc := 1) S 1 dX6_release_1 rfl rfl ?_
  refine s_callV (pc := 2) S hz hml [.int x] (k_X6_jobAt Z l A C x k5 hfl) (cwV 1 S.2.2.2.2 gX6_release_X6_jobAt rfl rfl rfl (by decide +kernel) ⟨by first | exact Nat.le_of_ble_eq_true rfl | exact m1 | exact m2 | exact m3 | exact s1 | exact s2 | exact s3 | exact hL1.1 | exact hL1.2, by first | exact Nat.le_of_ble_eq_true rfl | exact m1 | exact m2 | exact m3 | exact s1 | exact s2 | exact s3 | exact hL1.1 | exact hL1.2⟩) (cc_farm (A := A) (C := C)) rfl rfl rfl (by first | exact Nat.le_of_ble_eq_true rfl | exact m1 | exact m2 | exact m3 | exact s1 | exact s2 | exact s3 | exact hL1.1 | exact hL1.2) dX6_release_2 ⟨by first | exact Nat.le_of_ble_eq_true rfl | exact m1 | exact m2 | exact m3 | exact s1 | exact s2 | exact s3 | exact hL1.1 | exact hL1.2, by first | exact Nat.le_of_ble_eq_true rfl | exact m1 | exact m2 | exact m3 | exact s1 | exact s2 | exact s3 | exact hL1.1 | exact hL1.2⟩ (fun E A2 C2 h_1 => ?_) (fun v A2 C2 h_1 => ?_)
  · obtain ⟨rfl, rfl, n_4, rfl⟩ := h_1
    exact s_out S hz hex hlo ⟨rfl, Or.inl ⟨rfl, n_4, rfl⟩⟩ (by first | exact Nat.le_of_ble_eq_true rfl | exact m1 | exact m2 | exact m3 | exact s1 | exact s2 | exact s3 | exact hL1.1 | exact hL1.2) (by first | exact Nat.le_of_ble_eq_true rfl | exact m1 | exact m2 | exact m3 | exact s1 | exact s2 | exact s3 | exact hL1.1 | exact hL1.2)
  · obtain ⟨rfl, rfl, k_2, hk_3, rfl, rfl⟩ := h_1
    have hD_k_2 : k_2 < D 60 100 30 := by omega
    refine s_astore_n (pc := 5) S [(3, .ref (A 11 k_2)), (0, .ref (A 0 0)), (1, .int (nI k_2)), (2, .int y)] dX6_release_5 rfl (by decide) rfl ?_
    refine s_aload_n (pc := 6) S 1 dX6_release_6 rfl rfl ?_
    refine s_aload_n (pc := 7) S 0 dX6_release_7 rfl rfl ?_
    refine s_aload_n (pc := 8) S 1 dX6_release_8 rfl rfl ?_
    refine s_iload_n (pc := 9) S 3 dX6_release_9 rfl rfl ?_
    refine s_callV (pc := 10) S hz hml [.int y] (k_X6_printerAt Z l A C y k4 hfl) (cwV 1 S.2.2.2.2 gX6_release_X6_printerAt rfl rfl rfl (by decide +kernel) ⟨by first | exact Nat.le_of_ble_eq_true rfl | exact m1 | exact m2 | exact m3 | exact s1 | exact s2 | exact s3 | exact hL1.1 | exact hL1.2, by first | exact Nat.le_of_ble_eq_true rfl | exact m1 | exact m2 | exact m3 | exact s1 | exact s2 | exact s3 | exact hL1.1 | exact hL1.2⟩) (cc_farm (A := A) (C := C)) rfl rfl rfl (by first | exact Nat.le_of_ble_eq_true rfl | exact m1 | exact m2 | exact m3 | exact s1 | exact s2 | exact s3 | exact hL1.1 | exact hL1.2) dX6_release_10 ⟨by first | exact Nat.le_of_ble_eq_true rfl | exact m1 | exact m2 | exact m3 | exact s1 | exact s2 | exact s3 | exact hL1.1 | exact hL1.2, by first | exact Nat.le_of_ble_eq_true rfl | exact m1 | exact m2 | exact m3 | exact s1 | exact s2 | exact s3 | exact hL1.1 | exact hL1.2⟩ (fun E A2 C2 h_5 => ?_) (fun v A2 C2 h_5 => ?_)
    · obtain ⟨rfl, rfl, n_8, rfl⟩ := h_5
      exact s_out S hz hex hlo ⟨rfl, Or.inr (Or.inl ⟨k_2, rfl, hk_3, rfl, n_8, rfl⟩)⟩ (by first | exact Nat.le_of_ble_eq_true rfl | exact m1 | exact m2 | exact m3 | exact s1 | exact s2 | exact s3 | exact hL1.1 | exact hL1.2) (by first | exact Nat.le_of_ble_eq_true rfl | exact m1 | exact m2 | exact m3 | exact s1 | exact s2 | exact s3 | exact hL1.1 | exact hL1.2)
    · obtain ⟨rfl, rfl, k_6, hk_7, rfl, rfl⟩ := h_5
      have hD_k_6 : k_6 < D 60 100 29 := by omega
      refine s_callV (pc := 13) S hz hml [.ref (A 11 k_2), .ref (A 9 k_6)] (k_X6_makePlan Z l A C D k_2 k_6 hS hM hL hD_k_2 hD_k_6) (cwV 2 S.2.2.2.2 gX6_release_X6_makePlan rfl rfl rfl (by decide +kernel) ⟨by first | exact Nat.le_of_ble_eq_true rfl | exact m1 | exact m2 | exact m3 | exact s1 | exact s2 | exact s3 | exact hL1.1 | exact hL1.2, by first | exact Nat.le_of_ble_eq_true rfl | exact m1 | exact m2 | exact m3 | exact s1 | exact s2 | exact s3 | exact hL1.1 | exact hL1.2⟩) (cc_farm (A := A) (C := C)) rfl rfl rfl (by first | exact Nat.le_of_ble_eq_true rfl | exact m1 | exact m2 | exact m3 | exact s1 | exact s2 | exact s3 | exact hL1.1 | exact hL1.2) dX6_release_13 ⟨by first | exact Nat.le_of_ble_eq_true rfl | exact m1 | exact m2 | exact m3 | exact s1 | exact s2 | exact s3 | exact hL1.1 | exact hL1.2, by first | exact Nat.le_of_ble_eq_true rfl | exact m1 | exact m2 | exact m3 | exact s1 | exact s2 | exact s3 | exact hL1.1 | exact hL1.2⟩ (fun _ _ _ h => h.elim) (fun v A2 C2 h_9 => ?_)
      obtain ⟨rfl, rfl, rfl⟩ := h_9
      have hR_10 := hO.rk hD_k_2 hD_k_6
      have hrk_11 := rk_co hR_10
      have z_12 := (nR_FR hR_10).le hR_10
      have z_13 := pgR_le hR_10
      have z_14 := co_lt D k_2 k_6 (nR D k_2 k_6)
      refine s_aload_n (pc := 16) S 1 dX6_release_16 rfl rfl ?_
      refine s_get (pc := 17) S hz (ref := "SpoolFarm") (v := .ref (A 6 0)) (cc_farm (A := A) (C := (PlC D C k_2 k_6 (nR D k_2 k_6) (coR D k_2 k_6 (nR D k_2 k_6))))) i_RX6 rfl 11 (Nat.le_of_ble_eq_true rfl) (by decide +kernel) (fun _ h => h) rfl dX6_release_17 ?_
      refine s_get (pc := 20) S hz (ref := "SpoolFarm$Plan") (v := .int (nI (nR D k_2 k_6))) (cc_plan (A := A) (C := (PlC D C k_2 k_6 (nR D k_2 k_6) (coR D k_2 k_6 (nR D k_2 k_6))))) i_RX2 rfl 4 (Nat.le_of_ble_eq_true rfl) (by decide +kernel) (fun _ h => h) rfl dX6_release_20 ?_
      refine s_if_neN (pc := 23) S 36 dX6_release_23 (by decide) (by omega) (fun c_15 => ?_) (fun c_15 => ?_)
      · refine s_aload_n (pc := 36) S 1 dX6_release_36 rfl rfl ?_
        refine s_aload_n (pc := 37) S 0 dX6_release_37 rfl rfl ?_
        refine s_iload_n (pc := 38) S 3 dX6_release_38 rfl rfl ?_
        have hpos : 0 < nR D k_2 k_6 := by omega
        have hL1 : 0 + 1 + 1 + 0 + lgC C ≤ mc ∧ 0 + 6 + 6 + 0 + lgS C ≤ ms := by have z := hmr k_2 k_6 rfl rfl (by assumption) (by assumption) hpos; omega
        refine s_callV (pc := 39) S hz hml [.ref (A 11 k_2), .int (nI k_6)] (k_X6_carryOutPlan Z l A C D k_2 k_6 (nR D k_2 k_6) hS hM hL hD_k_2 hD_k_6 (nR_FR hR_10) hpos hA7 hlg (lgC C) (lgS C) (lg_le C).1 (lg_le C).2) (cwV 2 S.2.2.2.2 gX6_release_X6_carryOutPlan rfl rfl rfl (by decide +kernel) ⟨by first | exact Nat.le_of_ble_eq_true rfl | exact m1 | exact m2 | exact m3 | exact s1 | exact s2 | exact s3 | exact hL1.1 | exact hL1.2, by first | exact Nat.le_of_ble_eq_true rfl | exact m1 | exact m2 | exact m3 | exact s1 | exact s2 | exact s3 | exact hL1.1 | exact hL1.2⟩) (cc_farm (A := A) (C := (PlC D C k_2 k_6 (nR D k_2 k_6) (coR D k_2 k_6 (nR D k_2 k_6))))) rfl rfl rfl (by first | exact Nat.le_of_ble_eq_true rfl | exact m1 | exact m2 | exact m3 | exact s1 | exact s2 | exact s3 | exact hL1.1 | exact hL1.2) dX6_release_39 ⟨by first | exact Nat.le_of_ble_eq_true rfl | exact m1 | exact m2 | exact m3 | exact s1 | exact s2 | exact s3 | exact hL1.1 | exact hL1.2, by first | exact Nat.le_of_ble_eq_true rfl | exact m1 | exact m2 | exact m3 | exact s1 | exact s2 | exact s3 | exact hL1.1 | exact hL1.2⟩ (fun _ _ _ h => h.elim) (fun v A2 C2 h_18 => ?_)
        obtain ⟨y_16, d_17, rfl, rfl, rfl⟩ := h_18
        refine s_loc (L2 := [(3, .ref ((AL A (C 4 0 2) y_16 d_17) 11 k_2)), (0, .ref ((AL A (C 4 0 2) y_16 d_17) 0 0)), (1, .int (nI k_2)), (2, .int (nI k_6))]) rfl ?_
        refine s_aload_n (pc := 42) S 1 dX6_release_42 rfl rfl ?_
        refine s_get (pc := 43) S hz (ref := "SpoolFarm") (v := .ref ((AL A (C 4 0 2) y_16 d_17) 6 0)) (cc_farm (A := (AL A (C 4 0 2) y_16 d_17)) (C := (rlK D C k_2 k_6 (nR D k_2 k_6)))) i_RX6 rfl 11 (Nat.le_of_ble_eq_true rfl) (by decide +kernel) (fun _ h => h) rfl dX6_release_43 ?_
        refine s_get (pc := 46) S hz (ref := "SpoolFarm$Plan") (v := .int (nI (pgR D k_2 k_6))) (cc_plan (A := (AL A (C 4 0 2) y_16 d_17)) (C := (rlK D C k_2 k_6 (nR D k_2 k_6)))) i_RX2 rfl 3 (Nat.le_of_ble_eq_true rfl) (by decide +kernel) (fun _ h => h) rfl dX6_release_46 ?_
        exact s_iret (pc := 49) S hz hlo hr ⟨_, _, rfl, ⟨k_2, k_6, hk_3, rfl, hk_7, rfl, c_15, hpos, rfl, rfl⟩⟩ (by first | exact Nat.le_of_ble_eq_true rfl | exact m1 | exact m2 | exact m3 | exact s1 | exact s2 | exact s3 | exact hL1.1 | exact hL1.2) (by first | exact Nat.le_of_ble_eq_true rfl | exact m1 | exact m2 | exact m3 | exact s1 | exact s2 | exact s3 | exact hL1.1 | exact hL1.2) dX6_release_49
      · exact s_thr (pc := 26) (text := "no sheet would come out") S hz hfl hml hex hlo thr_UOE (by decide +kernel) (by decide +kernel) (by decide +kernel) (by decide +kernel) dX6_release_26 dX6_release_29 dX6_release_30 dX6_release_32 dX6_release_35 (by first | exact Nat.le_of_ble_eq_true rfl | exact m1 | exact m2 | exact m3 | exact s1 | exact s2 | exact s3 | exact hL1.1 | exact hL1.2) (by first | exact Nat.le_of_ble_eq_true rfl | exact m1 | exact m2 | exact m3 | exact s1 | exact s2 | exact s3 | exact hL1.1 | exact hL1.2) (by first | exact Nat.le_of_ble_eq_true rfl | exact m1 | exact m2 | exact m3 | exact s1 | exact s2 | exact s3 | exact hL1.1 | exact hL1.2) (by first | exact Nat.le_of_ble_eq_true rfl | exact m1 | exact m2 | exact m3 | exact s1 | exact s2 | exact s3 | exact hL1.1 | exact hL1.2) ⟨rfl, Or.inr (Or.inr (⟨k_2, k_6, rfl, hk_3, rfl, hk_7, rfl, c_15, rfl⟩))⟩ (by first | exact Nat.le_of_ble_eq_true rfl | exact m1 | exact m2 | exact m3 | exact s1 | exact s2 | exact s3 | exact hL1.1 | exact hL1.2) (by first | exact Nat.le_of_ble_eq_true rfl | exact m1 | exact m2 | exact m3 | exact s1 | exact s2 | exact s3 | exact hL1.1 | exact hL1.2)
