theorem co_lt (D : CF) (k p i : Nat) : coR D k p i < 128 := by
  have := co_c D k p i
  omega
theorem nR_FR {D : CF} {k p : Nat} (hR : RK D k p) : FR D k p (nR D k p) := by
  obtain ⟨n, h⟩ := FR_ex hR
  rw [h.eq hR]
  exact h
theorem rk_co {D : CF} {k p : Nat} (hR : RK D k p) : (nR D k p = 0 ∧ rkR D k p = 0) ∨ (0 < nR D k p ∧ coR D k p (nR D k p) = 100 ∧ rkR D k p = 2) ∨ (0 < nR D k p ∧ coR D k p (nR D k p) ≠ 100 ∧ rkR D k p = 1) := by
  have hF := nR_FR hR
  have hco := co_c D k p (nR D k p)
  have hrk := hF.rk hR
  generalize nR D k p = n at *
  rw [hrk]
  by_cases h0 : n = 0
  · exact Or.inl ⟨h0, by rw [if_pos h0]⟩
  · rw [if_neg h0]
    by_cases h1 : D 60 19 k + n = csN (D 60 13 k) (D 60 17 k) * D 60 18 k
    · rw [if_pos h1]
      exact Or.inr (Or.inl ⟨by omega, by omega, rfl⟩)
    · rw [if_neg h1]
      exact Or.inr (Or.inr ⟨by omega, by omega, rfl⟩)
set_option maxHeartbeats 4000000 in
set_option maxRecDepth 100000 in
theorem k_X6_reasonNow (Z : Zp) (l : Launch) (A : AF) (C : CF) (D : CF) (k p : Nat) (hS : Sm D C) (hM : OkM D) (hL : OkL D) (hk : k < D 60 100 30) (hp : p < D 60 100 29) : CtS Z l yX6_reasonNow wsX6_reasonNow ({ frames := 3, cells := 0, slots := 0, locals := 84 }) [.ref (A 0 0), .ref (A 11 k), .ref (A 9 p)] A C 0 0 (fun v A2 C2 => A = A2 ∧ PlC D C k p 0 (C 6 0 9) = C2 ∧ some (.int (nI (coR D k p 0))) = v) (fun _ _ _ => False) := by
  refine CtS.of (cc0 := cX6_reasonNow) (maxL := 3) (ret := (some .char)) (by decide) rfl (Nat.le_of_ble_eq_true rfl) ?_
  intro M0_ p_ e_ s_ m_ args_ below_ meth_ c_ S hz hml hex hlo hr hin
  refine s_loc (L2 := [(0, .ref (A 0 0)), (1, .ref (A 11 k)), (2, .ref (A 9 p))]) rfl ?_
  have i_RX1 : ∀ w ∈ u_ws RX1 TX1 14, w ∈ wsX6_reasonNow := by decide +kernel
  have i_RX6 : ∀ w ∈ u_ws RX6 TX6 12, w ∈ wsX6_reasonNow := by decide +kernel
  have hK := hS.okk hM hL
  obtain ⟨hO, hG, hX⟩ := id hM
  have hR := hO.rk hk hp
  obtain ⟨r1, r2, r3, r4, r5, r6, r7, r8, r9, r10, r11, r12, r13, r14, r15, r16, r17, r18, r19⟩ := id hR
  obtain ⟨-, -, -, -, -, -, -, jd, ju, jc, -⟩ := hO.jk hk
  obtain ⟨q0, q1, q2, q3, q4, q5, q6, q7, q8, q9, q10, q11, q12, q13⟩ := hS.2.2.2.2.1 k hk
  obtain ⟨p0, p1, p2, p3, p5⟩ := hS.2.2.1 p hp
  have hkC : k < C 0 0 5 := by rw [hS.1.2.2.1]; exact hk
  have hpC : p < C 0 0 4 := by rw [hS.1.2.1]; exact hp
  have huC : D 60 16 k < C 0 0 3 := by rw [hS.1.1]; exact ju
  have hpcl := pc_lt (d := D 60 13 k) (s := D 60 19 k) r9
  have k3 := hK.1.1
  have k4 := hK.1.2.1
  have k5 := hK.1.2.2.1
  have hcl := csN_le (d := D 60 13 k) r9
  have h900 : csN (D 60 13 k) (D 60 17 k) * D 60 18 k ≤ 100 * 9 := Nat.mul_le_mul (by omega) r11
  have hct : ∀ i : Nat, coR D k p i < 128 := co_lt D k p
  have z0 := hct 0
  refine s_aload_n (pc := 0) S 0 dX6_reasonNow_0 rfl rfl ?_
  refine s_get (pc := 1) S hz (ref := "SpoolFarm") (v := .ref (A 6 0)) (cc_farm (A := A) (C := C)) i_RX6 rfl 11 (Nat.le_of_ble_eq_true rfl) (by decide +kernel) (fun _ h => h) rfl dX6_reasonNow_1 ?_
  refine s_aload_n (pc := 4) S 1 dX6_reasonNow_4 rfl rfl ?_
  refine s_aload_n (pc := 5) S 2 dX6_reasonNow_5 rfl rfl ?_
  refine s_aload_n (pc := 6) S 0 dX6_reasonNow_6 rfl rfl ?_
  refine s_aload_n (pc := 7) S 1 dX6_reasonNow_7 rfl rfl ?_
  refine s_get (pc := 8) S hz (ref := "SpoolFarm$Job") (v := .int (nI (D 60 16 k))) (cc_job (A := A) (C := C) hkC) i_RX1 rfl 1 (Nat.le_of_ble_eq_true rfl) (by decide +kernel) (fun _ h => h) (congrArg (fun x => some (Value.int (nI x))) (show C 11 k 1 = D 60 16 k from q1)) dX6_reasonNow_8 ?_
  refine s_callV (pc := 11) S hz hml [.int (nI (D 60 16 k))] (k_X6_userAt_ok Z l A C (D 60 16 k) huC k3) (cwV 1 S.2.2.2.2 gX6_reasonNow_X6_userAt rfl rfl rfl (by decide +kernel) ⟨Nat.le_of_ble_eq_true rfl, Nat.le_of_ble_eq_true rfl⟩) (cc_farm (A := A) (C := C)) rfl rfl rfl (Nat.le_of_ble_eq_true rfl) dX6_reasonNow_11 ⟨Nat.le_of_ble_eq_true rfl, Nat.le_of_ble_eq_true rfl⟩ (fun _ _ _ h => h.elim) (fun v A2 C2 h_1 => ?_)
  obtain ⟨rfl, rfl, rfl⟩ := h_1
  refine s_callV (pc := 14) S hz hml [.ref (A 11 k), .ref (A 9 p), .ref (A 10 (D 60 16 k))] (k_X2_begin Z l A C D k p hS hM hL hk hp) (cwV 3 S.2.2.2.2 gX6_reasonNow_X2_begin rfl rfl rfl (by decide +kernel) ⟨Nat.le_of_ble_eq_true rfl, Nat.le_of_ble_eq_true rfl⟩) (cc_plan (A := A) (C := C)) rfl rfl rfl (Nat.le_of_ble_eq_true rfl) dX6_reasonNow_14 ⟨Nat.le_of_ble_eq_true rfl, Nat.le_of_ble_eq_true rfl⟩ (fun _ _ _ h => h.elim) (fun v A2 C2 h_2 => ?_)
  obtain ⟨rfl, rfl, rfl⟩ := h_2
  refine s_aload_n (pc := 17) S 0 dX6_reasonNow_17 rfl rfl ?_
  refine s_get (pc := 18) S hz (ref := "SpoolFarm") (v := .ref (A 6 0)) (cc_farm (A := A) (C := (PlC D C k p 0 (C 6 0 9)))) i_RX6 rfl 11 (Nat.le_of_ble_eq_true rfl) (by decide +kernel) (fun _ h => h) rfl dX6_reasonNow_18 ?_
  refine s_aload_n (pc := 21) S 1 dX6_reasonNow_21 rfl rfl ?_
  refine s_aload_n (pc := 22) S 2 dX6_reasonNow_22 rfl rfl ?_
  refine s_callV (pc := 23) S hz hml [.ref (A 11 k), .ref (A 9 p)] (k_X2_nextReason Z l A C D k p hS hM hL hk hp 0 (C 6 0 9) (TrI_0 r19)) (cwV 2 S.2.2.2.2 gX6_reasonNow_X2_nextReason rfl rfl rfl (by decide +kernel) ⟨Nat.le_of_ble_eq_true rfl, Nat.le_of_ble_eq_true rfl⟩) (cc_plan (A := A) (C := (PlC D C k p 0 (C 6 0 9)))) rfl rfl rfl (Nat.le_of_ble_eq_true rfl) dX6_reasonNow_23 ⟨Nat.le_of_ble_eq_true rfl, Nat.le_of_ble_eq_true rfl⟩ (fun _ _ _ h => h.elim) (fun v A2 C2 h_3 => ?_)
  obtain ⟨rfl, rfl, rfl⟩ := h_3
  exact s_zret (pc := 26) S hz hlo (nar_c (by omega)) hr ⟨rfl, rfl, rfl⟩ (Nat.le_of_ble_eq_true rfl) (Nat.le_of_ble_eq_true rfl) dX6_reasonNow_26
set_option maxHeartbeats 4000000 in
set_option maxRecDepth 100000 in
theorem k_X6_makePlan (Z : Zp) (l : Launch) (A : AF) (C : CF) (D : CF) (k p : Nat) (hS : Sm D C) (hM : OkM D) (hL : OkL D) (hk : k < D 60 100 30) (hp : p < D 60 100 29) : CtS Z l yX6_makePlan wsX6_makePlan ({ frames := 4, cells := 0, slots := 0, locals := 106 }) [.ref (A 0 0), .ref (A 11 k), .ref (A 9 p)] A C 0 0 (fun v A2 C2 => A = A2 ∧ PlC D C k p (nR D k p) (coR D k p (nR D k p)) = C2 ∧ none = v) (fun _ _ _ => False) := by
  refine CtS.of (cc0 := cX6_makePlan) (maxL := 4) (ret := none) (by decide) rfl (Nat.le_of_ble_eq_true rfl) ?_
  intro M0_ p_ e_ s_ m_ args_ below_ meth_ c_ S hz hml hex hlo hr hin
  refine s_loc (L2 := [(0, .ref (A 0 0)), (1, .ref (A 11 k)), (2, .ref (A 9 p))]) rfl ?_
  have i_RX2 : ∀ w ∈ u_ws RX2 TX2 10, w ∈ wsX6_makePlan := by decide +kernel
  have i_RX6 : ∀ w ∈ u_ws RX6 TX6 12, w ∈ wsX6_makePlan := by decide +kernel
  have hK := hS.okk hM hL
  obtain ⟨hO, hG, hX⟩ := id hM
  have hR := hO.rk hk hp
  obtain ⟨r1, r2, r3, r4, r5, r6, r7, r8, r9, r10, r11, r12, r13, r14, r15, r16, r17, r18, r19⟩ := id hR
  obtain ⟨-, -, -, -, -, -, -, jd, ju, jc, -⟩ := hO.jk hk
  obtain ⟨q0, q1, q2, q3, q4, q5, q6, q7, q8, q9, q10, q11, q12, q13⟩ := hS.2.2.2.2.1 k hk
  obtain ⟨p0, p1, p2, p3, p5⟩ := hS.2.2.1 p hp
  have hkC : k < C 0 0 5 := by rw [hS.1.2.2.1]; exact hk
  have hpC : p < C 0 0 4 := by rw [hS.1.2.1]; exact hp
  have huC : D 60 16 k < C 0 0 3 := by rw [hS.1.1]; exact ju
  have hpcl := pc_lt (d := D 60 13 k) (s := D 60 19 k) r9
  have k3 := hK.1.1
  have k4 := hK.1.2.1
  have k5 := hK.1.2.2.1
  have hcl := csN_le (d := D 60 13 k) r9
  have h900 : csN (D 60 13 k) (D 60 17 k) * D 60 18 k ≤ 100 * 9 := Nat.mul_le_mul (by omega) r11
  have hct : ∀ i : Nat, coR D k p i < 128 := co_lt D k p
  have z0 := hct 0
  refine s_aload_n (pc := 0) S 0 dX6_makePlan_0 rfl rfl ?_
  refine s_get (pc := 1) S hz (ref := "SpoolFarm") (v := .ref (A 6 0)) (cc_farm (A := A) (C := C)) i_RX6 rfl 11 (Nat.le_of_ble_eq_true rfl) (by decide +kernel) (fun _ h => h) rfl dX6_makePlan_1 ?_
  refine s_aload_n (pc := 4) S 0 dX6_makePlan_4 rfl rfl ?_
  refine s_aload_n (pc := 5) S 1 dX6_makePlan_5 rfl rfl ?_
  refine s_aload_n (pc := 6) S 2 dX6_makePlan_6 rfl rfl ?_
  refine s_callV (pc := 7) S hz hml [.ref (A 11 k), .ref (A 9 p)] (k_X6_reasonNow Z l A C D k p hS hM hL hk hp) (cwV 2 S.2.2.2.2 gX6_makePlan_X6_reasonNow rfl rfl rfl (by decide +kernel) ⟨Nat.le_of_ble_eq_true rfl, Nat.le_of_ble_eq_true rfl⟩) (cc_farm (A := A) (C := C)) rfl rfl rfl (Nat.le_of_ble_eq_true rfl) dX6_makePlan_7 ⟨Nat.le_of_ble_eq_true rfl, Nat.le_of_ble_eq_true rfl⟩ (fun _ _ _ h => h.elim) (fun v A2 C2 h_1 => ?_)
  obtain ⟨rfl, rfl, rfl⟩ := h_1
  refine s_put (pc := 10) S hz (ref := "SpoolFarm$Plan") (ty := .char) (cc_plan (A := A) (C := (PlC D C k p 0 (C 6 0 9)))) i_RX2 tyX2 tyX2_ok nmX2 rfl 9 (Nat.le_of_ble_eq_true rfl) (by decide +kernel) (fun _ h => h) rfl (by decide +kernel) (nar_c (by omega)) (fit_c (by omega)) (Nat.le_of_ble_eq_true rfl) (up3 (PlC D C k p 0 (C 6 0 9)) 6 0 9 (coR D k p 0)) cu_plan (by rw [(cc_plan (A := A) (C := (up3 (PlC D C k p 0 (C 6 0 9)) 6 0 9 (coR D k p 0)))), up3_u]; rfl) dX6_makePlan_10 ?_
  refine s_C (PlC_s D C k p 0 (C 6 0 9) (coR D k p 0)).symm ?_
  refine s_iconst (pc := 13) S (v := (nI 0)) dX6_makePlan_13 (by decide) ?_
  refine s_istore_n (pc := 14) S [(3, .int (nI 0)), (0, .ref (A 0 0)), (1, .ref (A 11 k)), (2, .ref (A 9 p))] dX6_makePlan_14 rfl (by decide) rfl ?_
  refine s_perm [0, 1, 2, 3] [(3, .int (nI 0)), (0, .ref (A 0 0)), (1, .ref (A 11 k)), (2, .ref (A 9 p))] rfl ?_
  refine s_loop (σ := Nat) (fun i => i ≤ 900 ∧ TrI D k p i ∧ ∀ z : Nat, z < i → coR D k p z = 45) (fun i => 900 - i) (fun _ => A) (fun i => PlC D C k p i (coR D k p i)) (fun i => [(3, .int (nI i)), (0, .ref (A 0 0)), (1, .ref (A 11 k)), (2, .ref (A 9 p))]) 0 ⟨Nat.zero_le _, TrI_0 r19, fun z h => absurd h (Nat.not_lt_zero z)⟩ rfl rfl rfl ?_
  intro i hI ih
  obtain ⟨hi9, hT, hJ⟩ := hI
  have hco := co_c D k p i
  obtain ⟨t1, t2, t3, t4, t5⟩ := id hT
  have zi := hct i
  have zi1 := hct (i + 1)
  refine s_iload_n (pc := 15) S 0 dX6_makePlan_15 rfl rfl ?_
  refine s_sipush (pc := 16) S (v := (nI 900)) dX6_makePlan_16 (by decide) ?_
  refine s_icmp_geN (pc := 19) S 64 dX6_makePlan_19 (by decide) (by omega) (by omega) (fun c_2 => ?_) (fun c_2 => ?_)
  · have hF : FR D k p i := ⟨hT, by omega, hJ⟩
    exact s_vret (pc := 64) S hz hlo hr ⟨rfl, by rw [hF.eq hR], rfl⟩ (Nat.le_of_ble_eq_true rfl) (Nat.le_of_ble_eq_true rfl) dX6_makePlan_64
  · refine s_aload_n (pc := 22) S 1 dX6_makePlan_22 rfl rfl ?_
    refine s_get (pc := 23) S hz (ref := "SpoolFarm") (v := .ref (A 6 0)) (cc_farm (A := A) (C := PlC D C k p i (coR D k p i))) i_RX6 rfl 11 (Nat.le_of_ble_eq_true rfl) (by decide +kernel) (fun _ h => h) rfl dX6_makePlan_23 ?_
    refine s_get (pc := 26) S hz (ref := "SpoolFarm$Plan") (v := .int (nI (coR D k p i))) (cc_plan (A := A) (C := PlC D C k p i (coR D k p i))) i_RX2 rfl 9 (Nat.le_of_ble_eq_true rfl) (by decide +kernel) (fun _ h => h) rfl dX6_makePlan_26 ?_
    refine s_bipush (pc := 29) S (v := (nI 45)) dX6_makePlan_29 (by decide) ?_
    refine s_icmp_neN (pc := 31) S 64 dX6_makePlan_31 (by decide) (by omega) (by omega) (fun c_3 => ?_) (fun c_3 => ?_)
    · have hF : FR D k p i := ⟨hT, by omega, hJ⟩
      exact s_vret (pc := 64) S hz hlo hr ⟨rfl, by rw [hF.eq hR], rfl⟩ (Nat.le_of_ble_eq_true rfl) (Nat.le_of_ble_eq_true rfl) dX6_makePlan_64
    · refine s_aload_n (pc := 34) S 1 dX6_makePlan_34 rfl rfl ?_
      refine s_get (pc := 35) S hz (ref := "SpoolFarm") (v := .ref (A 6 0)) (cc_farm (A := A) (C := PlC D C k p i (coR D k p i))) i_RX6 rfl 11 (Nat.le_of_ble_eq_true rfl) (by decide +kernel) (fun _ h => h) rfl dX6_makePlan_35 ?_
      refine s_aload_n (pc := 38) S 2 dX6_makePlan_38 rfl rfl ?_
      have hT1 := TrI_next (C := D) (k := k) (p := p) (j := i) r9 (by omega) hT
      refine s_callV (pc := 39) S hz hml [.ref (A 11 k)] (k_X2_addSheet Z l A C D k p hS hM hL hk hp i (coR D k p i) hT (by omega)) (cwV 1 S.2.2.2.2 gX6_makePlan_X2_addSheet rfl rfl rfl (by decide +kernel) ⟨Nat.le_of_ble_eq_true rfl, Nat.le_of_ble_eq_true rfl⟩) (cc_plan (A := A) (C := PlC D C k p i (coR D k p i))) rfl rfl rfl (Nat.le_of_ble_eq_true rfl) dX6_makePlan_39 ⟨Nat.le_of_ble_eq_true rfl, Nat.le_of_ble_eq_true rfl⟩ (fun _ _ _ h => h.elim) (fun v A2 C2 h_4 => ?_)
      obtain ⟨rfl, rfl, rfl⟩ := h_4
      refine s_aload_n (pc := 42) S 1 dX6_makePlan_42 rfl rfl ?_
      refine s_get (pc := 43) S hz (ref := "SpoolFarm") (v := .ref (A 6 0)) (cc_farm (A := A) (C := (PlC D C k p (i + 1) (coR D k p i)))) i_RX6 rfl 11 (Nat.le_of_ble_eq_true rfl) (by decide +kernel) (fun _ h => h) rfl dX6_makePlan_43 ?_
      refine s_aload_n (pc := 46) S 1 dX6_makePlan_46 rfl rfl ?_
      refine s_get (pc := 47) S hz (ref := "SpoolFarm") (v := .ref (A 6 0)) (cc_farm (A := A) (C := (PlC D C k p (i + 1) (coR D k p i)))) i_RX6 rfl 11 (Nat.le_of_ble_eq_true rfl) (by decide +kernel) (fun _ h => h) rfl dX6_makePlan_47 ?_
      refine s_aload_n (pc := 50) S 2 dX6_makePlan_50 rfl rfl ?_
      refine s_aload_n (pc := 51) S 3 dX6_makePlan_51 rfl rfl ?_
      refine s_callV (pc := 52) S hz hml [.ref (A 11 k), .ref (A 9 p)] (k_X2_nextReason Z l A C D k p hS hM hL hk hp (i + 1) (coR D k p i) hT1) (cwV 2 S.2.2.2.2 gX6_makePlan_X2_nextReason rfl rfl rfl (by decide +kernel) ⟨Nat.le_of_ble_eq_true rfl, Nat.le_of_ble_eq_true rfl⟩) (cc_plan (A := A) (C := (PlC D C k p (i + 1) (coR D k p i)))) rfl rfl rfl (Nat.le_of_ble_eq_true rfl) dX6_makePlan_52 ⟨Nat.le_of_ble_eq_true rfl, Nat.le_of_ble_eq_true rfl⟩ (fun _ _ _ h => h.elim) (fun v A2 C2 h_5 => ?_)
      obtain ⟨rfl, rfl, rfl⟩ := h_5
      refine s_put (pc := 55) S hz (ref := "SpoolFarm$Plan") (ty := .char) (cc_plan (A := A) (C := (PlC D C k p (i + 1) (coR D k p i)))) i_RX2 tyX2 tyX2_ok nmX2 rfl 9 (Nat.le_of_ble_eq_true rfl) (by decide +kernel) (fun _ h => h) rfl (by decide +kernel) (nar_c (by omega)) (fit_c (by omega)) (Nat.le_of_ble_eq_true rfl) (up3 (PlC D C k p (i + 1) (coR D k p i)) 6 0 9 (coR D k p (i + 1))) cu_plan (by rw [(cc_plan (A := A) (C := (up3 (PlC D C k p (i + 1) (coR D k p i)) 6 0 9 (coR D k p (i + 1))))), up3_u]; rfl) dX6_makePlan_55 ?_
      refine s_C (PlC_s D C k p (i + 1) (coR D k p i) (coR D k p (i + 1))).symm ?_
      refine s_iinc (pc := 58) S 0 [(3, .int (nI (i + 1))), (0, .ref (A 0 0)), (1, .ref (A 11 k)), (2, .ref (A 9 p))] dX6_makePlan_58 rfl (nI_add _ 1) (by decide) rfl ?_
      refine s_goto (pc := 61) S 15 dX6_makePlan_61 (by decide) ?_
      refine s_perm [0, 1, 2, 3] [(3, .int (nI (i + 1))), (0, .ref (A 0 0)), (1, .ref (A 11 k)), (2, .ref (A 9 p))] rfl ?_
      exact ih (i + 1) ⟨by omega, hT1, fun z hz => (Nat.lt_or_ge z i).elim (fun y => hJ z y) (fun y => by rw [show z = i by omega]; omega)⟩ (by omega)
