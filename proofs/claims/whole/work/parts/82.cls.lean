/-- the same but for the plan -/
def Kp (C C2 : CF) : Prop := ∃ w : Nat → Nat, P6 C w = C2
theorem P6_self (C : CF) : P6 C (C 6 0) = C := by
  funext kk ii ff
  unfold P6
  split
  · rename_i z
    rw [z.1, z.2]
  · rfl
theorem rk_0 {D : CF} {k p : Nat} (hR : RK D k p) : coR D k p 0 = 45 ↔ 0 < rkR D k p := by
  have hF := nR_FR hR
  have hk := rk_co hR
  constructor
  · intro h
    rcases Nat.eq_zero_or_pos (nR D k p) with z | z
    · have := hF.2.1
      rw [z] at this
      exact absurd h this
    · omega
  · intro h
    exact hF.2.2 0 (by omega)
set_option maxHeartbeats 4000000 in
set_option maxRecDepth 100000 in
theorem k_X6_isQueued (Z : Zp) (l : Launch) (A : AF) (C : CF) (D : CF) (k p : Nat) (hS : Sm D C) (hM : OkM D) (hL : OkL D) (hk : k < D 60 100 30) (hp : p < D 60 100 29) (b : Nat) (hb : b < 2) : CtS Z l yX6_isQueued wsX6_isQueued ({ frames := 5, cells := 0, slots := 0, locals := 129 }) [.ref (A 0 0), .ref (A 11 k), .ref (A 9 p), .int (nI b)] A C 0 0 (fun v A2 C2 => A = A2 ∧ PlC D C k p (nR D k p) (coR D k p (nR D k p)) = C2 ∧ some (.int (nI (if rkR D k p = b + 1 then 1 else 0))) = v) (fun _ _ _ => False) := by
  refine CtS.of (cc0 := cX6_isQueued) (maxL := 4) (ret := (some .boolean)) (by decide) rfl (Nat.le_of_ble_eq_true rfl) ?_
  intro M0_ p_ e_ s_ m_ args_ below_ meth_ c_ S hz hml hex hlo hr hin
  refine s_loc (L2 := [(0, .ref (A 0 0)), (1, .ref (A 11 k)), (2, .ref (A 9 p)), (3, .int (nI b))]) rfl ?_
  have i_RX2 : ∀ w ∈ u_ws RX2 TX2 10, w ∈ wsX6_isQueued := by decide +kernel
  have i_RX6 : ∀ w ∈ u_ws RX6 TX6 12, w ∈ wsX6_isQueued := by decide +kernel
  have hK := hS.okk hM hL
  obtain ⟨hO, hG, hX⟩ := id hM
  have hR := hO.rk hk hp
  obtain ⟨r1, r2, r3, r4, r5, r6, r7, r8, r9, r10, r11, r12, r13, r14, r15, r16, r17, r18, r19⟩ := id hR
  obtain ⟨-, -, -, -, -, -, -, jd, ju, jc, -⟩ := hO.jk hk
  obtain ⟨q0, q1, q2, q3, q4, q5, q6, q7, q8, q9, q10, q11, q12, q13⟩ := hS.2.2.2.2.1 k hk
  obtain ⟨p0, p1, p2, p3, p5⟩ := hS.2.2.1 p hp
  have hkC : k < C 0 0 5 := by rw [hS.1.2.2.1]; exact hk
  have hpC : p < C 0 0 4 := by rw [hS.1.2.1]; exact hp
  have huC : D 60 16 k < C 0 0 3 := by rw [hS.1.1]; exact ju
  have hpcl := pc_lt (d := D 60 13 k) (s := D 60 19 k) r9
  have k3 := hK.1.1
  have k4 := hK.1.2.1
  have k5 := hK.1.2.2.1
  have hcl := csN_le (d := D 60 13 k) r9
  have h900 : csN (D 60 13 k) (D 60 17 k) * D 60 18 k ≤ 100 * 9 := Nat.mul_le_mul (by omega) r11
  have hct : ∀ i : Nat, coR D k p i < 128 := co_lt D k p
  have hrk := rk_co hR
  have hF9 := (nR_FR hR).le hR
  have hcn := hct (nR D k p)
  refine s_aload_n (pc := 0) S 0 dX6_isQueued_0 rfl rfl ?_
  refine s_aload_n (pc := 1) S 1 dX6_isQueued_1 rfl rfl ?_
  refine s_aload_n (pc := 2) S 2 dX6_isQueued_2 rfl rfl ?_
  refine s_callV (pc := 3) S hz hml [.ref (A 11 k), .ref (A 9 p)] (k_X6_makePlan Z l A C D k p hS hM hL hk hp) (cwV 2 S.2.2.2.2 gX6_isQueued_X6_makePlan rfl rfl rfl (by decide +kernel) ⟨Nat.le_of_ble_eq_true rfl, Nat.le_of_ble_eq_true rfl⟩) (cc_farm (A := A) (C := C)) rfl rfl rfl (Nat.le_of_ble_eq_true rfl) dX6_isQueued_3 ⟨Nat.le_of_ble_eq_true rfl, Nat.le_of_ble_eq_true rfl⟩ (fun _ _ _ h => h.elim) (fun v A2 C2 h_1 => ?_)
  obtain ⟨rfl, rfl, rfl⟩ := h_1
  refine s_aload_n (pc := 6) S 0 dX6_isQueued_6 rfl rfl ?_
  refine s_get (pc := 7) S hz (ref := "SpoolFarm") (v := .ref (A 6 0)) (cc_farm (A := A) (C := (PlC D C k p (nR D k p) (coR D k p (nR D k p))))) i_RX6 rfl 11 (Nat.le_of_ble_eq_true rfl) (by decide +kernel) (fun _ h => h) rfl dX6_isQueued_7 ?_
  refine s_get (pc := 10) S hz (ref := "SpoolFarm$Plan") (v := .int (nI (nR D k p))) (cc_plan (A := A) (C := (PlC D C k p (nR D k p) (coR D k p (nR D k p))))) i_RX2 rfl 4 (Nat.le_of_ble_eq_true rfl) (by decide +kernel) (fun _ h => h) rfl dX6_isQueued_10 ?_
  refine s_if_leN (pc := 13) S 41 dX6_isQueued_13 (by decide) (by omega) (fun c_2 => ?_) (fun c_2 => ?_)
  · refine s_iconst (pc := 41) S (v := (nI 0)) dX6_isQueued_41 (by decide) ?_
    exact s_zret (pc := 42) S hz hlo (nar_z (by omega)) hr ⟨rfl, rfl, congrArg (fun x => some (Value.int (nI x))) (show (if rkR D k p = b + 1 then 1 else 0) = 0 by rw [if_neg (by omega)])⟩ (Nat.le_of_ble_eq_true rfl) (Nat.le_of_ble_eq_true rfl) dX6_isQueued_42
  · refine s_aload_n (pc := 16) S 0 dX6_isQueued_16 rfl rfl ?_
    refine s_get (pc := 17) S hz (ref := "SpoolFarm") (v := .ref (A 6 0)) (cc_farm (A := A) (C := (PlC D C k p (nR D k p) (coR D k p (nR D k p))))) i_RX6 rfl 11 (Nat.le_of_ble_eq_true rfl) (by decide +kernel) (fun _ h => h) rfl dX6_isQueued_17 ?_
    refine s_get (pc := 20) S hz (ref := "SpoolFarm$Plan") (v := .int (nI (coR D k p (nR D k p)))) (cc_plan (A := A) (C := (PlC D C k p (nR D k p) (coR D k p (nR D k p))))) i_RX2 rfl 9 (Nat.le_of_ble_eq_true rfl) (by decide +kernel) (fun _ h => h) rfl dX6_isQueued_20 ?_
    refine s_bipush (pc := 23) S (v := (nI 100)) dX6_isQueued_23 (by decide) ?_
    refine s_icmp_neN (pc := 25) S 32 dX6_isQueued_25 (by decide) (by omega) (by omega) (fun c_3 => ?_) (fun c_3 => ?_)
    · refine s_iconst (pc := 32) S (v := (nI 0)) dX6_isQueued_32 (by decide) ?_
      refine s_iload_n (pc := 33) S 3 dX6_isQueued_33 rfl rfl ?_
      refine s_icmp_neN (pc := 34) S 41 dX6_isQueued_34 (by decide) (by omega) (by omega) (fun c_4 => ?_) (fun c_4 => ?_)
      · refine s_iconst (pc := 41) S (v := (nI 0)) dX6_isQueued_41 (by decide) ?_
        exact s_zret (pc := 42) S hz hlo (nar_z (by omega)) hr ⟨rfl, rfl, congrArg (fun x => some (Value.int (nI x))) (show (if rkR D k p = b + 1 then 1 else 0) = 0 by rw [if_neg (by omega)])⟩ (Nat.le_of_ble_eq_true rfl) (Nat.le_of_ble_eq_true rfl) dX6_isQueued_42
      · refine s_iconst (pc := 37) S (v := (nI 1)) dX6_isQueued_37 (by decide) ?_
        refine s_goto (pc := 38) S 42 dX6_isQueued_38 (by decide) ?_
        exact s_zret (pc := 42) S hz hlo (nar_z (by omega)) hr ⟨rfl, rfl, congrArg (fun x => some (Value.int (nI x))) (show (if rkR D k p = b + 1 then 1 else 0) = 1 by rw [if_pos (by omega)])⟩ (Nat.le_of_ble_eq_true rfl) (Nat.le_of_ble_eq_true rfl) dX6_isQueued_42
    · refine s_iconst (pc := 28) S (v := (nI 1)) dX6_isQueued_28 (by decide) ?_
      refine s_goto (pc := 29) S 33 dX6_isQueued_29 (by decide) ?_
      refine s_iload_n (pc := 33) S 3 dX6_isQueued_33 rfl rfl ?_
      refine s_icmp_neN (pc := 34) S 41 dX6_isQueued_34 (by decide) (by omega) (by omega) (fun c_5 => ?_) (fun c_5 => ?_)
      · refine s_iconst (pc := 41) S (v := (nI 0)) dX6_isQueued_41 (by decide) ?_
        exact s_zret (pc := 42) S hz hlo (nar_z (by omega)) hr ⟨rfl, rfl, congrArg (fun x => some (Value.int (nI x))) (show (if rkR D k p = b + 1 then 1 else 0) = 0 by rw [if_neg (by omega)])⟩ (Nat.le_of_ble_eq_true rfl) (Nat.le_of_ble_eq_true rfl) dX6_isQueued_42
      · refine s_iconst (pc := 37) S (v := (nI 1)) dX6_isQueued_37 (by decide) ?_
        refine s_goto (pc := 38) S 42 dX6_isQueued_38 (by decide) ?_
        exact s_zret (pc := 42) S hz hlo (nar_z (by omega)) hr ⟨rfl, rfl, congrArg (fun x => some (Value.int (nI x))) (show (if rkR D k p = b + 1 then 1 else 0) = 1 by rw [if_pos (by omega)])⟩ (Nat.le_of_ble_eq_true rfl) (Nat.le_of_ble_eq_true rfl) dX6_isQueued_42
set_option maxHeartbeats 4000000 in
set_option maxRecDepth 100000 in
theorem k_X6_reasonFor (Z : Zp) (l : Launch) (A : AF) (C : CF) (D : CF) (hS : Sm D C) (hM : OkM D) (hL : OkL D) (x y : Int32) (hfl : l.stackTraces = false) : CtS Z l yX6_reasonFor wsX6_reasonFor ({ frames := 7, cells := 2, slots := 12, locals := 112 }) [.ref (A 0 0), .int x, .int y] A C 2 12 (fun v A2 C2 => A = A2 ∧ (∃ k_2 k_6 : Nat, k_2 < C 0 0 5 ∧ nI k_2 = x ∧ k_6 < C 0 0 4 ∧ nI k_6 = y ∧ Kp C C2 ∧ some (.int (nI (coR D k_2 k_6 0))) = v)) (fun E A2 C2 => A = A2 ∧ ((E = "java/lang/IndexOutOfBoundsException" ∧ (∀ k : Nat, k < C 0 0 5 → nI k ≠ x) ∧ C = C2) ∨ (∃ k_2 : Nat, E = "java/lang/IndexOutOfBoundsException" ∧ k_2 < C 0 0 5 ∧ nI k_2 = x ∧ (∀ k : Nat, k < C 0 0 4 → nI k ≠ y) ∧ C = C2))) := by
  refine CtS.of (cc0 := cX6_reasonFor) (maxL := 3) (ret := (some .char)) (by decide) rfl (Nat.le_of_ble_eq_true rfl) ?_
  intro M0_ p_ e_ s_ m_ args_ below_ meth_ c_ S hz hml hex hlo hr hin
  refine s_loc (L2 := [(0, .ref (A 0 0)), (1, .int x), (2, .int y)]) rfl ?_
  have hK := hS.okk hM hL
  obtain ⟨⟨k3, k4, k5, k6, k7, k8⟩, kU, kP, kT, kJ, kL, kE, kB⟩ := id hK
  obtain ⟨hO, hG, hX⟩ := id hM
  have cu := hS.1.1
  have cp := hS.1.2.1
  have cj := hS.1.2.2.1
  refine s_aload_n (pc := 0) S 0 dX6_reasonFor_0 rfl rfl ?_
  refine s_aload_n (pc := 1) S 0 dX6_reasonFor_1 rfl rfl ?_
  refine s_iload_n (pc := 2) S 1 dX6_reasonFor_2 rfl rfl ?_
  refine s_callV (pc := 3) S hz hml [.int x] (k_X6_jobAt Z l A C x k5 hfl) (cwV 1 S.2.2.2.2 gX6_reasonFor_X6_jobAt rfl rfl rfl (by decide +kernel) ⟨Nat.le_of_ble_eq_true rfl, Nat.le_of_ble_eq_true rfl⟩) (cc_farm (A := A) (C := C)) rfl rfl rfl (Nat.le_of_ble_eq_true rfl) dX6_reasonFor_3 ⟨Nat.le_of_ble_eq_true rfl, Nat.le_of_ble_eq_true rfl⟩ (fun E A2 C2 h_1 => ?_) (fun v A2 C2 h_1 => ?_)
  · obtain ⟨rfl, rfl, n_4, rfl⟩ := h_1
    exact s_out S hz hex hlo ⟨rfl, Or.inl ⟨rfl, n_4, rfl⟩⟩ (Nat.le_of_ble_eq_true rfl) (Nat.le_of_ble_eq_true rfl)
  · obtain ⟨rfl, rfl, k_2, hk_3, rfl, rfl⟩ := h_1
    have hD_k_2 : k_2 < D 60 100 30 := by omega
    refine s_aload_n (pc := 6) S 0 dX6_reasonFor_6 rfl rfl ?_
    refine s_iload_n (pc := 7) S 2 dX6_reasonFor_7 rfl rfl ?_
    refine s_callV (pc := 8) S hz hml [.int y] (k_X6_printerAt Z l A C y k4 hfl) (cwV 1 S.2.2.2.2 gX6_reasonFor_X6_printerAt rfl rfl rfl (by decide +kernel) ⟨Nat.le_of_ble_eq_true rfl, Nat.le_of_ble_eq_true rfl⟩) (cc_farm (A := A) (C := C)) rfl rfl rfl (Nat.le_of_ble_eq_true rfl) dX6_reasonFor_8 ⟨Nat.le_of_ble_eq_true rfl, Nat.le_of_ble_eq_true rfl⟩ (fun E A2 C2 h_5 => ?_) (fun v A2 C2 h_5 => ?_)
    · obtain ⟨rfl, rfl, n_8, rfl⟩ := h_5
      exact s_out S hz hex hlo ⟨rfl, Or.inr (⟨k_2, rfl, hk_3, rfl, n_8, rfl⟩)⟩ (Nat.le_of_ble_eq_true rfl) (Nat.le_of_ble_eq_true rfl)
    · obtain ⟨rfl, rfl, k_6, hk_7, rfl, rfl⟩ := h_5
      have hD_k_6 : k_6 < D 60 100 29 := by omega
      refine s_callV (pc := 11) S hz hml [.ref (A 11 k_2), .ref (A 9 k_6)] (k_X6_reasonNow Z l A C D k_2 k_6 hS hM hL hD_k_2 hD_k_6) (cwV 2 S.2.2.2.2 gX6_reasonFor_X6_reasonNow rfl rfl rfl (by decide +kernel) ⟨Nat.le_of_ble_eq_true rfl, Nat.le_of_ble_eq_true rfl⟩) (cc_farm (A := A) (C := C)) rfl rfl rfl (Nat.le_of_ble_eq_true rfl) dX6_reasonFor_11 ⟨Nat.le_of_ble_eq_true rfl, Nat.le_of_ble_eq_true rfl⟩ (fun _ _ _ h => h.elim) (fun v A2 C2 h_9 => ?_)
      obtain ⟨rfl, rfl, rfl⟩ := h_9
      refine s_C (PlC_P6 D C k_2 k_6 0 (C 6 0 9)).symm ?_
      have z_10 := co_lt D k_2 k_6 0
      have hR_11 := hO.rk hD_k_2 hD_k_6
      have hrk_12 := rk_co hR_11
      have z_13 := (nR_FR hR_11).le hR_11
      have z_14 := pgR_le hR_11
      have z_15 := co_lt D k_2 k_6 (nR D k_2 k_6)
      exact s_zret (pc := 14) S hz hlo (nar_c (by omega)) hr ⟨rfl, ⟨k_2, k_6, hk_3, rfl, hk_7, rfl, ⟨_, rfl⟩, rfl⟩⟩ (Nat.le_of_ble_eq_true rfl) (Nat.le_of_ble_eq_true rfl) dX6_reasonFor_14
set_option maxHeartbeats 4000000 in
set_option maxRecDepth 100000 in
theorem k_X6_wouldPrint (Z : Zp) (l : Launch) (A : AF) (C : CF) (D : CF) (hS : Sm D C) (hM : OkM D) (hL : OkL D) (x y : Int32) (hfl : l.stackTraces = false) : CtS Z l yX6_wouldPrint wsX6_wouldPrint ({ frames := 7, cells := 2, slots := 12, locals := 129 }) [.ref (A 0 0), .int x, .int y] A C 2 12 (fun v A2 C2 => A = A2 ∧ (∃ k_2 k_6 : Nat, k_2 < C 0 0 5 ∧ nI k_2 = x ∧ k_6 < C 0 0 4 ∧ nI k_6 = y ∧ Kp C C2 ∧ some (.int (nI (pgR D k_2 k_6))) = v)) (fun E A2 C2 => A = A2 ∧ ((E = "java/lang/IndexOutOfBoundsException" ∧ (∀ k : Nat, k < C 0 0 5 → nI k ≠ x) ∧ C = C2) ∨ (∃ k_2 : Nat, E = "java/lang/IndexOutOfBoundsException" ∧ k_2 < C 0 0 5 ∧ nI k_2 = x ∧ (∀ k : Nat, k < C 0 0 4 → nI k ≠ y) ∧ C = C2))) := by
  refine CtS.of (cc0 := cX6_wouldPrint) (maxL := 3) (ret := (some .int)) (by decide) rfl (Nat.le_of_ble_eq_true rfl) ?_
  intro M0_ p_ e_ s_ m_ args_ below_ meth_ c_ S hz hml hex hlo hr hin
  refine s_loc (L2 := [(0, .ref (A 0 0)), (1, .int x), (2, .int y)]) rfl ?_
  have i_RX2 : ∀ w ∈ u_ws RX2 TX2 10, w ∈ wsX6_wouldPrint := by decide +kernel
  have i_RX6 : ∀ w ∈ u_ws RX6 TX6 12, w ∈ wsX6_wouldPrint := by decide +kernel
  have hK := hS.okk hM hL
  obtain ⟨⟨k3, k4, k5, k6, k7, k8⟩, kU, kP, kT, kJ, kL, kE, kB⟩ := id hK
  obtain ⟨hO, hG, hX⟩ := id hM
  have cu := hS.1.1
  have cp := hS.1.2.1
  have cj := hS.1.2.2.1
  refine s_aload_n (pc := 0) S 0 dX6_wouldPrint_0 rfl rfl ?_
  refine s_aload_n (pc := 1) S 0 dX6_wouldPrint_1 rfl rfl ?_
  refine s_iload_n (pc := 2) S 1 dX6_wouldPrint_2 rfl rfl ?_
  refine s_callV (pc := 3) S hz hml [.int x] (k_X6_jobAt Z l A C x k5 hfl) (cwV 1 S.2.2.2.2 gX6_wouldPrint_X6_jobAt rfl rfl rfl (by decide +kernel) ⟨Nat.le_of_ble_eq_true rfl, Nat.le_of_ble_eq_true rfl⟩) (cc_farm (A := A) (C := C)) rfl rfl rfl (Nat.le_of_ble_eq_true rfl) dX6_wouldPrint_3 ⟨Nat.le_of_ble_eq_true rfl, Nat.le_of_ble_eq_true rfl⟩ (fun E A2 C2 h_1 => ?_) (fun v A2 C2 h_1 => ?_)
  · obtain ⟨rfl, rfl, n_4, rfl⟩ := h_1
    exact s_out S hz hex hlo ⟨rfl, Or.inl ⟨rfl, n_4, rfl⟩⟩ (Nat.le_of_ble_eq_true rfl) (Nat.le_of_ble_eq_true rfl)
  · obtain ⟨rfl, rfl, k_2, hk_3, rfl, rfl⟩ := h_1
    have hD_k_2 : k_2 < D 60 100 30 := by omega
    refine s_aload_n (pc := 6) S 0 dX6_wouldPrint_6 rfl rfl ?_
    refine s_iload_n (pc := 7) S 2 dX6_wouldPrint_7 rfl rfl ?_
    refine s_callV (pc := 8) S hz hml [.int y] (k_X6_printerAt Z l A C y k4 hfl) (cwV 1 S.2.2.2.2 gX6_wouldPrint_X6_printerAt rfl rfl rfl (by decide +kernel) ⟨Nat.le_of_ble_eq_true rfl, Nat.le_of_ble_eq_true rfl⟩) (cc_farm (A := A) (C := C)) rfl rfl rfl (Nat.le_of_ble_eq_true rfl) dX6_wouldPrint_8 ⟨Nat.le_of_ble_eq_true rfl, Nat.le_of_ble_eq_true rfl⟩ (fun E A2 C2 h_5 => ?_) (fun v A2 C2 h_5 => ?_)
    · obtain ⟨rfl, rfl, n_8, rfl⟩ := h_5
      exact s_out S hz hex hlo ⟨rfl, Or.inr (⟨k_2, rfl, hk_3, rfl, n_8, rfl⟩)⟩ (Nat.le_of_ble_eq_true rfl) (Nat.le_of_ble_eq_true rfl)
    · obtain ⟨rfl, rfl, k_6, hk_7, rfl, rfl⟩ := h_5
      have hD_k_6 : k_6 < D 60 100 29 := by omega
      refine s_callV (pc := 11) S hz hml [.ref (A 11 k_2), .ref (A 9 k_6)] (k_X6_makePlan Z l A C D k_2 k_6 hS hM hL hD_k_2 hD_k_6) (cwV 2 S.2.2.2.2 gX6_wouldPrint_X6_makePlan rfl rfl rfl (by decide +kernel) ⟨Nat.le_of_ble_eq_true rfl, Nat.le_of_ble_eq_true rfl⟩) (cc_farm (A := A) (C := C)) rfl rfl rfl (Nat.le_of_ble_eq_true rfl) dX6_wouldPrint_11 ⟨Nat.le_of_ble_eq_true rfl, Nat.le_of_ble_eq_true rfl⟩ (fun _ _ _ h => h.elim) (fun v A2 C2 h_9 => ?_)
      obtain ⟨rfl, rfl, rfl⟩ := h_9
      refine s_C (PlC_P6 D C k_2 k_6 (nR D k_2 k_6) (coR D k_2 k_6 (nR D k_2 k_6))).symm ?_
      have hR_10 := hO.rk hD_k_2 hD_k_6
      have hrk_11 := rk_co hR_10
      have z_12 := (nR_FR hR_10).le hR_10
      have z_13 := pgR_le hR_10
      have z_14 := co_lt D k_2 k_6 (nR D k_2 k_6)
      refine s_aload_n (pc := 14) S 0 dX6_wouldPrint_14 rfl rfl ?_
      refine s_get (pc := 15) S hz (ref := "SpoolFarm") (v := .ref (A 6 0)) (cc_farm (A := A) (C := (P6 C (plF D C k_2 k_6 (nR D k_2 k_6) (coR D k_2 k_6 (nR D k_2 k_6)))))) i_RX6 rfl 11 (Nat.le_of_ble_eq_true rfl) (by decide +kernel) (fun _ h => h) rfl dX6_wouldPrint_15 ?_
      refine s_get (pc := 18) S hz (ref := "SpoolFarm$Plan") (v := .int (nI (pgR D k_2 k_6))) (cc_plan (A := A) (C := (P6 C (plF D C k_2 k_6 (nR D k_2 k_6) (coR D k_2 k_6 (nR D k_2 k_6)))))) i_RX2 rfl 3 (Nat.le_of_ble_eq_true rfl) (by decide +kernel) (fun _ h => h) rfl dX6_wouldPrint_18 ?_
      exact s_iret (pc := 21) S hz hlo hr ⟨rfl, ⟨k_2, k_6, hk_3, rfl, hk_7, rfl, ⟨_, rfl⟩, rfl⟩⟩ (Nat.le_of_ble_eq_true rfl) (Nat.le_of_ble_eq_true rfl) dX6_wouldPrint_21
set_option maxHeartbeats 4000000 in
set_option maxRecDepth 100000 in
theorem k_X6_bestPrinter (Z : Zp) (l : Launch) (A : AF) (C : CF) (D : CF) (hS : Sm D C) (hM : OkM D) (hL : OkL D) (x : Int32) (hfl : l.stackTraces = false) : CtS Z l yX6_bestPrinter wsX6_bestPrinter ({ frames := 7, cells := 2, slots := 12, locals := 129 }) [.ref (A 0 0), .int x] A C 2 12 (fun v A2 C2 => A = A2 ∧ (∃ k_2 : Nat, k_2 < C 0 0 5 ∧ nI k_2 = x ∧ 0 < (bsR D k_2 (D 60 100 29)).1 ∧ Kp C C2 ∧ some (.int (nI ((bsR D k_2 (D 60 100 29)).1 - 1))) = v)) (fun E A2 C2 => A = A2 ∧ ((E = "java/lang/IndexOutOfBoundsException" ∧ (∀ k : Nat, k < C 0 0 5 → nI k ≠ x) ∧ C = C2) ∨ (∃ k_2 : Nat, E = "java/util/NoSuchElementException" ∧ k_2 < C 0 0 5 ∧ nI k_2 = x ∧ (bsR D k_2 (D 60 100 29)).1 = 0 ∧ Kp C C2))) := by
  refine CtS.of (cc0 := cX6_bestPrinter) (maxL := 7) (ret := (some .int)) (by decide) rfl (Nat.le_of_ble_eq_true rfl) ?_
  intro M0_ p_ e_ s_ m_ args_ below_ meth_ c_ S hz hml hex hlo hr hin
  refine s_loc (L2 := [(0, .ref (A 0 0)), (1, .int x)]) rfl ?_
  have i_RX2 : ∀ w ∈ u_ws RX2 TX2 10, w ∈ wsX6_bestPrinter := by decide +kernel
  have i_RX6 : ∀ w ∈ u_ws RX6 TX6 12, w ∈ wsX6_bestPrinter := by decide +kernel
  have hK := hS.okk hM hL
  obtain ⟨⟨k3, k4, k5, k6, k7, k8⟩, kU, kP, kT, kJ, kL, kE, kB⟩ := id hK
  obtain ⟨hO, hG, hX⟩ := id hM
  have cu := hS.1.1
  have cp := hS.1.2.1
  have cj := hS.1.2.2.1
  refine s_aload_n (pc := 0) S 0 dX6_bestPrinter_0 rfl rfl ?_
  refine s_iload_n (pc := 1) S 1 dX6_bestPrinter_1 rfl rfl ?_
  refine s_callV (pc := 2) S hz hml [.int x] (k_X6_jobAt Z l A C x k5 hfl) (cwV 1 S.2.2.2.2 gX6_bestPrinter_X6_jobAt rfl rfl rfl (by decide +kernel) ⟨Nat.le_of_ble_eq_true rfl, Nat.le_of_ble_eq_true rfl⟩) (cc_farm (A := A) (C := C)) rfl rfl rfl (Nat.le_of_ble_eq_true rfl) dX6_bestPrinter_2 ⟨Nat.le_of_ble_eq_true rfl, Nat.le_of_ble_eq_true rfl⟩ (fun E A2 C2 h_1 => ?_) (fun v A2 C2 h_1 => ?_)
  · obtain ⟨rfl, rfl, n_4, rfl⟩ := h_1
    exact s_out S hz hex hlo ⟨rfl, Or.inl ⟨rfl, n_4, rfl⟩⟩ (Nat.le_of_ble_eq_true rfl) (Nat.le_of_ble_eq_true rfl)
  · obtain ⟨rfl, rfl, k_2, hk_3, rfl, rfl⟩ := h_1
    have hD_k_2 : k_2 < D 60 100 30 := by omega
    refine s_astore_n (pc := 5) S [(2, .ref (A 11 k_2)), (0, .ref (A 0 0)), (1, .int (nI k_2))] dX6_bestPrinter_5 rfl (by decide) rfl ?_
    refine s_iconst (pc := 6) S (v := (-1)) dX6_bestPrinter_6 (by decide) ?_
    refine s_istore_n (pc := 7) S [(3, .int (-1)), (2, .ref (A 11 k_2)), (0, .ref (A 0 0)), (1, .int (nI k_2))] dX6_bestPrinter_7 rfl (by decide) rfl ?_
    refine s_iconst (pc := 8) S (v := (nI 0)) dX6_bestPrinter_8 (by decide) ?_
    refine s_istore (pc := 9) S [(4, .int (nI 0)), (3, .int (-1)), (2, .ref (A 11 k_2)), (0, .ref (A 0 0)), (1, .int (nI k_2))] dX6_bestPrinter_9 (by decide) rfl ?_
    refine s_iconst (pc := 11) S (v := (nI 0)) dX6_bestPrinter_11 (by decide) ?_
    refine s_istore (pc := 12) S [(5, .int (nI 0)), (4, .int (nI 0)), (3, .int (-1)), (2, .ref (A 11 k_2)), (0, .ref (A 0 0)), (1, .int (nI k_2))] dX6_bestPrinter_12 (by decide) rfl ?_
    refine s_loc (L2 := [(5, .int (nI 0)), (4, .int (nI ((bsR D k_2 (min 0 (D 60 100 29))).2))), (3, .int (nI (bsR D k_2 (min 0 (D 60 100 29))).1 - nI 1)), (2, .ref (A 11 k_2)), (0, .ref (A 0 0)), (1, .int (nI k_2))]) (by rw [show min 0 (D 60 100 29) = 0 by omega, show (bsR D k_2 0).1 = 0 from rfl, show (bsR D k_2 0).2 = 0 from rfl, show nI 0 - nI 1 = (-1 : Int32) by decide]) ?_
    refine s_C (P6_self C) ?_
    refine s_perm [0, 1, 2, 3, 4] [(5, .int (nI 0)), (4, .int (nI ((bsR D k_2 (min 0 (D 60 100 29))).2))), (3, .int (nI (bsR D k_2 (min 0 (D 60 100 29))).1 - nI 1)), (2, .ref (A 11 k_2)), (0, .ref (A 0 0))] rfl ?_
    refine s_loop (σ := Nat × (Nat → Nat)) (fun y => y.1 ≤ 4) (fun y => 4 - y.1) (fun _ => A) (fun y => P6 C y.2) (fun y => [(5, .int (nI (y.1))), (4, .int (nI ((bsR D k_2 (min y.1 (D 60 100 29))).2))), (3, .int (nI (bsR D k_2 (min y.1 (D 60 100 29))).1 - nI 1)), (2, .ref (A 11 k_2)), (0, .ref (A 0 0))]) (0, C 6 0) (by dsimp only; omega) rfl rfl rfl ?_
    intro y hI ih
    obtain ⟨j, w⟩ := y
    dsimp only at hI ih ⊢
    have hb2 := bsR_b hO hD_k_2 (min j (D 60 100 29)) (Nat.min_le_right _ _)
    have hb1 := bsR_le D k_2 (min j (D 60 100 29))
    refine s_iload (pc := 14) S 0 dX6_bestPrinter_14 rfl ?_
    refine s_aload_n (pc := 16) S 4 dX6_bestPrinter_16 rfl rfl ?_
    refine s_get (pc := 17) S hz (ref := "SpoolFarm") (v := .ref (A 2 0)) (cc_farm (A := A) (C := (P6 C w))) i_RX6 rfl 1 (Nat.le_of_ble_eq_true rfl) (by decide +kernel) (fun _ h => h) rfl dX6_bestPrinter_17 ?_
    refine s_alen (pc := 20) S hz (n := 4) (cc_prns (A := A) (C := (P6 C w))) dX6_bestPrinter_20 ?_
    refine s_icmp_geN (pc := 21) S 75 dX6_bestPrinter_21 (by decide) (by omega) (by omega) (fun c_5 => ?_) (fun c_5 => ?_)
    · have hje : min j (D 60 100 29) = (D 60 100 29) := by omega
      rcases (show (bsR D k_2 (D 60 100 29)).1 = 0 ∨ 0 < (bsR D k_2 (D 60 100 29)).1 by omega) with hbz | hbz
      · refine s_perm [2, 3, 4] [(3, .int (nI (bsR D k_2 (min j (D 60 100 29))).1 - nI 1)), (2, .ref (A 11 k_2)), (0, .ref (A 0 0))] rfl ?_
        refine s_loc (L2 := [(3, .int (-1)), (2, .ref (A 11 k_2)), (0, .ref (A 0 0))]) (by rw [hje, hbz, show nI 0 - nI 1 = (-1 : Int32) by decide]) ?_
        have hb3 := bsR_le D k_2 (D 60 100 29)
        refine s_iload_n (pc := 75) S 0 dX6_bestPrinter_75 rfl rfl ?_
        refine s_if_ge (pc := 76) S 89 dX6_bestPrinter_76 (by decide) (fun h => absurd h (by decide)) (fun _ => ?_)
        exact s_throwN (pc := 79) (text := "no page would come out") S hz hfl hml hex hlo (by decide +kernel) (by decide +kernel) (by decide +kernel) (by decide +kernel) dX6_bestPrinter_79 dX6_bestPrinter_82 dX6_bestPrinter_83 dX6_bestPrinter_85 dX6_bestPrinter_88 (Nat.le_of_ble_eq_true rfl) (Nat.le_of_ble_eq_true rfl) (Nat.le_of_ble_eq_true rfl) (Nat.le_of_ble_eq_true rfl) ⟨rfl, Or.inr (⟨k_2, rfl, hk_3, rfl, hbz, ⟨_, rfl⟩⟩)⟩ (Nat.le_of_ble_eq_true rfl) (Nat.le_of_ble_eq_true rfl)
      · refine s_perm [2, 3, 4] [(3, .int (nI (bsR D k_2 (min j (D 60 100 29))).1 - nI 1)), (2, .ref (A 11 k_2)), (0, .ref (A 0 0))] rfl ?_
        refine s_loc (L2 := [(3, .int (nI ((bsR D k_2 (D 60 100 29)).1 - 1))), (2, .ref (A 11 k_2)), (0, .ref (A 0 0))]) (by rw [hje, pk_sub (show 1 ≤ (bsR D k_2 (D 60 100 29)).1 by omega)]) ?_
        have hb3 := bsR_le D k_2 (D 60 100 29)
        refine s_iload_n (pc := 75) S 0 dX6_bestPrinter_75 rfl rfl ?_
        refine s_if_geN (pc := 76) S 89 dX6_bestPrinter_76 (by decide) (by omega) (fun c_6 => ?_) (fun c_6 => absurd c_6 (by omega))
        refine s_iload_n (pc := 89) S 0 dX6_bestPrinter_89 rfl rfl ?_
        exact s_iret (pc := 90) S hz hlo hr ⟨rfl, ⟨k_2, hk_3, rfl, hbz, ⟨_, rfl⟩, rfl⟩⟩ (Nat.le_of_ble_eq_true rfl) (Nat.le_of_ble_eq_true rfl) dX6_bestPrinter_90
    · refine s_aload_n (pc := 24) S 4 dX6_bestPrinter_24 rfl rfl ?_
      refine s_get (pc := 25) S hz (ref := "SpoolFarm") (v := .ref (A 2 0)) (cc_farm (A := A) (C := (P6 C w))) i_RX6 rfl 1 (Nat.le_of_ble_eq_true rfl) (by decide +kernel) (fun _ h => h) rfl dX6_bestPrinter_25 ?_
      refine s_iload (pc := 28) S 0 dX6_bestPrinter_28 rfl ?_
      by_cases lv_7 : j < C 0 0 4
      · refine s_aald (pc := 30) S hz (v := .ref (A 9 j)) (cc_prns (A := A) (C := (P6 C w))) (by omega) (by decide) (congrArg va_rf (if_pos lv_7)) dX6_bestPrinter_30 ?_
        have hD_j : j < D 60 100 29 := by omega
        refine s_astore (pc := 31) S [(6, .ref (A 9 j)), (5, .int (nI j)), (4, .int (nI ((bsR D k_2 (min j (D 60 100 29))).2))), (3, .int (nI (bsR D k_2 (min j (D 60 100 29))).1 - nI 1)), (2, .ref (A 11 k_2)), (0, .ref (A 0 0))] dX6_bestPrinter_31 (by decide) rfl ?_
        refine s_aload (pc := 33) S 0 dX6_bestPrinter_33 rfl ?_
        refine s_ifnull (pc := 35) S dX6_bestPrinter_35 ?_
        refine s_aload_n (pc := 38) S 5 dX6_bestPrinter_38 rfl rfl ?_
        refine s_aload_n (pc := 39) S 4 dX6_bestPrinter_39 rfl rfl ?_
        refine s_aload (pc := 40) S 0 dX6_bestPrinter_40 rfl ?_
        refine s_callV (pc := 42) S hz hml [.ref (A 11 k_2), .ref (A 9 j)] (k_X6_makePlan Z l A (P6 C w) D k_2 j (sm_P hS) hM hL hD_k_2 hD_j) (cwV 2 S.2.2.2.2 gX6_bestPrinter_X6_makePlan rfl rfl rfl (by decide +kernel) ⟨Nat.le_of_ble_eq_true rfl, Nat.le_of_ble_eq_true rfl⟩) (cc_farm (A := A) (C := (P6 C w))) rfl rfl rfl (Nat.le_of_ble_eq_true rfl) dX6_bestPrinter_42 ⟨Nat.le_of_ble_eq_true rfl, Nat.le_of_ble_eq_true rfl⟩ (fun _ _ _ h => h.elim) (fun v A2 C2 h_8 => ?_)
        obtain ⟨rfl, rfl, rfl⟩ := h_8
        refine s_C (PlC_P6b D C w k_2 j (nR D k_2 j) (coR D k_2 j (nR D k_2 j))).symm ?_
        have hR_9 := hO.rk hD_k_2 hD_j
        have hrk_10 := rk_co hR_9
        have z_11 := (nR_FR hR_9).le hR_9
        have z_12 := pgR_le hR_9
        have z_13 := co_lt D k_2 j (nR D k_2 j)
        refine s_aload_n (pc := 45) S 5 dX6_bestPrinter_45 rfl rfl ?_
        refine s_get (pc := 46) S hz (ref := "SpoolFarm") (v := .ref (A 6 0)) (cc_farm (A := A) (C := (P6 C (plF D (P6 C w) k_2 j (nR D k_2 j) (coR D k_2 j (nR D k_2 j)))))) i_RX6 rfl 11 (Nat.le_of_ble_eq_true rfl) (by decide +kernel) (fun _ h => h) rfl dX6_bestPrinter_46 ?_
        refine s_get (pc := 49) S hz (ref := "SpoolFarm$Plan") (v := .int (nI (pgR D k_2 j))) (cc_plan (A := A) (C := (P6 C (plF D (P6 C w) k_2 j (nR D k_2 j) (coR D k_2 j (nR D k_2 j)))))) i_RX2 rfl 3 (Nat.le_of_ble_eq_true rfl) (by decide +kernel) (fun _ h => h) rfl dX6_bestPrinter_49 ?_
        refine s_iload (pc := 52) S 2 dX6_bestPrinter_52 rfl ?_
        refine s_icmp_leN (pc := 54) S 69 dX6_bestPrinter_54 (by decide) (by omega) (by omega) (fun c_14 => ?_) (fun c_14 => ?_)
        · refine s_iinc (pc := 69) S 1 [(5, .int (nI (j + 1))), (6, .ref (A 9 j)), (4, .int (nI ((bsR D k_2 (min j (D 60 100 29))).2))), (3, .int (nI (bsR D k_2 (min j (D 60 100 29))).1 - nI 1)), (2, .ref (A 11 k_2)), (0, .ref (A 0 0))] dX6_bestPrinter_69 rfl (nI_add _ 1) (by decide) rfl ?_
          refine s_goto (pc := 72) S 14 dX6_bestPrinter_72 (by decide) ?_
          refine s_perm [0, 2, 3, 4, 5] [(5, .int (nI (j + 1))), (4, .int (nI ((bsR D k_2 (min j (D 60 100 29))).2))), (3, .int (nI (bsR D k_2 (min j (D 60 100 29))).1 - nI 1)), (2, .ref (A 11 k_2)), (0, .ref (A 0 0))] rfl ?_
          refine s_loc (L2 := [(5, .int (nI (j + 1))), (4, .int (nI ((bsR D k_2 (min (j + 1) (D 60 100 29))).2))), (3, .int (nI (bsR D k_2 (min (j + 1) (D 60 100 29))).1 - nI 1)), (2, .ref (A 11 k_2)), (0, .ref (A 0 0))]) (by rw [show min (j + 1) (D 60 100 29) = j + 1 by omega, bsR_k (C := D) (k := k_2) (j := j) (by have z := c_14; rw [show min j (D 60 100 29) = j by omega] at z; omega), show min j (D 60 100 29) = j by omega]) ?_
          exact ih (j + 1, (plF D (P6 C w) k_2 j (nR D k_2 j) (coR D k_2 j (nR D k_2 j)))) (by dsimp only; omega) (by dsimp only; omega)
        · refine s_iload (pc := 57) S 1 dX6_bestPrinter_57 rfl ?_
          refine s_istore_n (pc := 59) S [(3, .int (nI j)), (6, .ref (A 9 j)), (5, .int (nI j)), (4, .int (nI ((bsR D k_2 (min j (D 60 100 29))).2))), (2, .ref (A 11 k_2)), (0, .ref (A 0 0))] dX6_bestPrinter_59 rfl (by decide) rfl ?_
          refine s_aload_n (pc := 60) S 5 dX6_bestPrinter_60 rfl rfl ?_
          refine s_get (pc := 61) S hz (ref := "SpoolFarm") (v := .ref (A 6 0)) (cc_farm (A := A) (C := (P6 C (plF D (P6 C w) k_2 j (nR D k_2 j) (coR D k_2 j (nR D k_2 j)))))) i_RX6 rfl 11 (Nat.le_of_ble_eq_true rfl) (by decide +kernel) (fun _ h => h) rfl dX6_bestPrinter_61 ?_
          refine s_get (pc := 64) S hz (ref := "SpoolFarm$Plan") (v := .int (nI (pgR D k_2 j))) (cc_plan (A := A) (C := (P6 C (plF D (P6 C w) k_2 j (nR D k_2 j) (coR D k_2 j (nR D k_2 j)))))) i_RX2 rfl 3 (Nat.le_of_ble_eq_true rfl) (by decide +kernel) (fun _ h => h) rfl dX6_bestPrinter_64 ?_
          refine s_istore (pc := 67) S [(4, .int (nI (pgR D k_2 j))), (3, .int (nI j)), (6, .ref (A 9 j)), (5, .int (nI j)), (2, .ref (A 11 k_2)), (0, .ref (A 0 0))] dX6_bestPrinter_67 (by decide) rfl ?_
          refine s_iinc (pc := 69) S 3 [(5, .int (nI (j + 1))), (4, .int (nI (pgR D k_2 j))), (3, .int (nI j)), (6, .ref (A 9 j)), (2, .ref (A 11 k_2)), (0, .ref (A 0 0))] dX6_bestPrinter_69 rfl (nI_add _ 1) (by decide) rfl ?_
          refine s_goto (pc := 72) S 14 dX6_bestPrinter_72 (by decide) ?_
          refine s_perm [0, 1, 2, 4, 5] [(5, .int (nI (j + 1))), (4, .int (nI (pgR D k_2 j))), (3, .int (nI j)), (2, .ref (A 11 k_2)), (0, .ref (A 0 0))] rfl ?_
          refine s_loc (L2 := [(5, .int (nI (j + 1))), (4, .int (nI ((bsR D k_2 (min (j + 1) (D 60 100 29))).2))), (3, .int (nI (bsR D k_2 (min (j + 1) (D 60 100 29))).1 - nI 1)), (2, .ref (A 11 k_2)), (0, .ref (A 0 0))]) (by rw [show min (j + 1) (D 60 100 29) = j + 1 by omega, bsR_n (C := D) (k := k_2) (j := j) (by have z := c_14; rw [show min j (D 60 100 29) = j by omega] at z; omega)]; simp only [pk_sub (show 1 ≤ j + 1 by omega), Nat.add_sub_cancel]) ?_
          exact ih (j + 1, (plF D (P6 C w) k_2 j (nR D k_2 j) (coR D k_2 j (nR D k_2 j)))) (by dsimp only; omega) (by dsimp only; omega)
      · refine s_aald (pc := 30) S hz (v := .null) (cc_prns (A := A) (C := (P6 C w))) (by omega) (by decide) (congrArg va_rf (if_neg lv_7)) dX6_bestPrinter_30 ?_
        refine s_astoreN (pc := 31) S [(6, .null), (5, .int (nI j)), (4, .int (nI ((bsR D k_2 (min j (D 60 100 29))).2))), (3, .int (nI (bsR D k_2 (min j (D 60 100 29))).1 - nI 1)), (2, .ref (A 11 k_2)), (0, .ref (A 0 0))] dX6_bestPrinter_31 (by decide) rfl ?_
        refine s_aloadN (pc := 33) S 0 dX6_bestPrinter_33 rfl ?_
        refine s_ifnullN (pc := 35) S 69 dX6_bestPrinter_35 (by decide) ?_
        refine s_iinc (pc := 69) S 1 [(5, .int (nI (j + 1))), (6, .null), (4, .int (nI ((bsR D k_2 (min j (D 60 100 29))).2))), (3, .int (nI (bsR D k_2 (min j (D 60 100 29))).1 - nI 1)), (2, .ref (A 11 k_2)), (0, .ref (A 0 0))] dX6_bestPrinter_69 rfl (nI_add _ 1) (by decide) rfl ?_
        refine s_goto (pc := 72) S 14 dX6_bestPrinter_72 (by decide) ?_
        refine s_perm [0, 2, 3, 4, 5] [(5, .int (nI (j + 1))), (4, .int (nI ((bsR D k_2 (min j (D 60 100 29))).2))), (3, .int (nI (bsR D k_2 (min j (D 60 100 29))).1 - nI 1)), (2, .ref (A 11 k_2)), (0, .ref (A 0 0))] rfl ?_
        refine s_loc (L2 := [(5, .int (nI (j + 1))), (4, .int (nI ((bsR D k_2 (min (j + 1) (D 60 100 29))).2))), (3, .int (nI (bsR D k_2 (min (j + 1) (D 60 100 29))).1 - nI 1)), (2, .ref (A 11 k_2)), (0, .ref (A 0 0))]) (by rw [show min (j + 1) (D 60 100 29) = min j (D 60 100 29) by omega]) ?_
        exact ih (j + 1, w) (by dsimp only; omega) (by dsimp only; omega)
set_option maxHeartbeats 4000000 in
set_option maxRecDepth 100000 in
theorem k_X6_queueLength (Z : Zp) (l : Launch) (A : AF) (C : CF) (D : CF) (hS : Sm D C) (hM : OkM D) (hL : OkL D) (x : Int32) (hfl : l.stackTraces = false) : CtS Z l yX6_queueLength wsX6_queueLength ({ frames := 7, cells := 1, slots := 6, locals := 112 }) [.ref (A 0 0), .int x] A C 1 6 (fun v A2 C2 => A = A2 ∧ (∃ k_2 : Nat, k_2 < C 0 0 4 ∧ nI k_2 = x ∧ Kp C C2 ∧ some (.int (nI (qdR D k_2 (D 60 100 30)))) = v)) (fun E A2 C2 => A = A2 ∧ (E = "java/lang/IndexOutOfBoundsException" ∧ (∀ k : Nat, k < C 0 0 4 → nI k ≠ x) ∧ C = C2)) := by
  refine CtS.of (cc0 := cX6_queueLength) (maxL := 8) (ret := (some .int)) (by decide) rfl (Nat.le_of_ble_eq_true rfl) ?_
  intro M0_ p_ e_ s_ m_ args_ below_ meth_ c_ S hz hml hex hlo hr hin
  refine s_loc (L2 := [(0, .ref (A 0 0)), (1, .int x)]) rfl ?_
  have i_RX6 : ∀ w ∈ u_ws RX6 TX6 12, w ∈ wsX6_queueLength := by decide +kernel
  have hK := hS.okk hM hL
  obtain ⟨⟨k3, k4, k5, k6, k7, k8⟩, kU, kP, kT, kJ, kL, kE, kB⟩ := id hK
  obtain ⟨hO, hG, hX⟩ := id hM
  have cu := hS.1.1
  have cp := hS.1.2.1
  have cj := hS.1.2.2.1
  refine s_aload_n (pc := 0) S 0 dX6_queueLength_0 rfl rfl ?_
  refine s_iload_n (pc := 1) S 1 dX6_queueLength_1 rfl rfl ?_
  refine s_callV (pc := 2) S hz hml [.int x] (k_X6_printerAt Z l A C x k4 hfl) (cwV 1 S.2.2.2.2 gX6_queueLength_X6_printerAt rfl rfl rfl (by decide +kernel) ⟨Nat.le_of_ble_eq_true rfl, Nat.le_of_ble_eq_true rfl⟩) (cc_farm (A := A) (C := C)) rfl rfl rfl (Nat.le_of_ble_eq_true rfl) dX6_queueLength_2 ⟨Nat.le_of_ble_eq_true rfl, Nat.le_of_ble_eq_true rfl⟩ (fun E A2 C2 h_1 => ?_) (fun v A2 C2 h_1 => ?_)
  · obtain ⟨rfl, rfl, n_4, rfl⟩ := h_1
    exact s_out S hz hex hlo ⟨rfl, ⟨rfl, n_4, rfl⟩⟩ (Nat.le_of_ble_eq_true rfl) (Nat.le_of_ble_eq_true rfl)
  · obtain ⟨rfl, rfl, k_2, hk_3, rfl, rfl⟩ := h_1
    have hD_k_2 : k_2 < D 60 100 29 := by omega
    refine s_astore_n (pc := 5) S [(2, .ref (A 9 k_2)), (0, .ref (A 0 0)), (1, .int (nI k_2))] dX6_queueLength_5 rfl (by decide) rfl ?_
    refine s_iconst (pc := 6) S (v := (nI 0)) dX6_queueLength_6 (by decide) ?_
    refine s_istore_n (pc := 7) S [(3, .int (nI 0)), (2, .ref (A 9 k_2)), (0, .ref (A 0 0)), (1, .int (nI k_2))] dX6_queueLength_7 rfl (by decide) rfl ?_
    refine s_aload_n (pc := 8) S 2 dX6_queueLength_8 rfl rfl ?_
    refine s_get (pc := 9) S hz (ref := "SpoolFarm") (v := .ref (A 3 0)) (cc_farm (A := A) (C := C)) i_RX6 rfl 2 (Nat.le_of_ble_eq_true rfl) (by decide +kernel) (fun _ h => h) rfl dX6_queueLength_9 ?_
    refine s_astore (pc := 12) S [(4, .ref (A 3 0)), (3, .int (nI 0)), (2, .ref (A 9 k_2)), (0, .ref (A 0 0)), (1, .int (nI k_2))] dX6_queueLength_12 (by decide) rfl ?_
    refine s_aload (pc := 14) S 0 dX6_queueLength_14 rfl ?_
    refine s_alen (pc := 16) S hz (n := 40) (cc_jobs (A := A) (C := C)) dX6_queueLength_16 ?_
    refine s_istore (pc := 17) S [(5, .int (nI 40)), (4, .ref (A 3 0)), (3, .int (nI 0)), (2, .ref (A 9 k_2)), (0, .ref (A 0 0)), (1, .int (nI k_2))] dX6_queueLength_17 (by decide) rfl ?_
    refine s_iconst (pc := 19) S (v := (nI 0)) dX6_queueLength_19 (by decide) ?_
    refine s_istore (pc := 20) S [(6, .int (nI 0)), (5, .int (nI 40)), (4, .ref (A 3 0)), (3, .int (nI 0)), (2, .ref (A 9 k_2)), (0, .ref (A 0 0)), (1, .int (nI k_2))] dX6_queueLength_20 (by decide) rfl ?_
    refine s_loc (L2 := [(6, .int (nI 0)), (5, .int (nI 40)), (4, .ref (A 3 0)), (3, .int (nI (qdR D k_2 (min 0 (D 60 100 30))))), (2, .ref (A 9 k_2)), (0, .ref (A 0 0)), (1, .int (nI k_2))]) (by rw [show min 0 (D 60 100 30) = 0 by omega]; rfl) ?_
    refine s_C (P6_self C) ?_
    refine s_perm [0, 3, 1, 2, 4, 5] [(6, .int (nI 0)), (3, .int (nI (qdR D k_2 (min 0 (D 60 100 30))))), (5, .int (nI 40)), (4, .ref (A 3 0)), (2, .ref (A 9 k_2)), (0, .ref (A 0 0))] rfl ?_
    refine s_loop (σ := Nat × (Nat → Nat)) (fun y => y.1 ≤ 40) (fun y => 40 - y.1) (fun _ => A) (fun y => P6 C y.2) (fun y => [(6, .int (nI (y.1))), (3, .int (nI (qdR D k_2 (min y.1 (D 60 100 30))))), (5, .int (nI 40)), (4, .ref (A 3 0)), (2, .ref (A 9 k_2)), (0, .ref (A 0 0))]) (0, C 6 0) (by dsimp only; omega) rfl rfl rfl ?_
    intro y hI ih
    obtain ⟨j, w⟩ := y
    dsimp only at hI ih ⊢
    have hqd := qdR_le D k_2 (min j (D 60 100 30))
    refine s_iload (pc := 22) S 0 dX6_queueLength_22 rfl ?_
    refine s_iload (pc := 24) S 2 dX6_queueLength_24 rfl ?_
    refine s_icmp_geN (pc := 26) S 62 dX6_queueLength_26 (by decide) (by omega) (by omega) (fun c_5 => ?_) (fun c_5 => ?_)
    · refine s_loc (L2 := [(6, .int (nI j)), (3, .int (nI (qdR D k_2 (D 60 100 30)))), (5, .int (nI 40)), (4, .ref (A 3 0)), (2, .ref (A 9 k_2)), (0, .ref (A 0 0))]) (by rw [show min j (D 60 100 30) = (D 60 100 30) by omega]) ?_
      have hqe := qdR_le D k_2 (D 60 100 30)
      refine s_iload_n (pc := 62) S 1 dX6_queueLength_62 rfl rfl ?_
      exact s_iret (pc := 63) S hz hlo hr ⟨rfl, ⟨k_2, hk_3, rfl, ⟨_, rfl⟩, rfl⟩⟩ (Nat.le_of_ble_eq_true rfl) (Nat.le_of_ble_eq_true rfl) dX6_queueLength_63
    · refine s_aload (pc := 29) S 3 dX6_queueLength_29 rfl ?_
      refine s_iload (pc := 31) S 0 dX6_queueLength_31 rfl ?_
      by_cases lv_6 : j < C 0 0 5
      · refine s_aald (pc := 33) S hz (v := .ref (A 11 j)) (cc_jobs (A := A) (C := (P6 C w))) (by omega) (by decide) (congrArg va_rf (if_pos lv_6)) dX6_queueLength_33 ?_
        have hD_j : j < D 60 100 30 := by omega
        refine s_astore (pc := 34) S [(7, .ref (A 11 j)), (6, .int (nI j)), (3, .int (nI (qdR D k_2 (min j (D 60 100 30))))), (5, .int (nI 40)), (4, .ref (A 3 0)), (2, .ref (A 9 k_2)), (0, .ref (A 0 0))] dX6_queueLength_34 (by decide) rfl ?_
        refine s_aload (pc := 36) S 0 dX6_queueLength_36 rfl ?_
        refine s_ifnull (pc := 38) S dX6_queueLength_38 ?_
        refine s_aload_n (pc := 41) S 6 dX6_queueLength_41 rfl rfl ?_
        refine s_aload (pc := 42) S 0 dX6_queueLength_42 rfl ?_
        refine s_aload_n (pc := 44) S 5 dX6_queueLength_44 rfl rfl ?_
        refine s_callV (pc := 45) S hz hml [.ref (A 11 j), .ref (A 9 k_2)] (k_X6_reasonNow Z l A (P6 C w) D j k_2 (sm_P hS) hM hL hD_j hD_k_2) (cwV 2 S.2.2.2.2 gX6_queueLength_X6_reasonNow rfl rfl rfl (by decide +kernel) ⟨Nat.le_of_ble_eq_true rfl, Nat.le_of_ble_eq_true rfl⟩) (cc_farm (A := A) (C := (P6 C w))) rfl rfl rfl (Nat.le_of_ble_eq_true rfl) dX6_queueLength_45 ⟨Nat.le_of_ble_eq_true rfl, Nat.le_of_ble_eq_true rfl⟩ (fun _ _ _ h => h.elim) (fun v A2 C2 h_7 => ?_)
        obtain ⟨rfl, rfl, rfl⟩ := h_7
        refine s_C (PlC_P6b D C w j k_2 0 ((P6 C w) 6 0 9)).symm ?_
        have z_8 := co_lt D j k_2 0
        have hR_9 := hO.rk hD_j hD_k_2
        have hrk_10 := rk_co hR_9
        have z_11 := (nR_FR hR_9).le hR_9
        have z_12 := pgR_le hR_9
        have z_13 := co_lt D j k_2 (nR D j k_2)
        refine s_bipush (pc := 48) S (v := (nI 45)) dX6_queueLength_48 (by decide) ?_
        refine s_icmp_neN (pc := 50) S 56 dX6_queueLength_50 (by decide) (by omega) (by omega) (fun c_14 => ?_) (fun c_14 => ?_)
        · refine s_iinc (pc := 56) S 1 [(6, .int (nI (j + 1))), (7, .ref (A 11 j)), (3, .int (nI (qdR D k_2 (min j (D 60 100 30))))), (5, .int (nI 40)), (4, .ref (A 3 0)), (2, .ref (A 9 k_2)), (0, .ref (A 0 0))] dX6_queueLength_56 rfl (nI_add _ 1) (by decide) rfl ?_
          refine s_goto (pc := 59) S 22 dX6_queueLength_59 (by decide) ?_
          have hr0 := rk_0 (hO.rk hD_j hD_k_2)
          refine s_perm [0, 2, 3, 4, 5, 6] [(6, .int (nI (j + 1))), (3, .int (nI (qdR D k_2 (min j (D 60 100 30))))), (5, .int (nI 40)), (4, .ref (A 3 0)), (2, .ref (A 9 k_2)), (0, .ref (A 0 0))] rfl ?_
          refine s_loc (L2 := [(6, .int (nI (j + 1))), (3, .int (nI (qdR D k_2 (min (j + 1) (D 60 100 30))))), (5, .int (nI 40)), (4, .ref (A 3 0)), (2, .ref (A 9 k_2)), (0, .ref (A 0 0))]) (by rw [show min (j + 1) (D 60 100 30) = j + 1 by omega, qdR_0 (C := D) (k := j) (p := k_2) (by omega), show min j (D 60 100 30) = j by omega, Nat.add_zero (qdR D k_2 j)]) ?_
          exact ih (j + 1, (plF D (P6 C w) j k_2 0 ((P6 C w) 6 0 9))) (by dsimp only; omega) (by dsimp only; omega)
        · refine s_iinc (pc := 53) S 2 [(3, .int (nI ((qdR D k_2 (min j (D 60 100 30))) + 1))), (7, .ref (A 11 j)), (6, .int (nI j)), (5, .int (nI 40)), (4, .ref (A 3 0)), (2, .ref (A 9 k_2)), (0, .ref (A 0 0))] dX6_queueLength_53 rfl (nI_add _ 1) (by decide) rfl ?_
          refine s_iinc (pc := 56) S 2 [(6, .int (nI (j + 1))), (3, .int (nI ((qdR D k_2 (min j (D 60 100 30))) + 1))), (7, .ref (A 11 j)), (5, .int (nI 40)), (4, .ref (A 3 0)), (2, .ref (A 9 k_2)), (0, .ref (A 0 0))] dX6_queueLength_56 rfl (nI_add _ 1) (by decide) rfl ?_
          refine s_goto (pc := 59) S 22 dX6_queueLength_59 (by decide) ?_
          have hr0 := rk_0 (hO.rk hD_j hD_k_2)
          refine s_perm [0, 1, 3, 4, 5, 6] [(6, .int (nI (j + 1))), (3, .int (nI ((qdR D k_2 (min j (D 60 100 30))) + 1))), (5, .int (nI 40)), (4, .ref (A 3 0)), (2, .ref (A 9 k_2)), (0, .ref (A 0 0))] rfl ?_
          refine s_loc (L2 := [(6, .int (nI (j + 1))), (3, .int (nI (qdR D k_2 (min (j + 1) (D 60 100 30))))), (5, .int (nI 40)), (4, .ref (A 3 0)), (2, .ref (A 9 k_2)), (0, .ref (A 0 0))]) (by rw [show min (j + 1) (D 60 100 30) = j + 1 by omega, qdR_1 (C := D) (k := j) (p := k_2) (by omega), show min j (D 60 100 30) = j by omega]) ?_
          exact ih (j + 1, (plF D (P6 C w) j k_2 0 ((P6 C w) 6 0 9))) (by dsimp only; omega) (by dsimp only; omega)
      · refine s_aald (pc := 33) S hz (v := .null) (cc_jobs (A := A) (C := (P6 C w))) (by omega) (by decide) (congrArg va_rf (if_neg lv_6)) dX6_queueLength_33 ?_
        refine s_astoreN (pc := 34) S [(7, .null), (6, .int (nI j)), (3, .int (nI (qdR D k_2 (min j (D 60 100 30))))), (5, .int (nI 40)), (4, .ref (A 3 0)), (2, .ref (A 9 k_2)), (0, .ref (A 0 0))] dX6_queueLength_34 (by decide) rfl ?_
        refine s_aloadN (pc := 36) S 0 dX6_queueLength_36 rfl ?_
        refine s_ifnullN (pc := 38) S 56 dX6_queueLength_38 (by decide) ?_
        refine s_iinc (pc := 56) S 1 [(6, .int (nI (j + 1))), (7, .null), (3, .int (nI (qdR D k_2 (min j (D 60 100 30))))), (5, .int (nI 40)), (4, .ref (A 3 0)), (2, .ref (A 9 k_2)), (0, .ref (A 0 0))] dX6_queueLength_56 rfl (nI_add _ 1) (by decide) rfl ?_
        refine s_goto (pc := 59) S 22 dX6_queueLength_59 (by decide) ?_
        refine s_perm [0, 2, 3, 4, 5, 6] [(6, .int (nI (j + 1))), (3, .int (nI (qdR D k_2 (min j (D 60 100 30))))), (5, .int (nI 40)), (4, .ref (A 3 0)), (2, .ref (A 9 k_2)), (0, .ref (A 0 0))] rfl ?_
        refine s_loc (L2 := [(6, .int (nI (j + 1))), (3, .int (nI (qdR D k_2 (min (j + 1) (D 60 100 30))))), (5, .int (nI 40)), (4, .ref (A 3 0)), (2, .ref (A 9 k_2)), (0, .ref (A 0 0))]) (by rw [show min (j + 1) (D 60 100 30) = min j (D 60 100 30) by omega]) ?_
        exact ih (j + 1, w) (by dsimp only; omega) (by dsimp only; omega)
set_option maxHeartbeats 4000000 in
set_option maxRecDepth 100000 in
theorem k_X6_queueAt (Z : Zp) (l : Launch) (A : AF) (C : CF) (D : CF) (hS : Sm D C) (hM : OkM D) (hL : OkL D) (x y : Int32) (hfl : l.stackTraces = false) : CtS Z l yX6_queueAt wsX6_queueAt ({ frames := 7, cells := 2, slots := 12, locals := 152 }) [.ref (A 0 0), .int x, .int y] A C 2 12 (fun v A2 C2 => A = A2 ∧ ((∃ k_2 j1 : Nat, k_2 < C 0 0 4 ∧ nI k_2 = x ∧ j1 < D 60 100 30 ∧ rkR D j1 k_2 = 1 ∧ nI (q2R D k_2 2 (D 60 100 30) + q2R D k_2 1 j1) = y ∧ Kp C C2 ∧ some (.int (nI j1)) = v) ∨ (∃ k_2 j0 : Nat, k_2 < C 0 0 4 ∧ nI k_2 = x ∧ j0 < D 60 100 30 ∧ rkR D j0 k_2 = 2 ∧ nI (q2R D k_2 2 j0) = y ∧ Kp C C2 ∧ some (.int (nI j0)) = v))) (fun E A2 C2 => A = A2 ∧ ((E = "java/lang/IndexOutOfBoundsException" ∧ (∀ k : Nat, k < C 0 0 4 → nI k ≠ x) ∧ C = C2) ∨ (∃ k_2 : Nat, E = "java/util/NoSuchElementException" ∧ k_2 < C 0 0 4 ∧ nI k_2 = x ∧ (∀ w : Nat, w < qdR D k_2 (D 60 100 30) → nI w ≠ y) ∧ Kp C C2))) := by
  refine CtS.of (cc0 := cX6_queueAt) (maxL := 10) (ret := (some .int)) (by decide) rfl (Nat.le_of_ble_eq_true rfl) ?_
  intro M0_ p_ e_ s_ m_ args_ below_ meth_ c_ S hz hml hex hlo hr hin
  refine s_loc (L2 := [(0, .ref (A 0 0)), (1, .int x), (2, .int y)]) rfl ?_
  have i_RX1 : ∀ w ∈ u_ws RX1 TX1 14, w ∈ wsX6_queueAt := by decide +kernel
  have i_RX6 : ∀ w ∈ u_ws RX6 TX6 12, w ∈ wsX6_queueAt := by decide +kernel
  have hK := hS.okk hM hL
  obtain ⟨⟨k3, k4, k5, k6, k7, k8⟩, kU, kP, kT, kJ, kL, kE, kB⟩ := id hK
  obtain ⟨hO, hG, hX⟩ := id hM
  have cu := hS.1.1
  have cp := hS.1.2.1
  have cj := hS.1.2.2.1
  refine s_aload_n (pc := 0) S 0 dX6_queueAt_0 rfl rfl ?_
  refine s_iload_n (pc := 1) S 1 dX6_queueAt_1 rfl rfl ?_
  refine s_callV (pc := 2) S hz hml [.int x] (k_X6_printerAt Z l A C x k4 hfl) (cwV 1 S.2.2.2.2 gX6_queueAt_X6_printerAt rfl rfl rfl (by decide +kernel) ⟨Nat.le_of_ble_eq_true rfl, Nat.le_of_ble_eq_true rfl⟩) (cc_farm (A := A) (C := C)) rfl rfl rfl (Nat.le_of_ble_eq_true rfl) dX6_queueAt_2 ⟨Nat.le_of_ble_eq_true rfl, Nat.le_of_ble_eq_true rfl⟩ (fun E A2 C2 h_1 => ?_) (fun v A2 C2 h_1 => ?_)
  · obtain ⟨rfl, rfl, n_4, rfl⟩ := h_1
    exact s_out S hz hex hlo ⟨rfl, Or.inl ⟨rfl, n_4, rfl⟩⟩ (Nat.le_of_ble_eq_true rfl) (Nat.le_of_ble_eq_true rfl)
  · obtain ⟨rfl, rfl, k_2, hk_3, rfl, rfl⟩ := h_1
    have hD_k_2 : k_2 < D 60 100 29 := by omega
    refine s_astore_n (pc := 5) S [(3, .ref (A 9 k_2)), (0, .ref (A 0 0)), (1, .int (nI k_2)), (2, .int y)] dX6_queueAt_5 rfl (by decide) rfl ?_
    refine s_iconst (pc := 6) S (v := (nI 0)) dX6_queueAt_6 (by decide) ?_
    refine s_istore (pc := 7) S [(4, .int (nI 0)), (3, .ref (A 9 k_2)), (0, .ref (A 0 0)), (1, .int (nI k_2)), (2, .int y)] dX6_queueAt_7 (by decide) rfl ?_
    refine s_iconst (pc := 9) S (v := (nI 0)) dX6_queueAt_9 (by decide) ?_
    refine s_istore (pc := 10) S [(5, .int (nI 0)), (4, .int (nI 0)), (3, .ref (A 9 k_2)), (0, .ref (A 0 0)), (1, .int (nI k_2)), (2, .int y)] dX6_queueAt_10 (by decide) rfl ?_
    refine s_iload (pc := 12) S 0 dX6_queueAt_12 rfl ?_
    refine s_iconst (pc := 14) S (v := (nI 2)) dX6_queueAt_14 (by decide) ?_
    refine s_icmp_geN (pc := 15) S 98 dX6_queueAt_15 (by decide) (by decide) (by decide) (fun h => absurd h (by decide)) (fun _ => ?_)
    refine s_aload_n (pc := 18) S 3 dX6_queueAt_18 rfl rfl ?_
    refine s_get (pc := 19) S hz (ref := "SpoolFarm") (v := .ref (A 3 0)) (cc_farm (A := A) (C := C)) i_RX6 rfl 2 (Nat.le_of_ble_eq_true rfl) (by decide +kernel) (fun _ h => h) rfl dX6_queueAt_19 ?_
    refine s_astore (pc := 22) S [(6, .ref (A 3 0)), (5, .int (nI 0)), (4, .int (nI 0)), (3, .ref (A 9 k_2)), (0, .ref (A 0 0)), (1, .int (nI k_2)), (2, .int y)] dX6_queueAt_22 (by decide) rfl ?_
    refine s_aload (pc := 24) S 0 dX6_queueAt_24 rfl ?_
    refine s_alen (pc := 26) S hz (n := 40) (cc_jobs (A := A) (C := C)) dX6_queueAt_26 ?_
    refine s_istore (pc := 27) S [(7, .int (nI 40)), (6, .ref (A 3 0)), (5, .int (nI 0)), (4, .int (nI 0)), (3, .ref (A 9 k_2)), (0, .ref (A 0 0)), (1, .int (nI k_2)), (2, .int y)] dX6_queueAt_27 (by decide) rfl ?_
    refine s_iconst (pc := 29) S (v := (nI 0)) dX6_queueAt_29 (by decide) ?_
    refine s_istore (pc := 30) S [(8, .int (nI 0)), (7, .int (nI 40)), (6, .ref (A 3 0)), (5, .int (nI 0)), (4, .int (nI 0)), (3, .ref (A 9 k_2)), (0, .ref (A 0 0)), (1, .int (nI k_2)), (2, .int y)] dX6_queueAt_30 (by decide) rfl ?_
    refine s_loc (L2 := [(8, .int (nI 0)), (7, .int (nI 40)), (6, .ref (A 3 0)), (5, .int (nI 0)), (4, .int (nI (q2R D k_2 2 (min 0 (D 60 100 30))))), (3, .ref (A 9 k_2)), (0, .ref (A 0 0)), (1, .int (nI k_2)), (2, .int y)]) (by rw [show min 0 (D 60 100 30) = 0 by omega]; rfl) ?_
    refine s_C (P6_self C) ?_
    refine s_perm [0, 4, 1, 2, 3, 5, 8, 6] [(8, .int (nI 0)), (4, .int (nI (q2R D k_2 2 (min 0 (D 60 100 30))))), (7, .int (nI 40)), (6, .ref (A 3 0)), (5, .int (nI 0)), (3, .ref (A 9 k_2)), (2, .int y), (0, .ref (A 0 0))] rfl ?_
    refine s_loop (σ := Nat × (Nat → Nat)) (fun y_ => y_.1 ≤ 40 ∧ ∀ w : Nat, w < q2R D k_2 2 (min y_.1 (D 60 100 30)) → nI w ≠ y) (fun y_ => 40 - y_.1) (fun _ => A) (fun y_ => P6 C y_.2) (fun y_ => [(8, .int (nI (y_.1))), (4, .int (nI (q2R D k_2 2 (min y_.1 (D 60 100 30))))), (7, .int (nI 40)), (6, .ref (A 3 0)), (5, .int (nI 0)), (3, .ref (A 9 k_2)), (2, .int y), (0, .ref (A 0 0))]) (0, (C 6 0)) ⟨by dsimp only; omega, by dsimp only; rw [show min 0 (D 60 100 30) = 0 by omega]; exact fun w hw => absurd hw (Nat.not_lt_zero w)⟩ rfl rfl rfl ?_
    intro y_ hI ih
    obtain ⟨j0, w0⟩ := y_
    obtain ⟨hl0, hI0⟩ := hI
    dsimp only at hl0 hI0 ih ⊢
    have z_5 := q2R_le D k_2 2 (min j0 (D 60 100 30))
    have z_6 := q2R_le D k_2 1 (min j0 (D 60 100 30))
    have z_7 := q2R_le D k_2 2 (D 60 100 30)
    refine s_iload (pc := 32) S 0 dX6_queueAt_32 rfl ?_
    refine s_iload (pc := 34) S 2 dX6_queueAt_34 rfl ?_
    refine s_icmp_geN (pc := 36) S 92 dX6_queueAt_36 (by decide) (by omega) (by omega) (fun c_8 => ?_) (fun c_8 => ?_)
    · refine s_perm [1, 2, 3, 4, 5, 6, 7] [(4, .int (nI (q2R D k_2 2 (min j0 (D 60 100 30))))), (7, .int (nI 40)), (6, .ref (A 3 0)), (5, .int (nI 0)), (3, .ref (A 9 k_2)), (2, .int y), (0, .ref (A 0 0))] rfl ?_
      rw [show min j0 (D 60 100 30) = (D 60 100 30) by omega] at hI0
      have hq0 := hI0
      refine s_loc (L2 := [(4, .int (nI (q2R D k_2 2 (D 60 100 30)))), (7, .int (nI 40)), (6, .ref (A 3 0)), (5, .int (nI 0)), (3, .ref (A 9 k_2)), (2, .int y), (0, .ref (A 0 0))]) (by rw [show min j0 (D 60 100 30) = (D 60 100 30) by omega]) ?_
      refine s_iinc (pc := 92) S 3 [(5, .int (nI 1)), (4, .int (nI (q2R D k_2 2 (D 60 100 30)))), (7, .int (nI 40)), (6, .ref (A 3 0)), (3, .ref (A 9 k_2)), (2, .int y), (0, .ref (A 0 0))] dX6_queueAt_92 rfl (by decide) (by decide) rfl ?_
      refine s_goto (pc := 95) S 12 dX6_queueAt_95 (by decide) ?_
      refine s_iload (pc := 12) S 0 dX6_queueAt_12 rfl ?_
      refine s_iconst (pc := 14) S (v := (nI 2)) dX6_queueAt_14 (by decide) ?_
      refine s_icmp_geN (pc := 15) S 98 dX6_queueAt_15 (by decide) (by decide) (by decide) (fun h => absurd h (by decide)) (fun _ => ?_)
      refine s_aload_n (pc := 18) S 6 dX6_queueAt_18 rfl rfl ?_
      refine s_get (pc := 19) S hz (ref := "SpoolFarm") (v := .ref (A 3 0)) (cc_farm (A := A) (C := (P6 C w0))) i_RX6 rfl 2 (Nat.le_of_ble_eq_true rfl) (by decide +kernel) (fun _ h => h) rfl dX6_queueAt_19 ?_
      refine s_astore (pc := 22) S [(6, .ref (A 3 0)), (5, .int (nI 1)), (4, .int (nI (q2R D k_2 2 (D 60 100 30)))), (7, .int (nI 40)), (3, .ref (A 9 k_2)), (2, .int y), (0, .ref (A 0 0))] dX6_queueAt_22 (by decide) rfl ?_
      refine s_aload (pc := 24) S 0 dX6_queueAt_24 rfl ?_
      refine s_alen (pc := 26) S hz (n := 40) (cc_jobs (A := A) (C := (P6 C w0))) dX6_queueAt_26 ?_
      refine s_istore (pc := 27) S [(7, .int (nI 40)), (6, .ref (A 3 0)), (5, .int (nI 1)), (4, .int (nI (q2R D k_2 2 (D 60 100 30)))), (3, .ref (A 9 k_2)), (2, .int y), (0, .ref (A 0 0))] dX6_queueAt_27 (by decide) rfl ?_
      refine s_iconst (pc := 29) S (v := (nI 0)) dX6_queueAt_29 (by decide) ?_
      refine s_istore (pc := 30) S [(8, .int (nI 0)), (7, .int (nI 40)), (6, .ref (A 3 0)), (5, .int (nI 1)), (4, .int (nI (q2R D k_2 2 (D 60 100 30)))), (3, .ref (A 9 k_2)), (2, .int y), (0, .ref (A 0 0))] dX6_queueAt_30 (by decide) rfl ?_
      refine s_loc (L2 := [(8, .int (nI 0)), (7, .int (nI 40)), (6, .ref (A 3 0)), (5, .int (nI 1)), (4, .int (nI (q2R D k_2 2 (D 60 100 30) + q2R D k_2 1 (min 0 (D 60 100 30))))), (3, .ref (A 9 k_2)), (2, .int y), (0, .ref (A 0 0))]) (by rw [show min 0 (D 60 100 30) = 0 by omega]; rfl) ?_
      refine s_perm [0, 4, 1, 2, 3, 5, 6, 7] [(8, .int (nI 0)), (4, .int (nI (q2R D k_2 2 (D 60 100 30) + q2R D k_2 1 (min 0 (D 60 100 30))))), (7, .int (nI 40)), (6, .ref (A 3 0)), (5, .int (nI 1)), (3, .ref (A 9 k_2)), (2, .int y), (0, .ref (A 0 0))] rfl ?_
      refine s_loop (σ := Nat × (Nat → Nat)) (fun y_ => y_.1 ≤ 40 ∧ ∀ w : Nat, w < q2R D k_2 2 (D 60 100 30) + q2R D k_2 1 (min y_.1 (D 60 100 30)) → nI w ≠ y) (fun y_ => 40 - y_.1) (fun _ => A) (fun y_ => P6 C y_.2) (fun y_ => [(8, .int (nI (y_.1))), (4, .int (nI (q2R D k_2 2 (D 60 100 30) + q2R D k_2 1 (min y_.1 (D 60 100 30))))), (7, .int (nI 40)), (6, .ref (A 3 0)), (5, .int (nI 1)), (3, .ref (A 9 k_2)), (2, .int y), (0, .ref (A 0 0))]) (0, w0) ⟨by dsimp only; omega, by dsimp only; rw [show min 0 (D 60 100 30) = 0 by omega]; exact hq0⟩ rfl rfl rfl ?_
      intro y_ hI ih
      obtain ⟨j1, w1⟩ := y_
      obtain ⟨hl1, hI1⟩ := hI
      dsimp only at hl1 hI1 ih ⊢
      have z_9 := q2R_le D k_2 2 (min j1 (D 60 100 30))
      have z_10 := q2R_le D k_2 1 (min j1 (D 60 100 30))
      have z_11 := q2R_le D k_2 2 (D 60 100 30)
      refine s_iload (pc := 32) S 0 dX6_queueAt_32 rfl ?_
      refine s_iload (pc := 34) S 2 dX6_queueAt_34 rfl ?_
      refine s_icmp_geN (pc := 36) S 92 dX6_queueAt_36 (by decide) (by omega) (by omega) (fun c_12 => ?_) (fun c_12 => ?_)
      · refine s_perm [1, 2, 3, 4, 5, 6, 7] [(4, .int (nI (q2R D k_2 2 (D 60 100 30) + q2R D k_2 1 (min j1 (D 60 100 30))))), (7, .int (nI 40)), (6, .ref (A 3 0)), (5, .int (nI 1)), (3, .ref (A 9 k_2)), (2, .int y), (0, .ref (A 0 0))] rfl ?_
        rw [show min j1 (D 60 100 30) = (D 60 100 30) by omega] at hI1
        have hq1 := hI1
        refine s_loc (L2 := [(4, .int (nI (q2R D k_2 2 (D 60 100 30) + q2R D k_2 1 (D 60 100 30)))), (7, .int (nI 40)), (6, .ref (A 3 0)), (5, .int (nI 1)), (3, .ref (A 9 k_2)), (2, .int y), (0, .ref (A 0 0))]) (by rw [show min j1 (D 60 100 30) = (D 60 100 30) by omega]) ?_
        refine s_iinc (pc := 92) S 3 [(5, .int (nI 2)), (4, .int (nI (q2R D k_2 2 (D 60 100 30) + q2R D k_2 1 (D 60 100 30)))), (7, .int (nI 40)), (6, .ref (A 3 0)), (3, .ref (A 9 k_2)), (2, .int y), (0, .ref (A 0 0))] dX6_queueAt_92 rfl (by decide) (by decide) rfl ?_
        refine s_goto (pc := 95) S 12 dX6_queueAt_95 (by decide) ?_
        refine s_iload (pc := 12) S 0 dX6_queueAt_12 rfl ?_
        refine s_iconst (pc := 14) S (v := (nI 2)) dX6_queueAt_14 (by decide) ?_
        refine s_icmp_geN (pc := 15) S 98 dX6_queueAt_15 (by decide) (by decide) (by decide) (fun _ => ?_) (fun h => absurd h (by decide))
        exact s_throwN (pc := 98) (text := "no such position") S hz hfl hml hex hlo (by decide +kernel) (by decide +kernel) (by decide +kernel) (by decide +kernel) dX6_queueAt_98 dX6_queueAt_101 dX6_queueAt_102 dX6_queueAt_104 dX6_queueAt_107 (Nat.le_of_ble_eq_true rfl) (Nat.le_of_ble_eq_true rfl) (Nat.le_of_ble_eq_true rfl) (Nat.le_of_ble_eq_true rfl) ⟨rfl, Or.inr (⟨k_2, rfl, hk_3, rfl, (fun w hw => hq1 w (by rw [q12]; exact hw)), ⟨_, rfl⟩⟩)⟩ (Nat.le_of_ble_eq_true rfl) (Nat.le_of_ble_eq_true rfl)
      · refine s_aload (pc := 39) S 3 dX6_queueAt_39 rfl ?_
        refine s_iload (pc := 41) S 0 dX6_queueAt_41 rfl ?_
        by_cases lv_13 : j1 < C 0 0 5
        · refine s_aald (pc := 43) S hz (v := .ref (A 11 j1)) (cc_jobs (A := A) (C := (P6 C w1))) (by omega) (by decide) (congrArg va_rf (if_pos lv_13)) dX6_queueAt_43 ?_
          have hD_j1 : j1 < D 60 100 30 := by omega
          refine s_astore (pc := 44) S [(9, .ref (A 11 j1)), (8, .int (nI j1)), (4, .int (nI (q2R D k_2 2 (D 60 100 30) + q2R D k_2 1 (min j1 (D 60 100 30))))), (7, .int (nI 40)), (6, .ref (A 3 0)), (5, .int (nI 1)), (3, .ref (A 9 k_2)), (2, .int y), (0, .ref (A 0 0))] dX6_queueAt_44 (by decide) rfl ?_
          refine s_aload (pc := 46) S 0 dX6_queueAt_46 rfl ?_
          refine s_ifnull (pc := 48) S dX6_queueAt_48 ?_
          refine s_aload_n (pc := 51) S 8 dX6_queueAt_51 rfl rfl ?_
          refine s_aload (pc := 52) S 0 dX6_queueAt_52 rfl ?_
          refine s_aload_n (pc := 54) S 6 dX6_queueAt_54 rfl rfl ?_
          refine s_iload (pc := 55) S 5 dX6_queueAt_55 rfl ?_
          refine s_if_neN (pc := 57) S 64 dX6_queueAt_57 (by decide) (by decide) (fun _ => ?_) (fun h => absurd h (by decide))
          refine s_iconst (pc := 64) S (v := (nI 0)) dX6_queueAt_64 (by decide) ?_
          refine s_callV (pc := 65) S hz hml [.ref (A 11 j1), .ref (A 9 k_2), .int (nI 0)] (k_X6_isQueued Z l A (P6 C w1) D j1 k_2 (sm_P hS) hM hL hD_j1 hD_k_2 0 (by decide)) (cwV 3 S.2.2.2.2 gX6_queueAt_X6_isQueued rfl rfl rfl (by decide +kernel) ⟨Nat.le_of_ble_eq_true rfl, Nat.le_of_ble_eq_true rfl⟩) (cc_farm (A := A) (C := (P6 C w1))) rfl rfl rfl (Nat.le_of_ble_eq_true rfl) dX6_queueAt_65 ⟨Nat.le_of_ble_eq_true rfl, Nat.le_of_ble_eq_true rfl⟩ (fun _ _ _ h => h.elim) (fun v A2 C2 h_14 => ?_)
          obtain ⟨rfl, rfl, rfl⟩ := h_14
          refine s_C (PlC_P6b D C w1 j1 k_2 (nR D j1 k_2) (coR D j1 k_2 (nR D j1 k_2))).symm ?_
          by_cases hq_15 : rkR D j1 k_2 = 1
          · refine s_top (u := .int (nI 1)) (by rw [if_pos hq_15]) ?_
            refine s_if_eqN (pc := 68) S 86 dX6_queueAt_68 (by decide) (by decide) (fun h => absurd h (by decide)) (fun _ => ?_)
            refine s_iload (pc := 71) S 2 dX6_queueAt_71 rfl ?_
            refine s_iload_n (pc := 73) S 7 dX6_queueAt_73 rfl rfl ?_
            refine s_icmp_ne (pc := 74) S 83 dX6_queueAt_74 (by decide) (fun c_16 => ?_) (fun c_16 => ?_)
            · refine s_iinc (pc := 83) S 2 [(4, .int (nI ((q2R D k_2 2 (D 60 100 30) + q2R D k_2 1 (min j1 (D 60 100 30))) + 1))), (9, .ref (A 11 j1)), (8, .int (nI j1)), (7, .int (nI 40)), (6, .ref (A 3 0)), (5, .int (nI 1)), (3, .ref (A 9 k_2)), (2, .int y), (0, .ref (A 0 0))] dX6_queueAt_83 rfl (nI_add _ 1) (by decide) rfl ?_
              refine s_iinc (pc := 86) S 2 [(8, .int (nI (j1 + 1))), (4, .int (nI ((q2R D k_2 2 (D 60 100 30) + q2R D k_2 1 (min j1 (D 60 100 30))) + 1))), (9, .ref (A 11 j1)), (7, .int (nI 40)), (6, .ref (A 3 0)), (5, .int (nI 1)), (3, .ref (A 9 k_2)), (2, .int y), (0, .ref (A 0 0))] dX6_queueAt_86 rfl (nI_add _ 1) (by decide) rfl ?_
              refine s_goto (pc := 89) S 32 dX6_queueAt_89 (by decide) ?_
              refine s_perm [0, 1, 3, 4, 5, 6, 7, 8] [(8, .int (nI (j1 + 1))), (4, .int (nI ((q2R D k_2 2 (D 60 100 30) + q2R D k_2 1 (min j1 (D 60 100 30))) + 1))), (7, .int (nI 40)), (6, .ref (A 3 0)), (5, .int (nI 1)), (3, .ref (A 9 k_2)), (2, .int y), (0, .ref (A 0 0))] rfl ?_
              refine s_loc (L2 := [(8, .int (nI (j1 + 1))), (4, .int (nI (q2R D k_2 2 (D 60 100 30) + q2R D k_2 1 (min (j1 + 1) (D 60 100 30))))), (7, .int (nI 40)), (6, .ref (A 3 0)), (5, .int (nI 1)), (3, .ref (A 9 k_2)), (2, .int y), (0, .ref (A 0 0))]) (by rw [show min (j1 + 1) (D 60 100 30) = j1 + 1 by omega, q2R_1 (C := D) (k := j1) (p := k_2) (r := 1) hq_15, show min j1 (D 60 100 30) = j1 by omega]; rfl) ?_
              exact ih (j1 + 1, (plF D (P6 C w1) j1 k_2 (nR D j1 k_2) (coR D j1 k_2 (nR D j1 k_2)))) ⟨by dsimp only; omega, by dsimp only; rw [show min (j1 + 1) (D 60 100 30) = j1 + 1 by omega, q2R_1 (C := D) (k := j1) (p := k_2) (r := 1) hq_15]; exact fun w hw => (Nat.lt_or_ge w (q2R D k_2 2 (D 60 100 30) + q2R D k_2 1 (min j1 (D 60 100 30)))).elim (fun z => hI1 w z) (fun z => by rw [show w = q2R D k_2 2 (D 60 100 30) + q2R D k_2 1 (min j1 (D 60 100 30)) by rw [show min j1 (D 60 100 30) = j1 by omega] at z ⊢; omega]; exact c_16)⟩ (by dsimp only; omega)
            · refine s_aload (pc := 77) S 0 dX6_queueAt_77 rfl ?_
              refine s_get (pc := 79) S hz (ref := "SpoolFarm$Job") (v := .int (nI j1)) (cc_job (A := A) (C := (P6 C (plF D (P6 C w1) j1 k_2 (nR D j1 k_2) (coR D j1 k_2 (nR D j1 k_2))))) lv_13) i_RX1 rfl 0 (Nat.le_of_ble_eq_true rfl) (by decide +kernel) (fun _ h => h) (congrArg (fun x => some (Value.int (nI x))) (show C 11 j1 0 = j1 from (kJ j1 lv_13).1)) dX6_queueAt_79 ?_
              exact s_iret (pc := 82) S hz hlo hr ⟨rfl, Or.inl ⟨k_2, j1, hk_3, rfl, hD_j1, hq_15, (by have z := c_16; rw [show min j1 (D 60 100 30) = j1 by omega] at z; exact z), ⟨_, rfl⟩, rfl⟩⟩ (Nat.le_of_ble_eq_true rfl) (Nat.le_of_ble_eq_true rfl) dX6_queueAt_82
          · refine s_top (u := .int (nI 0)) (by rw [if_neg hq_15]) ?_
            refine s_if_eqN (pc := 68) S 86 dX6_queueAt_68 (by decide) (by decide) (fun _ => ?_) (fun h => absurd h (by decide))
            refine s_iinc (pc := 86) S 1 [(8, .int (nI (j1 + 1))), (9, .ref (A 11 j1)), (4, .int (nI (q2R D k_2 2 (D 60 100 30) + q2R D k_2 1 (min j1 (D 60 100 30))))), (7, .int (nI 40)), (6, .ref (A 3 0)), (5, .int (nI 1)), (3, .ref (A 9 k_2)), (2, .int y), (0, .ref (A 0 0))] dX6_queueAt_86 rfl (nI_add _ 1) (by decide) rfl ?_
            refine s_goto (pc := 89) S 32 dX6_queueAt_89 (by decide) ?_
            refine s_perm [0, 2, 3, 4, 5, 6, 7, 8] [(8, .int (nI (j1 + 1))), (4, .int (nI (q2R D k_2 2 (D 60 100 30) + q2R D k_2 1 (min j1 (D 60 100 30))))), (7, .int (nI 40)), (6, .ref (A 3 0)), (5, .int (nI 1)), (3, .ref (A 9 k_2)), (2, .int y), (0, .ref (A 0 0))] rfl ?_
            refine s_loc (L2 := [(8, .int (nI (j1 + 1))), (4, .int (nI (q2R D k_2 2 (D 60 100 30) + q2R D k_2 1 (min (j1 + 1) (D 60 100 30))))), (7, .int (nI 40)), (6, .ref (A 3 0)), (5, .int (nI 1)), (3, .ref (A 9 k_2)), (2, .int y), (0, .ref (A 0 0))]) (by rw [show min (j1 + 1) (D 60 100 30) = j1 + 1 by omega, q2R_0 (C := D) (k := j1) (p := k_2) (r := 1) hq_15, show min j1 (D 60 100 30) = j1 by omega]) ?_
            exact ih (j1 + 1, (plF D (P6 C w1) j1 k_2 (nR D j1 k_2) (coR D j1 k_2 (nR D j1 k_2)))) ⟨by dsimp only; omega, by dsimp only; rw [show min (j1 + 1) (D 60 100 30) = j1 + 1 by omega, q2R_0 (C := D) (k := j1) (p := k_2) (r := 1) hq_15]; have z := hI1; rw [show min j1 (D 60 100 30) = j1 by omega] at z; exact z⟩ (by dsimp only; omega)
        · refine s_aald (pc := 43) S hz (v := .null) (cc_jobs (A := A) (C := (P6 C w1))) (by omega) (by decide) (congrArg va_rf (if_neg lv_13)) dX6_queueAt_43 ?_
          refine s_astoreN (pc := 44) S [(9, .null), (8, .int (nI j1)), (4, .int (nI (q2R D k_2 2 (D 60 100 30) + q2R D k_2 1 (min j1 (D 60 100 30))))), (7, .int (nI 40)), (6, .ref (A 3 0)), (5, .int (nI 1)), (3, .ref (A 9 k_2)), (2, .int y), (0, .ref (A 0 0))] dX6_queueAt_44 (by decide) rfl ?_
          refine s_aloadN (pc := 46) S 0 dX6_queueAt_46 rfl ?_
          refine s_ifnullN (pc := 48) S 86 dX6_queueAt_48 (by decide) ?_
          refine s_iinc (pc := 86) S 1 [(8, .int (nI (j1 + 1))), (9, .null), (4, .int (nI (q2R D k_2 2 (D 60 100 30) + q2R D k_2 1 (min j1 (D 60 100 30))))), (7, .int (nI 40)), (6, .ref (A 3 0)), (5, .int (nI 1)), (3, .ref (A 9 k_2)), (2, .int y), (0, .ref (A 0 0))] dX6_queueAt_86 rfl (nI_add _ 1) (by decide) rfl ?_
          refine s_goto (pc := 89) S 32 dX6_queueAt_89 (by decide) ?_
          refine s_perm [0, 2, 3, 4, 5, 6, 7, 8] [(8, .int (nI (j1 + 1))), (4, .int (nI (q2R D k_2 2 (D 60 100 30) + q2R D k_2 1 (min j1 (D 60 100 30))))), (7, .int (nI 40)), (6, .ref (A 3 0)), (5, .int (nI 1)), (3, .ref (A 9 k_2)), (2, .int y), (0, .ref (A 0 0))] rfl ?_
          refine s_loc (L2 := [(8, .int (nI (j1 + 1))), (4, .int (nI (q2R D k_2 2 (D 60 100 30) + q2R D k_2 1 (min (j1 + 1) (D 60 100 30))))), (7, .int (nI 40)), (6, .ref (A 3 0)), (5, .int (nI 1)), (3, .ref (A 9 k_2)), (2, .int y), (0, .ref (A 0 0))]) (by rw [show min (j1 + 1) (D 60 100 30) = min j1 (D 60 100 30) by omega]) ?_
          exact ih (j1 + 1, w1) ⟨by dsimp only; omega, by dsimp only; rw [show min (j1 + 1) (D 60 100 30) = min j1 (D 60 100 30) by omega]; exact hI1⟩ (by dsimp only; omega)
    · refine s_aload (pc := 39) S 3 dX6_queueAt_39 rfl ?_
      refine s_iload (pc := 41) S 0 dX6_queueAt_41 rfl ?_
      by_cases lv_17 : j0 < C 0 0 5
      · refine s_aald (pc := 43) S hz (v := .ref (A 11 j0)) (cc_jobs (A := A) (C := (P6 C w0))) (by omega) (by decide) (congrArg va_rf (if_pos lv_17)) dX6_queueAt_43 ?_
        have hD_j0 : j0 < D 60 100 30 := by omega
        refine s_astore (pc := 44) S [(9, .ref (A 11 j0)), (8, .int (nI j0)), (4, .int (nI (q2R D k_2 2 (min j0 (D 60 100 30))))), (7, .int (nI 40)), (6, .ref (A 3 0)), (5, .int (nI 0)), (3, .ref (A 9 k_2)), (2, .int y), (0, .ref (A 0 0))] dX6_queueAt_44 (by decide) rfl ?_
        refine s_aload (pc := 46) S 0 dX6_queueAt_46 rfl ?_
        refine s_ifnull (pc := 48) S dX6_queueAt_48 ?_
        refine s_aload_n (pc := 51) S 8 dX6_queueAt_51 rfl rfl ?_
        refine s_aload (pc := 52) S 0 dX6_queueAt_52 rfl ?_
        refine s_aload_n (pc := 54) S 6 dX6_queueAt_54 rfl rfl ?_
        refine s_iload (pc := 55) S 5 dX6_queueAt_55 rfl ?_
        refine s_if_neN (pc := 57) S 64 dX6_queueAt_57 (by decide) (by decide) (fun h => absurd h (by decide)) (fun _ => ?_)
        refine s_iconst (pc := 60) S (v := (nI 1)) dX6_queueAt_60 (by decide) ?_
        refine s_goto (pc := 61) S 65 dX6_queueAt_61 (by decide) ?_
        refine s_callV (pc := 65) S hz hml [.ref (A 11 j0), .ref (A 9 k_2), .int (nI 1)] (k_X6_isQueued Z l A (P6 C w0) D j0 k_2 (sm_P hS) hM hL hD_j0 hD_k_2 1 (by decide)) (cwV 3 S.2.2.2.2 gX6_queueAt_X6_isQueued rfl rfl rfl (by decide +kernel) ⟨Nat.le_of_ble_eq_true rfl, Nat.le_of_ble_eq_true rfl⟩) (cc_farm (A := A) (C := (P6 C w0))) rfl rfl rfl (Nat.le_of_ble_eq_true rfl) dX6_queueAt_65 ⟨Nat.le_of_ble_eq_true rfl, Nat.le_of_ble_eq_true rfl⟩ (fun _ _ _ h => h.elim) (fun v A2 C2 h_18 => ?_)
        obtain ⟨rfl, rfl, rfl⟩ := h_18
        refine s_C (PlC_P6b D C w0 j0 k_2 (nR D j0 k_2) (coR D j0 k_2 (nR D j0 k_2))).symm ?_
        by_cases hq_19 : rkR D j0 k_2 = 2
        · refine s_top (u := .int (nI 1)) (by rw [if_pos hq_19]) ?_
          refine s_if_eqN (pc := 68) S 86 dX6_queueAt_68 (by decide) (by decide) (fun h => absurd h (by decide)) (fun _ => ?_)
          refine s_iload (pc := 71) S 2 dX6_queueAt_71 rfl ?_
          refine s_iload_n (pc := 73) S 7 dX6_queueAt_73 rfl rfl ?_
          refine s_icmp_ne (pc := 74) S 83 dX6_queueAt_74 (by decide) (fun c_20 => ?_) (fun c_20 => ?_)
          · refine s_iinc (pc := 83) S 2 [(4, .int (nI ((q2R D k_2 2 (min j0 (D 60 100 30))) + 1))), (9, .ref (A 11 j0)), (8, .int (nI j0)), (7, .int (nI 40)), (6, .ref (A 3 0)), (5, .int (nI 0)), (3, .ref (A 9 k_2)), (2, .int y), (0, .ref (A 0 0))] dX6_queueAt_83 rfl (nI_add _ 1) (by decide) rfl ?_
            refine s_iinc (pc := 86) S 2 [(8, .int (nI (j0 + 1))), (4, .int (nI ((q2R D k_2 2 (min j0 (D 60 100 30))) + 1))), (9, .ref (A 11 j0)), (7, .int (nI 40)), (6, .ref (A 3 0)), (5, .int (nI 0)), (3, .ref (A 9 k_2)), (2, .int y), (0, .ref (A 0 0))] dX6_queueAt_86 rfl (nI_add _ 1) (by decide) rfl ?_
            refine s_goto (pc := 89) S 32 dX6_queueAt_89 (by decide) ?_
            refine s_perm [0, 1, 3, 4, 5, 6, 7, 8] [(8, .int (nI (j0 + 1))), (4, .int (nI ((q2R D k_2 2 (min j0 (D 60 100 30))) + 1))), (7, .int (nI 40)), (6, .ref (A 3 0)), (5, .int (nI 0)), (3, .ref (A 9 k_2)), (2, .int y), (0, .ref (A 0 0))] rfl ?_
            refine s_loc (L2 := [(8, .int (nI (j0 + 1))), (4, .int (nI (q2R D k_2 2 (min (j0 + 1) (D 60 100 30))))), (7, .int (nI 40)), (6, .ref (A 3 0)), (5, .int (nI 0)), (3, .ref (A 9 k_2)), (2, .int y), (0, .ref (A 0 0))]) (by rw [show min (j0 + 1) (D 60 100 30) = j0 + 1 by omega, q2R_1 (C := D) (k := j0) (p := k_2) (r := 2) hq_19, show min j0 (D 60 100 30) = j0 by omega]) ?_
            exact ih (j0 + 1, (plF D (P6 C w0) j0 k_2 (nR D j0 k_2) (coR D j0 k_2 (nR D j0 k_2)))) ⟨by dsimp only; omega, by dsimp only; rw [show min (j0 + 1) (D 60 100 30) = j0 + 1 by omega, q2R_1 (C := D) (k := j0) (p := k_2) (r := 2) hq_19]; exact fun w hw => (Nat.lt_or_ge w (q2R D k_2 2 (min j0 (D 60 100 30)))).elim (fun z => hI0 w z) (fun z => by rw [show w = q2R D k_2 2 (min j0 (D 60 100 30)) by rw [show min j0 (D 60 100 30) = j0 by omega] at z ⊢; omega]; exact c_20)⟩ (by dsimp only; omega)
          · refine s_aload (pc := 77) S 0 dX6_queueAt_77 rfl ?_
            refine s_get (pc := 79) S hz (ref := "SpoolFarm$Job") (v := .int (nI j0)) (cc_job (A := A) (C := (P6 C (plF D (P6 C w0) j0 k_2 (nR D j0 k_2) (coR D j0 k_2 (nR D j0 k_2))))) lv_17) i_RX1 rfl 0 (Nat.le_of_ble_eq_true rfl) (by decide +kernel) (fun _ h => h) (congrArg (fun x => some (Value.int (nI x))) (show C 11 j0 0 = j0 from (kJ j0 lv_17).1)) dX6_queueAt_79 ?_
            exact s_iret (pc := 82) S hz hlo hr ⟨rfl, Or.inr (⟨k_2, j0, hk_3, rfl, hD_j0, hq_19, (by have z := c_20; rw [show min j0 (D 60 100 30) = j0 by omega] at z; exact z), ⟨_, rfl⟩, rfl⟩)⟩ (Nat.le_of_ble_eq_true rfl) (Nat.le_of_ble_eq_true rfl) dX6_queueAt_82
        · refine s_top (u := .int (nI 0)) (by rw [if_neg hq_19]) ?_
          refine s_if_eqN (pc := 68) S 86 dX6_queueAt_68 (by decide) (by decide) (fun _ => ?_) (fun h => absurd h (by decide))
          refine s_iinc (pc := 86) S 1 [(8, .int (nI (j0 + 1))), (9, .ref (A 11 j0)), (4, .int (nI (q2R D k_2 2 (min j0 (D 60 100 30))))), (7, .int (nI 40)), (6, .ref (A 3 0)), (5, .int (nI 0)), (3, .ref (A 9 k_2)), (2, .int y), (0, .ref (A 0 0))] dX6_queueAt_86 rfl (nI_add _ 1) (by decide) rfl ?_
          refine s_goto (pc := 89) S 32 dX6_queueAt_89 (by decide) ?_
          refine s_perm [0, 2, 3, 4, 5, 6, 7, 8] [(8, .int (nI (j0 + 1))), (4, .int (nI (q2R D k_2 2 (min j0 (D 60 100 30))))), (7, .int (nI 40)), (6, .ref (A 3 0)), (5, .int (nI 0)), (3, .ref (A 9 k_2)), (2, .int y), (0, .ref (A 0 0))] rfl ?_
          refine s_loc (L2 := [(8, .int (nI (j0 + 1))), (4, .int (nI (q2R D k_2 2 (min (j0 + 1) (D 60 100 30))))), (7, .int (nI 40)), (6, .ref (A 3 0)), (5, .int (nI 0)), (3, .ref (A 9 k_2)), (2, .int y), (0, .ref (A 0 0))]) (by rw [show min (j0 + 1) (D 60 100 30) = j0 + 1 by omega, q2R_0 (C := D) (k := j0) (p := k_2) (r := 2) hq_19, show min j0 (D 60 100 30) = j0 by omega]) ?_
          exact ih (j0 + 1, (plF D (P6 C w0) j0 k_2 (nR D j0 k_2) (coR D j0 k_2 (nR D j0 k_2)))) ⟨by dsimp only; omega, by dsimp only; rw [show min (j0 + 1) (D 60 100 30) = j0 + 1 by omega, q2R_0 (C := D) (k := j0) (p := k_2) (r := 2) hq_19]; have z := hI0; rw [show min j0 (D 60 100 30) = j0 by omega] at z; exact z⟩ (by dsimp only; omega)
      · refine s_aald (pc := 43) S hz (v := .null) (cc_jobs (A := A) (C := (P6 C w0))) (by omega) (by decide) (congrArg va_rf (if_neg lv_17)) dX6_queueAt_43 ?_
        refine s_astoreN (pc := 44) S [(9, .null), (8, .int (nI j0)), (4, .int (nI (q2R D k_2 2 (min j0 (D 60 100 30))))), (7, .int (nI 40)), (6, .ref (A 3 0)), (5, .int (nI 0)), (3, .ref (A 9 k_2)), (2, .int y), (0, .ref (A 0 0))] dX6_queueAt_44 (by decide) rfl ?_
        refine s_aloadN (pc := 46) S 0 dX6_queueAt_46 rfl ?_
        refine s_ifnullN (pc := 48) S 86 dX6_queueAt_48 (by decide) ?_
        refine s_iinc (pc := 86) S 1 [(8, .int (nI (j0 + 1))), (9, .null), (4, .int (nI (q2R D k_2 2 (min j0 (D 60 100 30))))), (7, .int (nI 40)), (6, .ref (A 3 0)), (5, .int (nI 0)), (3, .ref (A 9 k_2)), (2, .int y), (0, .ref (A 0 0))] dX6_queueAt_86 rfl (nI_add _ 1) (by decide) rfl ?_
        refine s_goto (pc := 89) S 32 dX6_queueAt_89 (by decide) ?_
        refine s_perm [0, 2, 3, 4, 5, 6, 7, 8] [(8, .int (nI (j0 + 1))), (4, .int (nI (q2R D k_2 2 (min j0 (D 60 100 30))))), (7, .int (nI 40)), (6, .ref (A 3 0)), (5, .int (nI 0)), (3, .ref (A 9 k_2)), (2, .int y), (0, .ref (A 0 0))] rfl ?_
        refine s_loc (L2 := [(8, .int (nI (j0 + 1))), (4, .int (nI (q2R D k_2 2 (min (j0 + 1) (D 60 100 30))))), (7, .int (nI 40)), (6, .ref (A 3 0)), (5, .int (nI 0)), (3, .ref (A 9 k_2)), (2, .int y), (0, .ref (A 0 0))]) (by rw [show min (j0 + 1) (D 60 100 30) = min j0 (D 60 100 30) by omega]) ?_
        exact ih (j0 + 1, w0) ⟨by dsimp only; omega, by dsimp only; rw [show min (j0 + 1) (D 60 100 30) = min j0 (D 60 100 30) by omega]; exact hI0⟩ (by dsimp only; omega)
