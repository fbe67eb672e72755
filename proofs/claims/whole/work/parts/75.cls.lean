set_option maxHeartbeats 4000000 in
set_option maxRecDepth 100000 in
theorem k_X1_pagesToCome (Z : Zp) (l : Launch) (A : AF) (C : CF) (k : Nat) (hk : k < C 0 0 5) (hK : OkK C) : CtS Z l yX1_pagesToCome wsX1_pagesToCome ({ frames := 0, cells := 0, slots := 0, locals := 0 }) [.ref (A 11 k)] A C 0 0 (fun v A2 C2 => A = A2 ∧ C = C2 ∧ some (.int (nI (C 11 k 3 - C 11 k 9))) = v) (fun _ _ _ => False) := by
  refine CtS.of (cc0 := cX1_pagesToCome) (maxL := 1) (ret := (some .int)) (by decide) rfl (Nat.le_of_ble_eq_true rfl) ?_
  intro M0_ p_ e_ s_ m_ args_ below_ meth_ c_ S hz hml hex hlo hr hin
  refine s_loc (L2 := [(0, .ref (A 11 k))]) rfl ?_
  have i_RX1 : ∀ w ∈ u_ws RX1 TX1 14, w ∈ wsX1_pagesToCome := by decide +kernel
  obtain ⟨⟨k3, k4, k5, k6, k7, k8⟩, kU, kP, kT, kJ, kL, kE, kB⟩ := id hK
  obtain ⟨j0, j1, j2, j2b, j3, j4, j5, j6, j7, j8, j9, j10, j11, j12, j13⟩ := kJ k hk
  refine s_aload_n (pc := 0) S 0 dX1_pagesToCome_0 rfl rfl ?_
  refine s_get (pc := 1) S hz (ref := "SpoolFarm$Job") (v := .int (nI (C 11 k 3))) (cc_job (A := A) (C := C) hk) i_RX1 rfl 3 (Nat.le_of_ble_eq_true rfl) (by decide +kernel) (fun _ h => h) rfl dX1_pagesToCome_1 ?_
  refine s_aload_n (pc := 4) S 0 dX1_pagesToCome_4 rfl rfl ?_
  refine s_get (pc := 5) S hz (ref := "SpoolFarm$Job") (v := .int (nI (C 11 k 9))) (cc_job (A := A) (C := C) hk) i_RX1 rfl 9 (Nat.le_of_ble_eq_true rfl) (by decide +kernel) (fun _ h => h) rfl dX1_pagesToCome_5 ?_
  refine s_isubN (pc := 8) S dX1_pagesToCome_8 (by omega) ?_
  exact s_iret (pc := 9) S hz hlo hr ⟨rfl, rfl, rfl⟩ (Nat.le_of_ble_eq_true rfl) (Nat.le_of_ble_eq_true rfl) dX1_pagesToCome_9
/-- the pages of the next sheet, behind o pages of its copy -/
def shN (d g o : Nat) : Nat := if d = 0 then 1 else min 2 (g - o)
set_option maxHeartbeats 4000000 in
set_option maxRecDepth 100000 in
theorem k_X1_blackTonerFor (Z : Zp) (l : Launch) (A : AF) (C : CF) (k : Nat) (hk : k < C 0 0 5) (n : Nat) (hK : OkK C) : CtS Z l yX1_blackTonerFor wsX1_blackTonerFor ({ frames := 0, cells := 0, slots := 0, locals := 0 }) [.ref (A 11 k), .int (nI n)] A C 0 0 (fun v A2 C2 => A = A2 ∧ C = C2 ∧ some (.int (nI (bkN (C 11 k 5) n))) = v) (fun _ _ _ => False) := by
  refine CtS.of (cc0 := cX1_blackTonerFor) (maxL := 2) (ret := (some .int)) (by decide) rfl (Nat.le_of_ble_eq_true rfl) ?_
  intro M0_ p_ e_ s_ m_ args_ below_ meth_ c_ S hz hml hex hlo hr hin
  refine s_loc (L2 := [(0, .ref (A 11 k)), (1, .int (nI n))]) rfl ?_
  have i_RX1 : ∀ w ∈ u_ws RX1 TX1 14, w ∈ wsX1_blackTonerFor := by decide +kernel
  obtain ⟨⟨k3, k4, k5, k6, k7, k8⟩, kU, kP, kT, kJ, kL, kE, kB⟩ := id hK
  obtain ⟨j0, j1, j2, j2b, j3, j4, j5, j6, j7, j8, j9, j10, j11, j12, j13⟩ := kJ k hk
  refine s_aload_n (pc := 0) S 0 dX1_blackTonerFor_0 rfl rfl ?_
  refine s_get (pc := 1) S hz (ref := "SpoolFarm$Job") (v := .int (nI (C 11 k 5))) (cc_job (A := A) (C := C) hk) i_RX1 rfl 5 (Nat.le_of_ble_eq_true rfl) (by decide +kernel) (fun _ h => h) rfl dX1_blackTonerFor_1 ?_
  refine s_if_eqN (pc := 4) S 11 dX1_blackTonerFor_4 (by decide) (by omega) (fun c_1 => ?_) (fun c_1 => ?_)
  · refine s_iconst (pc := 11) S (v := (nI 2)) dX1_blackTonerFor_11 (by decide) ?_
    refine s_iload_n (pc := 12) S 1 dX1_blackTonerFor_12 rfl rfl ?_
    refine s_imulN (pc := 13) S dX1_blackTonerFor_13 ?_
    exact s_iret (pc := 14) S hz hlo hr ⟨rfl, rfl, by unfold bkN; rw [if_pos c_1]⟩ (Nat.le_of_ble_eq_true rfl) (Nat.le_of_ble_eq_true rfl) dX1_blackTonerFor_14
  · refine s_iload_n (pc := 7) S 1 dX1_blackTonerFor_7 rfl rfl ?_
    refine s_goto (pc := 8) S 14 dX1_blackTonerFor_8 (by decide) ?_
    exact s_iret (pc := 14) S hz hlo hr ⟨rfl, rfl, by unfold bkN; rw [if_neg c_1]⟩ (Nat.le_of_ble_eq_true rfl) (Nat.le_of_ble_eq_true rfl) dX1_blackTonerFor_14
set_option maxHeartbeats 4000000 in
set_option maxRecDepth 100000 in
theorem k_X1_colourTonerFor (Z : Zp) (l : Launch) (A : AF) (C : CF) (k : Nat) (hk : k < C 0 0 5) (n : Nat) (hK : OkK C) : CtS Z l yX1_colourTonerFor wsX1_colourTonerFor ({ frames := 0, cells := 0, slots := 0, locals := 0 }) [.ref (A 11 k), .int (nI n)] A C 0 0 (fun v A2 C2 => A = A2 ∧ C = C2 ∧ some (.int (nI (ckN (C 11 k 5) n))) = v) (fun _ _ _ => False) := by
  refine CtS.of (cc0 := cX1_colourTonerFor) (maxL := 2) (ret := (some .int)) (by decide) rfl (Nat.le_of_ble_eq_true rfl) ?_
  intro M0_ p_ e_ s_ m_ args_ below_ meth_ c_ S hz hml hex hlo hr hin
  refine s_loc (L2 := [(0, .ref (A 11 k)), (1, .int (nI n))]) rfl ?_
  have i_RX1 : ∀ w ∈ u_ws RX1 TX1 14, w ∈ wsX1_colourTonerFor := by decide +kernel
  obtain ⟨⟨k3, k4, k5, k6, k7, k8⟩, kU, kP, kT, kJ, kL, kE, kB⟩ := id hK
  obtain ⟨j0, j1, j2, j2b, j3, j4, j5, j6, j7, j8, j9, j10, j11, j12, j13⟩ := kJ k hk
  refine s_aload_n (pc := 0) S 0 dX1_colourTonerFor_0 rfl rfl ?_
  refine s_get (pc := 1) S hz (ref := "SpoolFarm$Job") (v := .int (nI (C 11 k 5))) (cc_job (A := A) (C := C) hk) i_RX1 rfl 5 (Nat.le_of_ble_eq_true rfl) (by decide +kernel) (fun _ h => h) rfl dX1_colourTonerFor_1 ?_
  refine s_if_eqN (pc := 4) S 13 dX1_colourTonerFor_4 (by decide) (by omega) (fun c_1 => ?_) (fun c_1 => ?_)
  · refine s_iconst (pc := 13) S (v := (nI 0)) dX1_colourTonerFor_13 (by decide) ?_
    exact s_iret (pc := 14) S hz hlo hr ⟨rfl, rfl, by unfold ckN; rw [if_pos c_1]⟩ (Nat.le_of_ble_eq_true rfl) (Nat.le_of_ble_eq_true rfl) dX1_colourTonerFor_14
  · refine s_iconst (pc := 7) S (v := (nI 3)) dX1_colourTonerFor_7 (by decide) ?_
    refine s_iload_n (pc := 8) S 1 dX1_colourTonerFor_8 rfl rfl ?_
    refine s_imulN (pc := 9) S dX1_colourTonerFor_9 ?_
    refine s_goto (pc := 10) S 14 dX1_colourTonerFor_10 (by decide) ?_
    exact s_iret (pc := 14) S hz hlo hr ⟨rfl, rfl, by unfold ckN; rw [if_neg c_1]⟩ (Nat.le_of_ble_eq_true rfl) (Nat.le_of_ble_eq_true rfl) dX1_colourTonerFor_14
set_option maxHeartbeats 4000000 in
set_option maxRecDepth 100000 in
theorem k_X1_sheetPages (Z : Zp) (l : Launch) (A : AF) (C : CF) (k : Nat) (hk : k < C 0 0 5) (o : Nat) (ho : o ≤ C 11 k 2) (hK : OkK C) : CtS Z l yX1_sheetPages wsX1_sheetPages ({ frames := 1, cells := 0, slots := 0, locals := 40 }) [.ref (A 11 k), .int (nI o)] A C 0 0 (fun v A2 C2 => A = A2 ∧ C = C2 ∧ some (.int (nI (shN (C 11 k 6) (C 11 k 2) o))) = v) (fun _ _ _ => False) := by
  refine CtS.of (cc0 := cX1_sheetPages) (maxL := 2) (ret := (some .int)) (by decide) rfl (Nat.le_of_ble_eq_true rfl) ?_
  intro M0_ p_ e_ s_ m_ args_ below_ meth_ c_ S hz hml hex hlo hr hin
  refine s_loc (L2 := [(0, .ref (A 11 k)), (1, .int (nI o))]) rfl ?_
  have i_RX1 : ∀ w ∈ u_ws RX1 TX1 14, w ∈ wsX1_sheetPages := by decide +kernel
  obtain ⟨⟨k3, k4, k5, k6, k7, k8⟩, kU, kP, kT, kJ, kL, kE, kB⟩ := id hK
  obtain ⟨j0, j1, j2, j2b, j3, j4, j5, j6, j7, j8, j9, j10, j11, j12, j13⟩ := kJ k hk
  refine s_aload_n (pc := 0) S 0 dX1_sheetPages_0 rfl rfl ?_
  refine s_get (pc := 1) S hz (ref := "SpoolFarm$Job") (v := .int (nI (C 11 k 6))) (cc_job (A := A) (C := C) hk) i_RX1 rfl 6 (Nat.le_of_ble_eq_true rfl) (by decide +kernel) (fun _ h => h) rfl dX1_sheetPages_1 ?_
  refine s_if_eqN (pc := 4) S 20 dX1_sheetPages_4 (by decide) (by omega) (fun c_1 => ?_) (fun c_1 => ?_)
  · refine s_iconst (pc := 20) S (v := (nI 1)) dX1_sheetPages_20 (by decide) ?_
    exact s_iret (pc := 21) S hz hlo hr ⟨rfl, rfl, by unfold shN; rw [if_pos c_1]⟩ (Nat.le_of_ble_eq_true rfl) (Nat.le_of_ble_eq_true rfl) dX1_sheetPages_21
  · refine s_iconst (pc := 7) S (v := (nI 2)) dX1_sheetPages_7 (by decide) ?_
    refine s_aload_n (pc := 8) S 0 dX1_sheetPages_8 rfl rfl ?_
    refine s_get (pc := 9) S hz (ref := "SpoolFarm$Job") (v := .int (nI (C 11 k 2))) (cc_job (A := A) (C := C) hk) i_RX1 rfl 2 (Nat.le_of_ble_eq_true rfl) (by decide +kernel) (fun _ h => h) rfl dX1_sheetPages_9 ?_
    refine s_iload_n (pc := 12) S 1 dX1_sheetPages_12 rfl rfl ?_
    refine s_isubN (pc := 13) S dX1_sheetPages_13 (by omega) ?_
    refine s_min (pc := 14) S hml (by omega) (by omega) (by decide +kernel) (by decide +kernel) (by decide +kernel) (by decide +kernel) (Nat.le_of_ble_eq_true rfl) (Nat.le_of_ble_eq_true rfl) (Nat.le_of_ble_eq_true rfl) (Nat.le_of_ble_eq_true rfl) dX1_sheetPages_14 ?_
    refine s_goto (pc := 17) S 21 dX1_sheetPages_17 (by decide) ?_
    exact s_iret (pc := 21) S hz hlo hr ⟨rfl, rfl, by unfold shN; rw [if_neg c_1]⟩ (Nat.le_of_ble_eq_true rfl) (Nat.le_of_ble_eq_true rfl) dX1_sheetPages_21
set_option maxHeartbeats 4000000 in
set_option maxRecDepth 100000 in
theorem k_X1_isHeld (Z : Zp) (l : Launch) (A : AF) (C : CF) (k : Nat) (hk : k < C 0 0 5) (hK : OkK C) : CtS Z l yX1_isHeld wsX1_isHeld ({ frames := 1, cells := 0, slots := 0, locals := 20 }) [.ref (A 11 k)] A C 0 0 (fun v A2 C2 => A = A2 ∧ C = C2 ∧ ((C 11 k 8 = 0 ∧ C 11 k 9 < C 11 k 3 ∧ some (.int (nI 1)) = v) ∨ (¬ (C 11 k 8 = 0 ∧ C 11 k 9 < C 11 k 3) ∧ some (.int (nI 0)) = v))) (fun _ _ _ => False) := by
  refine CtS.of (cc0 := cX1_isHeld) (maxL := 1) (ret := (some .boolean)) (by decide) rfl (Nat.le_of_ble_eq_true rfl) ?_
  intro M0_ p_ e_ s_ m_ args_ below_ meth_ c_ S hz hml hex hlo hr hin
  refine s_loc (L2 := [(0, .ref (A 11 k))]) rfl ?_
  have i_RX1 : ∀ w ∈ u_ws RX1 TX1 14, w ∈ wsX1_isHeld := by decide +kernel
  obtain ⟨⟨k3, k4, k5, k6, k7, k8⟩, kU, kP, kT, kJ, kL, kE, kB⟩ := id hK
  obtain ⟨j0, j1, j2, j2b, j3, j4, j5, j6, j7, j8, j9, j10, j11, j12, j13⟩ := kJ k hk
  refine s_aload_n (pc := 0) S 0 dX1_isHeld_0 rfl rfl ?_
  refine s_get (pc := 1) S hz (ref := "SpoolFarm$Job") (v := .int (nI (C 11 k 8))) (cc_job (A := A) (C := C) hk) i_RX1 rfl 8 (Nat.le_of_ble_eq_true rfl) (by decide +kernel) (fun _ h => h) rfl dX1_isHeld_1 ?_
  refine s_if_neN (pc := 4) S 18 dX1_isHeld_4 (by decide) (by omega) (fun c_1 => ?_) (fun c_1 => ?_)
  · refine s_iconst (pc := 18) S (v := (nI 0)) dX1_isHeld_18 (by decide) ?_
    exact s_zret (pc := 19) S hz hlo (nar_z (by omega)) hr ⟨rfl, rfl, Or.inr ⟨by omega, rfl⟩⟩ (Nat.le_of_ble_eq_true rfl) (Nat.le_of_ble_eq_true rfl) dX1_isHeld_19
  · refine s_aload_n (pc := 7) S 0 dX1_isHeld_7 rfl rfl ?_
    refine s_callV (pc := 8) S hz hml [] (k_X1_pagesToCome Z l A C k hk hK) (cwV 0 S.2.2.2.2 gX1_isHeld_X1_pagesToCome rfl rfl rfl (by decide +kernel) ⟨Nat.le_of_ble_eq_true rfl, Nat.le_of_ble_eq_true rfl⟩) (cc_job (A := A) (C := C) hk) rfl rfl rfl (Nat.le_of_ble_eq_true rfl) dX1_isHeld_8 ⟨Nat.le_of_ble_eq_true rfl, Nat.le_of_ble_eq_true rfl⟩ (fun _ _ _ h => h.elim) (fun v A2 C2 h_2 => ?_)
    obtain ⟨rfl, rfl, rfl⟩ := h_2
    refine s_if_leN (pc := 11) S 18 dX1_isHeld_11 (by decide) (by omega) (fun c_3 => ?_) (fun c_3 => ?_)
    · refine s_iconst (pc := 18) S (v := (nI 0)) dX1_isHeld_18 (by decide) ?_
      exact s_zret (pc := 19) S hz hlo (nar_z (by omega)) hr ⟨rfl, rfl, Or.inr ⟨by omega, rfl⟩⟩ (Nat.le_of_ble_eq_true rfl) (Nat.le_of_ble_eq_true rfl) dX1_isHeld_19
    · refine s_iconst (pc := 14) S (v := (nI 1)) dX1_isHeld_14 (by decide) ?_
      refine s_goto (pc := 15) S 19 dX1_isHeld_15 (by decide) ?_
      exact s_zret (pc := 19) S hz hlo (nar_z (by omega)) hr ⟨rfl, rfl, Or.inl ⟨by omega, by omega, rfl⟩⟩ (Nat.le_of_ble_eq_true rfl) (Nat.le_of_ble_eq_true rfl) dX1_isHeld_19
set_option maxHeartbeats 4000000 in
set_option maxRecDepth 100000 in
theorem k_X3_toner (Z : Zp) (l : Launch) (A : AF) (C : CF) (p : Nat) (hp : p < C 0 0 4) (b : Nat) (hb : b < 2) : CtS Z l yX3_toner wsX3_toner ({ frames := 0, cells := 0, slots := 0, locals := 0 }) [.ref (A 9 p), .int (nI b)] A C 0 0 (fun v A2 C2 => A = A2 ∧ C = C2 ∧ some (.int (nI (if b = 0 then C 9 p 1 else C 9 p 2))) = v) (fun _ _ _ => False) := by
  refine CtS.of (cc0 := cX3_toner) (maxL := 2) (ret := (some .int)) (by decide) rfl (Nat.le_of_ble_eq_true rfl) ?_
  intro M0_ p_ e_ s_ m_ args_ below_ meth_ c_ S hz hml hex hlo hr hin
  refine s_loc (L2 := [(0, .ref (A 9 p)), (1, .int (nI b))]) rfl ?_
  have i_RX3 : ∀ w ∈ u_ws RX3 TX3 6, w ∈ wsX3_toner := by decide +kernel
  refine s_iload_n (pc := 0) S 1 dX3_toner_0 rfl rfl ?_
  refine s_if_eqN (pc := 1) S 11 dX3_toner_1 (by decide) (by omega) (fun c_1 => ?_) (fun c_1 => ?_)
  · refine s_aload_n (pc := 11) S 0 dX3_toner_11 rfl rfl ?_
    refine s_get (pc := 12) S hz (ref := "SpoolFarm$Printer") (v := .int (nI (C 9 p 1))) (cc_prn (A := A) (C := C) hp) i_RX3 rfl 1 (Nat.le_of_ble_eq_true rfl) (by decide +kernel) (fun _ h => h) rfl dX3_toner_12 ?_
    exact s_iret (pc := 15) S hz hlo hr ⟨rfl, rfl, by rw [if_pos c_1]⟩ (Nat.le_of_ble_eq_true rfl) (Nat.le_of_ble_eq_true rfl) dX3_toner_15
  · refine s_aload_n (pc := 4) S 0 dX3_toner_4 rfl rfl ?_
    refine s_get (pc := 5) S hz (ref := "SpoolFarm$Printer") (v := .int (nI (C 9 p 2))) (cc_prn (A := A) (C := C) hp) i_RX3 rfl 2 (Nat.le_of_ble_eq_true rfl) (by decide +kernel) (fun _ h => h) rfl dX3_toner_5 ?_
    refine s_goto (pc := 8) S 15 dX3_toner_8 (by decide) ?_
    exact s_iret (pc := 15) S hz hlo hr ⟨rfl, rfl, by rw [if_neg c_1]⟩ (Nat.le_of_ble_eq_true rfl) (Nat.le_of_ble_eq_true rfl) dX3_toner_15
set_option maxHeartbeats 4000000 in
set_option maxRecDepth 100000 in
theorem k_X5_quota (Z : Zp) (l : Launch) (A : AF) (C : CF) (u : Nat) (hu : u < C 0 0 3) (b : Nat) (hb : b < 2) : CtS Z l yX5_quota wsX5_quota ({ frames := 0, cells := 0, slots := 0, locals := 0 }) [.ref (A 10 u), .int (nI b)] A C 0 0 (fun v A2 C2 => A = A2 ∧ C = C2 ∧ some (.int (nI (if b = 0 then C 10 u 0 else C 10 u 1))) = v) (fun _ _ _ => False) := by
  refine CtS.of (cc0 := cX5_quota) (maxL := 2) (ret := (some .int)) (by decide) rfl (Nat.le_of_ble_eq_true rfl) ?_
  intro M0_ p_ e_ s_ m_ args_ below_ meth_ c_ S hz hml hex hlo hr hin
  refine s_loc (L2 := [(0, .ref (A 10 u)), (1, .int (nI b))]) rfl ?_
  have i_RX5 : ∀ w ∈ u_ws RX5 TX5 4, w ∈ wsX5_quota := by decide +kernel
  refine s_iload_n (pc := 0) S 1 dX5_quota_0 rfl rfl ?_
  refine s_if_eqN (pc := 1) S 11 dX5_quota_1 (by decide) (by omega) (fun c_1 => ?_) (fun c_1 => ?_)
  · refine s_aload_n (pc := 11) S 0 dX5_quota_11 rfl rfl ?_
    refine s_get (pc := 12) S hz (ref := "SpoolFarm$User") (v := .int (nI (C 10 u 0))) (cc_user (A := A) (C := C) hu) i_RX5 rfl 0 (Nat.le_of_ble_eq_true rfl) (by decide +kernel) (fun _ h => h) rfl dX5_quota_12 ?_
    exact s_iret (pc := 15) S hz hlo hr ⟨rfl, rfl, by rw [if_pos c_1]⟩ (Nat.le_of_ble_eq_true rfl) (Nat.le_of_ble_eq_true rfl) dX5_quota_15
  · refine s_aload_n (pc := 4) S 0 dX5_quota_4 rfl rfl ?_
    refine s_get (pc := 5) S hz (ref := "SpoolFarm$User") (v := .int (nI (C 10 u 1))) (cc_user (A := A) (C := C) hu) i_RX5 rfl 1 (Nat.le_of_ble_eq_true rfl) (by decide +kernel) (fun _ h => h) rfl dX5_quota_5 ?_
    refine s_goto (pc := 8) S 15 dX5_quota_8 (by decide) ?_
    exact s_iret (pc := 15) S hz hlo hr ⟨rfl, rfl, by rw [if_neg c_1]⟩ (Nat.le_of_ble_eq_true rfl) (Nat.le_of_ble_eq_true rfl) dX5_quota_15
theorem nI_addneg {a b : Nat} (h : b ≤ a) : nI a + -(nI b) = nI (a - b) := by
  rw [← Int32.sub_eq_add_neg, pk_sub h]
set_option maxHeartbeats 4000000 in
set_option maxRecDepth 100000 in
theorem k_X5_addQuota (Z : Zp) (l : Launch) (A : AF) (C : CF) (u : Nat) (hu : u < C 0 0 3) (b n : Nat) (hb : b < 2)  : CtS Z l yX5_addQuota wsX5_addQuota ({ frames := 0, cells := 0, slots := 0, locals := 0 }) [.ref (A 10 u), .int (nI b), .int (nI n)] A C 0 0 (fun v A2 C2 => A = A2 ∧ (if b = 0 then up3 C 10 u 0 (C 10 u 0 + n) else up3 C 10 u 1 (C 10 u 1 + n)) = C2 ∧ none = v) (fun _ _ _ => False) := by
  refine CtS.of (cc0 := cX5_addQuota) (maxL := 3) (ret := none) (by decide) rfl (Nat.le_of_ble_eq_true rfl) ?_
  intro M0_ p_ e_ s_ m_ args_ below_ meth_ c_ S hz hml hex hlo hr hin
  refine s_loc (L2 := [(0, .ref (A 10 u)), (1, .int (nI b)), (2, .int (nI n))]) rfl ?_
  have i_RX5 : ∀ w ∈ u_ws RX5 TX5 4, w ∈ wsX5_addQuota := by decide +kernel
  refine s_iload_n (pc := 0) S 1 dX5_addQuota_0 rfl rfl ?_
  refine s_if_eqN (pc := 1) S 17 dX5_addQuota_1 (by decide) (by omega) (fun c_1 => ?_) (fun c_1 => ?_)
  · refine s_aload_n (pc := 17) S 0 dX5_addQuota_17 rfl rfl ?_
    refine s_dup (pc := 18) S dX5_addQuota_18 rfl ?_
    refine s_get (pc := 19) S hz (ref := "SpoolFarm$User") (v := .int (nI (C 10 u 0))) (cc_user (A := A) (C := C) hu) i_RX5 rfl 0 (Nat.le_of_ble_eq_true rfl) (by decide +kernel) (fun _ h => h) rfl dX5_addQuota_19 ?_
    refine s_iload_n (pc := 22) S 2 dX5_addQuota_22 rfl rfl ?_
    refine s_iaddN (pc := 23) S dX5_addQuota_23 ?_
    refine s_put (pc := 24) S hz (ref := "SpoolFarm$User") (ty := .int) (cc_user (A := A) (C := C) hu) i_RX5 tyX5 tyX5_ok nmX5 rfl 0 (Nat.le_of_ble_eq_true rfl) (by decide +kernel) (fun _ h => h) rfl (by decide +kernel) rfl rfl (Nat.le_of_ble_eq_true rfl) (up3 C 10 u 0 ((C 10 u 0) + n)) cu_user (by rw [(cc_user (A := A) (C := (up3 C 10 u 0 ((C 10 u 0) + n))) hu), up3_u]; rfl) dX5_addQuota_24 ?_
    exact s_vret (pc := 27) S hz hlo hr ⟨rfl, by rw [if_pos c_1], rfl⟩ (Nat.le_of_ble_eq_true rfl) (Nat.le_of_ble_eq_true rfl) dX5_addQuota_27
  · refine s_aload_n (pc := 4) S 0 dX5_addQuota_4 rfl rfl ?_
    refine s_dup (pc := 5) S dX5_addQuota_5 rfl ?_
    refine s_get (pc := 6) S hz (ref := "SpoolFarm$User") (v := .int (nI (C 10 u 1))) (cc_user (A := A) (C := C) hu) i_RX5 rfl 1 (Nat.le_of_ble_eq_true rfl) (by decide +kernel) (fun _ h => h) rfl dX5_addQuota_6 ?_
    refine s_iload_n (pc := 9) S 2 dX5_addQuota_9 rfl rfl ?_
    refine s_iaddN (pc := 10) S dX5_addQuota_10 ?_
    refine s_put (pc := 11) S hz (ref := "SpoolFarm$User") (ty := .int) (cc_user (A := A) (C := C) hu) i_RX5 tyX5 tyX5_ok nmX5 rfl 1 (Nat.le_of_ble_eq_true rfl) (by decide +kernel) (fun _ h => h) rfl (by decide +kernel) rfl rfl (Nat.le_of_ble_eq_true rfl) (up3 C 10 u 1 ((C 10 u 1) + n)) cu_user (by rw [(cc_user (A := A) (C := (up3 C 10 u 1 ((C 10 u 1) + n))) hu), up3_u]; rfl) dX5_addQuota_11 ?_
    refine s_goto (pc := 14) S 27 dX5_addQuota_14 (by decide) ?_
    exact s_vret (pc := 27) S hz hlo hr ⟨rfl, by rw [if_neg c_1], rfl⟩ (Nat.le_of_ble_eq_true rfl) (Nat.le_of_ble_eq_true rfl) dX5_addQuota_27
set_option maxHeartbeats 4000000 in
set_option maxRecDepth 100000 in
theorem k_X5_subQuota (Z : Zp) (l : Launch) (A : AF) (C : CF) (u : Nat) (hu : u < C 0 0 3) (b n : Nat) (hb : b < 2) (h : n ≤ (if b = 0 then C 10 u 0 else C 10 u 1)) : CtS Z l yX5_addQuota wsX5_addQuota ({ frames := 0, cells := 0, slots := 0, locals := 0 }) [.ref (A 10 u), .int (nI b), .int (-(nI n))] A C 0 0 (fun v A2 C2 => A = A2 ∧ (if b = 0 then up3 C 10 u 0 (C 10 u 0 - n) else up3 C 10 u 1 (C 10 u 1 - n)) = C2 ∧ none = v) (fun _ _ _ => False) := by
  refine CtS.of (cc0 := cX5_addQuota) (maxL := 3) (ret := none) (by decide) rfl (Nat.le_of_ble_eq_true rfl) ?_
  intro M0_ p_ e_ s_ m_ args_ below_ meth_ c_ S hz hml hex hlo hr hin
  refine s_loc (L2 := [(0, .ref (A 10 u)), (1, .int (nI b)), (2, .int (-(nI n)))]) rfl ?_
  have i_RX5 : ∀ w ∈ u_ws RX5 TX5 4, w ∈ wsX5_addQuota := by decide +kernel
  have hh : (b = 0 → n ≤ C 10 u 0) ∧ (b ≠ 0 → n ≤ C 10 u 1) := by constructor <;> intro z <;> simpa [z] using h
  refine s_iload_n (pc := 0) S 1 dX5_addQuota_0 rfl rfl ?_
  refine s_if_eqN (pc := 1) S 17 dX5_addQuota_1 (by decide) (by omega) (fun c_1 => ?_) (fun c_1 => ?_)
  · refine s_aload_n (pc := 17) S 0 dX5_addQuota_17 rfl rfl ?_
    refine s_dup (pc := 18) S dX5_addQuota_18 rfl ?_
    refine s_get (pc := 19) S hz (ref := "SpoolFarm$User") (v := .int (nI (C 10 u 0))) (cc_user (A := A) (C := C) hu) i_RX5 rfl 0 (Nat.le_of_ble_eq_true rfl) (by decide +kernel) (fun _ h => h) rfl dX5_addQuota_19 ?_
    refine s_iload_n (pc := 22) S 2 dX5_addQuota_22 rfl rfl ?_
    refine s_iadd (pc := 23) S dX5_addQuota_23 ?_
    refine s_top (u := .int (nI (C 10 u 0 - n))) (congrArg Value.int (nI_addneg (by omega))) ?_
    refine s_put (pc := 24) S hz (ref := "SpoolFarm$User") (ty := .int) (cc_user (A := A) (C := C) hu) i_RX5 tyX5 tyX5_ok nmX5 rfl 0 (Nat.le_of_ble_eq_true rfl) (by decide +kernel) (fun _ h => h) rfl (by decide +kernel) rfl rfl (Nat.le_of_ble_eq_true rfl) (up3 C 10 u 0 (C 10 u 0 - n)) cu_user (by rw [(cc_user (A := A) (C := (up3 C 10 u 0 (C 10 u 0 - n))) hu), up3_u]; rfl) dX5_addQuota_24 ?_
    exact s_vret (pc := 27) S hz hlo hr ⟨rfl, by rw [if_pos c_1], rfl⟩ (Nat.le_of_ble_eq_true rfl) (Nat.le_of_ble_eq_true rfl) dX5_addQuota_27
  · refine s_aload_n (pc := 4) S 0 dX5_addQuota_4 rfl rfl ?_
    refine s_dup (pc := 5) S dX5_addQuota_5 rfl ?_
    refine s_get (pc := 6) S hz (ref := "SpoolFarm$User") (v := .int (nI (C 10 u 1))) (cc_user (A := A) (C := C) hu) i_RX5 rfl 1 (Nat.le_of_ble_eq_true rfl) (by decide +kernel) (fun _ h => h) rfl dX5_addQuota_6 ?_
    refine s_iload_n (pc := 9) S 2 dX5_addQuota_9 rfl rfl ?_
    refine s_iadd (pc := 10) S dX5_addQuota_10 ?_
    refine s_top (u := .int (nI (C 10 u 1 - n))) (congrArg Value.int (nI_addneg (by omega))) ?_
    refine s_put (pc := 11) S hz (ref := "SpoolFarm$User") (ty := .int) (cc_user (A := A) (C := C) hu) i_RX5 tyX5 tyX5_ok nmX5 rfl 1 (Nat.le_of_ble_eq_true rfl) (by decide +kernel) (fun _ h => h) rfl (by decide +kernel) rfl rfl (Nat.le_of_ble_eq_true rfl) (up3 C 10 u 1 (C 10 u 1 - n)) cu_user (by rw [(cc_user (A := A) (C := (up3 C 10 u 1 (C 10 u 1 - n))) hu), up3_u]; rfl) dX5_addQuota_11 ?_
    refine s_goto (pc := 14) S 27 dX5_addQuota_14 (by decide) ?_
    exact s_vret (pc := 27) S hz hlo hr ⟨rfl, by rw [if_neg c_1], rfl⟩ (Nat.le_of_ble_eq_true rfl) (Nat.le_of_ble_eq_true rfl) dX5_addQuota_27
set_option maxHeartbeats 4000000 in
set_option maxRecDepth 100000 in
theorem k_X6_checkHasToner (Z : Zp) (l : Launch) (A : AF) (C : CF) (p : Nat) (hp : p < C 0 0 4) (b : Nat) (hb : b < 2) (hpc : C 9 p 0 < 2) (hfl : l.stackTraces = false) : CtS Z l yX6_checkHasToner wsX6_checkHasToner ({ frames := 6, cells := 1, slots := 6, locals := 90 }) [.ref (A 9 p), .int (nI b)] A C 1 6 (fun v A2 C2 => A = A2 ∧ C = C2 ∧ none = v ∧ (b = 0 ∨ C 9 p 0 ≠ 0)) (fun E A2 C2 => A = A2 ∧ (E = "java/lang/UnsupportedOperationException" ∧ b ≠ 0 ∧ C 9 p 0 = 0 ∧ C = C2)) := by
  refine CtS.of (cc0 := cX6_checkHasToner) (maxL := 2) (ret := none) (by decide) rfl (Nat.le_of_ble_eq_true rfl) ?_
  intro M0_ p_ e_ s_ m_ args_ below_ meth_ c_ S hz hml hex hlo hr hin
  refine s_loc (L2 := [(0, .ref (A 9 p)), (1, .int (nI b))]) rfl ?_
  have i_RX3 : ∀ w ∈ u_ws RX3 TX3 6, w ∈ wsX6_checkHasToner := by decide +kernel
  refine s_iload_n (pc := 0) S 1 dX6_checkHasToner_0 rfl rfl ?_
  refine s_if_eqN (pc := 1) S 22 dX6_checkHasToner_1 (by decide) (by omega) (fun c_1 => ?_) (fun c_1 => ?_)
  · exact s_vret (pc := 22) S hz hlo hr ⟨rfl, rfl, rfl, by omega⟩ (Nat.le_of_ble_eq_true rfl) (Nat.le_of_ble_eq_true rfl) dX6_checkHasToner_22
  · refine s_aload_n (pc := 4) S 0 dX6_checkHasToner_4 rfl rfl ?_
    refine s_get (pc := 5) S hz (ref := "SpoolFarm$Printer") (v := .int (nI (C 9 p 0))) (cc_prn (A := A) (C := C) hp) i_RX3 rfl 0 (Nat.le_of_ble_eq_true rfl) (by decide +kernel) (fun _ h => h) rfl dX6_checkHasToner_5 ?_
    refine s_if_neN (pc := 8) S 22 dX6_checkHasToner_8 (by decide) (by omega) (fun c_2 => ?_) (fun c_2 => ?_)
    · exact s_vret (pc := 22) S hz hlo hr ⟨rfl, rfl, rfl, by omega⟩ (Nat.le_of_ble_eq_true rfl) (Nat.le_of_ble_eq_true rfl) dX6_checkHasToner_22
    · exact s_thrW (pc := 11) (text := "the printer prints no colour pages") S hz hfl hml hex hlo thr_UOE (by decide +kernel) (by decide +kernel) (by decide +kernel) (by decide +kernel) dX6_checkHasToner_11 dX6_checkHasToner_14 dX6_checkHasToner_15 dX6_checkHasToner_18 dX6_checkHasToner_21 (Nat.le_of_ble_eq_true rfl) (Nat.le_of_ble_eq_true rfl) (Nat.le_of_ble_eq_true rfl) (Nat.le_of_ble_eq_true rfl) ⟨rfl, rfl, by omega, by omega, rfl⟩ (Nat.le_of_ble_eq_true rfl) (Nat.le_of_ble_eq_true rfl)
set_option maxHeartbeats 4000000 in
set_option maxRecDepth 100000 in
theorem k_X6_trayAt (Z : Zp) (l : Launch) (A : AF) (C : CF) (x y : Int32) (hK : OkK C) (hfl : l.stackTraces = false) : CtS Z l yX6_trayAt wsX6_trayAt ({ frames := 7, cells := 2, slots := 12, locals := 112 }) [.ref (A 0 0), .int x, .int y] A C 2 12 (fun v A2 C2 => A = A2 ∧ C = C2 ∧ ∃ p t : Nat, p < C 0 0 4 ∧ t < C 9 p 5 ∧ nI p = x ∧ nI t = y ∧ some (.ref (A 12 (3 * p + t))) = v) (fun E A2 C2 => A = A2 ∧ (E = "java/lang/IndexOutOfBoundsException" ∧ ((∀ p : Nat, p < C 0 0 4 → nI p ≠ x) ∨ ∃ p : Nat, p < C 0 0 4 ∧ nI p = x ∧ ∀ t : Nat, t < C 9 p 5 → nI t ≠ y) ∧ C = C2)) := by
  refine CtS.of (cc0 := cX6_trayAt) (maxL := 5) (ret := (some (.object "SpoolFarm$Tray"))) (by decide) rfl (Nat.le_of_ble_eq_true rfl) ?_
  intro M0_ p_ e_ s_ m_ args_ below_ meth_ c_ S hz hml hex hlo hr hin
  refine s_loc (L2 := [(0, .ref (A 0 0)), (1, .int x), (2, .int y)]) rfl ?_
  have i_RX3 : ∀ w ∈ u_ws RX3 TX3 6, w ∈ wsX6_trayAt := by decide +kernel
  obtain ⟨⟨k3, k4, k5, k6, k7, k8⟩, kU, kP, kT, kJ, kL, kE, kB⟩ := id hK
  refine s_aload_n (pc := 0) S 0 dX6_trayAt_0 rfl rfl ?_
  refine s_iload_n (pc := 1) S 1 dX6_trayAt_1 rfl rfl ?_
  refine s_callV (pc := 2) S hz hml [.int x] (k_X6_printerAt Z l A C x k4 hfl) (cwV 1 S.2.2.2.2 gX6_trayAt_X6_printerAt rfl rfl rfl (by decide +kernel) ⟨Nat.le_of_ble_eq_true rfl, Nat.le_of_ble_eq_true rfl⟩) (cc_farm (A := A) (C := C)) rfl rfl rfl (Nat.le_of_ble_eq_true rfl) dX6_trayAt_2 ⟨Nat.le_of_ble_eq_true rfl, Nat.le_of_ble_eq_true rfl⟩ (fun E A2 C2 h_1 => ?_) (fun v A2 C2 h_1 => ?_)
  · obtain ⟨rfl, rfl, n_4, rfl⟩ := h_1
    exact s_out S hz hex hlo ⟨rfl, rfl, Or.inl n_4, rfl⟩ (Nat.le_of_ble_eq_true rfl) (Nat.le_of_ble_eq_true rfl)
  · obtain ⟨rfl, rfl, k_2, hk_3, rfl, rfl⟩ := h_1
    obtain ⟨o_5, o_6, o_7, o_8, o_9⟩ := kP k_2 hk_3
    refine s_get (pc := 5) S hz (ref := "SpoolFarm$Printer") (v := .ref (A 14 k_2)) (cc_prn (A := A) (C := C) hk_3) i_RX3 rfl 4 (Nat.le_of_ble_eq_true rfl) (by decide +kernel) (fun _ h => h) rfl dX6_trayAt_5 ?_
    refine s_astore_n (pc := 8) S [(3, .ref (A 14 k_2)), (0, .ref (A 0 0)), (1, .int (nI k_2)), (2, .int y)] dX6_trayAt_8 rfl (by decide) rfl ?_
    rcases ix3 y (n := 3) (by decide) with ⟨t, ht, rfl⟩ | hx
    · refine s_iload_n (pc := 9) S 3 dX6_trayAt_9 rfl rfl ?_
      refine s_if_ltN (pc := 10) S 25 dX6_trayAt_10 (by decide) (by omega) (fun c_10 => absurd c_10 (by omega)) (fun c_10 => ?_)
      refine s_iload_n (pc := 13) S 3 dX6_trayAt_13 rfl rfl ?_
      refine s_aload_n (pc := 14) S 0 dX6_trayAt_14 rfl rfl ?_
      refine s_alen (pc := 15) S hz (n := 3) (cc_trays (A := A) (C := C) hk_3) dX6_trayAt_15 ?_
      refine s_icmp_geN (pc := 16) S 25 dX6_trayAt_16 (by decide) (by omega) (by decide) (fun h => absurd h (by omega)) (fun _ => ?_)
      refine s_aload_n (pc := 19) S 0 dX6_trayAt_19 rfl rfl ?_
      refine s_iload_n (pc := 20) S 3 dX6_trayAt_20 rfl rfl ?_
      by_cases lv_11 : t < C 9 k_2 5
      · refine s_aald (pc := 21) S hz (v := .ref (A 12 (3 * k_2 + t))) (cc_trays (A := A) (C := C) hk_3) (by omega) (by decide) (by rw [if_pos lv_11]; rfl) dX6_trayAt_21 ?_
        refine s_goto (pc := 22) S 26 dX6_trayAt_22 (by decide) ?_
        refine s_astore (pc := 26) S [(4, .ref (A 12 (3 * k_2 + t))), (3, .ref (A 14 k_2)), (0, .ref (A 0 0)), (1, .int (nI k_2)), (2, .int (nI t))] dX6_trayAt_26 (by decide) rfl ?_
        refine s_aload (pc := 28) S 0 dX6_trayAt_28 rfl ?_
        refine s_ifnonnull (pc := 30) S 44 dX6_trayAt_30 (by decide) ?_
        refine s_aload (pc := 44) S 0 dX6_trayAt_44 rfl ?_
        exact s_aret (pc := 46) S hz hlo hr ⟨rfl, rfl, k_2, t, hk_3, lv_11, rfl, rfl, rfl⟩ (Nat.le_of_ble_eq_true rfl) (Nat.le_of_ble_eq_true rfl) dX6_trayAt_46
      · refine s_aald (pc := 21) S hz (v := .null) (cc_trays (A := A) (C := C) hk_3) (by omega) (by decide) (by rw [if_neg lv_11]; rfl) dX6_trayAt_21 ?_
        refine s_goto (pc := 22) S 26 dX6_trayAt_22 (by decide) ?_
        refine s_astoreN (pc := 26) S [(4, .null), (3, .ref (A 14 k_2)), (0, .ref (A 0 0)), (1, .int (nI k_2)), (2, .int (nI t))] dX6_trayAt_26 (by decide) rfl ?_
        refine s_aloadN (pc := 28) S 0 dX6_trayAt_28 rfl ?_
        refine s_ifnonnullN (pc := 30) S dX6_trayAt_30 ?_
        exact s_thrW (pc := 33) (text := "no such tray") S hz hfl hml hex hlo thr_IOB (by decide +kernel) (by decide +kernel) (by decide +kernel) (by decide +kernel) dX6_trayAt_33 dX6_trayAt_36 dX6_trayAt_37 dX6_trayAt_40 dX6_trayAt_43 (Nat.le_of_ble_eq_true rfl) (Nat.le_of_ble_eq_true rfl) (Nat.le_of_ble_eq_true rfl) (Nat.le_of_ble_eq_true rfl) ⟨rfl, rfl, Or.inr ⟨k_2, hk_3, rfl, ix_dead (by omega) (by omega)⟩, rfl⟩ (Nat.le_of_ble_eq_true rfl) (Nat.le_of_ble_eq_true rfl)
    · refine s_iload_n (pc := 9) S 3 dX6_trayAt_9 rfl rfl ?_
      refine s_if_lt (pc := 10) S 25 dX6_trayAt_10 (by decide) (fun _ => ?_) (fun c_12 => ?_)
      · refine s_null (pc := 25) S dX6_trayAt_25 ?_
        refine s_astoreN (pc := 26) S [(4, .null), (3, .ref (A 14 k_2)), (0, .ref (A 0 0)), (1, .int (nI k_2)), (2, .int y)] dX6_trayAt_26 (by decide) rfl ?_
        refine s_aloadN (pc := 28) S 0 dX6_trayAt_28 rfl ?_
        refine s_ifnonnullN (pc := 30) S dX6_trayAt_30 ?_
        exact s_thrW (pc := 33) (text := "no such tray") S hz hfl hml hex hlo thr_IOB (by decide +kernel) (by decide +kernel) (by decide +kernel) (by decide +kernel) dX6_trayAt_33 dX6_trayAt_36 dX6_trayAt_37 dX6_trayAt_40 dX6_trayAt_43 (Nat.le_of_ble_eq_true rfl) (Nat.le_of_ble_eq_true rfl) (Nat.le_of_ble_eq_true rfl) (Nat.le_of_ble_eq_true rfl) ⟨rfl, rfl, Or.inr ⟨k_2, hk_3, rfl, ix_out (by decide) hx (by omega)⟩, rfl⟩ (Nat.le_of_ble_eq_true rfl) (Nat.le_of_ble_eq_true rfl)
      · refine s_iload_n (pc := 13) S 3 dX6_trayAt_13 rfl rfl ?_
        refine s_aload_n (pc := 14) S 0 dX6_trayAt_14 rfl rfl ?_
        refine s_alen (pc := 15) S hz (n := 3) (cc_trays (A := A) (C := C) hk_3) dX6_trayAt_15 ?_
        refine s_icmp_ge (pc := 16) S 25 dX6_trayAt_16 (by decide) (fun _ => ?_) (fun h => absurd (hx.resolve_left c_12) h)
        refine s_null (pc := 25) S dX6_trayAt_25 ?_
        refine s_astoreN (pc := 26) S [(4, .null), (3, .ref (A 14 k_2)), (0, .ref (A 0 0)), (1, .int (nI k_2)), (2, .int y)] dX6_trayAt_26 (by decide) rfl ?_
        refine s_aloadN (pc := 28) S 0 dX6_trayAt_28 rfl ?_
        refine s_ifnonnullN (pc := 30) S dX6_trayAt_30 ?_
        exact s_thrW (pc := 33) (text := "no such tray") S hz hfl hml hex hlo thr_IOB (by decide +kernel) (by decide +kernel) (by decide +kernel) (by decide +kernel) dX6_trayAt_33 dX6_trayAt_36 dX6_trayAt_37 dX6_trayAt_40 dX6_trayAt_43 (Nat.le_of_ble_eq_true rfl) (Nat.le_of_ble_eq_true rfl) (Nat.le_of_ble_eq_true rfl) (Nat.le_of_ble_eq_true rfl) ⟨rfl, rfl, Or.inr ⟨k_2, hk_3, rfl, ix_out (by decide) hx (by omega)⟩, rfl⟩ (Nat.le_of_ble_eq_true rfl) (Nat.le_of_ble_eq_true rfl)
set_option maxHeartbeats 4000000 in
set_option maxRecDepth 100000 in
theorem k_X6_entryAt (Z : Zp) (l : Launch) (A : AF) (C : CF) (x : Int32) (hK : OkK C) (hfl : l.stackTraces = false) : CtS Z l yX6_entryAt wsX6_entryAt ({ frames := 6, cells := 1, slots := 6, locals := 90 }) [.ref (A 0 0), .int x] A C 1 6 (fun v A2 C2 => A = A2 ∧ C = C2 ∧ ∃ k : Nat, k < C 4 0 2 ∧ nI k = x ∧ some (.ref (A 13 k)) = v) (fun E A2 C2 => A = A2 ∧ (E = "java/lang/IndexOutOfBoundsException" ∧ (∀ k : Nat, k < C 4 0 2 → nI k ≠ x) ∧ C = C2)) := by
  refine CtS.of (cc0 := cX6_entryAt) (maxL := 2) (ret := (some (.object "SpoolFarm$Entry"))) (by decide) rfl (Nat.le_of_ble_eq_true rfl) ?_
  intro M0_ p_ e_ s_ m_ args_ below_ meth_ c_ S hz hml hex hlo hr hin
  refine s_loc (L2 := [(0, .ref (A 0 0)), (1, .int x)]) rfl ?_
  have i_RX6 : ∀ w ∈ u_ws RX6 TX6 12, w ∈ wsX6_entryAt := by decide +kernel
  obtain ⟨⟨k3, k4, k5, k6, k7, k8⟩, kU, kP, kT, kJ, kL, kE, kB⟩ := id hK
  rcases ix3 x (n := C 4 0 2) (by omega) with ⟨k, hk, rfl⟩ | hx
  · refine s_iload_n (pc := 0) S 1 dX6_entryAt_0 rfl rfl ?_
    refine s_if_ltN (pc := 1) S 15 dX6_entryAt_1 (by decide) (by omega) (fun c_1 => absurd c_1 (by omega)) (fun c_1 => ?_)
    refine s_iload_n (pc := 4) S 1 dX6_entryAt_4 rfl rfl ?_
    refine s_aload_n (pc := 5) S 0 dX6_entryAt_5 rfl rfl ?_
    refine s_get (pc := 6) S hz (ref := "SpoolFarm") (v := .ref (A 4 0)) (cc_farm (A := A) (C := C)) i_RX6 rfl 9 (Nat.le_of_ble_eq_true rfl) (by decide +kernel) (fun _ h => h) rfl dX6_entryAt_6 ?_
    refine s_callV (pc := 9) S hz hml [] (k_logSize Z l A C) (cwV 0 S.2.2.2.2 gX6_entryAt_Jx4a65c_size_8abf5 rfl rfl rfl (by decide +kernel) ⟨Nat.le_of_ble_eq_true rfl, Nat.le_of_ble_eq_true rfl⟩) (cc_list (A := A) (C := C)) rfl rfl rfl (Nat.le_of_ble_eq_true rfl) dX6_entryAt_9 ⟨Nat.le_of_ble_eq_true rfl, Nat.le_of_ble_eq_true rfl⟩ (fun _ _ _ h => h.elim) (fun v A2 C2 h_2 => ?_)
    obtain ⟨rfl, rfl, rfl⟩ := h_2
    refine s_icmp_ltN (pc := 12) S 26 dX6_entryAt_12 (by decide) (by omega) (by omega) (fun _ => ?_) (fun h => absurd hk h)
    refine s_aload_n (pc := 26) S 0 dX6_entryAt_26 rfl rfl ?_
    refine s_get (pc := 27) S hz (ref := "SpoolFarm") (v := .ref (A 4 0)) (cc_farm (A := A) (C := C)) i_RX6 rfl 9 (Nat.le_of_ble_eq_true rfl) (by decide +kernel) (fun _ h => h) rfl dX6_entryAt_27 ?_
    refine s_iload_n (pc := 30) S 1 dX6_entryAt_30 rfl rfl ?_
    refine s_callV (pc := 31) S hz hml [.int (nI k)] (k_logGet Z l A C k (by omega) kL.2.1 kL.2.2.1) (cwV 1 S.2.2.2.2 gX6_entryAt_Jx4a65c_get_915e3 rfl rfl rfl (by decide +kernel) ⟨Nat.le_of_ble_eq_true rfl, Nat.le_of_ble_eq_true rfl⟩) (cc_list (A := A) (C := C)) rfl rfl rfl (Nat.le_of_ble_eq_true rfl) dX6_entryAt_31 ⟨Nat.le_of_ble_eq_true rfl, Nat.le_of_ble_eq_true rfl⟩ (fun _ _ _ h => h.elim) (fun v A2 C2 h_3 => ?_)
    obtain ⟨rfl, rfl, rfl⟩ := h_3
    refine s_castO (pc := 34) S hz (ci := 5) (cc_entry (A := A) (C := C) hk) rfl (by decide +kernel) dX6_entryAt_34 ?_
    exact s_aret (pc := 37) S hz hlo hr ⟨rfl, rfl, k, hk, rfl, rfl⟩ (Nat.le_of_ble_eq_true rfl) (Nat.le_of_ble_eq_true rfl) dX6_entryAt_37
  · refine s_iload_n (pc := 0) S 1 dX6_entryAt_0 rfl rfl ?_
    refine s_if_lt (pc := 1) S 15 dX6_entryAt_1 (by decide) (fun _ => ?_) (fun c_4 => ?_)
    · exact s_thrW (pc := 15) (text := "no such entry") S hz hfl hml hex hlo thr_IOB (by decide +kernel) (by decide +kernel) (by decide +kernel) (by decide +kernel) dX6_entryAt_15 dX6_entryAt_18 dX6_entryAt_19 dX6_entryAt_22 dX6_entryAt_25 (Nat.le_of_ble_eq_true rfl) (Nat.le_of_ble_eq_true rfl) (Nat.le_of_ble_eq_true rfl) (Nat.le_of_ble_eq_true rfl) ⟨rfl, rfl, ix_out (by omega) hx (Nat.le_refl _), rfl⟩ (Nat.le_of_ble_eq_true rfl) (Nat.le_of_ble_eq_true rfl)
    · refine s_iload_n (pc := 4) S 1 dX6_entryAt_4 rfl rfl ?_
      refine s_aload_n (pc := 5) S 0 dX6_entryAt_5 rfl rfl ?_
      refine s_get (pc := 6) S hz (ref := "SpoolFarm") (v := .ref (A 4 0)) (cc_farm (A := A) (C := C)) i_RX6 rfl 9 (Nat.le_of_ble_eq_true rfl) (by decide +kernel) (fun _ h => h) rfl dX6_entryAt_6 ?_
      refine s_callV (pc := 9) S hz hml [] (k_logSize Z l A C) (cwV 0 S.2.2.2.2 gX6_entryAt_Jx4a65c_size_8abf5 rfl rfl rfl (by decide +kernel) ⟨Nat.le_of_ble_eq_true rfl, Nat.le_of_ble_eq_true rfl⟩) (cc_list (A := A) (C := C)) rfl rfl rfl (Nat.le_of_ble_eq_true rfl) dX6_entryAt_9 ⟨Nat.le_of_ble_eq_true rfl, Nat.le_of_ble_eq_true rfl⟩ (fun _ _ _ h => h.elim) (fun v A2 C2 h_5 => ?_)
      obtain ⟨rfl, rfl, rfl⟩ := h_5
      refine s_icmp_lt (pc := 12) S 26 dX6_entryAt_12 (by decide) (fun h => absurd (hx.resolve_left c_4) (i_nle h)) (fun _ => ?_)
      exact s_thrW (pc := 15) (text := "no such entry") S hz hfl hml hex hlo thr_IOB (by decide +kernel) (by decide +kernel) (by decide +kernel) (by decide +kernel) dX6_entryAt_15 dX6_entryAt_18 dX6_entryAt_19 dX6_entryAt_22 dX6_entryAt_25 (Nat.le_of_ble_eq_true rfl) (Nat.le_of_ble_eq_true rfl) (Nat.le_of_ble_eq_true rfl) (Nat.le_of_ble_eq_true rfl) ⟨rfl, rfl, ix_out (by omega) hx (Nat.le_refl _), rfl⟩ (Nat.le_of_ble_eq_true rfl) (Nat.le_of_ble_eq_true rfl)
