set_option maxHeartbeats 4000000 in
theorem k_X7_copySheetsP (Z : Zp) (l : Launch) (M : Wd) (A : AF) (C : CF) (hM : Rep A C M) (k : Nat) (hk : k < 40) (hd : C 60 13 k < 2) (hg : 1 ≤ C 60 17 k) (hg2 : C 60 17 k ≤ 100) : Ct Z l yX7_copySheets wsX7_copySheets ({ frames := 0, cells := 0, slots := 0, locals := 0 }) [.ref (A 60 100), .int (nI k)] M 0 0 (fun v M2 => M = M2 ∧ some (.int (nI (csN (C 60 13 k) (C 60 17 k)))) = v) (fun _ _ => False) := by
  refine Ct.of (cc := cX7_copySheets) (maxL := 2) (ret := (some .int)) (by decide) rfl (Nat.le_of_ble_eq_true rfl) ?_
  intro p_ e_ s_ m_ args_ below_ meth_ c_ S hz hml hex hlo hr hin
  refine g_loc (L2 := [(0, .ref (A 60 100)), (1, .int (nI k))]) rfl ?_
  have i_RX7 : ∀ w ∈ u_ws RX7 TX7 38, w ∈ wsX7_copySheets := by decide +kernel
  refine g_aload_n (pc := 0) S 0 dX7_copySheets_0 rfl rfl ?_
  refine g_get (pc := 1) S hz (ref := "SpoolFarmModel") (v := .ref (A 60 13)) (hM _ _ _ (cc_mod (A := A) (C := C))) i_RX7 rfl 13 (Nat.le_of_ble_eq_true rfl) (by decide +kernel) (fun _ h => h) rfl dX7_copySheets_1 ?_
  refine g_iload_n (pc := 4) S 1 dX7_copySheets_4 rfl rfl ?_
  refine g_zald (pc := 5) S hz (hM _ _ _ (cc_row (A := A) (C := C) (x := aN .boolean 40 (C 60 13)) 13 (by decide) rfl)) (by omega) (by omega) dX7_copySheets_5 ?_
  refine g_if_eqN (pc := 6) S 22 dX7_copySheets_6 (by decide) (by omega) (fun c_1 => ?_) (fun c_1 => ?_)
  · refine g_aload_n (pc := 22) S 0 dX7_copySheets_22 rfl rfl ?_
    refine g_get (pc := 23) S hz (ref := "SpoolFarmModel") (v := .ref (A 60 17)) (hM _ _ _ (cc_mod (A := A) (C := C))) i_RX7 rfl 17 (Nat.le_of_ble_eq_true rfl) (by decide +kernel) (fun _ h => h) rfl dX7_copySheets_23 ?_
    refine g_iload_n (pc := 26) S 1 dX7_copySheets_26 rfl rfl ?_
    refine g_iald (pc := 27) S hz (hM _ _ _ (cc_row (A := A) (C := C) (x := aN .int 40 (C 60 17)) 17 (by decide) rfl)) (by omega) (by omega) dX7_copySheets_27 ?_
    exact g_iret (pc := 28) S hz hlo hr ⟨rfl, by rw [show csN (C 60 13 k) (C 60 17 k) = C 60 17 k by simp [csN, c_1]]⟩ (Nat.le_of_ble_eq_true rfl) (Nat.le_of_ble_eq_true rfl) dX7_copySheets_28
  · refine g_aload_n (pc := 9) S 0 dX7_copySheets_9 rfl rfl ?_
    refine g_get (pc := 10) S hz (ref := "SpoolFarmModel") (v := .ref (A 60 17)) (hM _ _ _ (cc_mod (A := A) (C := C))) i_RX7 rfl 17 (Nat.le_of_ble_eq_true rfl) (by decide +kernel) (fun _ h => h) rfl dX7_copySheets_10 ?_
    refine g_iload_n (pc := 13) S 1 dX7_copySheets_13 rfl rfl ?_
    refine g_iald (pc := 14) S hz (hM _ _ _ (cc_row (A := A) (C := C) (x := aN .int 40 (C 60 17)) 17 (by decide) rfl)) (by omega) (by omega) dX7_copySheets_14 ?_
    refine g_iconst (pc := 15) S (v := (nI 1)) dX7_copySheets_15 (by decide) ?_
    refine g_iaddN (pc := 16) S dX7_copySheets_16 ?_
    refine g_iconst (pc := 17) S (v := (nI 2)) dX7_copySheets_17 (by decide) ?_
    refine g_idivN (pc := 18) S dX7_copySheets_18 (by omega) (by omega) (by omega) ?_
    refine g_goto (pc := 19) S 28 dX7_copySheets_19 (by decide) ?_
    exact g_iret (pc := 28) S hz hlo hr ⟨rfl, by rw [show csN (C 60 13 k) (C 60 17 k) = ((C 60 17 k) + 1) / 2 by simp [csN, c_1]]⟩ (Nat.le_of_ble_eq_true rfl) (Nat.le_of_ble_eq_true rfl) dX7_copySheets_28
set_option maxHeartbeats 4000000 in
theorem k_X7_pagesToP (Z : Zp) (l : Launch) (M : Wd) (A : AF) (C : CF) (hM : Rep A C M) (k : Nat) (hk : k < 40) (hd : C 60 13 k < 2) (hg : 1 ≤ C 60 17 k) (hg2 : C 60 17 k ≤ 100) (s0 : Nat) (hs : s0 < 2 ^ 31) : Ct Z l yX7_pagesTo wsX7_pagesTo ({ frames := 1, cells := 0, slots := 0, locals := 21 }) [.ref (A 60 100), .int (nI k), .int (nI s0)] M 0 0 (fun v M2 => M = M2 ∧ some (.int (nI (ptoN (C 60 13 k) (C 60 17 k) s0))) = v) (fun _ _ => False) := by
  refine Ct.of (cc := cX7_pagesTo) (maxL := 4) (ret := (some .int)) (by decide) rfl (Nat.le_of_ble_eq_true rfl) ?_
  intro p_ e_ s_ m_ args_ below_ meth_ c_ S hz hml hex hlo hr hin
  refine g_loc (L2 := [(0, .ref (A 60 100)), (1, .int (nI k)), (2, .int (nI s0))]) rfl ?_
  have i_RX7 : ∀ w ∈ u_ws RX7 TX7 38, w ∈ wsX7_pagesTo := by decide +kernel
  have hc1 := csN_pos (d := C 60 13 k) hg
  have hc2 := csN_le (d := C 60 13 k) hg
  refine g_iload_n (pc := 0) S 2 dX7_pagesTo_0 rfl rfl ?_
  refine g_aload_n (pc := 1) S 0 dX7_pagesTo_1 rfl rfl ?_
  refine g_iload_n (pc := 2) S 1 dX7_pagesTo_2 rfl rfl ?_
  refine g_callV (pc := 3) S hz hml [.int (nI k)] (k_X7_copySheetsP Z l M A C hM k hk hd hg hg2) (cwV 1 S.2.2.2.2 gX7_pagesTo_X7_copySheets rfl rfl rfl (by decide +kernel) ⟨Nat.le_of_ble_eq_true rfl, Nat.le_of_ble_eq_true rfl⟩) (hM _ _ _ (cc_mod (A := A) (C := C))) rfl rfl rfl (Nat.le_of_ble_eq_true rfl) dX7_pagesTo_3 ⟨Nat.le_of_ble_eq_true rfl, Nat.le_of_ble_eq_true rfl⟩ (fun _ _ h => h.elim) (fun v M2 h_1 => ?_)
  obtain ⟨rfl, rfl⟩ := h_1
  refine g_iremN (pc := 6) S dX7_pagesTo_6 (by omega) (by omega) (by omega) ?_
  refine g_istore_n (pc := 7) S [(3, .int (nI (s0 % (csN (C 60 13 k) (C 60 17 k))))), (0, .ref (A 60 100)), (1, .int (nI k)), (2, .int (nI s0))] dX7_pagesTo_7 rfl (by decide) rfl ?_
  refine g_iload_n (pc := 8) S 3 dX7_pagesTo_8 rfl rfl ?_
  refine g_aload_n (pc := 9) S 1 dX7_pagesTo_9 rfl rfl ?_
  refine g_iload_n (pc := 10) S 2 dX7_pagesTo_10 rfl rfl ?_
  refine g_callV (pc := 11) S hz hml [.int (nI k)] (k_X7_copySheetsP Z l M A C hM k hk hd hg hg2) (cwV 1 S.2.2.2.2 gX7_pagesTo_X7_copySheets rfl rfl rfl (by decide +kernel) ⟨Nat.le_of_ble_eq_true rfl, Nat.le_of_ble_eq_true rfl⟩) (hM _ _ _ (cc_mod (A := A) (C := C))) rfl rfl rfl (Nat.le_of_ble_eq_true rfl) dX7_pagesTo_11 ⟨Nat.le_of_ble_eq_true rfl, Nat.le_of_ble_eq_true rfl⟩ (fun _ _ h => h.elim) (fun v M2 h_2 => ?_)
  obtain ⟨rfl, rfl⟩ := h_2
  refine g_idivN (pc := 14) S dX7_pagesTo_14 (by omega) (by omega) (by omega) ?_
  refine g_aload_n (pc := 15) S 1 dX7_pagesTo_15 rfl rfl ?_
  refine g_get (pc := 16) S hz (ref := "SpoolFarmModel") (v := .ref (A 60 17)) (hM _ _ _ (cc_mod (A := A) (C := C))) i_RX7 rfl 17 (Nat.le_of_ble_eq_true rfl) (by decide +kernel) (fun _ h => h) rfl dX7_pagesTo_16 ?_
  refine g_iload_n (pc := 19) S 2 dX7_pagesTo_19 rfl rfl ?_
  refine g_iald (pc := 20) S hz (hM _ _ _ (cc_row (A := A) (C := C) (x := aN .int 40 (C 60 17)) 17 (by decide) rfl)) (by omega) (by omega) dX7_pagesTo_20 ?_
  refine g_imulN (pc := 21) S dX7_pagesTo_21 ?_
  refine g_aload_n (pc := 22) S 1 dX7_pagesTo_22 rfl rfl ?_
  refine g_get (pc := 23) S hz (ref := "SpoolFarmModel") (v := .ref (A 60 13)) (hM _ _ _ (cc_mod (A := A) (C := C))) i_RX7 rfl 13 (Nat.le_of_ble_eq_true rfl) (by decide +kernel) (fun _ h => h) rfl dX7_pagesTo_23 ?_
  refine g_iload_n (pc := 26) S 2 dX7_pagesTo_26 rfl rfl ?_
  refine g_zald (pc := 27) S hz (hM _ _ _ (cc_row (A := A) (C := C) (x := aN .boolean 40 (C 60 13)) 13 (by decide) rfl)) (by omega) (by omega) dX7_pagesTo_27 ?_
  refine g_if_eqN (pc := 28) S 37 dX7_pagesTo_28 (by decide) (by omega) (fun c_3 => ?_) (fun c_3 => ?_)
  · refine g_iload_n (pc := 37) S 0 dX7_pagesTo_37 rfl rfl ?_
    refine g_iaddN (pc := 38) S dX7_pagesTo_38 ?_
    exact g_iret (pc := 39) S hz hlo hr ⟨rfl, by rw [show ptoN (C 60 13 k) (C 60 17 k) s0 = ((s0 / (csN (C 60 13 k) (C 60 17 k))) * (C 60 17 k)) + (s0 % (csN (C 60 13 k) (C 60 17 k))) by simp [ptoN, c_3]]⟩ (Nat.le_of_ble_eq_true rfl) (Nat.le_of_ble_eq_true rfl) dX7_pagesTo_39
  · refine g_iconst (pc := 31) S (v := (nI 2)) dX7_pagesTo_31 (by decide) ?_
    refine g_iload_n (pc := 32) S 0 dX7_pagesTo_32 rfl rfl ?_
    refine g_imulN (pc := 33) S dX7_pagesTo_33 ?_
    refine g_goto (pc := 34) S 38 dX7_pagesTo_34 (by decide) ?_
    refine g_iaddN (pc := 38) S dX7_pagesTo_38 ?_
    exact g_iret (pc := 39) S hz hlo hr ⟨rfl, by rw [show ptoN (C 60 13 k) (C 60 17 k) s0 = ((s0 / (csN (C 60 13 k) (C 60 17 k))) * (C 60 17 k)) + (2 * (s0 % (csN (C 60 13 k) (C 60 17 k)))) by simp [ptoN, c_3]]⟩ (Nat.le_of_ble_eq_true rfl) (Nat.le_of_ble_eq_true rfl) dX7_pagesTo_39
