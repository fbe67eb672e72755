set_option maxHeartbeats 4000000 in
set_option maxRecDepth 100000 in
theorem k_X7_meanPages (Z : Zp) (l : Launch) (A : AF) (C : CF) (hO : OkR C) : CtS Z l yX7_meanPages wsX7_meanPages ({ frames := 1, cells := 0, slots := 0, locals := 23 }) [.ref (A 60 100)] A C 0 0 (fun v A2 C2 => A = A2 ∧ ((C 60 100 31 ≤ 0 ∧ (up3 C 60 100 27 1) = C2 ∧ some (.double (FP.dconst0)) = v) ∨ (¬ C 60 100 31 ≤ 0 ∧ (up3 C 60 100 27 0) = C2 ∧ some (.double (FP.ddiv (FP.i2d (nI (ouN C 0 (C 60 100 31)))) (FP.i2d (nI (C 60 100 31))))) = v))) (fun _ _ _ => False) := by
  refine CtS.of (cc0 := cX7_meanPages) (maxL := 1) (ret := (some .double)) (by decide) rfl (Nat.le_of_ble_eq_true rfl) ?_
  intro M0_ p_ e_ s_ m_ args_ below_ meth_ c_ S hz hml hex hlo hr hin
  refine s_loc (L2 := [(0, .ref (A 60 100))]) rfl ?_
  have i_RX7 : ∀ w ∈ u_ws RX7 TX7 38, w ∈ wsX7_meanPages := by decide +kernel
  obtain ⟨oU, oP, oJ, oTc, oY, o8, o9, o10, o11, o12, o13, o14, o15, oX, oQ, oB, oK, oS, oJk, oM, oCo, oSh, oLg, oPo, oLl, oL2, oL3, oL4, oLle, oE1, oE2, oE3, oE4⟩ := id hO
  have hu : C 60 100 28 < 2 ^ 30 := by omega
  have hp : C 60 100 29 < 2 ^ 30 := by omega
  have hj : C 60 100 30 < 2 ^ 30 := by omega
  have hlg : C 60 100 31 < 2 ^ 30 := by omega
  have hp4 := oP
  have htc := oTc
  refine s_aload_n (pc := 0) S 0 dX7_meanPages_0 rfl rfl ?_
  refine s_aload_n (pc := 1) S 0 dX7_meanPages_1 rfl rfl ?_
  refine s_get (pc := 2) S hz (ref := "SpoolFarmModel") (v := .int (nI (C 60 100 31))) (cc_mod (A := A) (C := C)) i_RX7 rfl 31 (Nat.le_of_ble_eq_true rfl) (by decide +kernel) (fun _ h => h) rfl dX7_meanPages_2 ?_
  refine s_if_leN (pc := 5) S 12 dX7_meanPages_5 (by decide) (by omega) (fun c_1 => ?_) (fun c_1 => ?_)
  · refine s_iconst (pc := 12) S (v := (nI 0)) dX7_meanPages_12 (by decide) ?_
    refine s_callV (pc := 13) S hz hml [.int (nI 0)] (k_X7_checked Z l A C 0 (by decide)) (cwV 1 S.2.2.2.2 gX7_meanPages_X7_checked rfl rfl rfl (by decide +kernel) ⟨Nat.le_of_ble_eq_true rfl, Nat.le_of_ble_eq_true rfl⟩) (cc_mod (A := A) (C := C)) rfl rfl rfl (Nat.le_of_ble_eq_true rfl) dX7_meanPages_13 ⟨Nat.le_of_ble_eq_true rfl, Nat.le_of_ble_eq_true rfl⟩ (fun _ _ _ h => h.elim) (fun v A2 C2 h_2 => ?_)
    obtain ⟨rfl, rfl, rfl⟩ := h_2
    refine s_if_leN (pc := 16) S 23 dX7_meanPages_16 (by decide) (by decide) (fun h => absurd h (by decide)) (fun _ => ?_)
    refine s_dconst0 (pc := 19) S dX7_meanPages_19 ?_
    refine s_goto (pc := 20) S 35 dX7_meanPages_20 (by decide) ?_
    exact s_dret (pc := 35) S hz hlo hr ⟨rfl, Or.inl ⟨c_1, rfl, rfl⟩⟩ (Nat.le_of_ble_eq_true rfl) (Nat.le_of_ble_eq_true rfl) dX7_meanPages_35
  · refine s_iconst (pc := 8) S (v := (nI 1)) dX7_meanPages_8 (by decide) ?_
    refine s_goto (pc := 9) S 13 dX7_meanPages_9 (by decide) ?_
    refine s_callV (pc := 13) S hz hml [.int (nI 1)] (k_X7_checked Z l A C 1 (by decide)) (cwV 1 S.2.2.2.2 gX7_meanPages_X7_checked rfl rfl rfl (by decide +kernel) ⟨Nat.le_of_ble_eq_true rfl, Nat.le_of_ble_eq_true rfl⟩) (cc_mod (A := A) (C := C)) rfl rfl rfl (Nat.le_of_ble_eq_true rfl) dX7_meanPages_13 ⟨Nat.le_of_ble_eq_true rfl, Nat.le_of_ble_eq_true rfl⟩ (fun _ _ _ h => h.elim) (fun v A2 C2 h_3 => ?_)
    obtain ⟨rfl, rfl, rfl⟩ := h_3
    refine s_if_leN (pc := 16) S 23 dX7_meanPages_16 (by decide) (by decide) (fun _ => ?_) (fun h => absurd h (by decide))
    refine s_aload_n (pc := 23) S 0 dX7_meanPages_23 rfl rfl ?_
    refine s_iconst (pc := 24) S (v := (nI 0)) dX7_meanPages_24 (by decide) ?_
    refine s_callV (pc := 25) S hz hml [.int (nI 0)] (k_X7_outPages Z l A (up3 C 60 100 27 0) 0 hO (by decide)) (cwV 1 S.2.2.2.2 gX7_meanPages_X7_outPages rfl rfl rfl (by decide +kernel) ⟨Nat.le_of_ble_eq_true rfl, Nat.le_of_ble_eq_true rfl⟩) (cc_mod (A := A) (C := (up3 C 60 100 27 0))) rfl rfl rfl (Nat.le_of_ble_eq_true rfl) dX7_meanPages_25 ⟨Nat.le_of_ble_eq_true rfl, Nat.le_of_ble_eq_true rfl⟩ (fun _ _ _ h => h.elim) (fun v A2 C2 h_4 => ?_)
    obtain ⟨rfl, rfl, rfl⟩ := h_4
    refine s_top (u := .int (nI (ouN C 0 (C 60 100 31)))) (congrArg (fun q => Value.int (nI q)) (ouN_th _)) ?_
    have z_5 := ouN_le (C := C) (b := 0) oE3 (C 60 100 31)
    refine s_i2d (pc := 28) S dX7_meanPages_28 ?_
    refine s_aload_n (pc := 29) S 0 dX7_meanPages_29 rfl rfl ?_
    refine s_get (pc := 30) S hz (ref := "SpoolFarmModel") (v := .int (nI (C 60 100 31))) (cc_mod (A := A) (C := (up3 C 60 100 27 0))) i_RX7 rfl 31 (Nat.le_of_ble_eq_true rfl) (by decide +kernel) (fun _ h => h) rfl dX7_meanPages_30 ?_
    refine s_i2d (pc := 33) S dX7_meanPages_33 ?_
    refine s_ddiv (pc := 34) S dX7_meanPages_34 (fp_ddiv (by omega) (by omega)) ?_
    exact s_dret (pc := 35) S hz hlo hr ⟨rfl, Or.inr (⟨c_1, rfl, rfl⟩)⟩ (Nat.le_of_ble_eq_true rfl) (Nat.le_of_ble_eq_true rfl) dX7_meanPages_35
set_option maxHeartbeats 4000000 in
set_option maxRecDepth 100000 in
theorem k_X7_colourShare (Z : Zp) (l : Launch) (A : AF) (C : CF) (hO : OkR C) : CtS Z l yX7_colourShare wsX7_colourShare ({ frames := 1, cells := 0, slots := 0, locals := 23 }) [.ref (A 60 100)] A C 0 0 (fun v A2 C2 => A = A2 ∧ ((ouN C 0 (C 60 100 31) ≤ 0 ∧ (up3 C 60 100 27 1) = C2 ∧ some (.float (FP.fconst0)) = v) ∨ (¬ ouN C 0 (C 60 100 31) ≤ 0 ∧ (up3 C 60 100 27 0) = C2 ∧ some (.float (FP.fdiv (FP.i2f (nI (ouN C 1 (C 60 100 31)))) (FP.i2f (nI (ouN C 0 (C 60 100 31)))))) = v))) (fun _ _ _ => False) := by
  refine CtS.of (cc0 := cX7_colourShare) (maxL := 1) (ret := (some .float)) (by decide) rfl (Nat.le_of_ble_eq_true rfl) ?_
  intro M0_ p_ e_ s_ m_ args_ below_ meth_ c_ S hz hml hex hlo hr hin
  refine s_loc (L2 := [(0, .ref (A 60 100))]) rfl ?_
  obtain ⟨oU, oP, oJ, oTc, oY, o8, o9, o10, o11, o12, o13, o14, o15, oX, oQ, oB, oK, oS, oJk, oM, oCo, oSh, oLg, oPo, oLl, oL2, oL3, oL4, oLle, oE1, oE2, oE3, oE4⟩ := id hO
  have hu : C 60 100 28 < 2 ^ 30 := by omega
  have hp : C 60 100 29 < 2 ^ 30 := by omega
  have hj : C 60 100 30 < 2 ^ 30 := by omega
  have hlg : C 60 100 31 < 2 ^ 30 := by omega
  have hp4 := oP
  have htc := oTc
  refine s_aload_n (pc := 0) S 0 dX7_colourShare_0 rfl rfl ?_
  refine s_aload_n (pc := 1) S 0 dX7_colourShare_1 rfl rfl ?_
  refine s_iconst (pc := 2) S (v := (nI 0)) dX7_colourShare_2 (by decide) ?_
  refine s_callV (pc := 3) S hz hml [.int (nI 0)] (k_X7_outPages Z l A C 0 hO (by decide)) (cwV 1 S.2.2.2.2 gX7_colourShare_X7_outPages rfl rfl rfl (by decide +kernel) ⟨Nat.le_of_ble_eq_true rfl, Nat.le_of_ble_eq_true rfl⟩) (cc_mod (A := A) (C := C)) rfl rfl rfl (Nat.le_of_ble_eq_true rfl) dX7_colourShare_3 ⟨Nat.le_of_ble_eq_true rfl, Nat.le_of_ble_eq_true rfl⟩ (fun _ _ _ h => h.elim) (fun v A2 C2 h_1 => ?_)
  obtain ⟨rfl, rfl, rfl⟩ := h_1
  refine s_top (u := .int (nI (ouN C 0 (C 60 100 31)))) rfl ?_
  have z_2 := ouN_le (C := C) (b := 0) oE3 (C 60 100 31)
  refine s_if_leN (pc := 6) S 13 dX7_colourShare_6 (by decide) (by omega) (fun c_3 => ?_) (fun c_3 => ?_)
  · refine s_iconst (pc := 13) S (v := (nI 0)) dX7_colourShare_13 (by decide) ?_
    refine s_callV (pc := 14) S hz hml [.int (nI 0)] (k_X7_checked Z l A C 0 (by decide)) (cwV 1 S.2.2.2.2 gX7_colourShare_X7_checked rfl rfl rfl (by decide +kernel) ⟨Nat.le_of_ble_eq_true rfl, Nat.le_of_ble_eq_true rfl⟩) (cc_mod (A := A) (C := C)) rfl rfl rfl (Nat.le_of_ble_eq_true rfl) dX7_colourShare_14 ⟨Nat.le_of_ble_eq_true rfl, Nat.le_of_ble_eq_true rfl⟩ (fun _ _ _ h => h.elim) (fun v A2 C2 h_4 => ?_)
    obtain ⟨rfl, rfl, rfl⟩ := h_4
    refine s_if_leN (pc := 17) S 24 dX7_colourShare_17 (by decide) (by decide) (fun h => absurd h (by decide)) (fun _ => ?_)
    refine s_fconst0 (pc := 20) S dX7_colourShare_20 ?_
    refine s_goto (pc := 21) S 37 dX7_colourShare_21 (by decide) ?_
    exact s_fret (pc := 37) S hz hlo hr ⟨rfl, Or.inl ⟨c_3, rfl, rfl⟩⟩ (Nat.le_of_ble_eq_true rfl) (Nat.le_of_ble_eq_true rfl) dX7_colourShare_37
  · refine s_iconst (pc := 9) S (v := (nI 1)) dX7_colourShare_9 (by decide) ?_
    refine s_goto (pc := 10) S 14 dX7_colourShare_10 (by decide) ?_
    refine s_callV (pc := 14) S hz hml [.int (nI 1)] (k_X7_checked Z l A C 1 (by decide)) (cwV 1 S.2.2.2.2 gX7_colourShare_X7_checked rfl rfl rfl (by decide +kernel) ⟨Nat.le_of_ble_eq_true rfl, Nat.le_of_ble_eq_true rfl⟩) (cc_mod (A := A) (C := C)) rfl rfl rfl (Nat.le_of_ble_eq_true rfl) dX7_colourShare_14 ⟨Nat.le_of_ble_eq_true rfl, Nat.le_of_ble_eq_true rfl⟩ (fun _ _ _ h => h.elim) (fun v A2 C2 h_5 => ?_)
    obtain ⟨rfl, rfl, rfl⟩ := h_5
    refine s_if_leN (pc := 17) S 24 dX7_colourShare_17 (by decide) (by decide) (fun _ => ?_) (fun h => absurd h (by decide))
    refine s_aload_n (pc := 24) S 0 dX7_colourShare_24 rfl rfl ?_
    refine s_iconst (pc := 25) S (v := (nI 1)) dX7_colourShare_25 (by decide) ?_
    refine s_callV (pc := 26) S hz hml [.int (nI 1)] (k_X7_outPages Z l A (up3 C 60 100 27 0) 1 hO (by decide)) (cwV 1 S.2.2.2.2 gX7_colourShare_X7_outPages rfl rfl rfl (by decide +kernel) ⟨Nat.le_of_ble_eq_true rfl, Nat.le_of_ble_eq_true rfl⟩) (cc_mod (A := A) (C := (up3 C 60 100 27 0))) rfl rfl rfl (Nat.le_of_ble_eq_true rfl) dX7_colourShare_26 ⟨Nat.le_of_ble_eq_true rfl, Nat.le_of_ble_eq_true rfl⟩ (fun _ _ _ h => h.elim) (fun v A2 C2 h_6 => ?_)
    obtain ⟨rfl, rfl, rfl⟩ := h_6
    refine s_top (u := .int (nI (ouN C 1 (C 60 100 31)))) (congrArg (fun q => Value.int (nI q)) (ouN_th _)) ?_
    have z_7 := ouN_le (C := C) (b := 1) oE3 (C 60 100 31)
    refine s_i2f (pc := 29) S dX7_colourShare_29 ?_
    refine s_aload_n (pc := 30) S 0 dX7_colourShare_30 rfl rfl ?_
    refine s_iconst (pc := 31) S (v := (nI 0)) dX7_colourShare_31 (by decide) ?_
    refine s_callV (pc := 32) S hz hml [.int (nI 0)] (k_X7_outPages Z l A (up3 C 60 100 27 0) 0 hO (by decide)) (cwV 1 S.2.2.2.2 gX7_colourShare_X7_outPages rfl rfl rfl (by decide +kernel) ⟨Nat.le_of_ble_eq_true rfl, Nat.le_of_ble_eq_true rfl⟩) (cc_mod (A := A) (C := (up3 C 60 100 27 0))) rfl rfl rfl (Nat.le_of_ble_eq_true rfl) dX7_colourShare_32 ⟨Nat.le_of_ble_eq_true rfl, Nat.le_of_ble_eq_true rfl⟩ (fun _ _ _ h => h.elim) (fun v A2 C2 h_8 => ?_)
    obtain ⟨rfl, rfl, rfl⟩ := h_8
    refine s_top (u := .int (nI (ouN C 0 (C 60 100 31)))) (congrArg (fun q => Value.int (nI q)) (ouN_th _)) ?_
    have z_9 := ouN_le (C := C) (b := 0) oE3 (C 60 100 31)
    refine s_i2f (pc := 35) S dX7_colourShare_35 ?_
    refine s_fdiv (pc := 36) S dX7_colourShare_36 (fp_fdiv (by omega) (by omega)) ?_
    exact s_fret (pc := 37) S hz hlo hr ⟨rfl, Or.inr (⟨c_3, rfl, rfl⟩)⟩ (Nat.le_of_ble_eq_true rfl) (Nat.le_of_ble_eq_true rfl) dX7_colourShare_37
