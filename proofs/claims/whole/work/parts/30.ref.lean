set_option maxHeartbeats 4000000 in
theorem k_X7_reasonT (Z : Zp) (l : Launch) (A : AF) (C : CF) (k p j : Nat) (hR : RK C k p) (hT : TrI C k p j) : CtS Z l yX7_reason wsX7_reason ({ frames := 2, cells := 0, slots := 0, locals := 43 }) [.ref (A 60 100), .int (nI k), .int (nI p), .int (nI (C 60 19 k + j))] A (TrS C k p j) 0 0 (fun v A2 C2 => A = A2 ∧ TrS C k p j = C2 ∧ some (.int (nI (coR C k p j))) = v) (fun _ _ _ => False) := by
  obtain ⟨hk, hp, hnt, hq, hw, hY, hx, hd, hg, hg2, hcp, hcn, hb, hac, hu, hbk, hck, hQ, ho⟩ := hR
  have hal : csN (C 60 13 k) (C 60 17 k) * C 60 18 k < 2 ^ 30 := al_lt30 hg hg2 hcp
  have hTl : C 60 19 k + j ≤ csN (C 60 13 k) (C 60 17 k) * C 60 18 k := hT.2.2.2.2
  have h := k_X7_reason Z l A (TrS C k p j) k p hk hp hnt hq hw (TrS_x hY hx) hd hg hg2 hcp hcn hb hac (Nat.le_trans (Nat.sub_le _ _) (Nat.le_trans hbk (by decide))) (Nat.le_trans (Nat.sub_le _ _) (Nat.le_trans hck (by decide))) (Nat.le_trans (Nat.sub_le _ _) (hQ _)) (C 60 19 k + j) (by omega)
  rw [rs_co hg hT] at h
  exact h
set_option maxHeartbeats 4000000 in
set_option maxRecDepth 100000 in
theorem k_X7_reasonFor (Z : Zp) (l : Launch) (A : AF) (C : CF) (x y : Int32) (hO : OkR C) : CtS Z l yX7_reasonFor wsX7_reasonFor ({ frames := 3, cells := 0, slots := 0, locals := 68 }) [.ref (A 60 100), .int x, .int y] A C 0 0 (fun v A2 C2 => A = A2 ∧ ((∃ k_2 k_11 : Nat, k_2 < C 60 100 30 ∧ nI k_2 = x ∧ k_11 < C 60 100 29 ∧ nI k_11 = y ∧ (TrS (up3 C 60 100 27 0) k_2 k_11 0) = C2 ∧ some (.int (nI (coR C k_2 k_11 0))) = v) ∨ (∃ k_2 : Nat, k_2 < C 60 100 30 ∧ nI k_2 = x ∧ (∀ k : Nat, k < C 60 100 29 → nI k ≠ y) ∧ (up3 C 60 100 27 1) = C2 ∧ some (.int (nI 32)) = v) ∨ ((∀ k : Nat, k < C 60 100 30 → nI k ≠ x) ∧ (up3 C 60 100 27 1) = C2 ∧ some (.int (nI 32)) = v))) (fun _ _ _ => False) := by
  refine CtS.of (cc0 := cX7_reasonFor) (maxL := 3) (ret := (some .char)) (by decide) rfl (Nat.le_of_ble_eq_true rfl) ?_
  intro M0_ p_ e_ s_ m_ args_ below_ meth_ c_ S hz hml hex hlo hr hin
  refine s_loc (L2 := [(0, .ref (A 60 100)), (1, .int x), (2, .int y)]) rfl ?_
  have i_RX7 : ∀ w ∈ u_ws RX7 TX7 38, w ∈ wsX7_reasonFor := by decide +kernel
  obtain ⟨oU, oP, oJ, oTc, oY, o8, o9, o10, o11, o12, o13, o14, o15, oX, oQ, oB, oK, oS, oJk, oM, oCo, oSh, oLg, oPo, oLl, oL2, oL3, oL4, oLle, oE1, oE2, oE3, oE4⟩ := id hO
  have hu : C 60 100 28 < 2 ^ 30 := by omega
  have hp : C 60 100 29 < 2 ^ 30 := by omega
  have hj : C 60 100 30 < 2 ^ 30 := by omega
  have hlg : C 60 100 31 < 2 ^ 30 := by omega
  have hp4 := oP
  have htc := oTc
  refine s_aload_n (pc := 0) S 0 dX7_reasonFor_0 rfl rfl ?_
  refine s_aload_n (pc := 1) S 0 dX7_reasonFor_1 rfl rfl ?_
  refine s_iload_n (pc := 2) S 1 dX7_reasonFor_2 rfl rfl ?_
  refine s_callV (pc := 3) S hz hml [.int x] (k_X7_isJob Z l A C x hj) (cwV 1 S.2.2.2.2 gX7_reasonFor_X7_isJob rfl rfl rfl (by decide +kernel) ⟨Nat.le_of_ble_eq_true rfl, Nat.le_of_ble_eq_true rfl⟩) (cc_mod (A := A) (C := C)) rfl rfl rfl (Nat.le_of_ble_eq_true rfl) dX7_reasonFor_3 ⟨Nat.le_of_ble_eq_true rfl, Nat.le_of_ble_eq_true rfl⟩ (fun _ _ _ h => h.elim) (fun v A2 C2 h_1 => ?_)
  rcases h_1 with ⟨rfl, rfl, ⟨k_2, hk_3, rfl, rfl⟩ | ⟨no_4, rfl⟩⟩
  · obtain ⟨hk_k_2, hd_k_2, hg_k_2, hg2_k_2, hcp_k_2, hle_k_2, hal30_k_2, hpt_k_2, hus_k_2, h900_k_2, hcp1_k_2⟩ := hO.jk hk_3
    have ho31_k_2 : C 60 19 k_2 < 2 ^ 31 := by omega
    have hal31_k_2 : csN (C 60 13 k_2) (C 60 17 k_2) * C 60 18 k_2 < 2 ^ 31 := by omega
    have z_5 := o14 k_2
    have z_6 := o15 k_2
    have z_7 := o10 k_2
    have z_8 := o12 k_2
    have z_9 := (oJk k_2 hk_3).2.2.2.2.2.2
    refine s_if_eqN (pc := 6) S 21 dX7_reasonFor_6 (by decide) (by decide) (fun h => absurd h (by decide)) (fun _ => ?_)
    refine s_aload_n (pc := 9) S 0 dX7_reasonFor_9 rfl rfl ?_
    refine s_iload_n (pc := 10) S 2 dX7_reasonFor_10 rfl rfl ?_
    refine s_callV (pc := 11) S hz hml [.int y] (k_X7_isPrinter Z l A C y hp) (cwV 1 S.2.2.2.2 gX7_reasonFor_X7_isPrinter rfl rfl rfl (by decide +kernel) ⟨Nat.le_of_ble_eq_true rfl, Nat.le_of_ble_eq_true rfl⟩) (cc_mod (A := A) (C := C)) rfl rfl rfl (Nat.le_of_ble_eq_true rfl) dX7_reasonFor_11 ⟨Nat.le_of_ble_eq_true rfl, Nat.le_of_ble_eq_true rfl⟩ (fun _ _ _ h => h.elim) (fun v A2 C2 h_10 => ?_)
    rcases h_10 with ⟨rfl, rfl, ⟨k_11, hk_12, rfl, rfl⟩ | ⟨no_13, rfl⟩⟩
    · have z_14 : k_11 < 4 := by omega
      have z_15 := oTc k_11
      have z_16 := oB k_11
      have z_17 := oK k_11
      have z_18 := oS k_11
      have z_19 := o11 k_11
      refine s_if_eqN (pc := 14) S 21 dX7_reasonFor_14 (by decide) (by decide) (fun h => absurd h (by decide)) (fun _ => ?_)
      refine s_iconst (pc := 17) S (v := (nI 1)) dX7_reasonFor_17 (by decide) ?_
      refine s_goto (pc := 18) S 22 dX7_reasonFor_18 (by decide) ?_
      refine s_callV (pc := 22) S hz hml [.int (nI 1)] (k_X7_checked Z l A C 1 (by decide)) (cwV 1 S.2.2.2.2 gX7_reasonFor_X7_checked rfl rfl rfl (by decide +kernel) ⟨Nat.le_of_ble_eq_true rfl, Nat.le_of_ble_eq_true rfl⟩) (cc_mod (A := A) (C := C)) rfl rfl rfl (Nat.le_of_ble_eq_true rfl) dX7_reasonFor_22 ⟨Nat.le_of_ble_eq_true rfl, Nat.le_of_ble_eq_true rfl⟩ (fun _ _ _ h => h.elim) (fun v A2 C2 h_20 => ?_)
      obtain ⟨rfl, rfl, rfl⟩ := h_20
      refine s_if_leN (pc := 25) S 31 dX7_reasonFor_25 (by decide) (by decide) (fun _ => ?_) (fun h => absurd h (by decide))
      refine s_aload_n (pc := 31) S 0 dX7_reasonFor_31 rfl rfl ?_
      refine s_iload_n (pc := 32) S 1 dX7_reasonFor_32 rfl rfl ?_
      refine s_iload_n (pc := 33) S 2 dX7_reasonFor_33 rfl rfl ?_
      have hR := hO.rk hk_3 hk_12
      obtain ⟨rk, rp, rnt, rq, rw_, rY, rx, rd, rg, rg2, rcp, rcn, rb, rac, ru, rbk, rck, rQ, ro⟩ := id hR
      refine s_callV (pc := 34) S hz hml [.int (nI k_2), .int (nI k_11)] (k_X7_laysTrial Z l A (up3 C 60 100 27 0) k_2 k_11 rk rp rb ru) (cwV 2 S.2.2.2.2 gX7_reasonFor_X7_laysTrial rfl rfl rfl (by decide +kernel) ⟨Nat.le_of_ble_eq_true rfl, Nat.le_of_ble_eq_true rfl⟩) (cc_mod (A := A) (C := (up3 C 60 100 27 0))) rfl rfl rfl (Nat.le_of_ble_eq_true rfl) dX7_reasonFor_34 ⟨Nat.le_of_ble_eq_true rfl, Nat.le_of_ble_eq_true rfl⟩ (fun _ _ _ h => h.elim) (fun v A2 C2 h_21 => ?_)
      obtain ⟨rfl, rfl, rfl⟩ := h_21
      refine s_C (TrS_0 (up3 C 60 100 27 0) k_2 k_11).symm ?_
      refine s_aload_n (pc := 37) S 0 dX7_reasonFor_37 rfl rfl ?_
      refine s_iload_n (pc := 38) S 1 dX7_reasonFor_38 rfl rfl ?_
      refine s_iload_n (pc := 39) S 2 dX7_reasonFor_39 rfl rfl ?_
      refine s_aload_n (pc := 40) S 0 dX7_reasonFor_40 rfl rfl ?_
      refine s_get (pc := 41) S hz (ref := "SpoolFarmModel") (v := .ref (A 60 19)) (cc_mod (A := A) (C := (TrS (up3 C 60 100 27 0) k_2 k_11 0))) i_RX7 rfl 19 (Nat.le_of_ble_eq_true rfl) (by decide +kernel) (fun _ h => h) rfl dX7_reasonFor_41 ?_
      refine s_iload_n (pc := 44) S 1 dX7_reasonFor_44 rfl rfl ?_
      refine s_iald (pc := 45) S hz (x := C 60 19 k_2) (cc_row (A := A) (C := (TrS (up3 C 60 100 27 0) k_2 k_11 0)) (x := aN .int 40 ((TrS (up3 C 60 100 27 0) k_2 k_11 0) 60 19)) 19 (by decide) rfl) (by omega) (by omega) rfl dX7_reasonFor_45 ?_
      refine s_callV (pc := 46) S hz hml [.int (nI k_2), .int (nI k_11), .int (nI (C 60 19 k_2))] (k_X7_reasonT Z l A (up3 C 60 100 27 0) k_2 k_11 0 hR (TrI_0 (C := (up3 C 60 100 27 0)) ro)) (cwV 3 S.2.2.2.2 gX7_reasonFor_X7_reason rfl rfl rfl (by decide +kernel) ⟨Nat.le_of_ble_eq_true rfl, Nat.le_of_ble_eq_true rfl⟩) (cc_mod (A := A) (C := (TrS (up3 C 60 100 27 0) k_2 k_11 0))) rfl rfl rfl (Nat.le_of_ble_eq_true rfl) dX7_reasonFor_46 ⟨Nat.le_of_ble_eq_true rfl, Nat.le_of_ble_eq_true rfl⟩ (fun _ _ _ h => h.elim) (fun v A2 C2 h_22 => ?_)
      obtain ⟨rfl, rfl, rfl⟩ := h_22
      have z_23 := co_le C k_2 k_11 0
      refine s_top (u := .int (nI (coR C k_2 k_11 0))) rfl ?_
      exact s_zret (pc := 49) S hz hlo (nar_c (by omega)) hr ⟨rfl, Or.inl ⟨k_2, k_11, hk_3, rfl, hk_12, rfl, rfl, rfl⟩⟩ (Nat.le_of_ble_eq_true rfl) (Nat.le_of_ble_eq_true rfl) dX7_reasonFor_49
    · refine s_if_eqN (pc := 14) S 21 dX7_reasonFor_14 (by decide) (by decide) (fun _ => ?_) (fun h => absurd h (by decide))
      refine s_iconst (pc := 21) S (v := (nI 0)) dX7_reasonFor_21 (by decide) ?_
      refine s_callV (pc := 22) S hz hml [.int (nI 0)] (k_X7_checked Z l A C 0 (by decide)) (cwV 1 S.2.2.2.2 gX7_reasonFor_X7_checked rfl rfl rfl (by decide +kernel) ⟨Nat.le_of_ble_eq_true rfl, Nat.le_of_ble_eq_true rfl⟩) (cc_mod (A := A) (C := C)) rfl rfl rfl (Nat.le_of_ble_eq_true rfl) dX7_reasonFor_22 ⟨Nat.le_of_ble_eq_true rfl, Nat.le_of_ble_eq_true rfl⟩ (fun _ _ _ h => h.elim) (fun v A2 C2 h_24 => ?_)
      obtain ⟨rfl, rfl, rfl⟩ := h_24
      refine s_if_leN (pc := 25) S 31 dX7_reasonFor_25 (by decide) (by decide) (fun h => absurd h (by decide)) (fun _ => ?_)
      refine s_bipush (pc := 28) S (v := (nI 32)) dX7_reasonFor_28 (by decide) ?_
      exact s_zret (pc := 30) S hz hlo (nar_c (by omega)) hr ⟨rfl, Or.inr (Or.inl ⟨k_2, hk_3, rfl, no_13, rfl, rfl⟩)⟩ (Nat.le_of_ble_eq_true rfl) (Nat.le_of_ble_eq_true rfl) dX7_reasonFor_30
  · refine s_if_eqN (pc := 6) S 21 dX7_reasonFor_6 (by decide) (by decide) (fun _ => ?_) (fun h => absurd h (by decide))
    refine s_iconst (pc := 21) S (v := (nI 0)) dX7_reasonFor_21 (by decide) ?_
    refine s_callV (pc := 22) S hz hml [.int (nI 0)] (k_X7_checked Z l A C 0 (by decide)) (cwV 1 S.2.2.2.2 gX7_reasonFor_X7_checked rfl rfl rfl (by decide +kernel) ⟨Nat.le_of_ble_eq_true rfl, Nat.le_of_ble_eq_true rfl⟩) (cc_mod (A := A) (C := C)) rfl rfl rfl (Nat.le_of_ble_eq_true rfl) dX7_reasonFor_22 ⟨Nat.le_of_ble_eq_true rfl, Nat.le_of_ble_eq_true rfl⟩ (fun _ _ _ h => h.elim) (fun v A2 C2 h_25 => ?_)
    obtain ⟨rfl, rfl, rfl⟩ := h_25
    refine s_if_leN (pc := 25) S 31 dX7_reasonFor_25 (by decide) (by decide) (fun h => absurd h (by decide)) (fun _ => ?_)
    refine s_bipush (pc := 28) S (v := (nI 32)) dX7_reasonFor_28 (by decide) ?_
    exact s_zret (pc := 30) S hz hlo (nar_c (by omega)) hr ⟨rfl, Or.inr (Or.inr (⟨no_4, rfl, rfl⟩))⟩ (Nat.le_of_ble_eq_true rfl) (Nat.le_of_ble_eq_true rfl) dX7_reasonFor_30
set_option maxHeartbeats 4000000 in
set_option maxRecDepth 100000 in
theorem k_X7_wouldPrint (Z : Zp) (l : Launch) (A : AF) (C : CF) (x y : Int32) (hO : OkR C) : CtS Z l yX7_wouldPrint wsX7_wouldPrint ({ frames := 5, cells := 0, slots := 0, locals := 113 }) [.ref (A 60 100), .int x, .int y] A C 0 0 (fun v A2 C2 => A = A2 ∧ ((∃ k_2 k_11 : Nat, k_2 < C 60 100 30 ∧ nI k_2 = x ∧ k_11 < C 60 100 29 ∧ nI k_11 = y ∧ Sc (up3 C 60 100 27 0) C2 ∧ some (.int (nI (pgR C k_2 k_11))) = v) ∨ (∃ k_2 : Nat, k_2 < C 60 100 30 ∧ nI k_2 = x ∧ (∀ k : Nat, k < C 60 100 29 → nI k ≠ y) ∧ (up3 C 60 100 27 1) = C2 ∧ some (.int (nI 0)) = v) ∨ ((∀ k : Nat, k < C 60 100 30 → nI k ≠ x) ∧ (up3 C 60 100 27 1) = C2 ∧ some (.int (nI 0)) = v))) (fun _ _ _ => False) := by
  refine CtS.of (cc0 := cX7_wouldPrint) (maxL := 3) (ret := (some .int)) (by decide) rfl (Nat.le_of_ble_eq_true rfl) ?_
  intro M0_ p_ e_ s_ m_ args_ below_ meth_ c_ S hz hml hex hlo hr hin
  refine s_loc (L2 := [(0, .ref (A 60 100)), (1, .int x), (2, .int y)]) rfl ?_
  obtain ⟨oU, oP, oJ, oTc, oY, o8, o9, o10, o11, o12, o13, o14, o15, oX, oQ, oB, oK, oS, oJk, oM, oCo, oSh, oLg, oPo, oLl, oL2, oL3, oL4, oLle, oE1, oE2, oE3, oE4⟩ := id hO
  have hu : C 60 100 28 < 2 ^ 30 := by omega
  have hp : C 60 100 29 < 2 ^ 30 := by omega
  have hj : C 60 100 30 < 2 ^ 30 := by omega
  have hlg : C 60 100 31 < 2 ^ 30 := by omega
  have hp4 := oP
  have htc := oTc
  refine s_aload_n (pc := 0) S 0 dX7_wouldPrint_0 rfl rfl ?_
  refine s_aload_n (pc := 1) S 0 dX7_wouldPrint_1 rfl rfl ?_
  refine s_iload_n (pc := 2) S 1 dX7_wouldPrint_2 rfl rfl ?_
  refine s_callV (pc := 3) S hz hml [.int x] (k_X7_isJob Z l A C x hj) (cwV 1 S.2.2.2.2 gX7_wouldPrint_X7_isJob rfl rfl rfl (by decide +kernel) ⟨Nat.le_of_ble_eq_true rfl, Nat.le_of_ble_eq_true rfl⟩) (cc_mod (A := A) (C := C)) rfl rfl rfl (Nat.le_of_ble_eq_true rfl) dX7_wouldPrint_3 ⟨Nat.le_of_ble_eq_true rfl, Nat.le_of_ble_eq_true rfl⟩ (fun _ _ _ h => h.elim) (fun v A2 C2 h_1 => ?_)
  rcases h_1 with ⟨rfl, rfl, ⟨k_2, hk_3, rfl, rfl⟩ | ⟨no_4, rfl⟩⟩
  · obtain ⟨hk_k_2, hd_k_2, hg_k_2, hg2_k_2, hcp_k_2, hle_k_2, hal30_k_2, hpt_k_2, hus_k_2, h900_k_2, hcp1_k_2⟩ := hO.jk hk_3
    have ho31_k_2 : C 60 19 k_2 < 2 ^ 31 := by omega
    have hal31_k_2 : csN (C 60 13 k_2) (C 60 17 k_2) * C 60 18 k_2 < 2 ^ 31 := by omega
    have z_5 := o14 k_2
    have z_6 := o15 k_2
    have z_7 := o10 k_2
    have z_8 := o12 k_2
    have z_9 := (oJk k_2 hk_3).2.2.2.2.2.2
    refine s_if_eqN (pc := 6) S 21 dX7_wouldPrint_6 (by decide) (by decide) (fun h => absurd h (by decide)) (fun _ => ?_)
    refine s_aload_n (pc := 9) S 0 dX7_wouldPrint_9 rfl rfl ?_
    refine s_iload_n (pc := 10) S 2 dX7_wouldPrint_10 rfl rfl ?_
    refine s_callV (pc := 11) S hz hml [.int y] (k_X7_isPrinter Z l A C y hp) (cwV 1 S.2.2.2.2 gX7_wouldPrint_X7_isPrinter rfl rfl rfl (by decide +kernel) ⟨Nat.le_of_ble_eq_true rfl, Nat.le_of_ble_eq_true rfl⟩) (cc_mod (A := A) (C := C)) rfl rfl rfl (Nat.le_of_ble_eq_true rfl) dX7_wouldPrint_11 ⟨Nat.le_of_ble_eq_true rfl, Nat.le_of_ble_eq_true rfl⟩ (fun _ _ _ h => h.elim) (fun v A2 C2 h_10 => ?_)
    rcases h_10 with ⟨rfl, rfl, ⟨k_11, hk_12, rfl, rfl⟩ | ⟨no_13, rfl⟩⟩
    · have z_14 : k_11 < 4 := by omega
      have z_15 := oTc k_11
      have z_16 := oB k_11
      have z_17 := oK k_11
      have z_18 := oS k_11
      have z_19 := o11 k_11
      refine s_if_eqN (pc := 14) S 21 dX7_wouldPrint_14 (by decide) (by decide) (fun h => absurd h (by decide)) (fun _ => ?_)
      refine s_iconst (pc := 17) S (v := (nI 1)) dX7_wouldPrint_17 (by decide) ?_
      refine s_goto (pc := 18) S 22 dX7_wouldPrint_18 (by decide) ?_
      refine s_callV (pc := 22) S hz hml [.int (nI 1)] (k_X7_checked Z l A C 1 (by decide)) (cwV 1 S.2.2.2.2 gX7_wouldPrint_X7_checked rfl rfl rfl (by decide +kernel) ⟨Nat.le_of_ble_eq_true rfl, Nat.le_of_ble_eq_true rfl⟩) (cc_mod (A := A) (C := C)) rfl rfl rfl (Nat.le_of_ble_eq_true rfl) dX7_wouldPrint_22 ⟨Nat.le_of_ble_eq_true rfl, Nat.le_of_ble_eq_true rfl⟩ (fun _ _ _ h => h.elim) (fun v A2 C2 h_20 => ?_)
      obtain ⟨rfl, rfl, rfl⟩ := h_20
      refine s_if_leN (pc := 25) S 32 dX7_wouldPrint_25 (by decide) (by decide) (fun _ => ?_) (fun h => absurd h (by decide))
      refine s_aload_n (pc := 32) S 0 dX7_wouldPrint_32 rfl rfl ?_
      refine s_iload_n (pc := 33) S 1 dX7_wouldPrint_33 rfl rfl ?_
      refine s_iload_n (pc := 34) S 2 dX7_wouldPrint_34 rfl rfl ?_
      refine s_callV (pc := 35) S hz hml [.int (nI k_2), .int (nI k_11)] (k_X7_pagesAt Z l A (up3 C 60 100 27 0) k_2 k_11 (up3 C 60 100 27 0) (hO.rk hk_3 hk_12) (Sc.refl oX)) (cwV 2 S.2.2.2.2 gX7_wouldPrint_X7_pagesAt rfl rfl rfl (by decide +kernel) ⟨Nat.le_of_ble_eq_true rfl, Nat.le_of_ble_eq_true rfl⟩) (cc_mod (A := A) (C := (up3 C 60 100 27 0))) rfl rfl rfl (Nat.le_of_ble_eq_true rfl) dX7_wouldPrint_35 ⟨Nat.le_of_ble_eq_true rfl, Nat.le_of_ble_eq_true rfl⟩ (fun _ _ _ h => h.elim) (fun v A2 C2 h_21 => ?_)
      obtain ⟨rfl, hs_22, rfl⟩ := h_21
      obtain ⟨x_23, x_24, x_25, b_26, c_27, q_28, rfl, hx_29, hx_30, hx_31⟩ := hs_22
      have z_32 : pgR C k_2 k_11 ≤ 900 := pgR_le (hO.rk hk_3 hk_12)
      refine s_top (u := .int (nI (pgR C k_2 k_11))) rfl ?_
      exact s_iret (pc := 38) S hz hlo hr ⟨rfl, Or.inl ⟨k_2, k_11, hk_3, rfl, hk_12, rfl, ⟨x_23, x_24, x_25, b_26, c_27, q_28, rfl, hx_29, hx_30, hx_31⟩, rfl⟩⟩ (Nat.le_of_ble_eq_true rfl) (Nat.le_of_ble_eq_true rfl) dX7_wouldPrint_38
    · refine s_if_eqN (pc := 14) S 21 dX7_wouldPrint_14 (by decide) (by decide) (fun _ => ?_) (fun h => absurd h (by decide))
      refine s_iconst (pc := 21) S (v := (nI 0)) dX7_wouldPrint_21 (by decide) ?_
      refine s_callV (pc := 22) S hz hml [.int (nI 0)] (k_X7_checked Z l A C 0 (by decide)) (cwV 1 S.2.2.2.2 gX7_wouldPrint_X7_checked rfl rfl rfl (by decide +kernel) ⟨Nat.le_of_ble_eq_true rfl, Nat.le_of_ble_eq_true rfl⟩) (cc_mod (A := A) (C := C)) rfl rfl rfl (Nat.le_of_ble_eq_true rfl) dX7_wouldPrint_22 ⟨Nat.le_of_ble_eq_true rfl, Nat.le_of_ble_eq_true rfl⟩ (fun _ _ _ h => h.elim) (fun v A2 C2 h_33 => ?_)
      obtain ⟨rfl, rfl, rfl⟩ := h_33
      refine s_if_leN (pc := 25) S 32 dX7_wouldPrint_25 (by decide) (by decide) (fun h => absurd h (by decide)) (fun _ => ?_)
      refine s_iconst (pc := 28) S (v := (nI 0)) dX7_wouldPrint_28 (by decide) ?_
      refine s_goto (pc := 29) S 38 dX7_wouldPrint_29 (by decide) ?_
      exact s_iret (pc := 38) S hz hlo hr ⟨rfl, Or.inr (Or.inl ⟨k_2, hk_3, rfl, no_13, rfl, rfl⟩)⟩ (Nat.le_of_ble_eq_true rfl) (Nat.le_of_ble_eq_true rfl) dX7_wouldPrint_38
  · refine s_if_eqN (pc := 6) S 21 dX7_wouldPrint_6 (by decide) (by decide) (fun _ => ?_) (fun h => absurd h (by decide))
    refine s_iconst (pc := 21) S (v := (nI 0)) dX7_wouldPrint_21 (by decide) ?_
    refine s_callV (pc := 22) S hz hml [.int (nI 0)] (k_X7_checked Z l A C 0 (by decide)) (cwV 1 S.2.2.2.2 gX7_wouldPrint_X7_checked rfl rfl rfl (by decide +kernel) ⟨Nat.le_of_ble_eq_true rfl, Nat.le_of_ble_eq_true rfl⟩) (cc_mod (A := A) (C := C)) rfl rfl rfl (Nat.le_of_ble_eq_true rfl) dX7_wouldPrint_22 ⟨Nat.le_of_ble_eq_true rfl, Nat.le_of_ble_eq_true rfl⟩ (fun _ _ _ h => h.elim) (fun v A2 C2 h_34 => ?_)
    obtain ⟨rfl, rfl, rfl⟩ := h_34
    refine s_if_leN (pc := 25) S 32 dX7_wouldPrint_25 (by decide) (by decide) (fun h => absurd h (by decide)) (fun _ => ?_)
    refine s_iconst (pc := 28) S (v := (nI 0)) dX7_wouldPrint_28 (by decide) ?_
    refine s_goto (pc := 29) S 38 dX7_wouldPrint_29 (by decide) ?_
    exact s_iret (pc := 38) S hz hlo hr ⟨rfl, Or.inr (Or.inr (⟨no_4, rfl, rfl⟩))⟩ (Nat.le_of_ble_eq_true rfl) (Nat.le_of_ble_eq_true rfl) dX7_wouldPrint_38
set_option maxHeartbeats 4000000 in
set_option maxRecDepth 100000 in
theorem k_X7_queued (Z : Zp) (l : Launch) (A : AF) (C : CF) (p : Nat) (C1 : CF) (hO : OkR C1) (hp : p < C1 60 100 29) (hs : Sc C1 C) : CtS Z l yX7_queued wsX7_queued ({ frames := 5, cells := 0, slots := 0, locals := 114 }) [.ref (A 60 100), .int (nI p)] A C 0 0 (fun v A2 C2 => A = A2 ∧ Sc C1 C2 ∧ some (.int (nI (qdR C1 p (C1 60 100 30)))) = v) (fun _ _ _ => False) := by
  refine CtS.of (cc0 := cX7_queued) (maxL := 4) (ret := (some .int)) (by decide) rfl (Nat.le_of_ble_eq_true rfl) ?_
  intro M0_ p_ e_ s_ m_ args_ below_ meth_ c_ S hz hml hex hlo hr hin
  refine s_loc (L2 := [(0, .ref (A 60 100)), (1, .int (nI p))]) rfl ?_
  have i_RX7 : ∀ w ∈ u_ws RX7 TX7 38, w ∈ wsX7_queued := by decide +kernel
  obtain ⟨oU, oP, oJ, oTc, oY, o8, o9, o10, o11, o12, o13, o14, o15, oX, oQ, oB, oK, oS, oJk, oM, oCo, oSh, oLg, oPo, oLl, oL2, oL3, oL4, oLle, oE1, oE2, oE3, oE4⟩ := id hO
  obtain ⟨x0, x1, x2, b0, c0, q0, rfl, hx0, hx1, hx2⟩ := id hs
  refine s_iconst (pc := 0) S (v := (nI 0)) dX7_queued_0 (by decide) ?_
  refine s_istore_n (pc := 1) S [(2, .int (nI 0)), (0, .ref (A 60 100)), (1, .int (nI p))] dX7_queued_1 rfl (by decide) rfl ?_
  refine s_iconst (pc := 2) S (v := (nI 0)) dX7_queued_2 (by decide) ?_
  refine s_istore_n (pc := 3) S [(3, .int (nI 0)), (2, .int (nI 0)), (0, .ref (A 60 100)), (1, .int (nI p))] dX7_queued_3 rfl (by decide) rfl ?_
  refine s_perm [0, 1, 2, 3] [(3, .int (nI 0)), (2, .int (nI 0)), (0, .ref (A 60 100)), (1, .int (nI p))] rfl ?_
  refine s_loop (σ := Nat × CF) (fun y => Sc C1 y.2 ∧ y.1 ≤ C1 60 100 30) (fun y => C1 60 100 30 - y.1) (fun _ => A) (fun y => y.2) (fun y => [(3, .int (nI (y.1))), (2, .int (nI (qdR C1 p y.1))), (0, .ref (A 60 100)), (1, .int (nI p))]) (0, S6 C1 x0 x1 x2 b0 c0 q0) ⟨hs, Nat.zero_le _⟩ rfl rfl rfl ?_
  intro y hI ih
  obtain ⟨j, Cj⟩ := y
  obtain ⟨hs2, hjl⟩ := hI
  dsimp only at hs2 hjl ih ⊢
  obtain ⟨x_1, x_2, x_3, b_4, c_5, q_6, rfl, hx_7, hx_8, hx_9⟩ := (id hs2)
  have hqd := qdR_le C1 p j
  refine s_iload_n (pc := 4) S 0 dX7_queued_4 rfl rfl ?_
  refine s_aload_n (pc := 5) S 2 dX7_queued_5 rfl rfl ?_
  refine s_get (pc := 6) S hz (ref := "SpoolFarmModel") (v := .int (nI (C1 60 100 30))) (cc_mod (A := A) (C := (S6 C1 x_1 x_2 x_3 b_4 c_5 q_6))) i_RX7 rfl 30 (Nat.le_of_ble_eq_true rfl) (by decide +kernel) (fun _ h => h) rfl dX7_queued_6 ?_
  refine s_icmp_geN (pc := 9) S 35 dX7_queued_9 (by decide) (by omega) (by omega) (fun c_10 => ?_) (fun c_10 => ?_)
  · refine s_iload_n (pc := 35) S 1 dX7_queued_35 rfl rfl ?_
    obtain rfl : j = C1 60 100 30 := by omega
    exact s_iret (pc := 36) S hz hlo hr ⟨rfl, ⟨x_1, x_2, x_3, b_4, c_5, q_6, rfl, hx_7, hx_8, hx_9⟩, rfl⟩ (Nat.le_of_ble_eq_true rfl) (Nat.le_of_ble_eq_true rfl) dX7_queued_36
  · refine s_iload_n (pc := 12) S 1 dX7_queued_12 rfl rfl ?_
    refine s_aload_n (pc := 13) S 2 dX7_queued_13 rfl rfl ?_
    refine s_iload_n (pc := 14) S 0 dX7_queued_14 rfl rfl ?_
    refine s_iload_n (pc := 15) S 3 dX7_queued_15 rfl rfl ?_
    have hjk : j < C1 60 100 30 := by omega
    refine s_callV (pc := 16) S hz hml [.int (nI j), .int (nI p)] (k_X7_rank Z l A (S6 C1 x_1 x_2 x_3 b_4 c_5 q_6) j p C1 (hO.rk hjk hp) ⟨x_1, x_2, x_3, b_4, c_5, q_6, rfl, hx_7, hx_8, hx_9⟩) (cwV 2 S.2.2.2.2 gX7_queued_X7_rank rfl rfl rfl (by decide +kernel) ⟨Nat.le_of_ble_eq_true rfl, Nat.le_of_ble_eq_true rfl⟩) (cc_mod (A := A) (C := (S6 C1 x_1 x_2 x_3 b_4 c_5 q_6))) rfl rfl rfl (Nat.le_of_ble_eq_true rfl) dX7_queued_16 ⟨Nat.le_of_ble_eq_true rfl, Nat.le_of_ble_eq_true rfl⟩ (fun _ _ _ h => h.elim) (fun v A2 C2 h_11 => ?_)
    obtain ⟨rfl, hs_12, rfl⟩ := h_11
    obtain ⟨x_13, x_14, x_15, b_16, c_17, q_18, rfl, hx_19, hx_20, hx_21⟩ := hs_12
    have z_22 : rkR C1 j p ≤ 2 := rkR_le _ _ _
    refine s_top (u := .int (nI (rkR C1 j p))) rfl ?_
    refine s_if_leN (pc := 19) S 26 dX7_queued_19 (by decide) (by omega) (fun c_23 => ?_) (fun c_23 => ?_)
    · refine s_iconst (pc := 26) S (v := (nI 0)) dX7_queued_26 (by decide) ?_
      refine s_iaddN (pc := 27) S dX7_queued_27 ?_
      refine s_istore_n (pc := 28) S [(2, .int (nI ((qdR C1 p j) + 0))), (3, .int (nI j)), (0, .ref (A 60 100)), (1, .int (nI p))] dX7_queued_28 rfl (by decide) rfl ?_
      refine s_iinc (pc := 29) S 1 [(3, .int (nI (j + 1))), (2, .int (nI ((qdR C1 p j) + 0))), (0, .ref (A 60 100)), (1, .int (nI p))] dX7_queued_29 rfl (nI_add _ 1) (by decide) rfl ?_
      refine s_goto (pc := 32) S 4 dX7_queued_32 (by decide) ?_
      refine s_perm [0, 1, 2, 3] [(3, .int (nI (j + 1))), (2, .int (nI ((qdR C1 p j) + 0))), (0, .ref (A 60 100)), (1, .int (nI p))] rfl ?_
      refine s_loc (L2 := [(3, .int (nI (j + 1))), (2, .int (nI (qdR C1 p (j + 1)))), (0, .ref (A 60 100)), (1, .int (nI p))]) (by rw [qdR_0 c_23]) ?_
      exact ih (j + 1, (S6 C1 x_13 x_14 x_15 b_16 c_17 q_18)) ⟨⟨x_13, x_14, x_15, b_16, c_17, q_18, rfl, hx_19, hx_20, hx_21⟩, by dsimp only; omega⟩ (by dsimp only; omega)
    · refine s_iconst (pc := 22) S (v := (nI 1)) dX7_queued_22 (by decide) ?_
      refine s_goto (pc := 23) S 27 dX7_queued_23 (by decide) ?_
      refine s_iaddN (pc := 27) S dX7_queued_27 ?_
      refine s_istore_n (pc := 28) S [(2, .int (nI ((qdR C1 p j) + 1))), (3, .int (nI j)), (0, .ref (A 60 100)), (1, .int (nI p))] dX7_queued_28 rfl (by decide) rfl ?_
      refine s_iinc (pc := 29) S 1 [(3, .int (nI (j + 1))), (2, .int (nI ((qdR C1 p j) + 1))), (0, .ref (A 60 100)), (1, .int (nI p))] dX7_queued_29 rfl (nI_add _ 1) (by decide) rfl ?_
      refine s_goto (pc := 32) S 4 dX7_queued_32 (by decide) ?_
      refine s_perm [0, 1, 2, 3] [(3, .int (nI (j + 1))), (2, .int (nI ((qdR C1 p j) + 1))), (0, .ref (A 60 100)), (1, .int (nI p))] rfl ?_
      refine s_loc (L2 := [(3, .int (nI (j + 1))), (2, .int (nI (qdR C1 p (j + 1)))), (0, .ref (A 60 100)), (1, .int (nI p))]) (by rw [qdR_1 c_23]) ?_
      exact ih (j + 1, (S6 C1 x_13 x_14 x_15 b_16 c_17 q_18)) ⟨⟨x_13, x_14, x_15, b_16, c_17, q_18, rfl, hx_19, hx_20, hx_21⟩, by dsimp only; omega⟩ (by dsimp only; omega)
set_option maxHeartbeats 4000000 in
set_option maxRecDepth 100000 in
theorem k_X7_queueLength (Z : Zp) (l : Launch) (A : AF) (C : CF) (x : Int32) (hO : OkR C) : CtS Z l yX7_queueLength wsX7_queueLength ({ frames := 6, cells := 0, slots := 0, locals := 137 }) [.ref (A 60 100), .int x] A C 0 0 (fun v A2 C2 => A = A2 ∧ ((∃ k_2 : Nat, k_2 < C 60 100 29 ∧ nI k_2 = x ∧ Sc (up3 C 60 100 27 0) C2 ∧ some (.int (nI (qdR C k_2 (C 60 100 30)))) = v) ∨ ((∀ k : Nat, k < C 60 100 29 → nI k ≠ x) ∧ (up3 C 60 100 27 1) = C2 ∧ some (.int (nI 0)) = v))) (fun _ _ _ => False) := by
  refine CtS.of (cc0 := cX7_queueLength) (maxL := 2) (ret := (some .int)) (by decide) rfl (Nat.le_of_ble_eq_true rfl) ?_
  intro M0_ p_ e_ s_ m_ args_ below_ meth_ c_ S hz hml hex hlo hr hin
  refine s_loc (L2 := [(0, .ref (A 60 100)), (1, .int x)]) rfl ?_
  obtain ⟨oU, oP, oJ, oTc, oY, o8, o9, o10, o11, o12, o13, o14, o15, oX, oQ, oB, oK, oS, oJk, oM, oCo, oSh, oLg, oPo, oLl, oL2, oL3, oL4, oLle, oE1, oE2, oE3, oE4⟩ := id hO
  have hu : C 60 100 28 < 2 ^ 30 := by omega
  have hp : C 60 100 29 < 2 ^ 30 := by omega
  have hj : C 60 100 30 < 2 ^ 30 := by omega
  have hlg : C 60 100 31 < 2 ^ 30 := by omega
  have hp4 := oP
  have htc := oTc
  refine s_aload_n (pc := 0) S 0 dX7_queueLength_0 rfl rfl ?_
  refine s_aload_n (pc := 1) S 0 dX7_queueLength_1 rfl rfl ?_
  refine s_iload_n (pc := 2) S 1 dX7_queueLength_2 rfl rfl ?_
  refine s_callV (pc := 3) S hz hml [.int x] (k_X7_isPrinter Z l A C x hp) (cwV 1 S.2.2.2.2 gX7_queueLength_X7_isPrinter rfl rfl rfl (by decide +kernel) ⟨Nat.le_of_ble_eq_true rfl, Nat.le_of_ble_eq_true rfl⟩) (cc_mod (A := A) (C := C)) rfl rfl rfl (Nat.le_of_ble_eq_true rfl) dX7_queueLength_3 ⟨Nat.le_of_ble_eq_true rfl, Nat.le_of_ble_eq_true rfl⟩ (fun _ _ _ h => h.elim) (fun v A2 C2 h_1 => ?_)
  rcases h_1 with ⟨rfl, rfl, ⟨k_2, hk_3, rfl, rfl⟩ | ⟨no_4, rfl⟩⟩
  · have z_5 : k_2 < 4 := by omega
    have z_6 := oTc k_2
    have z_7 := oB k_2
    have z_8 := oK k_2
    have z_9 := oS k_2
    have z_10 := o11 k_2
    refine s_callV (pc := 6) S hz hml [.int (nI 1)] (k_X7_checked Z l A C 1 (by decide)) (cwV 1 S.2.2.2.2 gX7_queueLength_X7_checked rfl rfl rfl (by decide +kernel) ⟨Nat.le_of_ble_eq_true rfl, Nat.le_of_ble_eq_true rfl⟩) (cc_mod (A := A) (C := C)) rfl rfl rfl (Nat.le_of_ble_eq_true rfl) dX7_queueLength_6 ⟨Nat.le_of_ble_eq_true rfl, Nat.le_of_ble_eq_true rfl⟩ (fun _ _ _ h => h.elim) (fun v A2 C2 h_11 => ?_)
    obtain ⟨rfl, rfl, rfl⟩ := h_11
    refine s_if_leN (pc := 9) S 16 dX7_queueLength_9 (by decide) (by decide) (fun _ => ?_) (fun h => absurd h (by decide))
    refine s_aload_n (pc := 16) S 0 dX7_queueLength_16 rfl rfl ?_
    refine s_iload_n (pc := 17) S 1 dX7_queueLength_17 rfl rfl ?_
    refine s_callV (pc := 18) S hz hml [.int (nI k_2)] (k_X7_queued Z l A (up3 C 60 100 27 0) k_2 (up3 C 60 100 27 0) hO hk_3 (Sc.refl oX)) (cwV 1 S.2.2.2.2 gX7_queueLength_X7_queued rfl rfl rfl (by decide +kernel) ⟨Nat.le_of_ble_eq_true rfl, Nat.le_of_ble_eq_true rfl⟩) (cc_mod (A := A) (C := (up3 C 60 100 27 0))) rfl rfl rfl (Nat.le_of_ble_eq_true rfl) dX7_queueLength_18 ⟨Nat.le_of_ble_eq_true rfl, Nat.le_of_ble_eq_true rfl⟩ (fun _ _ _ h => h.elim) (fun v A2 C2 h_12 => ?_)
    obtain ⟨rfl, hs_13, rfl⟩ := h_12
    obtain ⟨x_14, x_15, x_16, b_17, c_18, q_19, rfl, hx_20, hx_21, hx_22⟩ := hs_13
    refine s_top (u := .int (nI (qdR C k_2 (C 60 100 30)))) rfl ?_
    have z_23 := qdR_le C k_2 (C 60 100 30)
    exact s_iret (pc := 21) S hz hlo hr ⟨rfl, Or.inl ⟨k_2, hk_3, rfl, ⟨x_14, x_15, x_16, b_17, c_18, q_19, rfl, hx_20, hx_21, hx_22⟩, rfl⟩⟩ (Nat.le_of_ble_eq_true rfl) (Nat.le_of_ble_eq_true rfl) dX7_queueLength_21
  · refine s_callV (pc := 6) S hz hml [.int (nI 0)] (k_X7_checked Z l A C 0 (by decide)) (cwV 1 S.2.2.2.2 gX7_queueLength_X7_checked rfl rfl rfl (by decide +kernel) ⟨Nat.le_of_ble_eq_true rfl, Nat.le_of_ble_eq_true rfl⟩) (cc_mod (A := A) (C := C)) rfl rfl rfl (Nat.le_of_ble_eq_true rfl) dX7_queueLength_6 ⟨Nat.le_of_ble_eq_true rfl, Nat.le_of_ble_eq_true rfl⟩ (fun _ _ _ h => h.elim) (fun v A2 C2 h_24 => ?_)
    obtain ⟨rfl, rfl, rfl⟩ := h_24
    refine s_if_leN (pc := 9) S 16 dX7_queueLength_9 (by decide) (by decide) (fun h => absurd h (by decide)) (fun _ => ?_)
    refine s_iconst (pc := 12) S (v := (nI 0)) dX7_queueLength_12 (by decide) ?_
    refine s_goto (pc := 13) S 21 dX7_queueLength_13 (by decide) ?_
    exact s_iret (pc := 21) S hz hlo hr ⟨rfl, Or.inr (⟨no_4, rfl, rfl⟩)⟩ (Nat.le_of_ble_eq_true rfl) (Nat.le_of_ble_eq_true rfl) dX7_queueLength_21
set_option maxHeartbeats 4000000 in
set_option maxRecDepth 100000 in
theorem k_X7_bestPrinter (Z : Zp) (l : Launch) (A : AF) (C : CF) (x : Int32) (hO : OkR C) : CtS Z l yX7_bestPrinter wsX7_bestPrinter ({ frames := 5, cells := 0, slots := 0, locals := 113 }) [.ref (A 60 100), .int x] A C 0 0 (fun v A2 C2 => A = A2 ∧ ((∃ k_2 : Nat, k_2 < C 60 100 30 ∧ nI k_2 = x ∧ (bsR C k_2 (C 60 100 29)).1 = 0 ∧ Sc (up3 (up3 C 60 100 27 0) 60 100 27 2) C2 ∧ some (.int (nI 0)) = v) ∨ (∃ k_2 : Nat, k_2 < C 60 100 30 ∧ nI k_2 = x ∧ 0 < (bsR C k_2 (C 60 100 29)).1 ∧ Sc (up3 (up3 C 60 100 27 0) 60 100 27 0) C2 ∧ some (.int (nI ((bsR C k_2 (C 60 100 29)).1 - 1))) = v) ∨ ((∀ k : Nat, k < C 60 100 30 → nI k ≠ x) ∧ (up3 C 60 100 27 1) = C2 ∧ some (.int (nI 0)) = v))) (fun _ _ _ => False) := by
  refine CtS.of (cc0 := cX7_bestPrinter) (maxL := 6) (ret := (some .int)) (by decide) rfl (Nat.le_of_ble_eq_true rfl) ?_
  intro M0_ p_ e_ s_ m_ args_ below_ meth_ c_ S hz hml hex hlo hr hin
  refine s_loc (L2 := [(0, .ref (A 60 100)), (1, .int x)]) rfl ?_
  have i_RX7 : ∀ w ∈ u_ws RX7 TX7 38, w ∈ wsX7_bestPrinter := by decide +kernel
  obtain ⟨oU, oP, oJ, oTc, oY, o8, o9, o10, o11, o12, o13, o14, o15, oX, oQ, oB, oK, oS, oJk, oM, oCo, oSh, oLg, oPo, oLl, oL2, oL3, oL4, oLle, oE1, oE2, oE3, oE4⟩ := id hO
  have hu : C 60 100 28 < 2 ^ 30 := by omega
  have hp : C 60 100 29 < 2 ^ 30 := by omega
  have hj : C 60 100 30 < 2 ^ 30 := by omega
  have hlg : C 60 100 31 < 2 ^ 30 := by omega
  have hp4 := oP
  have htc := oTc
  refine s_aload_n (pc := 0) S 0 dX7_bestPrinter_0 rfl rfl ?_
  refine s_aload_n (pc := 1) S 0 dX7_bestPrinter_1 rfl rfl ?_
  refine s_iload_n (pc := 2) S 1 dX7_bestPrinter_2 rfl rfl ?_
  refine s_callV (pc := 3) S hz hml [.int x] (k_X7_isJob Z l A C x hj) (cwV 1 S.2.2.2.2 gX7_bestPrinter_X7_isJob rfl rfl rfl (by decide +kernel) ⟨Nat.le_of_ble_eq_true rfl, Nat.le_of_ble_eq_true rfl⟩) (cc_mod (A := A) (C := C)) rfl rfl rfl (Nat.le_of_ble_eq_true rfl) dX7_bestPrinter_3 ⟨Nat.le_of_ble_eq_true rfl, Nat.le_of_ble_eq_true rfl⟩ (fun _ _ _ h => h.elim) (fun v A2 C2 h_1 => ?_)
  rcases h_1 with ⟨rfl, rfl, ⟨k_2, hk_3, rfl, rfl⟩ | ⟨no_4, rfl⟩⟩
  · obtain ⟨hk_k_2, hd_k_2, hg_k_2, hg2_k_2, hcp_k_2, hle_k_2, hal30_k_2, hpt_k_2, hus_k_2, h900_k_2, hcp1_k_2⟩ := hO.jk hk_3
    have ho31_k_2 : C 60 19 k_2 < 2 ^ 31 := by omega
    have hal31_k_2 : csN (C 60 13 k_2) (C 60 17 k_2) * C 60 18 k_2 < 2 ^ 31 := by omega
    have z_5 := o14 k_2
    have z_6 := o15 k_2
    have z_7 := o10 k_2
    have z_8 := o12 k_2
    have z_9 := (oJk k_2 hk_3).2.2.2.2.2.2
    refine s_callV (pc := 6) S hz hml [.int (nI 1)] (k_X7_checked Z l A C 1 (by decide)) (cwV 1 S.2.2.2.2 gX7_bestPrinter_X7_checked rfl rfl rfl (by decide +kernel) ⟨Nat.le_of_ble_eq_true rfl, Nat.le_of_ble_eq_true rfl⟩) (cc_mod (A := A) (C := C)) rfl rfl rfl (Nat.le_of_ble_eq_true rfl) dX7_bestPrinter_6 ⟨Nat.le_of_ble_eq_true rfl, Nat.le_of_ble_eq_true rfl⟩ (fun _ _ _ h => h.elim) (fun v A2 C2 h_10 => ?_)
    obtain ⟨rfl, rfl, rfl⟩ := h_10
    refine s_if_leN (pc := 9) S 14 dX7_bestPrinter_9 (by decide) (by decide) (fun _ => ?_) (fun h => absurd h (by decide))
    refine s_iconst (pc := 14) S (v := (-1)) dX7_bestPrinter_14 (by decide) ?_
    refine s_istore_n (pc := 15) S [(2, .int (-1)), (0, .ref (A 60 100)), (1, .int (nI k_2))] dX7_bestPrinter_15 rfl (by decide) rfl ?_
    refine s_iconst (pc := 16) S (v := (nI 0)) dX7_bestPrinter_16 (by decide) ?_
    refine s_istore_n (pc := 17) S [(3, .int (nI 0)), (2, .int (-1)), (0, .ref (A 60 100)), (1, .int (nI k_2))] dX7_bestPrinter_17 rfl (by decide) rfl ?_
    refine s_iconst (pc := 18) S (v := (nI 0)) dX7_bestPrinter_18 (by decide) ?_
    refine s_istore (pc := 19) S [(4, .int (nI 0)), (3, .int (nI 0)), (2, .int (-1)), (0, .ref (A 60 100)), (1, .int (nI k_2))] dX7_bestPrinter_19 (by decide) rfl ?_
    refine s_loc (L2 := [(4, .int (nI 0)), (3, .int (nI 0)), (2, .int (nI 0 - nI 1)), (0, .ref (A 60 100)), (1, .int (nI k_2))]) (by rw [show nI 0 - nI 1 = (-1 : Int32) by decide]) ?_
    refine s_perm [0, 1, 2, 3, 4] [(4, .int (nI 0)), (3, .int (nI 0)), (2, .int (nI 0 - nI 1)), (0, .ref (A 60 100)), (1, .int (nI k_2))] rfl ?_
    refine s_loop (σ := Nat × CF) (fun y => Sc (up3 C 60 100 27 0) y.2 ∧ y.1 ≤ C 60 100 29) (fun y => C 60 100 29 - y.1) (fun _ => A) (fun y => y.2) (fun y => [(4, .int (nI (y.1))), (3, .int (nI ((bsR C k_2 y.1).2))), (2, .int (nI (bsR C k_2 y.1).1 - nI 1)), (0, .ref (A 60 100)), (1, .int (nI k_2))]) (0, (up3 C 60 100 27 0)) ⟨Sc.refl oX, Nat.zero_le _⟩ rfl rfl rfl ?_
    intro y hI ih
    obtain ⟨j, Cj⟩ := y
    obtain ⟨hs2, hjl⟩ := hI
    dsimp only at hs2 hjl ih ⊢
    obtain ⟨x_11, x_12, x_13, b_14, c_15, q_16, rfl, hx_17, hx_18, hx_19⟩ := (id hs2)
    have hb2 := bsR_b hO hk_3 j hjl
    have hb1 := bsR_le C k_2 j
    refine s_iload (pc := 21) S 0 dX7_bestPrinter_21 rfl ?_
    refine s_aload_n (pc := 23) S 3 dX7_bestPrinter_23 rfl rfl ?_
    refine s_get (pc := 24) S hz (ref := "SpoolFarmModel") (v := .int (nI (C 60 100 29))) (cc_mod (A := A) (C := (S6 (up3 C 60 100 27 0) x_11 x_12 x_13 b_14 c_15 q_16))) i_RX7 rfl 29 (Nat.le_of_ble_eq_true rfl) (by decide +kernel) (fun _ h => h) rfl dX7_bestPrinter_24 ?_
    refine s_icmp_geN (pc := 27) S 60 dX7_bestPrinter_27 (by decide) (by omega) (by omega) (fun c_20 => ?_) (fun c_20 => ?_)
    · have hje : j = C 60 100 29 := by omega
      rcases (show (bsR C k_2 (C 60 100 29)).1 = 0 ∨ 0 < (bsR C k_2 (C 60 100 29)).1 by omega) with hbz | hbz
      · refine s_perm [2, 3, 4] [(2, .int (nI (bsR C k_2 j).1 - nI 1)), (0, .ref (A 60 100)), (1, .int (nI k_2))] rfl ?_
        refine s_loc (L2 := [(2, .int (-1)), (0, .ref (A 60 100)), (1, .int (nI k_2))]) (by rw [hje, hbz, show nI 0 - nI 1 = (-1 : Int32) by decide]) ?_
        have hb3 := bsR_le C k_2 (C 60 100 29)
        refine s_aload_n (pc := 60) S 1 dX7_bestPrinter_60 rfl rfl ?_
        refine s_iload_n (pc := 61) S 0 dX7_bestPrinter_61 rfl rfl ?_
        refine s_if_ge (pc := 62) S 69 dX7_bestPrinter_62 (by decide) (fun h => absurd h (by decide)) (fun _ => ?_)
        refine s_iconst (pc := 65) S (v := (nI 2)) dX7_bestPrinter_65 (by decide) ?_
        refine s_goto (pc := 66) S 70 dX7_bestPrinter_66 (by decide) ?_
        refine s_put (pc := 70) S hz (ref := "SpoolFarmModel") (ty := .int) (cc_mod (A := A) (C := (S6 (up3 C 60 100 27 0) x_11 x_12 x_13 b_14 c_15 q_16))) i_RX7 tyX7 tyX7_ok nmX7 rfl 27 (Nat.le_of_ble_eq_true rfl) (by decide +kernel) (fun _ h => h) rfl (by decide +kernel) rfl rfl (Nat.le_of_ble_eq_true rfl) (up3 (S6 (up3 C 60 100 27 0) x_11 x_12 x_13 b_14 c_15 q_16) 60 100 27 2) cu_mod (by rw [(cc_mod (A := A) (C := (up3 (S6 (up3 C 60 100 27 0) x_11 x_12 x_13 b_14 c_15 q_16) 60 100 27 2))), up3_u]; rfl) dX7_bestPrinter_70 ?_
        refine s_aload_n (pc := 73) S 1 dX7_bestPrinter_73 rfl rfl ?_
        refine s_get (pc := 74) S hz (ref := "SpoolFarmModel") (v := .int (nI 2)) (cc_mod (A := A) (C := (up3 (S6 (up3 C 60 100 27 0) x_11 x_12 x_13 b_14 c_15 q_16) 60 100 27 2))) i_RX7 rfl 27 (Nat.le_of_ble_eq_true rfl) (by decide +kernel) (fun _ h => h) rfl dX7_bestPrinter_74 ?_
        refine s_if_leN (pc := 77) S 84 dX7_bestPrinter_77 (by decide) (by decide) (fun h => absurd h (by decide)) (fun _ => ?_)
        refine s_iconst (pc := 80) S (v := (nI 0)) dX7_bestPrinter_80 (by decide) ?_
        refine s_goto (pc := 81) S 85 dX7_bestPrinter_81 (by decide) ?_
        exact s_iret (pc := 85) S hz hlo hr ⟨rfl, Or.inl ⟨k_2, hk_3, rfl, hbz, ⟨x_11, x_12, x_13, b_14, c_15, q_16, S6_th _ _ _ _ _ _ _ _, hx_17, hx_18, hx_19⟩, rfl⟩⟩ (Nat.le_of_ble_eq_true rfl) (Nat.le_of_ble_eq_true rfl) dX7_bestPrinter_85
      · refine s_perm [2, 3, 4] [(2, .int (nI (bsR C k_2 j).1 - nI 1)), (0, .ref (A 60 100)), (1, .int (nI k_2))] rfl ?_
        refine s_loc (L2 := [(2, .int (nI ((bsR C k_2 (C 60 100 29)).1 - 1))), (0, .ref (A 60 100)), (1, .int (nI k_2))]) (by rw [hje, pk_sub (show 1 ≤ (bsR C k_2 (C 60 100 29)).1 by omega)]) ?_
        have hb3 := bsR_le C k_2 (C 60 100 29)
        refine s_aload_n (pc := 60) S 1 dX7_bestPrinter_60 rfl rfl ?_
        refine s_iload_n (pc := 61) S 0 dX7_bestPrinter_61 rfl rfl ?_
        refine s_if_geN (pc := 62) S 69 dX7_bestPrinter_62 (by decide) (by omega) (fun c_21 => ?_) (fun c_21 => absurd c_21 (by omega))
        refine s_iconst (pc := 69) S (v := (nI 0)) dX7_bestPrinter_69 (by decide) ?_
        refine s_put (pc := 70) S hz (ref := "SpoolFarmModel") (ty := .int) (cc_mod (A := A) (C := (S6 (up3 C 60 100 27 0) x_11 x_12 x_13 b_14 c_15 q_16))) i_RX7 tyX7 tyX7_ok nmX7 rfl 27 (Nat.le_of_ble_eq_true rfl) (by decide +kernel) (fun _ h => h) rfl (by decide +kernel) rfl rfl (Nat.le_of_ble_eq_true rfl) (up3 (S6 (up3 C 60 100 27 0) x_11 x_12 x_13 b_14 c_15 q_16) 60 100 27 0) cu_mod (by rw [(cc_mod (A := A) (C := (up3 (S6 (up3 C 60 100 27 0) x_11 x_12 x_13 b_14 c_15 q_16) 60 100 27 0))), up3_u]; rfl) dX7_bestPrinter_70 ?_
        refine s_aload_n (pc := 73) S 1 dX7_bestPrinter_73 rfl rfl ?_
        refine s_get (pc := 74) S hz (ref := "SpoolFarmModel") (v := .int (nI 0)) (cc_mod (A := A) (C := (up3 (S6 (up3 C 60 100 27 0) x_11 x_12 x_13 b_14 c_15 q_16) 60 100 27 0))) i_RX7 rfl 27 (Nat.le_of_ble_eq_true rfl) (by decide +kernel) (fun _ h => h) rfl dX7_bestPrinter_74 ?_
        refine s_if_leN (pc := 77) S 84 dX7_bestPrinter_77 (by decide) (by decide) (fun _ => ?_) (fun h => absurd h (by decide))
        refine s_iload_n (pc := 84) S 0 dX7_bestPrinter_84 rfl rfl ?_
        exact s_iret (pc := 85) S hz hlo hr ⟨rfl, Or.inr (Or.inl ⟨k_2, hk_3, rfl, hbz, ⟨x_11, x_12, x_13, b_14, c_15, q_16, S6_th _ _ _ _ _ _ _ _, hx_17, hx_18, hx_19⟩, rfl⟩)⟩ (Nat.le_of_ble_eq_true rfl) (Nat.le_of_ble_eq_true rfl) dX7_bestPrinter_85
    · refine s_aload_n (pc := 30) S 3 dX7_bestPrinter_30 rfl rfl ?_
      refine s_iload_n (pc := 31) S 4 dX7_bestPrinter_31 rfl rfl ?_
      refine s_iload (pc := 32) S 0 dX7_bestPrinter_32 rfl ?_
      have hjp : j < C 60 100 29 := by omega
      refine s_callV (pc := 34) S hz hml [.int (nI k_2), .int (nI j)] (k_X7_pagesAt Z l A (S6 (up3 C 60 100 27 0) x_11 x_12 x_13 b_14 c_15 q_16) k_2 j (up3 C 60 100 27 0) (hO.rk hk_3 hjp) ⟨x_11, x_12, x_13, b_14, c_15, q_16, rfl, hx_17, hx_18, hx_19⟩) (cwV 2 S.2.2.2.2 gX7_bestPrinter_X7_pagesAt rfl rfl rfl (by decide +kernel) ⟨Nat.le_of_ble_eq_true rfl, Nat.le_of_ble_eq_true rfl⟩) (cc_mod (A := A) (C := (S6 (up3 C 60 100 27 0) x_11 x_12 x_13 b_14 c_15 q_16))) rfl rfl rfl (Nat.le_of_ble_eq_true rfl) dX7_bestPrinter_34 ⟨Nat.le_of_ble_eq_true rfl, Nat.le_of_ble_eq_true rfl⟩ (fun _ _ _ h => h.elim) (fun v A2 C2 h_22 => ?_)
      obtain ⟨rfl, hs_23, rfl⟩ := h_22
      obtain ⟨x_24, x_25, x_26, b_27, c_28, q_29, rfl, hx_30, hx_31, hx_32⟩ := hs_23
      have z_33 : pgR C k_2 j ≤ 900 := pgR_le (hO.rk hk_3 hjp)
      refine s_top (u := .int (nI (pgR C k_2 j))) rfl ?_
      refine s_istore (pc := 37) S [(5, .int (nI (pgR C k_2 j))), (4, .int (nI j)), (3, .int (nI ((bsR C k_2 j).2))), (2, .int (nI (bsR C k_2 j).1 - nI 1)), (0, .ref (A 60 100)), (1, .int (nI k_2))] dX7_bestPrinter_37 (by decide) rfl ?_
      refine s_iload (pc := 39) S 0 dX7_bestPrinter_39 rfl ?_
      refine s_iload_n (pc := 41) S 2 dX7_bestPrinter_41 rfl rfl ?_
      refine s_icmp_gtN (pc := 42) S 48 dX7_bestPrinter_42 (by decide) (by omega) (by omega) (fun c_34 => ?_) (fun c_34 => ?_)
      · refine s_iload (pc := 48) S 1 dX7_bestPrinter_48 rfl ?_
        refine s_istore_n (pc := 50) S [(2, .int (nI j)), (5, .int (nI (pgR C k_2 j))), (4, .int (nI j)), (3, .int (nI ((bsR C k_2 j).2))), (0, .ref (A 60 100)), (1, .int (nI k_2))] dX7_bestPrinter_50 rfl (by decide) rfl ?_
        refine s_iload (pc := 51) S 1 dX7_bestPrinter_51 rfl ?_
        refine s_istore_n (pc := 53) S [(3, .int (nI (pgR C k_2 j))), (2, .int (nI j)), (5, .int (nI (pgR C k_2 j))), (4, .int (nI j)), (0, .ref (A 60 100)), (1, .int (nI k_2))] dX7_bestPrinter_53 rfl (by decide) rfl ?_
        refine s_iinc (pc := 54) S 3 [(4, .int (nI (j + 1))), (3, .int (nI (pgR C k_2 j))), (2, .int (nI j)), (5, .int (nI (pgR C k_2 j))), (0, .ref (A 60 100)), (1, .int (nI k_2))] dX7_bestPrinter_54 rfl (nI_add _ 1) (by decide) rfl ?_
        refine s_goto (pc := 57) S 21 dX7_bestPrinter_57 (by decide) ?_
        refine s_perm [0, 1, 2, 4, 5] [(4, .int (nI (j + 1))), (3, .int (nI (pgR C k_2 j))), (2, .int (nI j)), (0, .ref (A 60 100)), (1, .int (nI k_2))] rfl ?_
        refine s_loc (L2 := [(4, .int (nI (j + 1))), (3, .int (nI ((bsR C k_2 (j + 1)).2))), (2, .int (nI (bsR C k_2 (j + 1)).1 - nI 1)), (0, .ref (A 60 100)), (1, .int (nI k_2))]) (by rw [bsR_n (by omega)]; simp only [pk_sub (show 1 ≤ j + 1 by omega), Nat.add_sub_cancel]) ?_
        exact ih (j + 1, (S6 (up3 C 60 100 27 0) x_24 x_25 x_26 b_27 c_28 q_29)) ⟨⟨x_24, x_25, x_26, b_27, c_28, q_29, rfl, hx_30, hx_31, hx_32⟩, by dsimp only; omega⟩ (by dsimp only; omega)
      · refine s_goto (pc := 45) S 54 dX7_bestPrinter_45 (by decide) ?_
        refine s_iinc (pc := 54) S 1 [(4, .int (nI (j + 1))), (5, .int (nI (pgR C k_2 j))), (3, .int (nI ((bsR C k_2 j).2))), (2, .int (nI (bsR C k_2 j).1 - nI 1)), (0, .ref (A 60 100)), (1, .int (nI k_2))] dX7_bestPrinter_54 rfl (nI_add _ 1) (by decide) rfl ?_
        refine s_goto (pc := 57) S 21 dX7_bestPrinter_57 (by decide) ?_
        refine s_perm [0, 2, 3, 4, 5] [(4, .int (nI (j + 1))), (3, .int (nI ((bsR C k_2 j).2))), (2, .int (nI (bsR C k_2 j).1 - nI 1)), (0, .ref (A 60 100)), (1, .int (nI k_2))] rfl ?_
        refine s_loc (L2 := [(4, .int (nI (j + 1))), (3, .int (nI ((bsR C k_2 (j + 1)).2))), (2, .int (nI (bsR C k_2 (j + 1)).1 - nI 1)), (0, .ref (A 60 100)), (1, .int (nI k_2))]) (by rw [bsR_k (by omega)]) ?_
        exact ih (j + 1, (S6 (up3 C 60 100 27 0) x_24 x_25 x_26 b_27 c_28 q_29)) ⟨⟨x_24, x_25, x_26, b_27, c_28, q_29, rfl, hx_30, hx_31, hx_32⟩, by dsimp only; omega⟩ (by dsimp only; omega)
  · refine s_callV (pc := 6) S hz hml [.int (nI 0)] (k_X7_checked Z l A C 0 (by decide)) (cwV 1 S.2.2.2.2 gX7_bestPrinter_X7_checked rfl rfl rfl (by decide +kernel) ⟨Nat.le_of_ble_eq_true rfl, Nat.le_of_ble_eq_true rfl⟩) (cc_mod (A := A) (C := C)) rfl rfl rfl (Nat.le_of_ble_eq_true rfl) dX7_bestPrinter_6 ⟨Nat.le_of_ble_eq_true rfl, Nat.le_of_ble_eq_true rfl⟩ (fun _ _ _ h => h.elim) (fun v A2 C2 h_35 => ?_)
    obtain ⟨rfl, rfl, rfl⟩ := h_35
    refine s_if_leN (pc := 9) S 14 dX7_bestPrinter_9 (by decide) (by decide) (fun h => absurd h (by decide)) (fun _ => ?_)
    refine s_iconst (pc := 12) S (v := (nI 0)) dX7_bestPrinter_12 (by decide) ?_
    exact s_iret (pc := 13) S hz hlo hr ⟨rfl, Or.inr (Or.inr (⟨no_4, rfl, rfl⟩))⟩ (Nat.le_of_ble_eq_true rfl) (Nat.le_of_ble_eq_true rfl) dX7_bestPrinter_13
set_option maxHeartbeats 4000000 in
set_option maxRecDepth 100000 in
theorem k_X7_queueAt (Z : Zp) (l : Launch) (A : AF) (C : CF) (x y : Int32) (hO : OkR C) : CtS Z l yX7_queueAt wsX7_queueAt ({ frames := 6, cells := 0, slots := 0, locals := 137 }) [.ref (A 60 100), .int x, .int y] A C 0 0 (fun v A2 C2 => A = A2 ∧ ((∃ k_2 w j : Nat, k_2 < C 60 100 29 ∧ nI k_2 = x ∧ w < qdR C k_2 (C 60 100 30) ∧ nI w = y ∧ rkR C j k_2 = 1 ∧ j < C 60 100 30 ∧ q2R C k_2 2 (C 60 100 30) + q2R C k_2 1 j = w ∧ Sc (up3 C 60 100 27 0) C2 ∧ some (.int (nI j)) = v) ∨ (∃ k_2 w j : Nat, k_2 < C 60 100 29 ∧ nI k_2 = x ∧ w < qdR C k_2 (C 60 100 30) ∧ nI w = y ∧ rkR C j k_2 = 2 ∧ j < C 60 100 30 ∧ q2R C k_2 2 j = w ∧ Sc (up3 C 60 100 27 0) C2 ∧ some (.int (nI j)) = v) ∨ (∃ k_2 : Nat, k_2 < C 60 100 29 ∧ nI k_2 = x ∧ (∀ k : Nat, k < qdR C k_2 (C 60 100 30) → nI k ≠ y) ∧ Sc (up3 C 60 100 27 2) C2 ∧ some (.int (nI 0)) = v) ∨ ((∀ k : Nat, k < C 60 100 29 → nI k ≠ x) ∧ (up3 C 60 100 27 1) = C2 ∧ some (.int (nI 0)) = v))) (fun _ _ _ => False) := by
  refine CtS.of (cc0 := cX7_queueAt) (maxL := 6) (ret := (some .int)) (by decide) rfl (Nat.le_of_ble_eq_true rfl) ?_
  intro M0_ p_ e_ s_ m_ args_ below_ meth_ c_ S hz hml hex hlo hr hin
  refine s_loc (L2 := [(0, .ref (A 60 100)), (1, .int x), (2, .int y)]) rfl ?_
  have i_RX7 : ∀ w ∈ u_ws RX7 TX7 38, w ∈ wsX7_queueAt := by decide +kernel
  obtain ⟨oU, oP, oJ, oTc, oY, o8, o9, o10, o11, o12, o13, o14, o15, oX, oQ, oB, oK, oS, oJk, oM, oCo, oSh, oLg, oPo, oLl, oL2, oL3, oL4, oLle, oE1, oE2, oE3, oE4⟩ := id hO
  have hu : C 60 100 28 < 2 ^ 30 := by omega
  have hp : C 60 100 29 < 2 ^ 30 := by omega
  have hj : C 60 100 30 < 2 ^ 30 := by omega
  have hlg : C 60 100 31 < 2 ^ 30 := by omega
  have hp4 := oP
  have htc := oTc
  refine s_aload_n (pc := 0) S 0 dX7_queueAt_0 rfl rfl ?_
  refine s_aload_n (pc := 1) S 0 dX7_queueAt_1 rfl rfl ?_
  refine s_iload_n (pc := 2) S 1 dX7_queueAt_2 rfl rfl ?_
  refine s_callV (pc := 3) S hz hml [.int x] (k_X7_isPrinter Z l A C x hp) (cwV 1 S.2.2.2.2 gX7_queueAt_X7_isPrinter rfl rfl rfl (by decide +kernel) ⟨Nat.le_of_ble_eq_true rfl, Nat.le_of_ble_eq_true rfl⟩) (cc_mod (A := A) (C := C)) rfl rfl rfl (Nat.le_of_ble_eq_true rfl) dX7_queueAt_3 ⟨Nat.le_of_ble_eq_true rfl, Nat.le_of_ble_eq_true rfl⟩ (fun _ _ _ h => h.elim) (fun v A2 C2 h_1 => ?_)
  rcases h_1 with ⟨rfl, rfl, ⟨k_2, hk_3, rfl, rfl⟩ | ⟨no_4, rfl⟩⟩
  · have z_5 : k_2 < 4 := by omega
    have z_6 := oTc k_2
    have z_7 := oB k_2
    have z_8 := oK k_2
    have z_9 := oS k_2
    have z_10 := o11 k_2
    refine s_if_neN (pc := 6) S 13 dX7_queueAt_6 (by decide) (by decide) (fun _ => ?_) (fun h => absurd h (by decide))
    refine s_iload_n (pc := 13) S 2 dX7_queueAt_13 rfl rfl ?_
    refine s_iconst (pc := 14) S (v := (nI 0)) dX7_queueAt_14 (by decide) ?_
    refine s_aload_n (pc := 15) S 0 dX7_queueAt_15 rfl rfl ?_
    refine s_iload_n (pc := 16) S 1 dX7_queueAt_16 rfl rfl ?_
    refine s_callV (pc := 17) S hz hml [.int (nI k_2)] (k_X7_queued Z l A C k_2 C hO hk_3 (Sc.refl oX)) (cwV 1 S.2.2.2.2 gX7_queueAt_X7_queued rfl rfl rfl (by decide +kernel) ⟨Nat.le_of_ble_eq_true rfl, Nat.le_of_ble_eq_true rfl⟩) (cc_mod (A := A) (C := C)) rfl rfl rfl (Nat.le_of_ble_eq_true rfl) dX7_queueAt_17 ⟨Nat.le_of_ble_eq_true rfl, Nat.le_of_ble_eq_true rfl⟩ (fun _ _ _ h => h.elim) (fun v A2 C2 h_11 => ?_)
    obtain ⟨rfl, hs_12, rfl⟩ := h_11
    obtain ⟨x_13, x_14, x_15, b_16, c_17, q_18, rfl, hx_19, hx_20, hx_21⟩ := hs_12
    refine s_top (u := .int (nI (qdR C k_2 (C 60 100 30)))) rfl ?_
    have z_22 := qdR_le C k_2 (C 60 100 30)
    refine s_iconst (pc := 20) S (v := (nI 1)) dX7_queueAt_20 (by decide) ?_
    refine s_isub (pc := 21) S dX7_queueAt_21 ?_
    refine s_callS (pc := 22) S hz hml [.int y, .int (nI 0), .int ((nI (qdR C k_2 (C 60 100 30))) - (nI 1))] (k_X7_in Z l A (S6 C x_13 x_14 x_15 b_16 c_17 q_18) y (nI 0) ((nI (qdR C k_2 (C 60 100 30))) - (nI 1))) (cwS 3 S.2.2.2.2 gX7_queueAt_X7_in rfl rfl rfl (by decide +kernel) ⟨Nat.le_of_ble_eq_true rfl, Nat.le_of_ble_eq_true rfl⟩) rfl rfl (Nat.le_of_ble_eq_true rfl) dX7_queueAt_22 ⟨Nat.le_of_ble_eq_true rfl, Nat.le_of_ble_eq_true rfl⟩ (fun _ _ _ h => h.elim) (fun v A2 C2 h_23 => ?_)
    rcases h_23 with ⟨rfl, rfl, ⟨p_24, p_25, rfl⟩ | ⟨p_26, rfl⟩⟩
    · obtain ⟨w, hw, rfl⟩ := ix_of (n := qdR C k_2 (C 60 100 30)) (by omega) p_24 p_25
      refine s_if_neN (pc := 25) S 32 dX7_queueAt_25 (by decide) (by decide) (fun _ => ?_) (fun h => absurd h (by decide))
      refine s_iconst (pc := 32) S (v := (nI 0)) dX7_queueAt_32 (by decide) ?_
      refine s_put (pc := 33) S hz (ref := "SpoolFarmModel") (ty := .int) (cc_mod (A := A) (C := (S6 C x_13 x_14 x_15 b_16 c_17 q_18))) i_RX7 tyX7 tyX7_ok nmX7 rfl 27 (Nat.le_of_ble_eq_true rfl) (by decide +kernel) (fun _ h => h) rfl (by decide +kernel) rfl rfl (Nat.le_of_ble_eq_true rfl) (up3 (S6 C x_13 x_14 x_15 b_16 c_17 q_18) 60 100 27 0) cu_mod (by rw [(cc_mod (A := A) (C := (up3 (S6 C x_13 x_14 x_15 b_16 c_17 q_18) 60 100 27 0))), up3_u]; rfl) dX7_queueAt_33 ?_
      refine s_aload_n (pc := 36) S 0 dX7_queueAt_36 rfl rfl ?_
      refine s_get (pc := 37) S hz (ref := "SpoolFarmModel") (v := .int (nI 0)) (cc_mod (A := A) (C := (up3 (S6 C x_13 x_14 x_15 b_16 c_17 q_18) 60 100 27 0))) i_RX7 rfl 27 (Nat.le_of_ble_eq_true rfl) (by decide +kernel) (fun _ h => h) rfl dX7_queueAt_37 ?_
      refine s_if_leN (pc := 40) S 45 dX7_queueAt_40 (by decide) (by decide) (fun _ => ?_) (fun h => absurd h (by decide))
      refine s_iload_n (pc := 45) S 2 dX7_queueAt_45 rfl rfl ?_
      refine s_istore_n (pc := 46) S [(3, .int (nI w)), (0, .ref (A 60 100)), (1, .int (nI k_2)), (2, .int (nI w))] dX7_queueAt_46 rfl (by decide) rfl ?_
      refine s_iconst (pc := 47) S (v := (nI 2)) dX7_queueAt_47 (by decide) ?_
      refine s_istore (pc := 48) S [(4, .int (nI 2)), (3, .int (nI w)), (0, .ref (A 60 100)), (1, .int (nI k_2)), (2, .int (nI w))] dX7_queueAt_48 (by decide) rfl ?_
      refine s_iload (pc := 50) S 0 dX7_queueAt_50 rfl ?_
      refine s_if_leN (pc := 52) S 104 dX7_queueAt_52 (by decide) (by decide) (fun h => absurd h (by decide)) (fun _ => ?_)
      refine s_iconst (pc := 55) S (v := (nI 0)) dX7_queueAt_55 (by decide) ?_
      refine s_istore (pc := 56) S [(5, .int (nI 0)), (4, .int (nI 2)), (3, .int (nI w)), (0, .ref (A 60 100)), (1, .int (nI k_2)), (2, .int (nI w))] dX7_queueAt_56 (by decide) rfl ?_
      refine s_C (S6_th C x_13 x_14 x_15 b_16 c_17 q_18 0) ?_
      refine s_loc (L2 := [(5, .int (nI 0)), (4, .int (nI 2)), (3, .int (nI (w - q2R C k_2 2 0))), (0, .ref (A 60 100)), (1, .int (nI k_2)), (2, .int (nI w))]) (by rw [show q2R C k_2 2 0 = 0 from rfl, Nat.sub_zero]) ?_
      refine s_perm [0, 2, 1, 3, 4, 5] [(5, .int (nI 0)), (3, .int (nI (w - q2R C k_2 2 0))), (4, .int (nI 2)), (0, .ref (A 60 100)), (1, .int (nI k_2)), (2, .int (nI w))] rfl ?_
      refine s_loop (σ := Nat × CF) (fun y => Sc (up3 C 60 100 27 0) y.2 ∧ y.1 ≤ C 60 100 30 ∧ q2R C k_2 2 y.1 ≤ w) (fun y => C 60 100 30 - y.1) (fun _ => A) (fun y => y.2) (fun y => [(5, .int (nI (y.1))), (3, .int (nI (w - q2R C k_2 2 y.1))), (4, .int (nI 2)), (0, .ref (A 60 100)), (1, .int (nI k_2)), (2, .int (nI w))]) (0, (S6 (up3 C 60 100 27 0) x_13 x_14 x_15 b_16 c_17 q_18)) ⟨⟨x_13, x_14, x_15, b_16, c_17, q_18, rfl, hx_19, hx_20, hx_21⟩, Nat.zero_le _, by dsimp only; rw [show q2R C k_2 2 0 = 0 from rfl]; omega⟩ rfl rfl rfl ?_
      intro y hI ih
      obtain ⟨j, Cj⟩ := y
      obtain ⟨hs2, hjl, hlw⟩ := hI
      dsimp only at hs2 hjl hlw ih ⊢
      obtain ⟨x_27, x_28, x_29, b_30, c_31, q_32, rfl, hx_33, hx_34, hx_35⟩ := (id hs2)
      have hq2 := q2R_le C k_2 2 j
      refine s_iload (pc := 58) S 0 dX7_queueAt_58 rfl ?_
      refine s_aload_n (pc := 60) S 3 dX7_queueAt_60 rfl rfl ?_
      refine s_get (pc := 61) S hz (ref := "SpoolFarmModel") (v := .int (nI (C 60 100 30))) (cc_mod (A := A) (C := (S6 (up3 C 60 100 27 0) x_27 x_28 x_29 b_30 c_31 q_32))) i_RX7 rfl 30 (Nat.le_of_ble_eq_true rfl) (by decide +kernel) (fun _ h => h) rfl dX7_queueAt_61 ?_
      refine s_icmp_geN (pc := 64) S 98 dX7_queueAt_64 (by decide) (by omega) (by omega) (fun c_36 => ?_) (fun c_36 => ?_)
      · obtain rfl : j = C 60 100 30 := by omega
        refine s_perm [1, 2, 3, 4, 5] [(3, .int (nI (w - q2R C k_2 2 (C 60 100 30)))), (4, .int (nI 2)), (0, .ref (A 60 100)), (1, .int (nI k_2)), (2, .int (nI w))] rfl ?_
        refine s_iinc (pc := 98) S 1 [(4, .int (nI 1)), (3, .int (nI (w - q2R C k_2 2 (C 60 100 30)))), (0, .ref (A 60 100)), (1, .int (nI k_2)), (2, .int (nI w))] dX7_queueAt_98 rfl (by decide) (by decide) rfl ?_
        refine s_goto (pc := 101) S 50 dX7_queueAt_101 (by decide) ?_
        refine s_iload (pc := 50) S 0 dX7_queueAt_50 rfl ?_
        refine s_if_leN (pc := 52) S 104 dX7_queueAt_52 (by decide) (by decide) (fun h => absurd h (by decide)) (fun _ => ?_)
        refine s_iconst (pc := 55) S (v := (nI 0)) dX7_queueAt_55 (by decide) ?_
        refine s_istore (pc := 56) S [(5, .int (nI 0)), (4, .int (nI 1)), (3, .int (nI (w - q2R C k_2 2 (C 60 100 30)))), (0, .ref (A 60 100)), (1, .int (nI k_2)), (2, .int (nI w))] dX7_queueAt_56 (by decide) rfl ?_
        refine s_loc (L2 := [(5, .int (nI 0)), (4, .int (nI 1)), (3, .int (nI (w - q2R C k_2 2 (C 60 100 30) - q2R C k_2 1 0))), (0, .ref (A 60 100)), (1, .int (nI k_2)), (2, .int (nI w))]) (by rw [show q2R C k_2 1 0 = 0 from rfl, Nat.sub_zero]) ?_
        refine s_perm [0, 2, 1, 3, 4, 5] [(5, .int (nI 0)), (3, .int (nI (w - q2R C k_2 2 (C 60 100 30) - q2R C k_2 1 0))), (4, .int (nI 1)), (0, .ref (A 60 100)), (1, .int (nI k_2)), (2, .int (nI w))] rfl ?_
        refine s_loop (σ := Nat × CF) (fun y => Sc (up3 C 60 100 27 0) y.2 ∧ y.1 ≤ C 60 100 30 ∧ q2R C k_2 2 (C 60 100 30) + q2R C k_2 1 y.1 ≤ w) (fun y => C 60 100 30 - y.1) (fun _ => A) (fun y => y.2) (fun y => [(5, .int (nI (y.1))), (3, .int (nI (w - q2R C k_2 2 (C 60 100 30) - q2R C k_2 1 y.1))), (4, .int (nI 1)), (0, .ref (A 60 100)), (1, .int (nI k_2)), (2, .int (nI w))]) (0, (S6 (up3 C 60 100 27 0) x_27 x_28 x_29 b_30 c_31 q_32)) ⟨⟨x_27, x_28, x_29, b_30, c_31, q_32, rfl, hx_33, hx_34, hx_35⟩, Nat.zero_le _, by dsimp only; rw [show q2R C k_2 1 0 = 0 from rfl]; omega⟩ rfl rfl rfl ?_
        intro y hI ih
        obtain ⟨j, Cj⟩ := y
        obtain ⟨hs2, hjl, hlw⟩ := hI
        dsimp only at hs2 hjl hlw ih ⊢
        obtain ⟨x_38, x_39, x_40, b_41, c_42, q_43, rfl, hx_44, hx_45, hx_46⟩ := (id hs2)
        have hq2 := q2R_le C k_2 1 j
        refine s_iload (pc := 58) S 0 dX7_queueAt_58 rfl ?_
        refine s_aload_n (pc := 60) S 3 dX7_queueAt_60 rfl rfl ?_
        refine s_get (pc := 61) S hz (ref := "SpoolFarmModel") (v := .int (nI (C 60 100 30))) (cc_mod (A := A) (C := (S6 (up3 C 60 100 27 0) x_38 x_39 x_40 b_41 c_42 q_43))) i_RX7 rfl 30 (Nat.le_of_ble_eq_true rfl) (by decide +kernel) (fun _ h => h) rfl dX7_queueAt_61 ?_
        refine s_icmp_geN (pc := 64) S 98 dX7_queueAt_64 (by decide) (by omega) (by omega) (fun c_47 => ?_) (fun c_47 => ?_)
        · obtain rfl : j = C 60 100 30 := by omega
          refine s_perm [1, 2, 3, 4, 5] [(3, .int (nI (w - q2R C k_2 2 (C 60 100 30) - q2R C k_2 1 (C 60 100 30)))), (4, .int (nI 1)), (0, .ref (A 60 100)), (1, .int (nI k_2)), (2, .int (nI w))] rfl ?_
          refine s_iinc (pc := 98) S 1 [(4, .int (nI 0)), (3, .int (nI (w - q2R C k_2 2 (C 60 100 30) - q2R C k_2 1 (C 60 100 30)))), (0, .ref (A 60 100)), (1, .int (nI k_2)), (2, .int (nI w))] dX7_queueAt_98 rfl (by decide) (by decide) rfl ?_
          refine s_goto (pc := 101) S 50 dX7_queueAt_101 (by decide) ?_
          refine s_iload (pc := 50) S 0 dX7_queueAt_50 rfl ?_
          refine s_if_leN (pc := 52) S 104 dX7_queueAt_52 (by decide) (by decide) (fun _ => ?_) (fun h => absurd h (by decide))
          exact absurd hw (by have := q12 C k_2 (C 60 100 30); omega)
        · refine s_aload_n (pc := 67) S 3 dX7_queueAt_67 rfl rfl ?_
          refine s_iload (pc := 68) S 0 dX7_queueAt_68 rfl ?_
          refine s_iload_n (pc := 70) S 4 dX7_queueAt_70 rfl rfl ?_
          have hjk : j < C 60 100 30 := by omega
          refine s_callV (pc := 71) S hz hml [.int (nI j), .int (nI k_2)] (k_X7_rank Z l A (S6 (up3 C 60 100 27 0) x_38 x_39 x_40 b_41 c_42 q_43) j k_2 (up3 C 60 100 27 0) (hO.rk hjk hk_3) ⟨x_38, x_39, x_40, b_41, c_42, q_43, rfl, hx_44, hx_45, hx_46⟩) (cwV 2 S.2.2.2.2 gX7_queueAt_X7_rank rfl rfl rfl (by decide +kernel) ⟨Nat.le_of_ble_eq_true rfl, Nat.le_of_ble_eq_true rfl⟩) (cc_mod (A := A) (C := (S6 (up3 C 60 100 27 0) x_38 x_39 x_40 b_41 c_42 q_43))) rfl rfl rfl (Nat.le_of_ble_eq_true rfl) dX7_queueAt_71 ⟨Nat.le_of_ble_eq_true rfl, Nat.le_of_ble_eq_true rfl⟩ (fun _ _ _ h => h.elim) (fun v A2 C2 h_49 => ?_)
          obtain ⟨rfl, hs_50, rfl⟩ := h_49
          obtain ⟨x_51, x_52, x_53, b_54, c_55, q_56, rfl, hx_57, hx_58, hx_59⟩ := hs_50
          have z_60 : rkR C j k_2 ≤ 2 := rkR_le _ _ _
          refine s_top (u := .int (nI (rkR C j k_2))) rfl ?_
          refine s_iload (pc := 74) S 2 dX7_queueAt_74 rfl ?_
          refine s_icmp_eqN (pc := 76) S 82 dX7_queueAt_76 (by decide) (by omega) (by omega) (fun c_61 => ?_) (fun c_61 => ?_)
          · refine s_iload_n (pc := 82) S 1 dX7_queueAt_82 rfl rfl ?_
            refine s_if_neN (pc := 83) S 89 dX7_queueAt_83 (by decide) (by omega) (fun c_62 => ?_) (fun c_62 => ?_)
            · refine s_iinc (pc := 89) S 1 [(3, .int (nI ((w - q2R C k_2 2 (C 60 100 30) - q2R C k_2 1 j) - 1))), (5, .int (nI j)), (4, .int (nI 1)), (0, .ref (A 60 100)), (1, .int (nI k_2)), (2, .int (nI w))] dX7_queueAt_89 rfl (g_dec (by omega)) (by decide) rfl ?_
              refine s_iinc (pc := 92) S 1 [(5, .int (nI (j + 1))), (3, .int (nI ((w - q2R C k_2 2 (C 60 100 30) - q2R C k_2 1 j) - 1))), (4, .int (nI 1)), (0, .ref (A 60 100)), (1, .int (nI k_2)), (2, .int (nI w))] dX7_queueAt_92 rfl (nI_add _ 1) (by decide) rfl ?_
              refine s_goto (pc := 95) S 58 dX7_queueAt_95 (by decide) ?_
              refine s_perm [0, 1, 2, 3, 4, 5] [(5, .int (nI (j + 1))), (3, .int (nI ((w - q2R C k_2 2 (C 60 100 30) - q2R C k_2 1 j) - 1))), (4, .int (nI 1)), (0, .ref (A 60 100)), (1, .int (nI k_2)), (2, .int (nI w))] rfl ?_
              refine s_loc (L2 := [(5, .int (nI (j + 1))), (3, .int (nI (w - q2R C k_2 2 (C 60 100 30) - q2R C k_2 1 (j + 1)))), (4, .int (nI 1)), (0, .ref (A 60 100)), (1, .int (nI k_2)), (2, .int (nI w))]) (by rw [q2R_1 c_61]; simp only [← Nat.sub_sub]) ?_
              exact ih (j + 1, (S6 (up3 C 60 100 27 0) x_51 x_52 x_53 b_54 c_55 q_56)) ⟨⟨x_51, x_52, x_53, b_54, c_55, q_56, rfl, hx_57, hx_58, hx_59⟩, by dsimp only; omega, by dsimp only; rw [q2R_1 c_61]; omega⟩ (by dsimp only; omega)
            · refine s_iload (pc := 86) S 0 dX7_queueAt_86 rfl ?_
              exact s_iret (pc := 88) S hz hlo hr ⟨rfl, Or.inl ⟨k_2, w, j, hk_3, rfl, hw, rfl, c_61, hjk, (by omega), ⟨x_51, x_52, x_53, b_54, c_55, q_56, rfl, hx_57, hx_58, hx_59⟩, rfl⟩⟩ (Nat.le_of_ble_eq_true rfl) (Nat.le_of_ble_eq_true rfl) dX7_queueAt_88
          · refine s_goto (pc := 79) S 92 dX7_queueAt_79 (by decide) ?_
            refine s_iinc (pc := 92) S 0 [(5, .int (nI (j + 1))), (3, .int (nI (w - q2R C k_2 2 (C 60 100 30) - q2R C k_2 1 j))), (4, .int (nI 1)), (0, .ref (A 60 100)), (1, .int (nI k_2)), (2, .int (nI w))] dX7_queueAt_92 rfl (nI_add _ 1) (by decide) rfl ?_
            refine s_goto (pc := 95) S 58 dX7_queueAt_95 (by decide) ?_
            refine s_perm [0, 1, 2, 3, 4, 5] [(5, .int (nI (j + 1))), (3, .int (nI (w - q2R C k_2 2 (C 60 100 30) - q2R C k_2 1 j))), (4, .int (nI 1)), (0, .ref (A 60 100)), (1, .int (nI k_2)), (2, .int (nI w))] rfl ?_
            refine s_loc (L2 := [(5, .int (nI (j + 1))), (3, .int (nI (w - q2R C k_2 2 (C 60 100 30) - q2R C k_2 1 (j + 1)))), (4, .int (nI 1)), (0, .ref (A 60 100)), (1, .int (nI k_2)), (2, .int (nI w))]) (by rw [q2R_0 c_61]) ?_
            exact ih (j + 1, (S6 (up3 C 60 100 27 0) x_51 x_52 x_53 b_54 c_55 q_56)) ⟨⟨x_51, x_52, x_53, b_54, c_55, q_56, rfl, hx_57, hx_58, hx_59⟩, by dsimp only; omega, by dsimp only; rw [q2R_0 c_61]; omega⟩ (by dsimp only; omega)
      · refine s_aload_n (pc := 67) S 3 dX7_queueAt_67 rfl rfl ?_
        refine s_iload (pc := 68) S 0 dX7_queueAt_68 rfl ?_
        refine s_iload_n (pc := 70) S 4 dX7_queueAt_70 rfl rfl ?_
        have hjk : j < C 60 100 30 := by omega
        refine s_callV (pc := 71) S hz hml [.int (nI j), .int (nI k_2)] (k_X7_rank Z l A (S6 (up3 C 60 100 27 0) x_27 x_28 x_29 b_30 c_31 q_32) j k_2 (up3 C 60 100 27 0) (hO.rk hjk hk_3) ⟨x_27, x_28, x_29, b_30, c_31, q_32, rfl, hx_33, hx_34, hx_35⟩) (cwV 2 S.2.2.2.2 gX7_queueAt_X7_rank rfl rfl rfl (by decide +kernel) ⟨Nat.le_of_ble_eq_true rfl, Nat.le_of_ble_eq_true rfl⟩) (cc_mod (A := A) (C := (S6 (up3 C 60 100 27 0) x_27 x_28 x_29 b_30 c_31 q_32))) rfl rfl rfl (Nat.le_of_ble_eq_true rfl) dX7_queueAt_71 ⟨Nat.le_of_ble_eq_true rfl, Nat.le_of_ble_eq_true rfl⟩ (fun _ _ _ h => h.elim) (fun v A2 C2 h_63 => ?_)
        obtain ⟨rfl, hs_64, rfl⟩ := h_63
        obtain ⟨x_65, x_66, x_67, b_68, c_69, q_70, rfl, hx_71, hx_72, hx_73⟩ := hs_64
        have z_74 : rkR C j k_2 ≤ 2 := rkR_le _ _ _
        refine s_top (u := .int (nI (rkR C j k_2))) rfl ?_
        refine s_iload (pc := 74) S 2 dX7_queueAt_74 rfl ?_
        refine s_icmp_eqN (pc := 76) S 82 dX7_queueAt_76 (by decide) (by omega) (by omega) (fun c_75 => ?_) (fun c_75 => ?_)
        · refine s_iload_n (pc := 82) S 1 dX7_queueAt_82 rfl rfl ?_
          refine s_if_neN (pc := 83) S 89 dX7_queueAt_83 (by decide) (by omega) (fun c_76 => ?_) (fun c_76 => ?_)
          · refine s_iinc (pc := 89) S 1 [(3, .int (nI ((w - q2R C k_2 2 j) - 1))), (5, .int (nI j)), (4, .int (nI 2)), (0, .ref (A 60 100)), (1, .int (nI k_2)), (2, .int (nI w))] dX7_queueAt_89 rfl (g_dec (by omega)) (by decide) rfl ?_
            refine s_iinc (pc := 92) S 1 [(5, .int (nI (j + 1))), (3, .int (nI ((w - q2R C k_2 2 j) - 1))), (4, .int (nI 2)), (0, .ref (A 60 100)), (1, .int (nI k_2)), (2, .int (nI w))] dX7_queueAt_92 rfl (nI_add _ 1) (by decide) rfl ?_
            refine s_goto (pc := 95) S 58 dX7_queueAt_95 (by decide) ?_
            refine s_perm [0, 1, 2, 3, 4, 5] [(5, .int (nI (j + 1))), (3, .int (nI ((w - q2R C k_2 2 j) - 1))), (4, .int (nI 2)), (0, .ref (A 60 100)), (1, .int (nI k_2)), (2, .int (nI w))] rfl ?_
            refine s_loc (L2 := [(5, .int (nI (j + 1))), (3, .int (nI (w - q2R C k_2 2 (j + 1)))), (4, .int (nI 2)), (0, .ref (A 60 100)), (1, .int (nI k_2)), (2, .int (nI w))]) (by rw [q2R_1 c_75, ← Nat.sub_sub]) ?_
            exact ih (j + 1, (S6 (up3 C 60 100 27 0) x_65 x_66 x_67 b_68 c_69 q_70)) ⟨⟨x_65, x_66, x_67, b_68, c_69, q_70, rfl, hx_71, hx_72, hx_73⟩, by dsimp only; omega, by dsimp only; rw [q2R_1 c_75]; omega⟩ (by dsimp only; omega)
          · refine s_iload (pc := 86) S 0 dX7_queueAt_86 rfl ?_
            exact s_iret (pc := 88) S hz hlo hr ⟨rfl, Or.inr (Or.inl ⟨k_2, w, j, hk_3, rfl, hw, rfl, c_75, hjk, (by omega), ⟨x_65, x_66, x_67, b_68, c_69, q_70, rfl, hx_71, hx_72, hx_73⟩, rfl⟩)⟩ (Nat.le_of_ble_eq_true rfl) (Nat.le_of_ble_eq_true rfl) dX7_queueAt_88
        · refine s_goto (pc := 79) S 92 dX7_queueAt_79 (by decide) ?_
          refine s_iinc (pc := 92) S 0 [(5, .int (nI (j + 1))), (3, .int (nI (w - q2R C k_2 2 j))), (4, .int (nI 2)), (0, .ref (A 60 100)), (1, .int (nI k_2)), (2, .int (nI w))] dX7_queueAt_92 rfl (nI_add _ 1) (by decide) rfl ?_
          refine s_goto (pc := 95) S 58 dX7_queueAt_95 (by decide) ?_
          refine s_perm [0, 1, 2, 3, 4, 5] [(5, .int (nI (j + 1))), (3, .int (nI (w - q2R C k_2 2 j))), (4, .int (nI 2)), (0, .ref (A 60 100)), (1, .int (nI k_2)), (2, .int (nI w))] rfl ?_
          refine s_loc (L2 := [(5, .int (nI (j + 1))), (3, .int (nI (w - q2R C k_2 2 (j + 1)))), (4, .int (nI 2)), (0, .ref (A 60 100)), (1, .int (nI k_2)), (2, .int (nI w))]) (by rw [q2R_0 c_75]) ?_
          exact ih (j + 1, (S6 (up3 C 60 100 27 0) x_65 x_66 x_67 b_68 c_69 q_70)) ⟨⟨x_65, x_66, x_67, b_68, c_69, q_70, rfl, hx_71, hx_72, hx_73⟩, by dsimp only; omega, by dsimp only; rw [q2R_0 c_75]; omega⟩ (by dsimp only; omega)
    · have n_77 := ix_no (n := qdR C k_2 (C 60 100 30)) (by omega) p_26
      refine s_if_neN (pc := 25) S 32 dX7_queueAt_25 (by decide) (by decide) (fun h => absurd h (by decide)) (fun _ => ?_)
      refine s_iconst (pc := 28) S (v := (nI 2)) dX7_queueAt_28 (by decide) ?_
      refine s_goto (pc := 29) S 33 dX7_queueAt_29 (by decide) ?_
      refine s_put (pc := 33) S hz (ref := "SpoolFarmModel") (ty := .int) (cc_mod (A := A) (C := (S6 C x_13 x_14 x_15 b_16 c_17 q_18))) i_RX7 tyX7 tyX7_ok nmX7 rfl 27 (Nat.le_of_ble_eq_true rfl) (by decide +kernel) (fun _ h => h) rfl (by decide +kernel) rfl rfl (Nat.le_of_ble_eq_true rfl) (up3 (S6 C x_13 x_14 x_15 b_16 c_17 q_18) 60 100 27 2) cu_mod (by rw [(cc_mod (A := A) (C := (up3 (S6 C x_13 x_14 x_15 b_16 c_17 q_18) 60 100 27 2))), up3_u]; rfl) dX7_queueAt_33 ?_
      refine s_aload_n (pc := 36) S 0 dX7_queueAt_36 rfl rfl ?_
      refine s_get (pc := 37) S hz (ref := "SpoolFarmModel") (v := .int (nI 2)) (cc_mod (A := A) (C := (up3 (S6 C x_13 x_14 x_15 b_16 c_17 q_18) 60 100 27 2))) i_RX7 rfl 27 (Nat.le_of_ble_eq_true rfl) (by decide +kernel) (fun _ h => h) rfl dX7_queueAt_37 ?_
      refine s_if_leN (pc := 40) S 45 dX7_queueAt_40 (by decide) (by decide) (fun h => absurd h (by decide)) (fun _ => ?_)
      refine s_iconst (pc := 43) S (v := (nI 0)) dX7_queueAt_43 (by decide) ?_
      exact s_iret (pc := 44) S hz hlo hr ⟨rfl, Or.inr (Or.inr (Or.inl ⟨k_2, hk_3, rfl, n_77, ⟨x_13, x_14, x_15, b_16, c_17, q_18, S6_th _ _ _ _ _ _ _ _, hx_19, hx_20, hx_21⟩, rfl⟩))⟩ (Nat.le_of_ble_eq_true rfl) (Nat.le_of_ble_eq_true rfl) dX7_queueAt_44
  · refine s_if_neN (pc := 6) S 13 dX7_queueAt_6 (by decide) (by decide) (fun h => absurd h (by decide)) (fun _ => ?_)
    refine s_iconst (pc := 9) S (v := (nI 1)) dX7_queueAt_9 (by decide) ?_
    refine s_goto (pc := 10) S 33 dX7_queueAt_10 (by decide) ?_
    refine s_put (pc := 33) S hz (ref := "SpoolFarmModel") (ty := .int) (cc_mod (A := A) (C := C)) i_RX7 tyX7 tyX7_ok nmX7 rfl 27 (Nat.le_of_ble_eq_true rfl) (by decide +kernel) (fun _ h => h) rfl (by decide +kernel) rfl rfl (Nat.le_of_ble_eq_true rfl) (up3 C 60 100 27 1) cu_mod (by rw [(cc_mod (A := A) (C := (up3 C 60 100 27 1))), up3_u]; rfl) dX7_queueAt_33 ?_
    refine s_aload_n (pc := 36) S 0 dX7_queueAt_36 rfl rfl ?_
    refine s_get (pc := 37) S hz (ref := "SpoolFarmModel") (v := .int (nI 1)) (cc_mod (A := A) (C := (up3 C 60 100 27 1))) i_RX7 rfl 27 (Nat.le_of_ble_eq_true rfl) (by decide +kernel) (fun _ h => h) rfl dX7_queueAt_37 ?_
    refine s_if_leN (pc := 40) S 45 dX7_queueAt_40 (by decide) (by decide) (fun h => absurd h (by decide)) (fun _ => ?_)
    refine s_iconst (pc := 43) S (v := (nI 0)) dX7_queueAt_43 (by decide) ?_
    exact s_iret (pc := 44) S hz hlo hr ⟨rfl, Or.inr (Or.inr (Or.inr (⟨no_4, rfl, rfl⟩)))⟩ (Nat.le_of_ble_eq_true rfl) (Nat.le_of_ble_eq_true rfl) dX7_queueAt_44
