set_option maxHeartbeats 4000000 in
theorem k_X7_reasonT (Z : Zp) (l : Launch) (A : AF) (C : CF) (k p j : Nat) (hR : RK C k p) (hT : TrI C k p j) : CtS Z l yX7_reason wsX7_reason ({ frames := 2, cells := 0, slots := 0, locals := 43 }) [.ref (A 60 100), .int (nI k), .int (nI p), .int (nI (C 60 19 k + j))] A (TrS C k p j) 0 0 (fun v A2 C2 => A = A2 ∧ TrS C k p j = C2 ∧ some (.int (nI (coR C k p j))) = v) (fun _ _ _ => False) := by
  obtain ⟨hk, hp, hnt, hq, hw, hY, hx, hd, hg, hg2, hcp, hcn, hb, hac, hu, hbk, hck, hQ, ho⟩ := hR
  have hal : csN (C 60 13 k) (C 60 17 k) * C 60 18 k < 2 ^ 30 := al_lt30 hg hg2 hcp
  have hTl : C 60 19 k + j ≤ csN (C 60 13 k) (C 60 17 k) * C 60 18 k := hT.2.2.2.2
  have h := k_X7_reason Z l A (TrS C k p j) k p hk hp hnt hq hw (TrS_x hY hx) hd hg hg2 hcp hcn hb hac (Nat.le_trans (Nat.sub_le _ _) (Nat.le_trans hbk (by decide))) (Nat.le_trans (Nat.sub_le _ _) (Nat.le_trans hck (by decide))) (Nat.le_trans (Nat.sub_le _ _) (hQ _)) (C 60 19 k + j) (by omega)
  rw [rs_co hg hT] at h
  exact h
set_option maxHeartbeats 4000000 in
set_option maxRecDepth 100000 in
theorem k_X7_reasonFor (Z : Zp) (l : Launch) (A : AF) (C : CF) (x y : Int32) (hO : OkR C) : CtS Z l yX7_reasonFor wsX7_reasonFor ({ frames := 3, cells := 0, slots := 0, locals := 68 }) [.ref (A 60 100), .int x, .int y] A C 0 0 (fun v A2 C2 => A = A2 ∧ ((∃ k_2 k_11 : Nat, k_2 < C 60 100 30 ∧ nI k_2 = x ∧ k_11 < C 60 100 29 ∧ nI k_11 = y ∧ (TrS (up3 C 60 100 27 0) k_2 k_11 0) = C2 ∧ some (.int (nI (coR C k_2 k_11 0))) = v) ∨ (∃ k_2 : Nat, k_2 < C 60 100 30 ∧ nI k_2 = x ∧ (∀ k : Nat, k < C 60 100 29 → nI k ≠ y) ∧ (up3 C 60 100 27 1) = C2 ∧ some (.int (nI 32)) = v) ∨ ((∀ k : Nat, k < C 60 100 30 → nI k ≠ x) ∧ (up3 C 60 100 27 1) = C2 ∧ some (.int (nI 32)) = v))) (fun _ _ _ => False) := by
  refine CtS.of (cc0 := cX7_reasonFor) (maxL := 3) (ret := (some .char)) (by decide) rfl (Nat.le_of_ble_eq_true rfl) ?_
  intro M0_ p_ e_ s_ m_ args_ below_ meth_ c_ S hz hml hex hlo hr hin
  refine s_loc (L2 := [(0, .ref (A 60 100)), (1, .int x), (2, .int y)]) rfl ?_
  have i_RX7 : ∀ w ∈ u_ws RX7 TX7 38, w ∈ wsX7_reasonFor := by decide +kernel
  obtain ⟨oU, oP, oJ, oTc, oY, o8, o9, o10, o11, o12, o13, o14, o15, oX, oQ, oB, oK, oS, oJk, oM, oCo, oSh, oLg, oPo, oLl, oL2, oL3, oL4, oLle, oE1, oE2, oE3, oE4⟩ := id hO
  have hu : C 60 100 28 < 2 ^ 30 := by omega
  have hp : C 60 100 29 < 2 ^ 30 := by omega
  have hj : C 60 100 30 < 2 ^ 30 := by omega
  have hlg : C 60 100 31 < 2 ^ 30 := by omega
  have hp4 := oP
  have htc := oTc
  refine s_aload_n (pc := 0) S 0 dX7_reasonFor_0 rfl rfl ?_
  refine s_aload_n (pc := 1) S 0 dX7_reasonFor_1 rfl rfl ?_
  refine s_iload_n (pc := 2) S 1 dX7_reasonFor_2 rfl rfl ?_
  refine s_callV (pc := 3) S hz hml [.int x] (k_X7_isJob Z l A C x hj) (cwV 1 S.2.2.2.2 gX7_reasonFor_X7_isJob rfl rfl rfl (by decide +kernel) ⟨Nat.le_of_ble_eq_true rfl, Nat.le_of_ble_eq_true rfl⟩) (cc_mod (A := A) (C := C)) rfl rfl rfl (Nat.le_of_ble_eq_true rfl) dX7_reasonFor_3 ⟨Nat.le_of_ble_eq_true rfl, Nat.le_of_ble_eq_true rfl⟩ (fun _ _ _ h => h.elim) (fun v A2 C2 h_1 => ?_)
  rcases h_1 with ⟨rfl, rfl, ⟨k_2, hk_3, rfl, rfl⟩ | ⟨no_4, rfl⟩⟩
  · obtain ⟨hk_k_2, hd_k_2, hg_k_2, hg2_k_2, hcp_k_2, hle_k_2, hal30_k_2, hpt_k_2, hus_k_2, h900_k_2, hcp1_k_2⟩ := hO.jk hk_3
    have ho31_k_2 : C 60 19 k_2 < 2 ^ 31 := by omega
    have hal31_k_2 : csN (C 60 13 k_2) (C 60 17 k_2) * C 60 18 k_2 < 2 ^ 31 := by omega
    have z_5 := o14 k_2
    have z_6 := o15 k_2
    have z_7 := o10 k_2
    have z_8 := o12 k_2
    have z_9 := (oJk k_2 hk_3).2.2.2.2.2.2
    refine s_if_eqN (pc := 6) S 21 dX7_reasonFor_6 (by decide) (by decide) (fun h => absurd h (by decide)) (fun _ => ?_)
    refine s_aload_n (pc := 9) S 0 dX7_reasonFor_9 rfl rfl ?_
    refine s_iload_n (pc := 10) S 2 dX7_reasonFor_10 rfl rfl ?_
    refine s_callV (pc := 11) S hz hml [.int y] (k_X7_isPrinter Z l A C y hp) (cwV 1 S.2.2.2.2 gX7_reasonFor_X7_isPrinter rfl rfl rfl (by decide +kernel) ⟨Nat.le_of_ble_eq_true rfl, Nat.le_of_ble_eq_true rfl⟩) (cc_mod (A := A) (C := C)) rfl rfl rfl (Nat.le_of_ble_eq_true rfl) dX7_reasonFor_11 ⟨Nat.le_of_ble_eq_true rfl, Nat.le_of_ble_eq_true rfl⟩ (fun _ _ _ h => h.elim) (fun v A2 C2 h_10 => ?_)
    rcases h_10 with ⟨rfl, rfl, ⟨k_11, hk_12, rfl, rfl⟩ | ⟨no_13, rfl⟩⟩
    · have z_14 : k_11 < 4 := by omega
      have z_15 := oTc k_11
      have z_16 := oB k_11
      have z_17 := oK k_11
      have z_18 := oS k_11
      have z_19 := o11 k_11
      refine s_if_eqN (pc := 14) S 21 dX7_reasonFor_14 (by decide) (by decide) (fun h => absurd h (by decide)) (fun _ => ?_)
      refine s_iconst (pc := 17) S (v := (nI 1)) dX7_reasonFor_17 (by decide) ?_
      refine s_goto (pc := 18) S 22 dX7_reasonFor_18 (by decide) ?_
      refine s_callV (pc := 22) S hz hml [.int (nI 1)] (k_X7_checked Z l A C 1 (by decide)) (cwV 1 S.2.2.2.2 gX7_reasonFor_X7_checked rfl rfl rfl (by decide +kernel) ⟨Nat.le_of_ble_eq_true rfl, Nat.le_of_ble_eq_true rfl⟩) (cc_mod (A := A) (C := C)) rfl rfl rfl (Nat.le_of_ble_eq_true rfl) dX7_reasonFor_22 ⟨Nat.le_of_ble_eq_true rfl, Nat.le_of_ble_eq_true rfl⟩ (fun _ _ _ h => h.elim) (fun v A2 C2 h_20 => ?_)
      obtain ⟨rfl, rfl, rfl⟩ := h_20
      refine s_if_leN (pc := 25) S 31 dX7_reasonFor_25 (by decide) (by decide) (fun _ => ?_) (fun h => absurd h (by decide))
      refine s_aload_n (pc := 31) S 0 dX7_reasonFor_31 rfl rfl ?_
      refine s_iload_n (pc := 32) S 1 dX7_reasonFor_32 rfl rfl ?_
      refine s_iload_n (pc := 33) S 2 dX7_reasonFor_33 rfl rfl ?_
      have hR := hO.rk hk_3 hk_12
      obtain ⟨rk, rp, rnt, rq, rw_, rY, rx, rd, rg, rg2, rcp, rcn, rb, rac, ru, rbk, rck, rQ, ro⟩ := id hR
      refine s_callV (pc := 34) S hz hml [.int (nI k_2), .int (nI k_11)] (k_X7_laysTrial Z l A (up3 C 60 100 27 0) k_2 k_11 rk rp rb ru) (cwV 2 S.2.2.2.2 gX7_reasonFor_X7_laysTrial rfl rfl rfl (by decide +kernel) ⟨Nat.le_of_ble_eq_true rfl, Nat.le_of_ble_eq_true rfl⟩) (cc_mod (A := A) (C := (up3 C 60 100 27 0))) rfl rfl rfl (Nat.le_of_ble_eq_true rfl) dX7_reasonFor_34 ⟨Nat.le_of_ble_eq_true rfl, Nat.le_of_ble_eq_true rfl⟩ (fun _ _ _ h => h.elim) (fun v A2 C2 h_21 => ?_)
      obtain ⟨rfl, rfl, rfl⟩ := h_21
      refine s_C (TrS_0 (up3 C 60 100 27 0) k_2 k_11).symm ?_
      refine s_aload_n (pc := 37) S 0 dX7_reasonFor_37 rfl rfl ?_
      refine s_iload_n (pc := 38) S 1 dX7_reasonFor_38 rfl rfl ?_
      refine s_iload_n (pc := 39) S 2 dX7_reasonFor_39 rfl rfl ?_
      refine s_aload_n (pc := 40) S 0 dX7_reasonFor_40 rfl rfl ?_
      refine s_get (pc := 41) S hz (ref := "SpoolFarmModel") (v := .ref (A 60 19)) (cc_mod (A := A) (C := (TrS (up3 C 60 100 27 0) k_2 k_11 0))) i_RX7 rfl 19 (Nat.le_of_ble_eq_true rfl) (by decide +kernel) (fun _ h => h) rfl dX7_reasonFor_41 ?_
      refine s_iload_n (pc := 44) S 1 dX7_reasonFor_44 rfl rfl ?_
      refine s_iald (pc := 45) S hz (x := C 60 19 k_2) (cc_row (A := A) (C := (TrS (up3 C 60 100 27 0) k_2 k_11 0)) (x := aN .int 40 ((TrS (up3 C 60 100 27 0) k_2 k_11 0) 60 19)) 19 (by decide) rfl) (by omega) (by omega) rfl dX7_reasonFor_45 ?_
      refine s_callV (pc := 46) S hz hml [.int (nI k_2), .int (nI k_11), .int (nI (C 60 19 k_2))] (k_X7_reasonT Z l A (up3 C 60 100 27 0) k_2 k_11 0 hR (TrI_0 (C := (up3 C 60 100 27 0)) ro)) (cwV 3 S.2.2.2.2 gX7_reasonFor_X7_reason rfl rfl rfl (by decide +kernel) ⟨Nat.le_of_ble_eq_true rfl, Nat.le_of_ble_eq_true rfl⟩) (cc_mod (A := A) (C := (TrS (up3 C 60 100 27 0) k_2 k_11 0))) rfl rfl rfl (Nat.le_of_ble_eq_true rfl) dX7_reasonFor_46 ⟨Nat.le_of_ble_eq_true rfl, Nat.le_of_ble_eq_true rfl⟩ (fun _ _ _ h => h.elim) (fun v A2 C2 h_22 => ?_)
      obtain ⟨rfl, rfl, rfl⟩ := h_22
      have z_23 := co_le C k_2 k_11 0
      refine s_top (u := .int (nI (coR C k_2 k_11 0))) rfl ?_
      exact s_zret (pc := 49) S hz hlo (nar_c (by omega)) hr ⟨rfl, Or.inl ⟨k_2, k_11, hk_3, rfl, hk_12, rfl, rfl, rfl⟩⟩ (Nat.le_of_ble_eq_true rfl) (Nat.le_of_ble_eq_true rfl) dX7_reasonFor_49
    · refine s_if_eqN (pc := 14) S 21 dX7_reasonFor_14 (by decide) (by decide) (fun _ => ?_) (fun h => absurd h (by decide))
      refine s_iconst (pc := 21) S (v := (nI 0)) dX7_reasonFor_21 (by decide) ?_
      refine s_callV (pc := 22) S hz hml [.int (nI 0)] (k_X7_checked Z l A C 0 (by decide)) (cwV 1 S.2.2.2.2 gX7_reasonFor_X7_checked rfl rfl rfl (by decide +kernel) ⟨Nat.le_of_ble_eq_true rfl, Nat.le_of_ble_eq_true rfl⟩) (cc_mod (A := A) (C := C)) rfl rfl rfl (Nat.le_of_ble_eq_true rfl) dX7_reasonFor_22 ⟨Nat.le_of_ble_eq_true rfl, Nat.le_of_ble_eq_true rfl⟩ (fun _ _ _ h => h.elim) (fun v A2 C2 h_24 => ?_)
      obtain ⟨rfl, rfl, rfl⟩ := h_24
      refine s_if_leN (pc := 25) S 31 dX7_reasonFor_25 (by decide) (by decide) (fun h => absurd h (by decide)) (fun _ => ?_)
      refine s_bipush (pc := 28) S (v := (nI 32)) dX7_reasonFor_28 (by decide) ?_
      exact s_zret (pc := 30) S hz hlo (nar_c (by omega)) hr ⟨rfl, Or.inr (Or.inl ⟨k_2, hk_3, rfl, no_13, rfl, rfl⟩)⟩ (Nat.le_of_ble_eq_true rfl) (Nat.le_of_ble_eq_true rfl) dX7_reasonFor_30
  · refine s_if_eqN (pc := 6) S 21 dX7_reasonFor_6 (by decide) (by decide) (fun _ => ?_) (fun h => absurd h (by decide))
    refine s_iconst (pc := 21) S (v := (nI 0)) dX7_reasonFor_21 (by decide) ?_
    refine s_callV (pc := 22) S hz hml [.int (nI 0)] (k_X7_checked Z l A C 0 (by decide)) (cwV 1 S.2.2.2.2 gX7_reasonFor_X7_checked rfl rfl rfl (by decide +kernel) ⟨Nat.le_of_ble_eq_true rfl, Nat.le_of_ble_eq_true rfl⟩) (cc_mod (A := A) (C := C)) rfl rfl rfl (Nat.le_of_ble_eq_true rfl) dX7_reasonFor_22 ⟨Nat.le_of_ble_eq_true rfl, Nat.le_of_ble_eq_true rfl⟩ (fun _ _ _ h => h.elim) (fun v A2 C2 h_25 => ?_)
    obtain ⟨rfl, rfl, rfl⟩ := h_25
    refine s_if_leN (pc := 25) S 31 dX7_reasonFor_25 (by decide) (by decide) (fun h => absurd h (by decide)) (fun _ => ?_)
    refine s_bipush (pc := 28) S (v := (nI 32)) dX7_reasonFor_28 (by decide) ?_
    exact s_zret (pc := 30) S hz hlo (nar_c (by omega)) hr ⟨rfl, Or.inr (Or.inr (⟨no_4, rfl, rfl⟩))⟩ (Nat.le_of_ble_eq_true rfl) (Nat.le_of_ble_eq_true rfl) dX7_reasonFor_30
set_option maxHeartbeats 4000000 in
set_option maxRecDepth 100000 in
theorem k_X7_wouldPrint (Z : Zp) (l : Launch) (A : AF) (C : CF) (x y : Int32) (hO : OkR C) : CtS Z l yX7_wouldPrint wsX7_wouldPrint ({ frames := 5, cells := 0, slots := 0, locals := 113 }) [.ref (A 60 100), .int x, .int y] A C 0 0 (fun v A2 C2 => A = A2 ∧ ((∃ k_2 k_11 : Nat, k_2 < C 60 100 30 ∧ nI k_2 = x ∧ k_11 < C 60 100 29 ∧ nI k_11 = y ∧ Sc (up3 C 60 100 27 0) C2 ∧ some (.int (nI (pgR C k_2 k_11))) = v) ∨ (∃ k_2 : Nat, k_2 < C 60 100 30 ∧ nI k_2 = x ∧ (∀ k : Nat, k < C 60 100 29 → nI k ≠ y) ∧ (up3 C 60 100 27 1) = C2 ∧ some (.int (nI 0)) = v) ∨ ((∀ k : Nat, k < C 60 100 30 → nI k ≠ x) ∧ (up3 C 60 100 27 1) = C2 ∧ some (.int (nI 0)) = v))) (fun _ _ _ => False) := by
  refine CtS.of (cc0 := cX7_wouldPrint) (maxL := 3) (ret := (some .int)) (by decide) rfl (Nat.le_of_ble_eq_true rfl) ?_
  intro M0_ p_ e_ s_ m_ args_ below_ meth_ c_ S hz hml hex hlo hr hin
  refine s_loc (L2 := [(0, .ref (A 60 100)), (1, .int x), (2, .int y)]) rfl ?_
  obtain ⟨oU, oP, oJ, oTc, oY, o8, o9, o10, o11, o12, o13, o14, o15, oX, oQ, oB, oK, oS, oJk, oM, oCo, oSh, oLg, oPo, oLl, oL2, oL3, oL4, oLle, oE1, oE2, oE3, oE4⟩ := id hO
  have hu : C 60 100 28 < 2 ^ 30 := by omega
  have hp : C 60 100 29 < 2 ^ 30 := by omega
  have hj : C 60 100 30 < 2 ^ 30 := by omega
  have hlg : C 60 100 31 < 2 ^ 30 := by omega
  have hp4 := oP
  have htc := oTc
  refine s_aload_n (pc := 0) S 0 dX7_wouldPrint_0 rfl rfl ?_
  refine s_aload_n (pc := 1) S 0 dX7_wouldPrint_1 rfl rfl ?_
  refine s_iload_n (pc := 2) S 1 dX7_wouldPrint_2 rfl rfl ?_
  refine s_callV (pc := 3) S hz hml [.int x] (k_X7_isJob Z l A C x hj) (cwV 1 S.2.2.2.2 gX7_wouldPrint_X7_isJob rfl rfl rfl (by decide +kernel) ⟨Nat.le_of_ble_eq_true rfl, Nat.le_of_ble_eq_true rfl⟩) (cc_mod (A := A) (C := C)) rfl rfl rfl (Nat.le_of_ble_eq_true rfl) dX7_wouldPrint_3 ⟨Nat.le_of_ble_eq_true rfl, Nat.le_of_ble_eq_true rfl⟩ (fun _ _ _ h => h.elim) (fun v A2 C2 h_1 => ?_)
  rcases h_1 with ⟨rfl, rfl, ⟨k_2, hk_3, rfl, rfl⟩ | ⟨no_4, rfl⟩⟩
  · obtain ⟨hk_k_2, hd_k_2, hg_k_2, hg2_k_2, hcp_k_2, hle_k_2, hal30_k_2, hpt_k_2, hus_k_2, h900_k_2, hcp1_k_2⟩ := hO.jk hk_3
    have ho31_k_2 : C 60 19 k_2 < 2 ^ 31 := by omega
    have hal31_k_2 : csN (C 60 13 k_2) (C 60 17 k_2) * C 60 18 k_2 < 2 ^ 31 := by omega
    have z_5 := o14 k_2
    have z_6 := o15 k_2
    have z_7 := o10 k_2
    have z_8 := o12 k_2
    have z_9 := (oJk k_2 hk_3).2.2.2.2.2.2
    refine s_if_eqN (pc := 6) S 21 dX7_wouldPrint_6 (by decide) (by decide) (fun h => absurd h (by decide)) (fun _ => ?_)
    refine s_aload_n (pc := 9) S 0 dX7_wouldPrint_9 rfl rfl ?_
    refine s_iload_n (pc := 10) S 2 dX7_wouldPrint_10 rfl rfl ?_
    refine s_callV (pc := 11) S hz hml [.int y] (k_X7_isPrinter Z l A C y hp) (cwV 1 S.2.2.2.2 gX7_wouldPrint_X7_isPrinter rfl rfl rfl (by decide +kernel) ⟨Nat.le_of_ble_eq_true rfl, Nat.le_of_ble_eq_true rfl⟩) (cc_mod (A := A) (C := C)) rfl rfl rfl (Nat.le_of_ble_eq_true rfl) dX7_wouldPrint_11 ⟨Nat.le_of_ble_eq_true rfl, Nat.le_of_ble_eq_true rfl⟩ (fun _ _ _ h => h.elim) (fun v A2 C2 h_10 => ?_)
    rcases h_10 with ⟨rfl, rfl, ⟨k_11, hk_12, rfl, rfl⟩ | ⟨no_13, rfl⟩⟩
    · have z_14 : k_11 < 4 := by omega
      have z_15 := oTc k_11
      have z_16 := oB k_11
      have z_17 := oK k_11
      have z_18 := oS k_11
      have z_19 := o11 k_11
      refine s_if_eqN (pc := 14) S 21 dX7_wouldPrint_14 (by decide) (by decide) (fun h => absurd h (by decide)) (fun _ => ?_)
      refine s_iconst (pc := 17) S (v := (nI 1)) dX7_wouldPrint_17 (by decide) ?_
      refine s_goto (pc := 18) S 22 dX7_wouldPrint_18 (by decide) ?_
      refine s_callV (pc := 22) S hz hml [.int (nI 1)] (k_X7_checked Z l A C 1 (by decide)) (cwV 1 S.2.2.2.2 gX7_wouldPrint_X7_checked rfl rfl rfl (by decide +kernel) ⟨Nat.le_of_ble_eq_true rfl, Nat.le_of_ble_eq_true rfl⟩) (cc_mod (A := A) (C := C)) rfl rfl rfl (Nat.le_of_ble_eq_true rfl) dX7_wouldPrint_22 ⟨Nat.le_of_ble_eq_true rfl, Nat.le_of_ble_eq_true rfl⟩ (fun _ _ _ h => h.elim) (fun v A2 C2 h_20 => ?_)
      obtain ⟨rfl, rfl, rfl⟩ := h_20
      refine s_if_leN (pc := 25) S 32 dX7_wouldPrint_25 (by decide) (by decide) (fun _ => ?_) (fun h => absurd h (by decide))
      refine s_aload_n (pc := 32) S 0 dX7_wouldPrint_32 rfl rfl ?_
      refine s_iload_n (pc := 33) S 1 dX7_wouldPrint_33 rfl rfl ?_
      refine s_iload_n (pc := 34) S 2 dX7_wouldPrint_34 rfl rfl ?_
      refine s_callV (pc := 35) S hz hml [.int (nI k_2), .int (nI k_11)] (k_X7_pagesAt Z l A (up3 C 60 100 27 0) k_2 k_11 (up3 C 60 100 27 0) (hO.rk hk_3 hk_12) (Sc.refl oX)) (cwV 2 S.2.2.2.2 gX7_wouldPrint_X7_pagesAt rfl rfl rfl (by decide +kernel) ⟨Nat.le_of_ble_eq_true rfl, Nat.le_of_ble_eq_true rfl⟩) (cc_mod (A := A) (C := (up3 C 60 100 27 0))) rfl rfl rfl (Nat.le_of_ble_eq_true rfl) dX7_wouldPrint_35 ⟨Nat.le_of_ble_eq_true rfl, Nat.le_of_ble_eq_true rfl⟩ (fun _ _ _ h => h.elim) (fun v A2 C2 h_21 => ?_)
      obtain ⟨rfl, hs_22, rfl⟩ := h_21
      obtain ⟨x_23, x_24, x_25, b_26, c_27, q_28, rfl, hx_29, hx_30, hx_31⟩ := hs_22
      have z_32 : pgR C k_2 k_11 ≤ 900 := pgR_le (hO.rk hk_3 hk_12)
      refine s_top (u := .int (nI (pgR C k_2 k_11))) rfl ?_
      exact s_iret (pc := 38) S hz hlo hr ⟨rfl, Or.inl ⟨k_2, k_11, hk_3, rfl, hk_12, rfl, ⟨x_23, x_24, x_25, b_26, c_27, q_28, rfl, hx_29, hx_30, hx_31⟩, rfl⟩⟩ (Nat.le_of_ble_eq_true rfl) (Nat.le_of_ble_eq_true rfl) dX7_wouldPrint_38
    · refine s_if_eqN (pc := 14) S 21 dX7_wouldPrint_14 (by decide) (by decide) (fun _ => ?_) (fun h => absurd h (by decide))
      refine s_iconst (pc := 21) S (v := (nI 0)) dX7_wouldPrint_21 (by decide) ?_
      refine s_callV (pc := 22) S hz hml [.int (nI 0)] (k_X7_checked Z l A C 0 (by decide)) (cwV 1 S.2.2.2.2 gX7_wouldPrint_X7_checked rfl rfl rfl (by decide +kernel) ⟨Nat.le_of_ble_eq_true rfl, Nat.le_of_ble_eq_true rfl⟩) (cc_mod (A := A) (C := C)) rfl rfl rfl (Nat.le_of_ble_eq_true rfl) dX7_wouldPrint_22 ⟨Nat.le_of_ble_eq_true rfl, Nat.le_of_ble_eq_true rfl⟩ (fun _ _ _ h => h.elim) (fun v A2 C2 h_33 => ?_)
      obtain ⟨rfl, rfl, rfl⟩ := h_33
      refine s_if_leN (pc := 25) S 32 dX7_wouldPrint_25 (by decide) (by decide) (fun h => absurd h (by decide)) (fun _ => ?_)
      refine s_iconst (pc := 28) S (v := (nI 0)) dX7_wouldPrint_28 (by decide) ?_
      refine s_goto (pc := 29) S 38 dX7_wouldPrint_29 (by decide) ?_
      exact s_iret (pc := 38) S hz hlo hr ⟨rfl, Or.inr (Or.inl ⟨k_2, hk_3, rfl, no_13, rfl, rfl⟩)⟩ (Nat.le_of_ble_eq_true rfl) (Nat.le_of_ble_eq_true rfl) dX7_wouldPrint_38
  · refine s_if_eqN (pc := 6) S 21 dX7_wouldPrint_6 (by decide) (by decide) (fun _ => ?_) (fun h => absurd h (by decide))
    refine s_iconst (pc := 21) S (v := (nI 0)) dX7_wouldPrint_21 (by decide) ?_
    refine s_callV (pc := 22) S hz hml [.int (nI 0)] (k_X7_checked Z l A C 0 (by decide)) (cwV 1 S.2.2.2.2 gX7_wouldPrint_X7_checked rfl rfl rfl (by decide +kernel) ⟨Nat.le_of_ble_eq_true rfl, Nat.le_of_ble_eq_true rfl⟩) (cc_mod (A := A) (C := C)) rfl rfl rfl (Nat.le_of_ble_eq_true rfl) dX7_wouldPrint_22 ⟨Nat.le_of_ble_eq_true rfl, Nat.le_of_ble_eq_true rfl⟩ (fun _ _ _ h => h.elim) (fun v A2 C2 h_34 => ?_)
    obtain ⟨rfl, rfl, rfl⟩ := h_34
    refine s_if_leN (pc := 25) S 32 dX7_wouldPrint_25 (by decide) (by decide) (fun h => absurd h (by decide)) (fun _ => ?_)
    refine s_iconst (pc := 28) S (v := (nI 0)) dX7_wouldPrint_28 (by decide) ?_
    refine s_goto (pc := 29) S 38 dX7_wouldPrint_29 (by decide) ?_
    exact s_iret (pc := 38) S hz hlo hr ⟨rfl, Or.inr (Or.inr (⟨no_4, rfl, rfl⟩))⟩ (Nat.le_of_ble_eq_true rfl) (Nat.le_of_ble_eq_true rfl) dX7_wouldPrint_38
set_option maxHeartbeats 4000000 in
set_option maxRecDepth 100000 in
theorem k_X7_queued (Z : Zp) (l : Launch) (A : AF) (C : CF) (p : Nat) (C1 : CF) (hO : OkR C1) (hp : p < C1 60 100 29) (hs : Sc C1 C) : CtS Z l yX7_queued wsX7_queued ({ frames := 5, cells := 0, slots := 0, locals := 114 }) [.ref (A 60 100), .int (nI p)] A C 0 0 (fun v A2 C2 => A = A2 ∧ Sc C1 C2 ∧ some (.int (nI (qdR C1 p (C1 60 100 30)))) = v) (fun _ _ _ => False) := by
  refine CtS.of (cc0 := cX7_queued) (maxL := 4) (ret := (some .int)) (by decide) rfl (Nat.le_of_ble_eq_true rfl) ?_
  intro M0_ p_ e_ s_ m_ args_ below_ meth_ c_ S hz hml hex hlo hr hin
  refine s_loc (L2 := [(0, .ref (A 60 100)), (1, .int (nI p))]) rfl ?_
  have i_RX7 : ∀ w ∈ u_ws RX7 TX7 38, w ∈ wsX7_queued := by decide +kernel
  obtain ⟨oU, oP, oJ, oTc, oY, o8, o9, o10, o11, o12, o13, o14, o15, oX, oQ, oB, oK, oS, oJk, oM, oCo, oSh, oLg, oPo, oLl, oL2, oL3, oL4, oLle, oE1, oE2, oE3, oE4⟩ := id hO
  obtain ⟨x0, x1, x2, b0, c0, q0, rfl, hx0, hx1, hx2⟩ := id hs
  refine s_iconst (pc := 0) S (v := (nI 0)) dX7_queued_0 (by decide) ?_
  refine s_istore_n (pc := 1) S [(2, .int (nI 0)), (0, .ref (A 60 100)), (1, .int (nI p))] dX7_queued_1 rfl (by decide) rfl ?_
  refine s_iconst (pc := 2) S (v := (nI 0)) dX7_queued_2 (by decide) ?_
  refine s_istore_n (pc := 3) S [(3, .int (nI 0)), (2, .int (nI 0)), (0, .ref (A 60 100)), (1, .int (nI p))] dX7_queued_3 rfl (by decide) rfl ?_
  refine s_perm [0, 1, 2, 3] [(3, .int (nI 0)), (2, .int (nI 0)), (0, .ref (A 60 100)), (1, .int (nI p))] rfl ?_
  refine s_loop (σ := Nat × CF) (fun y => Sc C1 y.2 ∧ y.1 ≤ C1 60 100 30) (fun y => C1 60 100 30 - y.1) (fun _ => A) (fun y => y.2) (fun y => [(3, .int (nI (y.1))), (2, .int (nI (qdR C1 p y.1))), (0, .ref (A 60 100)), (1, .int (nI p))]) (0, S6 C1 x0 x1 x2 b0 c0 q0) ⟨hs, Nat.zero_le _⟩ rfl rfl rfl ?_
  intro y hI ih
  obtain ⟨j, Cj⟩ := y
  obtain ⟨hs2, hjl⟩ := hI
  dsimp only at hs2 hjl ih ⊢
  obtain ⟨x_1, x_2, x_3, b_4, c_5, q_6, rfl, hx_7, hx_8, hx_9⟩ := (id hs2)
  have hqd := qdR_le C1 p j
  refine s_iload_n (pc := 4) S 0 dX7_queued_4 rfl rfl ?_
  refine s_aload_n (pc := 5) S 2 dX7_queued_5 rfl rfl ?_
  refine s_get (pc := 6) S hz (ref := "SpoolFarmModel") (v := .int (nI (C1 60 100 30))) (cc_mod (A := A) (C := (S6 C1 x_1 x_2 x_3 b_4 c_5 q_6))) i_RX7 rfl 30 (Nat.le_of_ble_eq_true rfl) (by decide +kernel) (fun _ h => h) rfl dX7_queued_6 ?_
  refine s_icmp_geN (pc := 9) S 35 dX7_queued_9 (by decide) (by omega) (by omega) (fun c_10 => ?_) (fun c_10 => ?_)
  · refine s_iload_n (pc := 35) S 1 dX7_queued_35 rfl rfl ?_
    obtain rfl : j = C1 60 100 30 := by omega
    exact s_iret (pc := 36) S hz hlo hr ⟨rfl, ⟨x_1, x_2, x_3, b_4, c_5, q_6, rfl, hx_7, hx_8, hx_9⟩, rfl⟩ (Nat.le_of_ble_eq_true rfl) (Nat.le_of_ble_eq_true rfl) dX7_queued_36
  · refine s_iload_n (pc := 12) S 1 dX7_queued_12 rfl rfl ?_
    refine s_aload_n (pc := 13) S 2 dX7_queued_13 rfl rfl ?_
    refine s_iload_n (pc := 14) S 0 dX7_queued_14 rfl rfl ?_
    refine s_iload_n (pc := 15) S 3 dX7_queued_15 rfl rfl ?_
    have hjk : j < C1 60 100 30 := by omega
    refine s_callV (pc := 16) S hz hml [.int (nI j), .int (nI p)] (k_X7_rank Z l A (S6 C1 x_1 x_2 x_3 b_4 c_5 q_6) j p C1 (hO.rk hjk hp) ⟨x_1, x_2, x_3, b_4, c_5, q_6, rfl, hx_7, hx_8, hx_9⟩) (cwV 2 S.2.2.2.2 gX7_queued_X7_rank rfl rfl rfl (by decide +kernel) ⟨Nat.le_of_ble_eq_true rfl, Nat.le_of_ble_eq_true rfl⟩) (cc_mod (A := A) (C := (S6 C1 x_1 x_2 x_3 b_4 c_5 q_6))) rfl rfl rfl (Nat.le_of_ble_eq_true rfl) dX7_queued_16 ⟨Nat.le_of_ble_eq_true rfl, Nat.le_of_ble_eq_true rfl⟩ (fun _ _ _ h => h.elim) (fun v A2 C2 h_11 => ?_)
    obtain ⟨rfl, hs_12, rfl⟩ := h_11
    obtain ⟨x_13, x_14, x_15, b_16, c_17, q_18, rfl, hx_19, hx_20, hx_21⟩ := hs_12
    have z_22 : rkR C1 j p ≤ 2 := rkR_le _ _ _
    refine s_top (u := .int (nI (rkR C1 j p))) rfl ?_
    refine s_if_leN (pc := 19) S 26 dX7_queued_19 (by decide) (by omega) (fun c_23 => ?_) (fun c_23 => ?_)
    · refine s_iconst (pc := 26) S (v := (nI 0)) dX7_queued_26 (by decide) ?_
      refine s_iaddN (pc := 27) S dX7_queued_27 ?_
      refine s_istore_n (pc := 28) S [(2, .int (nI ((qdR C1 p j) + 0))), (3, .int (nI j)), (0, .ref (A 60 100)), (1, .int (nI p))] dX7_queued_28 rfl (by decide) rfl ?_
      refine s_iinc (pc := 29) S 1 [(3, .int (nI (j + 1))), (2, .int (nI ((qdR C1 p j) + 0))), (0, .ref (A 60 100)), (1, .int (nI p))] dX7_queued_29 rfl (nI_add _ 1) (by decide) rfl ?_
      refine s_goto (pc := 32) S 4 dX7_queued_32 (by decide) ?_
      refine s_perm [0, 1, 2, 3] [(3, .int (nI (j + 1))), (2, .int (nI ((qdR C1 p j) + 0))), (0, .ref (A 60 100)), (1, .int (nI p))] rfl ?_
      refine s_loc (L2 := [(3, .int (nI (j + 1))), (2, .int (nI (qdR C1 p (j + 1)))), (0, .ref (A 60 100)), (1, .int (nI p))]) (by rw [qdR_0 c_23]) ?_
      exact ih (j + 1, (S6 C1 x_13 x_14 x_15 b_16 c_17 q_18)) ⟨⟨x_13, x_14, x_15, b_16, c_17, q_18, rfl, hx_19, hx_20, hx_21⟩, by dsimp only; omega⟩ (by dsimp only; omega)
    · refine s_iconst (pc := 22) S (v := (nI 1)) dX7_queued_22 (by decide) ?_
      refine s_goto (pc := 23) S 27 dX7_queued_23 (by decide) ?_
      refine s_iaddN (pc := 27) S dX7_queued_27 ?_
      refine s_istore_n (pc := 28) S [(2, .int (nI ((qdR C1 p j) + 1))), (3, .int (nI j)), (0, .ref (A 60 100)), (1, .int (nI p))] dX7_queued_28 rfl (by decide) rfl ?_
      refine s_iinc (pc := 29) S 1 [(3, .int (nI (j + 1))), (2, .int (nI ((qdR C1 p j) + 1))), (0, .ref (A 60 100)), (1, .int (nI p))] dX7_queued_29 rfl (nI_add _ 1) (by decide) rfl ?_
      refine s_goto (pc := 32) S 4 dX7_queued_32 (by decide) ?_
      refine s_perm [0, 1, 2, 3] [(3, .int (nI (j + 1))), (2, .int (nI ((qdR C1 p j) + 1))), (0, .ref (A 60 100)), (1, .int (nI p))] rfl ?_
      refine s_loc (L2 := [(3, .int (nI (j + 1))), (2, .int (nI (qdR C1 p (j + 1)))), (0, .ref (A 60 100)), (1, .int (nI p))]) (by rw [qdR_1 c_23]) ?_
      exact ih (j + 1, (S6 C1 x_13 x_14 x_15 b_16 c_17 q_18)) ⟨⟨x_13, x_14, x_15, b_16, c_17, q_18, rfl, hx_19, hx_20, hx_21⟩, by dsimp only; omega⟩ (by dsimp only; omega)
