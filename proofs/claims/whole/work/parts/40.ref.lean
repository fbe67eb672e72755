set_option maxHeartbeats 4000000 in
set_option maxRecDepth 100000 in
theorem k_X7_release (Z : Zp) (l : Launch) (A : AF) (C : CF) (x y : Int32) (hO : OkR C) (mc ms : Nat) (hG : LgOk C) (hm : ∀ k p : Nat, nI k = x → nI p = y → k < C 60 100 30 → p < C 60 100 29 → rC C k p ≤ mc ∧ rS C k p ≤ ms) : CtS Z l yX7_release wsX7_release ({ frames := 5, cells := mc, slots := ms, locals := 117 }) [.ref (A 60 100), .int x, .int y] A C mc ms (fun v A2 C2 => ∃ b : Nat → Nat, AG A b = A2 ∧ ((∃ k_2 k_11 : Nat, k_2 < C 60 100 30 ∧ nI k_2 = x ∧ k_11 < C 60 100 29 ∧ nI k_11 = y ∧ ¬ pgR C k_2 k_11 = 0 ∧ (rlR (up3 C 60 100 27 0) k_2 k_11) = C2 ∧ some (.int (nI (pgR C k_2 k_11))) = v) ∨ (∃ k_2 k_11 : Nat, k_2 < C 60 100 30 ∧ nI k_2 = x ∧ k_11 < C 60 100 29 ∧ nI k_11 = y ∧ pgR C k_2 k_11 = 0 ∧ Sc (up3 C 60 100 27 2) C2 ∧ some (.int (nI 0)) = v) ∨ (∃ k_2 : Nat, k_2 < C 60 100 30 ∧ nI k_2 = x ∧ (∀ k : Nat, k < C 60 100 29 → nI k ≠ y) ∧ (up3 C 60 100 27 1) = C2 ∧ some (.int (nI 0)) = v) ∨ ((∀ k : Nat, k < C 60 100 30 → nI k ≠ x) ∧ (up3 C 60 100 27 1) = C2 ∧ some (.int (nI 0)) = v))) (fun _ _ _ => False) := by
  refine CtS.of (cc0 := cX7_release) (maxL := 3) (ret := (some .int)) (by decide) rfl (Nat.le_of_ble_eq_true rfl) ?_
  intro M0_ p_ e_ s_ m_ args_ below_ meth_ c_ S hz hml hex hlo hr hin
  refine s_loc (L2 := [(0, .ref (A 60 100)), (1, .int x), (2, .int y)]) rfl ?_
  have i_RX7 : ∀ w ∈ u_ws RX7 TX7 38, w ∈ wsX7_release := by decide +kernel
  obtain ⟨oU, oP, oJ, oTc, oY, o8, o9, o10, o11, o12, o13, o14, o15, oX, oQ, oB, oK, oS, oJk, oM, oCo, oSh, oLg, oPo, oLl, oL2, oL3, oL4, oLle, oE1, oE2, oE3, oE4⟩ := id hO
  have hu : C 60 100 28 < 2 ^ 30 := by omega
  have hp : C 60 100 29 < 2 ^ 30 := by omega
  have hj : C 60 100 30 < 2 ^ 30 := by omega
  have hlg : C 60 100 31 < 2 ^ 30 := by omega
  have hp4 := oP
  have htc := oTc
  refine s_aload_n (pc := 0) S 0 dX7_release_0 rfl rfl ?_
  refine s_aload_n (pc := 1) S 0 dX7_release_1 rfl rfl ?_
  refine s_iload_n (pc := 2) S 1 dX7_release_2 rfl rfl ?_
  refine s_callV (pc := 3) S hz hml [.int x] (k_X7_isJob Z l A C x hj) (cwV 1 S.2.2.2.2 gX7_release_X7_isJob rfl rfl rfl (by decide +kernel) ⟨Nat.le_of_ble_eq_true rfl, Nat.le_of_ble_eq_true rfl⟩) (cc_mod (A := A) (C := C)) rfl rfl rfl (Nat.le_of_ble_eq_true rfl) dX7_release_3 ⟨Nat.le_of_ble_eq_true rfl, Nat.le_of_ble_eq_true rfl⟩ (fun _ _ _ h => h.elim) (fun v A2 C2 h_1 => ?_)
  rcases h_1 with ⟨rfl, rfl, ⟨k_2, hk_3, rfl, rfl⟩ | ⟨no_4, rfl⟩⟩
  · obtain ⟨hk_k_2, hd_k_2, hg_k_2, hg2_k_2, hcp_k_2, hle_k_2, hal30_k_2, hpt_k_2, hus_k_2, h900_k_2, hcp1_k_2⟩ := hO.jk hk_3
    have ho31_k_2 : C 60 19 k_2 < 2 ^ 31 := by omega
    have hal31_k_2 : csN (C 60 13 k_2) (C 60 17 k_2) * C 60 18 k_2 < 2 ^ 31 := by omega
    have z_5 := o14 k_2
    have z_6 := o15 k_2
    have z_7 := o10 k_2
    have z_8 := o12 k_2
    have z_9 := (oJk k_2 hk_3).2.2.2.2.2.2
    refine s_if_eqN (pc := 6) S 17 dX7_release_6 (by decide) (by decide) (fun h => absurd h (by decide)) (fun _ => ?_)
    refine s_aload_n (pc := 9) S 0 dX7_release_9 rfl rfl ?_
    refine s_iload_n (pc := 10) S 2 dX7_release_10 rfl rfl ?_
    refine s_callV (pc := 11) S hz hml [.int y] (k_X7_isPrinter Z l A C y hp) (cwV 1 S.2.2.2.2 gX7_release_X7_isPrinter rfl rfl rfl (by decide +kernel) ⟨Nat.le_of_ble_eq_true rfl, Nat.le_of_ble_eq_true rfl⟩) (cc_mod (A := A) (C := C)) rfl rfl rfl (Nat.le_of_ble_eq_true rfl) dX7_release_11 ⟨Nat.le_of_ble_eq_true rfl, Nat.le_of_ble_eq_true rfl⟩ (fun _ _ _ h => h.elim) (fun v A2 C2 h_10 => ?_)
    rcases h_10 with ⟨rfl, rfl, ⟨k_11, hk_12, rfl, rfl⟩ | ⟨no_13, rfl⟩⟩
    · have z_14 : k_11 < 4 := by omega
      have z_15 := oTc k_11
      have z_16 := oB k_11
      have z_17 := oK k_11
      have z_18 := oS k_11
      have z_19 := o11 k_11
      refine s_if_neN (pc := 14) S 21 dX7_release_14 (by decide) (by decide) (fun _ => ?_) (fun h => absurd h (by decide))
      refine s_aload_n (pc := 21) S 0 dX7_release_21 rfl rfl ?_
      refine s_iload_n (pc := 22) S 1 dX7_release_22 rfl rfl ?_
      refine s_iload_n (pc := 23) S 2 dX7_release_23 rfl rfl ?_
      refine s_callV (pc := 24) S hz hml [.int (nI k_2), .int (nI k_11)] (k_X7_pagesAt Z l A C k_2 k_11 C (hO.rk hk_3 hk_12) (Sc.refl oX)) (cwV 2 S.2.2.2.2 gX7_release_X7_pagesAt rfl rfl rfl (by decide +kernel) ⟨Nat.le_of_ble_eq_true rfl, Nat.le_of_ble_eq_true rfl⟩) (cc_mod (A := A) (C := C)) rfl rfl rfl (Nat.le_of_ble_eq_true rfl) dX7_release_24 ⟨Nat.le_of_ble_eq_true rfl, Nat.le_of_ble_eq_true rfl⟩ (fun _ _ _ h => h.elim) (fun v A2 C2 h_20 => ?_)
      obtain ⟨rfl, hs_21, rfl⟩ := h_20
      obtain ⟨x_22, x_23, x_24, b_25, c_26, q_27, rfl, hx_28, hx_29, hx_30⟩ := hs_21
      have z_31 : pgR C k_2 k_11 ≤ 900 := pgR_le (hO.rk hk_3 hk_12)
      refine s_top (u := .int (nI (pgR C k_2 k_11))) rfl ?_
      refine s_if_neN (pc := 27) S 34 dX7_release_27 (by decide) (by omega) (fun c_32 => ?_) (fun c_32 => ?_)
      · refine s_iconst (pc := 34) S (v := (nI 0)) dX7_release_34 (by decide) ?_
        refine s_put (pc := 35) S hz (ref := "SpoolFarmModel") (ty := .int) (cc_mod (A := A) (C := (S6 C x_22 x_23 x_24 b_25 c_26 q_27))) i_RX7 tyX7 tyX7_ok nmX7 rfl 27 (Nat.le_of_ble_eq_true rfl) (by decide +kernel) (fun _ h => h) rfl (by decide +kernel) rfl rfl (Nat.le_of_ble_eq_true rfl) (up3 (S6 C x_22 x_23 x_24 b_25 c_26 q_27) 60 100 27 0) cu_mod (by rw [(cc_mod (A := A) (C := (up3 (S6 C x_22 x_23 x_24 b_25 c_26 q_27) 60 100 27 0))), up3_u]; rfl) dX7_release_35 ?_
        refine s_aload_n (pc := 38) S 0 dX7_release_38 rfl rfl ?_
        refine s_get (pc := 39) S hz (ref := "SpoolFarmModel") (v := .int (nI 0)) (cc_mod (A := A) (C := (up3 (S6 C x_22 x_23 x_24 b_25 c_26 q_27) 60 100 27 0))) i_RX7 rfl 27 (Nat.le_of_ble_eq_true rfl) (by decide +kernel) (fun _ h => h) rfl dX7_release_39 ?_
        refine s_if_leN (pc := 42) S 49 dX7_release_42 (by decide) (by decide) (fun _ => ?_) (fun h => absurd h (by decide))
        refine s_aload_n (pc := 49) S 0 dX7_release_49 rfl rfl ?_
        refine s_iload_n (pc := 50) S 1 dX7_release_50 rfl rfl ?_
        refine s_iload_n (pc := 51) S 2 dX7_release_51 rfl rfl ?_
        refine s_callV (pc := 52) S hz hml [.int (nI k_2), .int (nI k_11)] (k_X7_releases Z l A (up3 (S6 C x_22 x_23 x_24 b_25 c_26 q_27) 60 100 27 0) k_2 k_11 (OkR.sc (hO.th 0) ⟨x_22, x_23, x_24, b_25, c_26, q_27, S6_th _ _ _ _ _ _ _ _, hx_28, hx_29, hx_30⟩) (LgOk.sc (hG.th 0) ⟨x_22, x_23, x_24, b_25, c_26, q_27, S6_th _ _ _ _ _ _ _ _, hx_28, hx_29, hx_30⟩) hk_3 hk_12) (cwV 2 S.2.2.2.2 gX7_release_X7_releases rfl rfl rfl (by decide +kernel) ⟨Nat.le_of_ble_eq_true rfl, Nat.le_of_ble_eq_true rfl⟩) (cc_mod (A := A) (C := (up3 (S6 C x_22 x_23 x_24 b_25 c_26 q_27) 60 100 27 0))) rfl rfl rfl (Nat.le_of_ble_eq_true rfl) dX7_release_52 ⟨Nat.le_trans (Nat.le_of_eq (Nat.zero_add _)) (hm k_2 k_11 rfl rfl hk_3 hk_12).1, Nat.le_trans (Nat.le_of_eq (Nat.zero_add _)) (hm k_2 k_11 rfl rfl hk_3 hk_12).2⟩ (fun _ _ _ h => h.elim) (fun v A2 C2 h_33 => ?_)
        obtain ⟨b_34, rfl, rfl, rfl⟩ := h_33
        refine s_C (C2 := rlR (up3 C 60 100 27 0) k_2 k_11) (Sc.rl (C := (up3 C 60 100 27 0)) ⟨x_22, x_23, x_24, b_25, c_26, q_27, S6_th _ _ _ _ _ _ _ _, hx_28, hx_29, hx_30⟩).symm ?_
        refine s_top (u := .int (nI (pgR C k_2 k_11))) rfl ?_
        refine s_loc (L2 := [(0, .ref ((AG A b_34) 60 100)), (1, .int (nI k_2)), (2, .int (nI k_11))]) rfl ?_
        exact s_iret (pc := 55) S hz hlo hr ⟨b_34, rfl, Or.inl ⟨k_2, k_11, hk_3, rfl, hk_12, rfl, c_32, rfl, rfl⟩⟩ (Nat.le_trans (Nat.le_of_eq (Nat.zero_add _)) (hm k_2 k_11 rfl rfl hk_3 hk_12).1) (Nat.le_trans (Nat.le_of_eq (Nat.zero_add _)) (hm k_2 k_11 rfl rfl hk_3 hk_12).2) dX7_release_55
      · refine s_iconst (pc := 30) S (v := (nI 2)) dX7_release_30 (by decide) ?_
        refine s_goto (pc := 31) S 35 dX7_release_31 (by decide) ?_
        refine s_put (pc := 35) S hz (ref := "SpoolFarmModel") (ty := .int) (cc_mod (A := A) (C := (S6 C x_22 x_23 x_24 b_25 c_26 q_27))) i_RX7 tyX7 tyX7_ok nmX7 rfl 27 (Nat.le_of_ble_eq_true rfl) (by decide +kernel) (fun _ h => h) rfl (by decide +kernel) rfl rfl (Nat.le_of_ble_eq_true rfl) (up3 (S6 C x_22 x_23 x_24 b_25 c_26 q_27) 60 100 27 2) cu_mod (by rw [(cc_mod (A := A) (C := (up3 (S6 C x_22 x_23 x_24 b_25 c_26 q_27) 60 100 27 2))), up3_u]; rfl) dX7_release_35 ?_
        refine s_aload_n (pc := 38) S 0 dX7_release_38 rfl rfl ?_
        refine s_get (pc := 39) S hz (ref := "SpoolFarmModel") (v := .int (nI 2)) (cc_mod (A := A) (C := (up3 (S6 C x_22 x_23 x_24 b_25 c_26 q_27) 60 100 27 2))) i_RX7 rfl 27 (Nat.le_of_ble_eq_true rfl) (by decide +kernel) (fun _ h => h) rfl dX7_release_39 ?_
        refine s_if_leN (pc := 42) S 49 dX7_release_42 (by decide) (by decide) (fun h => absurd h (by decide)) (fun _ => ?_)
        refine s_iconst (pc := 45) S (v := (nI 0)) dX7_release_45 (by decide) ?_
        refine s_goto (pc := 46) S 55 dX7_release_46 (by decide) ?_
        exact s_iret (pc := 55) S hz hlo hr ⟨A 60, AG_self A, Or.inr (Or.inl ⟨k_2, k_11, hk_3, rfl, hk_12, rfl, c_32, ⟨x_22, x_23, x_24, b_25, c_26, q_27, S6_th _ _ _ _ _ _ _ _, hx_28, hx_29, hx_30⟩, rfl⟩)⟩ (Nat.zero_le _) (Nat.zero_le _) dX7_release_55
    · refine s_if_neN (pc := 14) S 21 dX7_release_14 (by decide) (by decide) (fun h => absurd h (by decide)) (fun _ => ?_)
      refine s_iconst (pc := 17) S (v := (nI 1)) dX7_release_17 (by decide) ?_
      refine s_goto (pc := 18) S 35 dX7_release_18 (by decide) ?_
      refine s_put (pc := 35) S hz (ref := "SpoolFarmModel") (ty := .int) (cc_mod (A := A) (C := C)) i_RX7 tyX7 tyX7_ok nmX7 rfl 27 (Nat.le_of_ble_eq_true rfl) (by decide +kernel) (fun _ h => h) rfl (by decide +kernel) rfl rfl (Nat.le_of_ble_eq_true rfl) (up3 C 60 100 27 1) cu_mod (by rw [(cc_mod (A := A) (C := (up3 C 60 100 27 1))), up3_u]; rfl) dX7_release_35 ?_
      refine s_aload_n (pc := 38) S 0 dX7_release_38 rfl rfl ?_
      refine s_get (pc := 39) S hz (ref := "SpoolFarmModel") (v := .int (nI 1)) (cc_mod (A := A) (C := (up3 C 60 100 27 1))) i_RX7 rfl 27 (Nat.le_of_ble_eq_true rfl) (by decide +kernel) (fun _ h => h) rfl dX7_release_39 ?_
      refine s_if_leN (pc := 42) S 49 dX7_release_42 (by decide) (by decide) (fun h => absurd h (by decide)) (fun _ => ?_)
      refine s_iconst (pc := 45) S (v := (nI 0)) dX7_release_45 (by decide) ?_
      refine s_goto (pc := 46) S 55 dX7_release_46 (by decide) ?_
      exact s_iret (pc := 55) S hz hlo hr ⟨A 60, AG_self A, Or.inr (Or.inr (Or.inl ⟨k_2, hk_3, rfl, no_13, rfl, rfl⟩))⟩ (Nat.zero_le _) (Nat.zero_le _) dX7_release_55
  · refine s_if_eqN (pc := 6) S 17 dX7_release_6 (by decide) (by decide) (fun _ => ?_) (fun h => absurd h (by decide))
    refine s_iconst (pc := 17) S (v := (nI 1)) dX7_release_17 (by decide) ?_
    refine s_goto (pc := 18) S 35 dX7_release_18 (by decide) ?_
    refine s_put (pc := 35) S hz (ref := "SpoolFarmModel") (ty := .int) (cc_mod (A := A) (C := C)) i_RX7 tyX7 tyX7_ok nmX7 rfl 27 (Nat.le_of_ble_eq_true rfl) (by decide +kernel) (fun _ h => h) rfl (by decide +kernel) rfl rfl (Nat.le_of_ble_eq_true rfl) (up3 C 60 100 27 1) cu_mod (by rw [(cc_mod (A := A) (C := (up3 C 60 100 27 1))), up3_u]; rfl) dX7_release_35 ?_
    refine s_aload_n (pc := 38) S 0 dX7_release_38 rfl rfl ?_
    refine s_get (pc := 39) S hz (ref := "SpoolFarmModel") (v := .int (nI 1)) (cc_mod (A := A) (C := (up3 C 60 100 27 1))) i_RX7 rfl 27 (Nat.le_of_ble_eq_true rfl) (by decide +kernel) (fun _ h => h) rfl dX7_release_39 ?_
    refine s_if_leN (pc := 42) S 49 dX7_release_42 (by decide) (by decide) (fun h => absurd h (by decide)) (fun _ => ?_)
    refine s_iconst (pc := 45) S (v := (nI 0)) dX7_release_45 (by decide) ?_
    refine s_goto (pc := 46) S 55 dX7_release_46 (by decide) ?_
    exact s_iret (pc := 55) S hz hlo hr ⟨A 60, AG_self A, Or.inr (Or.inr (Or.inr (⟨no_4, rfl, rfl⟩)))⟩ (Nat.zero_le _) (Nat.zero_le _) dX7_release_55
