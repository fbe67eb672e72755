set_option maxHeartbeats 4000000 in
set_option maxRecDepth 100000 in
theorem k_X7_addUser (Z : Zp) (l : Launch) (A : AF) (C : CF) (x y : Int32) (hO : OkR C) : CtS Z l yX7_addUser wsX7_addUser ({ frames := 1, cells := 0, slots := 0, locals := 22 }) [.ref (A 60 100), .int x, .int y] A C 0 0 (fun v A2 C2 => A = A2 ∧ ((∃ w_5 w_12 : Nat, 0 ≤ w_5 ∧ w_5 ≤ 999 ∧ nI w_5 = x ∧ 0 ≤ w_12 ∧ w_12 ≤ 999 ∧ nI w_12 = y ∧ ¬ C 60 100 28 = 6 ∧ (up3 (up3 (up3 (up3 C 60 100 27 0) 60 0 (2 * (C 60 100 28)) w_5) 60 0 ((2 * (C 60 100 28)) + 1) w_12) 60 100 28 ((C 60 100 28) + 1)) = C2 ∧ some (.int (nI (((C 60 100 28) + 1) - 1))) = v) ∨ (∃ w_5 w_12 : Nat, 0 ≤ w_5 ∧ w_5 ≤ 999 ∧ nI w_5 = x ∧ 0 ≤ w_12 ∧ w_12 ≤ 999 ∧ nI w_12 = y ∧ C 60 100 28 = 6 ∧ (up3 C 60 100 27 2) = C2 ∧ some (.int (nI 0)) = v) ∨ (∃ w_5 : Nat, 0 ≤ w_5 ∧ w_5 ≤ 999 ∧ nI w_5 = x ∧ (∀ k : Nat, 0 ≤ k → k ≤ 999 → nI k ≠ y) ∧ (up3 C 60 100 27 1) = C2 ∧ some (.int (nI 0)) = v) ∨ ((∀ k : Nat, 0 ≤ k → k ≤ 999 → nI k ≠ x) ∧ (up3 C 60 100 27 1) = C2 ∧ some (.int (nI 0)) = v))) (fun _ _ _ => False) := by
  refine CtS.of (cc0 := cX7_addUser) (maxL := 3) (ret := (some .int)) (by decide) rfl (Nat.le_of_ble_eq_true rfl) ?_
  intro M0_ p_ e_ s_ m_ args_ below_ meth_ c_ S hz hml hex hlo hr hin
  refine s_loc (L2 := [(0, .ref (A 60 100)), (1, .int x), (2, .int y)]) rfl ?_
  have i_RX7 : ∀ w ∈ u_ws RX7 TX7 38, w ∈ wsX7_addUser := by decide +kernel
  obtain ⟨oU, oP, oJ, oTc, oY, o8, o9, o10, o11, o12, o13, o14, o15, oX, oQ, oB, oK, oS, oJk, oM, oCo, oSh, oLg, oPo, oLl, oL2, oL3, oL4, oLle, oE1, oE2, oE3, oE4⟩ := id hO
  have hu : C 60 100 28 < 2 ^ 30 := by omega
  have hp : C 60 100 29 < 2 ^ 30 := by omega
  have hj : C 60 100 30 < 2 ^ 30 := by omega
  have hlg : C 60 100 31 < 2 ^ 30 := by omega
  have hp4 := oP
  have htc := oTc
  refine s_aload_n (pc := 0) S 0 dX7_addUser_0 rfl rfl ?_
  refine s_iload_n (pc := 1) S 1 dX7_addUser_1 rfl rfl ?_
  refine s_iconst (pc := 2) S (v := (nI 0)) dX7_addUser_2 (by decide) ?_
  refine s_sipush (pc := 3) S (v := (nI 999)) dX7_addUser_3 (by decide) ?_
  refine s_callS (pc := 6) S hz hml [.int x, .int (nI 0), .int (nI 999)] (k_X7_in Z l A C x (nI 0) (nI 999)) (cwS 3 S.2.2.2.2 gX7_addUser_X7_in rfl rfl rfl (by decide +kernel) ⟨Nat.le_of_ble_eq_true rfl, Nat.le_of_ble_eq_true rfl⟩) rfl rfl (Nat.le_of_ble_eq_true rfl) dX7_addUser_6 ⟨Nat.le_of_ble_eq_true rfl, Nat.le_of_ble_eq_true rfl⟩ (fun _ _ _ h => h.elim) (fun v A2 C2 h_1 => ?_)
  rcases h_1 with ⟨rfl, rfl, ⟨p_2, p_3, rfl⟩ | ⟨p_4, rfl⟩⟩
  · obtain ⟨w_5, r_6, r_7, rfl⟩ := rg_of (by decide) p_2 p_3 (by decide)
    refine s_if_eqN (pc := 9) S 23 dX7_addUser_9 (by decide) (by decide) (fun h => absurd h (by decide)) (fun _ => ?_)
    refine s_iload_n (pc := 12) S 2 dX7_addUser_12 rfl rfl ?_
    refine s_iconst (pc := 13) S (v := (nI 0)) dX7_addUser_13 (by decide) ?_
    refine s_sipush (pc := 14) S (v := (nI 999)) dX7_addUser_14 (by decide) ?_
    refine s_callS (pc := 17) S hz hml [.int y, .int (nI 0), .int (nI 999)] (k_X7_in Z l A C y (nI 0) (nI 999)) (cwS 3 S.2.2.2.2 gX7_addUser_X7_in rfl rfl rfl (by decide +kernel) ⟨Nat.le_of_ble_eq_true rfl, Nat.le_of_ble_eq_true rfl⟩) rfl rfl (Nat.le_of_ble_eq_true rfl) dX7_addUser_17 ⟨Nat.le_of_ble_eq_true rfl, Nat.le_of_ble_eq_true rfl⟩ (fun _ _ _ h => h.elim) (fun v A2 C2 h_8 => ?_)
    rcases h_8 with ⟨rfl, rfl, ⟨p_9, p_10, rfl⟩ | ⟨p_11, rfl⟩⟩
    · obtain ⟨w_12, r_13, r_14, rfl⟩ := rg_of (by decide) p_9 p_10 (by decide)
      refine s_if_neN (pc := 20) S 27 dX7_addUser_20 (by decide) (by decide) (fun _ => ?_) (fun h => absurd h (by decide))
      refine s_aload_n (pc := 27) S 0 dX7_addUser_27 rfl rfl ?_
      refine s_get (pc := 28) S hz (ref := "SpoolFarmModel") (v := .int (nI (C 60 100 28))) (cc_mod (A := A) (C := C)) i_RX7 rfl 28 (Nat.le_of_ble_eq_true rfl) (by decide +kernel) (fun _ h => h) rfl dX7_addUser_28 ?_
      refine s_bipush (pc := 31) S (v := (nI 6)) dX7_addUser_31 (by decide) ?_
      refine s_icmp_neN (pc := 33) S 40 dX7_addUser_33 (by decide) (by omega) (by omega) (fun c_15 => ?_) (fun c_15 => ?_)
      · refine s_iconst (pc := 40) S (v := (nI 0)) dX7_addUser_40 (by decide) ?_
        refine s_put (pc := 41) S hz (ref := "SpoolFarmModel") (ty := .int) (cc_mod (A := A) (C := C)) i_RX7 tyX7 tyX7_ok nmX7 rfl 27 (Nat.le_of_ble_eq_true rfl) (by decide +kernel) (fun _ h => h) rfl (by decide +kernel) rfl rfl (Nat.le_of_ble_eq_true rfl) (up3 C 60 100 27 0) cu_mod (by rw [(cc_mod (A := A) (C := (up3 C 60 100 27 0))), up3_u]; rfl) dX7_addUser_41 ?_
        refine s_aload_n (pc := 44) S 0 dX7_addUser_44 rfl rfl ?_
        refine s_get (pc := 45) S hz (ref := "SpoolFarmModel") (v := .int (nI 0)) (cc_mod (A := A) (C := (up3 C 60 100 27 0))) i_RX7 rfl 27 (Nat.le_of_ble_eq_true rfl) (by decide +kernel) (fun _ h => h) rfl dX7_addUser_45 ?_
        refine s_if_leN (pc := 48) S 53 dX7_addUser_48 (by decide) (by decide) (fun _ => ?_) (fun h => absurd h (by decide))
        refine s_aload_n (pc := 53) S 0 dX7_addUser_53 rfl rfl ?_
        refine s_get (pc := 54) S hz (ref := "SpoolFarmModel") (v := .ref (A 60 0)) (cc_mod (A := A) (C := (up3 C 60 100 27 0))) i_RX7 rfl 0 (Nat.le_of_ble_eq_true rfl) (by decide +kernel) (fun _ h => h) rfl dX7_addUser_54 ?_
        refine s_iconst (pc := 57) S (v := (nI 2)) dX7_addUser_57 (by decide) ?_
        refine s_aload_n (pc := 58) S 0 dX7_addUser_58 rfl rfl ?_
        refine s_get (pc := 59) S hz (ref := "SpoolFarmModel") (v := .int (nI (C 60 100 28))) (cc_mod (A := A) (C := (up3 C 60 100 27 0))) i_RX7 rfl 28 (Nat.le_of_ble_eq_true rfl) (by decide +kernel) (fun _ h => h) rfl dX7_addUser_59 ?_
        refine s_imulN (pc := 62) S dX7_addUser_62 ?_
        refine s_iload_n (pc := 63) S 1 dX7_addUser_63 rfl rfl ?_
        refine s_iast (pc := 64) S hz (cc_row (A := A) (C := (up3 C 60 100 27 0)) (x := aN .int 12 ((up3 C 60 100 27 0) 60 0)) 0 (by decide) rfl) (by omega) (by omega) (up3 (up3 C 60 100 27 0) 60 0 (2 * (C 60 100 28)) w_5) cu_mod (by rw [(cc_row (A := A) (C := (up3 (up3 C 60 100 27 0) 60 0 (2 * (C 60 100 28)) w_5)) (x := aN .int 12 ((up3 (up3 C 60 100 27 0) 60 0 (2 * (C 60 100 28)) w_5) 60 0)) 0 (by decide) rfl), up3_u]) dX7_addUser_64 ?_
        refine s_aload_n (pc := 65) S 0 dX7_addUser_65 rfl rfl ?_
        refine s_get (pc := 66) S hz (ref := "SpoolFarmModel") (v := .ref (A 60 0)) (cc_mod (A := A) (C := (up3 (up3 C 60 100 27 0) 60 0 (2 * (C 60 100 28)) w_5))) i_RX7 rfl 0 (Nat.le_of_ble_eq_true rfl) (by decide +kernel) (fun _ h => h) rfl dX7_addUser_66 ?_
        refine s_iconst (pc := 69) S (v := (nI 2)) dX7_addUser_69 (by decide) ?_
        refine s_aload_n (pc := 70) S 0 dX7_addUser_70 rfl rfl ?_
        refine s_get (pc := 71) S hz (ref := "SpoolFarmModel") (v := .int (nI (C 60 100 28))) (cc_mod (A := A) (C := (up3 (up3 C 60 100 27 0) 60 0 (2 * (C 60 100 28)) w_5))) i_RX7 rfl 28 (Nat.le_of_ble_eq_true rfl) (by decide +kernel) (fun _ h => h) rfl dX7_addUser_71 ?_
        refine s_imulN (pc := 74) S dX7_addUser_74 ?_
        refine s_iconst (pc := 75) S (v := (nI 1)) dX7_addUser_75 (by decide) ?_
        refine s_iaddN (pc := 76) S dX7_addUser_76 ?_
        refine s_iload_n (pc := 77) S 2 dX7_addUser_77 rfl rfl ?_
        refine s_iast (pc := 78) S hz (cc_row (A := A) (C := (up3 (up3 C 60 100 27 0) 60 0 (2 * (C 60 100 28)) w_5)) (x := aN .int 12 ((up3 (up3 C 60 100 27 0) 60 0 (2 * (C 60 100 28)) w_5) 60 0)) 0 (by decide) rfl) (by omega) (by omega) (up3 (up3 (up3 C 60 100 27 0) 60 0 (2 * (C 60 100 28)) w_5) 60 0 ((2 * (C 60 100 28)) + 1) w_12) cu_mod (by rw [(cc_row (A := A) (C := (up3 (up3 (up3 C 60 100 27 0) 60 0 (2 * (C 60 100 28)) w_5) 60 0 ((2 * (C 60 100 28)) + 1) w_12)) (x := aN .int 12 ((up3 (up3 (up3 C 60 100 27 0) 60 0 (2 * (C 60 100 28)) w_5) 60 0 ((2 * (C 60 100 28)) + 1) w_12) 60 0)) 0 (by decide) rfl), up3_u]) dX7_addUser_78 ?_
        refine s_aload_n (pc := 79) S 0 dX7_addUser_79 rfl rfl ?_
        refine s_dup (pc := 80) S dX7_addUser_80 rfl ?_
        refine s_get (pc := 81) S hz (ref := "SpoolFarmModel") (v := .int (nI (C 60 100 28))) (cc_mod (A := A) (C := (up3 (up3 (up3 C 60 100 27 0) 60 0 (2 * (C 60 100 28)) w_5) 60 0 ((2 * (C 60 100 28)) + 1) w_12))) i_RX7 rfl 28 (Nat.le_of_ble_eq_true rfl) (by decide +kernel) (fun _ h => h) rfl dX7_addUser_81 ?_
        refine s_iconst (pc := 84) S (v := (nI 1)) dX7_addUser_84 (by decide) ?_
        refine s_iaddN (pc := 85) S dX7_addUser_85 ?_
        refine s_put (pc := 86) S hz (ref := "SpoolFarmModel") (ty := .int) (cc_mod (A := A) (C := (up3 (up3 (up3 C 60 100 27 0) 60 0 (2 * (C 60 100 28)) w_5) 60 0 ((2 * (C 60 100 28)) + 1) w_12))) i_RX7 tyX7 tyX7_ok nmX7 rfl 28 (Nat.le_of_ble_eq_true rfl) (by decide +kernel) (fun _ h => h) rfl (by decide +kernel) rfl rfl (Nat.le_of_ble_eq_true rfl) (up3 (up3 (up3 (up3 C 60 100 27 0) 60 0 (2 * (C 60 100 28)) w_5) 60 0 ((2 * (C 60 100 28)) + 1) w_12) 60 100 28 ((C 60 100 28) + 1)) cu_mod (by rw [(cc_mod (A := A) (C := (up3 (up3 (up3 (up3 C 60 100 27 0) 60 0 (2 * (C 60 100 28)) w_5) 60 0 ((2 * (C 60 100 28)) + 1) w_12) 60 100 28 ((C 60 100 28) + 1)))), up3_u]; rfl) dX7_addUser_86 ?_
        refine s_aload_n (pc := 89) S 0 dX7_addUser_89 rfl rfl ?_
        refine s_get (pc := 90) S hz (ref := "SpoolFarmModel") (v := .int (nI ((C 60 100 28) + 1))) (cc_mod (A := A) (C := (up3 (up3 (up3 (up3 C 60 100 27 0) 60 0 (2 * (C 60 100 28)) w_5) 60 0 ((2 * (C 60 100 28)) + 1) w_12) 60 100 28 ((C 60 100 28) + 1)))) i_RX7 rfl 28 (Nat.le_of_ble_eq_true rfl) (by decide +kernel) (fun _ h => h) rfl dX7_addUser_90 ?_
        refine s_iconst (pc := 93) S (v := (nI 1)) dX7_addUser_93 (by decide) ?_
        refine s_isubN (pc := 94) S dX7_addUser_94 (by omega) ?_
        exact s_iret (pc := 95) S hz hlo hr ⟨rfl, Or.inl ⟨w_5, w_12, r_6, r_7, rfl, r_13, r_14, rfl, c_15, rfl, rfl⟩⟩ (Nat.le_of_ble_eq_true rfl) (Nat.le_of_ble_eq_true rfl) dX7_addUser_95
      · refine s_iconst (pc := 36) S (v := (nI 2)) dX7_addUser_36 (by decide) ?_
        refine s_goto (pc := 37) S 41 dX7_addUser_37 (by decide) ?_
        refine s_put (pc := 41) S hz (ref := "SpoolFarmModel") (ty := .int) (cc_mod (A := A) (C := C)) i_RX7 tyX7 tyX7_ok nmX7 rfl 27 (Nat.le_of_ble_eq_true rfl) (by decide +kernel) (fun _ h => h) rfl (by decide +kernel) rfl rfl (Nat.le_of_ble_eq_true rfl) (up3 C 60 100 27 2) cu_mod (by rw [(cc_mod (A := A) (C := (up3 C 60 100 27 2))), up3_u]; rfl) dX7_addUser_41 ?_
        refine s_aload_n (pc := 44) S 0 dX7_addUser_44 rfl rfl ?_
        refine s_get (pc := 45) S hz (ref := "SpoolFarmModel") (v := .int (nI 2)) (cc_mod (A := A) (C := (up3 C 60 100 27 2))) i_RX7 rfl 27 (Nat.le_of_ble_eq_true rfl) (by decide +kernel) (fun _ h => h) rfl dX7_addUser_45 ?_
        refine s_if_leN (pc := 48) S 53 dX7_addUser_48 (by decide) (by decide) (fun h => absurd h (by decide)) (fun _ => ?_)
        refine s_iconst (pc := 51) S (v := (nI 0)) dX7_addUser_51 (by decide) ?_
        exact s_iret (pc := 52) S hz hlo hr ⟨rfl, Or.inr (Or.inl ⟨w_5, w_12, r_6, r_7, rfl, r_13, r_14, rfl, c_15, rfl, rfl⟩)⟩ (Nat.le_of_ble_eq_true rfl) (Nat.le_of_ble_eq_true rfl) dX7_addUser_52
    · have n_16 := rg_no (by decide) (by decide) p_11
      refine s_if_neN (pc := 20) S 27 dX7_addUser_20 (by decide) (by decide) (fun h => absurd h (by decide)) (fun _ => ?_)
      refine s_iconst (pc := 23) S (v := (nI 1)) dX7_addUser_23 (by decide) ?_
      refine s_goto (pc := 24) S 41 dX7_addUser_24 (by decide) ?_
      refine s_put (pc := 41) S hz (ref := "SpoolFarmModel") (ty := .int) (cc_mod (A := A) (C := C)) i_RX7 tyX7 tyX7_ok nmX7 rfl 27 (Nat.le_of_ble_eq_true rfl) (by decide +kernel) (fun _ h => h) rfl (by decide +kernel) rfl rfl (Nat.le_of_ble_eq_true rfl) (up3 C 60 100 27 1) cu_mod (by rw [(cc_mod (A := A) (C := (up3 C 60 100 27 1))), up3_u]; rfl) dX7_addUser_41 ?_
      refine s_aload_n (pc := 44) S 0 dX7_addUser_44 rfl rfl ?_
      refine s_get (pc := 45) S hz (ref := "SpoolFarmModel") (v := .int (nI 1)) (cc_mod (A := A) (C := (up3 C 60 100 27 1))) i_RX7 rfl 27 (Nat.le_of_ble_eq_true rfl) (by decide +kernel) (fun _ h => h) rfl dX7_addUser_45 ?_
      refine s_if_leN (pc := 48) S 53 dX7_addUser_48 (by decide) (by decide) (fun h => absurd h (by decide)) (fun _ => ?_)
      refine s_iconst (pc := 51) S (v := (nI 0)) dX7_addUser_51 (by decide) ?_
      exact s_iret (pc := 52) S hz hlo hr ⟨rfl, Or.inr (Or.inr (Or.inl ⟨w_5, r_6, r_7, rfl, n_16, rfl, rfl⟩))⟩ (Nat.le_of_ble_eq_true rfl) (Nat.le_of_ble_eq_true rfl) dX7_addUser_52
  · have n_17 := rg_no (by decide) (by decide) p_4
    refine s_if_eqN (pc := 9) S 23 dX7_addUser_9 (by decide) (by decide) (fun _ => ?_) (fun h => absurd h (by decide))
    refine s_iconst (pc := 23) S (v := (nI 1)) dX7_addUser_23 (by decide) ?_
    refine s_goto (pc := 24) S 41 dX7_addUser_24 (by decide) ?_
    refine s_put (pc := 41) S hz (ref := "SpoolFarmModel") (ty := .int) (cc_mod (A := A) (C := C)) i_RX7 tyX7 tyX7_ok nmX7 rfl 27 (Nat.le_of_ble_eq_true rfl) (by decide +kernel) (fun _ h => h) rfl (by decide +kernel) rfl rfl (Nat.le_of_ble_eq_true rfl) (up3 C 60 100 27 1) cu_mod (by rw [(cc_mod (A := A) (C := (up3 C 60 100 27 1))), up3_u]; rfl) dX7_addUser_41 ?_
    refine s_aload_n (pc := 44) S 0 dX7_addUser_44 rfl rfl ?_
    refine s_get (pc := 45) S hz (ref := "SpoolFarmModel") (v := .int (nI 1)) (cc_mod (A := A) (C := (up3 C 60 100 27 1))) i_RX7 rfl 27 (Nat.le_of_ble_eq_true rfl) (by decide +kernel) (fun _ h => h) rfl dX7_addUser_45 ?_
    refine s_if_leN (pc := 48) S 53 dX7_addUser_48 (by decide) (by decide) (fun h => absurd h (by decide)) (fun _ => ?_)
    refine s_iconst (pc := 51) S (v := (nI 0)) dX7_addUser_51 (by decide) ?_
    exact s_iret (pc := 52) S hz hlo hr ⟨rfl, Or.inr (Or.inr (Or.inr (⟨n_17, rfl, rfl⟩)))⟩ (Nat.le_of_ble_eq_true rfl) (Nat.le_of_ble_eq_true rfl) dX7_addUser_52
set_option maxHeartbeats 4000000 in
set_option maxRecDepth 100000 in
theorem k_X7_addPrinter (Z : Zp) (l : Launch) (A : AF) (C : CF) (cb : Nat) (x y : Int32) (hcb : cb < 2) (hO : OkR C) : CtS Z l yX7_addPrinter wsX7_addPrinter ({ frames := 1, cells := 0, slots := 0, locals := 22 }) [.ref (A 60 100), .int (nI cb), .int x, .int y] A C 0 0 (fun v A2 C2 => A = A2 ∧ ((∃ w_5 w_12 : Nat, 0 ≤ w_5 ∧ w_5 ≤ 1000 ∧ nI w_5 = x ∧ 0 ≤ w_12 ∧ w_12 ≤ 100 ∧ nI w_12 = y ∧ ¬ C 60 100 29 = 4 ∧ (up3 (up3 (up3 (up3 (up3 (up3 C 60 100 27 0) 60 11 (C 60 100 29) cb) 60 4 (C 60 100 29) w_5) 60 5 (C 60 100 29) w_5) 60 6 (C 60 100 29) w_12) 60 100 29 ((C 60 100 29) + 1)) = C2 ∧ some (.int (nI (((C 60 100 29) + 1) - 1))) = v) ∨ (∃ w_5 w_12 : Nat, 0 ≤ w_5 ∧ w_5 ≤ 1000 ∧ nI w_5 = x ∧ 0 ≤ w_12 ∧ w_12 ≤ 100 ∧ nI w_12 = y ∧ C 60 100 29 = 4 ∧ (up3 C 60 100 27 2) = C2 ∧ some (.int (nI 0)) = v) ∨ (∃ w_5 : Nat, 0 ≤ w_5 ∧ w_5 ≤ 1000 ∧ nI w_5 = x ∧ (∀ k : Nat, 0 ≤ k → k ≤ 100 → nI k ≠ y) ∧ (up3 C 60 100 27 1) = C2 ∧ some (.int (nI 0)) = v) ∨ ((∀ k : Nat, 0 ≤ k → k ≤ 1000 → nI k ≠ x) ∧ (up3 C 60 100 27 1) = C2 ∧ some (.int (nI 0)) = v))) (fun _ _ _ => False) := by
  refine CtS.of (cc0 := cX7_addPrinter) (maxL := 4) (ret := (some .int)) (by decide) rfl (Nat.le_of_ble_eq_true rfl) ?_
  intro M0_ p_ e_ s_ m_ args_ below_ meth_ c_ S hz hml hex hlo hr hin
  refine s_loc (L2 := [(0, .ref (A 60 100)), (1, .int (nI cb)), (2, .int x), (3, .int y)]) rfl ?_
  have i_RX7 : ∀ w ∈ u_ws RX7 TX7 38, w ∈ wsX7_addPrinter := by decide +kernel
  obtain ⟨oU, oP, oJ, oTc, oY, o8, o9, o10, o11, o12, o13, o14, o15, oX, oQ, oB, oK, oS, oJk, oM, oCo, oSh, oLg, oPo, oLl, oL2, oL3, oL4, oLle, oE1, oE2, oE3, oE4⟩ := id hO
  have hu : C 60 100 28 < 2 ^ 30 := by omega
  have hp : C 60 100 29 < 2 ^ 30 := by omega
  have hj : C 60 100 30 < 2 ^ 30 := by omega
  have hlg : C 60 100 31 < 2 ^ 30 := by omega
  have hp4 := oP
  have htc := oTc
  refine s_aload_n (pc := 0) S 0 dX7_addPrinter_0 rfl rfl ?_
  refine s_iload_n (pc := 1) S 2 dX7_addPrinter_1 rfl rfl ?_
  refine s_iconst (pc := 2) S (v := (nI 0)) dX7_addPrinter_2 (by decide) ?_
  refine s_sipush (pc := 3) S (v := (nI 1000)) dX7_addPrinter_3 (by decide) ?_
  refine s_callS (pc := 6) S hz hml [.int x, .int (nI 0), .int (nI 1000)] (k_X7_in Z l A C x (nI 0) (nI 1000)) (cwS 3 S.2.2.2.2 gX7_addPrinter_X7_in rfl rfl rfl (by decide +kernel) ⟨Nat.le_of_ble_eq_true rfl, Nat.le_of_ble_eq_true rfl⟩) rfl rfl (Nat.le_of_ble_eq_true rfl) dX7_addPrinter_6 ⟨Nat.le_of_ble_eq_true rfl, Nat.le_of_ble_eq_true rfl⟩ (fun _ _ _ h => h.elim) (fun v A2 C2 h_1 => ?_)
  rcases h_1 with ⟨rfl, rfl, ⟨p_2, p_3, rfl⟩ | ⟨p_4, rfl⟩⟩
  · obtain ⟨w_5, r_6, r_7, rfl⟩ := rg_of (by decide) p_2 p_3 (by decide)
    refine s_if_eqN (pc := 9) S 22 dX7_addPrinter_9 (by decide) (by decide) (fun h => absurd h (by decide)) (fun _ => ?_)
    refine s_iload_n (pc := 12) S 3 dX7_addPrinter_12 rfl rfl ?_
    refine s_iconst (pc := 13) S (v := (nI 0)) dX7_addPrinter_13 (by decide) ?_
    refine s_bipush (pc := 14) S (v := (nI 100)) dX7_addPrinter_14 (by decide) ?_
    refine s_callS (pc := 16) S hz hml [.int y, .int (nI 0), .int (nI 100)] (k_X7_in Z l A C y (nI 0) (nI 100)) (cwS 3 S.2.2.2.2 gX7_addPrinter_X7_in rfl rfl rfl (by decide +kernel) ⟨Nat.le_of_ble_eq_true rfl, Nat.le_of_ble_eq_true rfl⟩) rfl rfl (Nat.le_of_ble_eq_true rfl) dX7_addPrinter_16 ⟨Nat.le_of_ble_eq_true rfl, Nat.le_of_ble_eq_true rfl⟩ (fun _ _ _ h => h.elim) (fun v A2 C2 h_8 => ?_)
    rcases h_8 with ⟨rfl, rfl, ⟨p_9, p_10, rfl⟩ | ⟨p_11, rfl⟩⟩
    · obtain ⟨w_12, r_13, r_14, rfl⟩ := rg_of (by decide) p_9 p_10 (by decide)
      refine s_if_neN (pc := 19) S 26 dX7_addPrinter_19 (by decide) (by decide) (fun _ => ?_) (fun h => absurd h (by decide))
      refine s_aload_n (pc := 26) S 0 dX7_addPrinter_26 rfl rfl ?_
      refine s_get (pc := 27) S hz (ref := "SpoolFarmModel") (v := .int (nI (C 60 100 29))) (cc_mod (A := A) (C := C)) i_RX7 rfl 29 (Nat.le_of_ble_eq_true rfl) (by decide +kernel) (fun _ h => h) rfl dX7_addPrinter_27 ?_
      refine s_iconst (pc := 30) S (v := (nI 4)) dX7_addPrinter_30 (by decide) ?_
      refine s_icmp_neN (pc := 31) S 38 dX7_addPrinter_31 (by decide) (by omega) (by omega) (fun c_15 => ?_) (fun c_15 => ?_)
      · refine s_iconst (pc := 38) S (v := (nI 0)) dX7_addPrinter_38 (by decide) ?_
        refine s_put (pc := 39) S hz (ref := "SpoolFarmModel") (ty := .int) (cc_mod (A := A) (C := C)) i_RX7 tyX7 tyX7_ok nmX7 rfl 27 (Nat.le_of_ble_eq_true rfl) (by decide +kernel) (fun _ h => h) rfl (by decide +kernel) rfl rfl (Nat.le_of_ble_eq_true rfl) (up3 C 60 100 27 0) cu_mod (by rw [(cc_mod (A := A) (C := (up3 C 60 100 27 0))), up3_u]; rfl) dX7_addPrinter_39 ?_
        refine s_aload_n (pc := 42) S 0 dX7_addPrinter_42 rfl rfl ?_
        refine s_get (pc := 43) S hz (ref := "SpoolFarmModel") (v := .int (nI 0)) (cc_mod (A := A) (C := (up3 C 60 100 27 0))) i_RX7 rfl 27 (Nat.le_of_ble_eq_true rfl) (by decide +kernel) (fun _ h => h) rfl dX7_addPrinter_43 ?_
        refine s_if_leN (pc := 46) S 51 dX7_addPrinter_46 (by decide) (by decide) (fun _ => ?_) (fun h => absurd h (by decide))
        refine s_aload_n (pc := 51) S 0 dX7_addPrinter_51 rfl rfl ?_
        refine s_get (pc := 52) S hz (ref := "SpoolFarmModel") (v := .ref (A 60 11)) (cc_mod (A := A) (C := (up3 C 60 100 27 0))) i_RX7 rfl 11 (Nat.le_of_ble_eq_true rfl) (by decide +kernel) (fun _ h => h) rfl dX7_addPrinter_52 ?_
        refine s_aload_n (pc := 55) S 0 dX7_addPrinter_55 rfl rfl ?_
        refine s_get (pc := 56) S hz (ref := "SpoolFarmModel") (v := .int (nI (C 60 100 29))) (cc_mod (A := A) (C := (up3 C 60 100 27 0))) i_RX7 rfl 29 (Nat.le_of_ble_eq_true rfl) (by decide +kernel) (fun _ h => h) rfl dX7_addPrinter_56 ?_
        refine s_iload_n (pc := 59) S 1 dX7_addPrinter_59 rfl rfl ?_
        refine s_zast (pc := 60) S hz (cc_row (A := A) (C := (up3 C 60 100 27 0)) (x := aN .boolean 4 ((up3 C 60 100 27 0) 60 11)) 11 (by decide) rfl) (by omega) (by omega) (by omega) (up3 (up3 C 60 100 27 0) 60 11 (C 60 100 29) cb) cu_mod (by rw [(cc_row (A := A) (C := (up3 (up3 C 60 100 27 0) 60 11 (C 60 100 29) cb)) (x := aN .boolean 4 ((up3 (up3 C 60 100 27 0) 60 11 (C 60 100 29) cb) 60 11)) 11 (by decide) rfl), up3_u]) dX7_addPrinter_60 ?_
        refine s_aload_n (pc := 61) S 0 dX7_addPrinter_61 rfl rfl ?_
        refine s_get (pc := 62) S hz (ref := "SpoolFarmModel") (v := .ref (A 60 4)) (cc_mod (A := A) (C := (up3 (up3 C 60 100 27 0) 60 11 (C 60 100 29) cb))) i_RX7 rfl 4 (Nat.le_of_ble_eq_true rfl) (by decide +kernel) (fun _ h => h) rfl dX7_addPrinter_62 ?_
        refine s_aload_n (pc := 65) S 0 dX7_addPrinter_65 rfl rfl ?_
        refine s_get (pc := 66) S hz (ref := "SpoolFarmModel") (v := .int (nI (C 60 100 29))) (cc_mod (A := A) (C := (up3 (up3 C 60 100 27 0) 60 11 (C 60 100 29) cb))) i_RX7 rfl 29 (Nat.le_of_ble_eq_true rfl) (by decide +kernel) (fun _ h => h) rfl dX7_addPrinter_66 ?_
        refine s_iload_n (pc := 69) S 2 dX7_addPrinter_69 rfl rfl ?_
        refine s_iast (pc := 70) S hz (cc_row (A := A) (C := (up3 (up3 C 60 100 27 0) 60 11 (C 60 100 29) cb)) (x := aN .int 4 ((up3 (up3 C 60 100 27 0) 60 11 (C 60 100 29) cb) 60 4)) 4 (by decide) rfl) (by omega) (by omega) (up3 (up3 (up3 C 60 100 27 0) 60 11 (C 60 100 29) cb) 60 4 (C 60 100 29) w_5) cu_mod (by rw [(cc_row (A := A) (C := (up3 (up3 (up3 C 60 100 27 0) 60 11 (C 60 100 29) cb) 60 4 (C 60 100 29) w_5)) (x := aN .int 4 ((up3 (up3 (up3 C 60 100 27 0) 60 11 (C 60 100 29) cb) 60 4 (C 60 100 29) w_5) 60 4)) 4 (by decide) rfl), up3_u]) dX7_addPrinter_70 ?_
        refine s_aload_n (pc := 71) S 0 dX7_addPrinter_71 rfl rfl ?_
        refine s_get (pc := 72) S hz (ref := "SpoolFarmModel") (v := .ref (A 60 5)) (cc_mod (A := A) (C := (up3 (up3 (up3 C 60 100 27 0) 60 11 (C 60 100 29) cb) 60 4 (C 60 100 29) w_5))) i_RX7 rfl 5 (Nat.le_of_ble_eq_true rfl) (by decide +kernel) (fun _ h => h) rfl dX7_addPrinter_72 ?_
        refine s_aload_n (pc := 75) S 0 dX7_addPrinter_75 rfl rfl ?_
        refine s_get (pc := 76) S hz (ref := "SpoolFarmModel") (v := .int (nI (C 60 100 29))) (cc_mod (A := A) (C := (up3 (up3 (up3 C 60 100 27 0) 60 11 (C 60 100 29) cb) 60 4 (C 60 100 29) w_5))) i_RX7 rfl 29 (Nat.le_of_ble_eq_true rfl) (by decide +kernel) (fun _ h => h) rfl dX7_addPrinter_76 ?_
        refine s_iload_n (pc := 79) S 2 dX7_addPrinter_79 rfl rfl ?_
        refine s_iast (pc := 80) S hz (cc_row (A := A) (C := (up3 (up3 (up3 C 60 100 27 0) 60 11 (C 60 100 29) cb) 60 4 (C 60 100 29) w_5)) (x := aN .int 4 ((up3 (up3 (up3 C 60 100 27 0) 60 11 (C 60 100 29) cb) 60 4 (C 60 100 29) w_5) 60 5)) 5 (by decide) rfl) (by omega) (by omega) (up3 (up3 (up3 (up3 C 60 100 27 0) 60 11 (C 60 100 29) cb) 60 4 (C 60 100 29) w_5) 60 5 (C 60 100 29) w_5) cu_mod (by rw [(cc_row (A := A) (C := (up3 (up3 (up3 (up3 C 60 100 27 0) 60 11 (C 60 100 29) cb) 60 4 (C 60 100 29) w_5) 60 5 (C 60 100 29) w_5)) (x := aN .int 4 ((up3 (up3 (up3 (up3 C 60 100 27 0) 60 11 (C 60 100 29) cb) 60 4 (C 60 100 29) w_5) 60 5 (C 60 100 29) w_5) 60 5)) 5 (by decide) rfl), up3_u]) dX7_addPrinter_80 ?_
        refine s_aload_n (pc := 81) S 0 dX7_addPrinter_81 rfl rfl ?_
        refine s_get (pc := 82) S hz (ref := "SpoolFarmModel") (v := .ref (A 60 6)) (cc_mod (A := A) (C := (up3 (up3 (up3 (up3 C 60 100 27 0) 60 11 (C 60 100 29) cb) 60 4 (C 60 100 29) w_5) 60 5 (C 60 100 29) w_5))) i_RX7 rfl 6 (Nat.le_of_ble_eq_true rfl) (by decide +kernel) (fun _ h => h) rfl dX7_addPrinter_82 ?_
        refine s_aload_n (pc := 85) S 0 dX7_addPrinter_85 rfl rfl ?_
        refine s_get (pc := 86) S hz (ref := "SpoolFarmModel") (v := .int (nI (C 60 100 29))) (cc_mod (A := A) (C := (up3 (up3 (up3 (up3 C 60 100 27 0) 60 11 (C 60 100 29) cb) 60 4 (C 60 100 29) w_5) 60 5 (C 60 100 29) w_5))) i_RX7 rfl 29 (Nat.le_of_ble_eq_true rfl) (by decide +kernel) (fun _ h => h) rfl dX7_addPrinter_86 ?_
        refine s_iload_n (pc := 89) S 3 dX7_addPrinter_89 rfl rfl ?_
        refine s_iast (pc := 90) S hz (cc_row (A := A) (C := (up3 (up3 (up3 (up3 C 60 100 27 0) 60 11 (C 60 100 29) cb) 60 4 (C 60 100 29) w_5) 60 5 (C 60 100 29) w_5)) (x := aN .int 4 ((up3 (up3 (up3 (up3 C 60 100 27 0) 60 11 (C 60 100 29) cb) 60 4 (C 60 100 29) w_5) 60 5 (C 60 100 29) w_5) 60 6)) 6 (by decide) rfl) (by omega) (by omega) (up3 (up3 (up3 (up3 (up3 C 60 100 27 0) 60 11 (C 60 100 29) cb) 60 4 (C 60 100 29) w_5) 60 5 (C 60 100 29) w_5) 60 6 (C 60 100 29) w_12) cu_mod (by rw [(cc_row (A := A) (C := (up3 (up3 (up3 (up3 (up3 C 60 100 27 0) 60 11 (C 60 100 29) cb) 60 4 (C 60 100 29) w_5) 60 5 (C 60 100 29) w_5) 60 6 (C 60 100 29) w_12)) (x := aN .int 4 ((up3 (up3 (up3 (up3 (up3 C 60 100 27 0) 60 11 (C 60 100 29) cb) 60 4 (C 60 100 29) w_5) 60 5 (C 60 100 29) w_5) 60 6 (C 60 100 29) w_12) 60 6)) 6 (by decide) rfl), up3_u]) dX7_addPrinter_90 ?_
        refine s_aload_n (pc := 91) S 0 dX7_addPrinter_91 rfl rfl ?_
        refine s_dup (pc := 92) S dX7_addPrinter_92 rfl ?_
        refine s_get (pc := 93) S hz (ref := "SpoolFarmModel") (v := .int (nI (C 60 100 29))) (cc_mod (A := A) (C := (up3 (up3 (up3 (up3 (up3 C 60 100 27 0) 60 11 (C 60 100 29) cb) 60 4 (C 60 100 29) w_5) 60 5 (C 60 100 29) w_5) 60 6 (C 60 100 29) w_12))) i_RX7 rfl 29 (Nat.le_of_ble_eq_true rfl) (by decide +kernel) (fun _ h => h) rfl dX7_addPrinter_93 ?_
        refine s_iconst (pc := 96) S (v := (nI 1)) dX7_addPrinter_96 (by decide) ?_
        refine s_iaddN (pc := 97) S dX7_addPrinter_97 ?_
        refine s_put (pc := 98) S hz (ref := "SpoolFarmModel") (ty := .int) (cc_mod (A := A) (C := (up3 (up3 (up3 (up3 (up3 C 60 100 27 0) 60 11 (C 60 100 29) cb) 60 4 (C 60 100 29) w_5) 60 5 (C 60 100 29) w_5) 60 6 (C 60 100 29) w_12))) i_RX7 tyX7 tyX7_ok nmX7 rfl 29 (Nat.le_of_ble_eq_true rfl) (by decide +kernel) (fun _ h => h) rfl (by decide +kernel) rfl rfl (Nat.le_of_ble_eq_true rfl) (up3 (up3 (up3 (up3 (up3 (up3 C 60 100 27 0) 60 11 (C 60 100 29) cb) 60 4 (C 60 100 29) w_5) 60 5 (C 60 100 29) w_5) 60 6 (C 60 100 29) w_12) 60 100 29 ((C 60 100 29) + 1)) cu_mod (by rw [(cc_mod (A := A) (C := (up3 (up3 (up3 (up3 (up3 (up3 C 60 100 27 0) 60 11 (C 60 100 29) cb) 60 4 (C 60 100 29) w_5) 60 5 (C 60 100 29) w_5) 60 6 (C 60 100 29) w_12) 60 100 29 ((C 60 100 29) + 1)))), up3_u]; rfl) dX7_addPrinter_98 ?_
        refine s_aload_n (pc := 101) S 0 dX7_addPrinter_101 rfl rfl ?_
        refine s_get (pc := 102) S hz (ref := "SpoolFarmModel") (v := .int (nI ((C 60 100 29) + 1))) (cc_mod (A := A) (C := (up3 (up3 (up3 (up3 (up3 (up3 C 60 100 27 0) 60 11 (C 60 100 29) cb) 60 4 (C 60 100 29) w_5) 60 5 (C 60 100 29) w_5) 60 6 (C 60 100 29) w_12) 60 100 29 ((C 60 100 29) + 1)))) i_RX7 rfl 29 (Nat.le_of_ble_eq_true rfl) (by decide +kernel) (fun _ h => h) rfl dX7_addPrinter_102 ?_
        refine s_iconst (pc := 105) S (v := (nI 1)) dX7_addPrinter_105 (by decide) ?_
        refine s_isubN (pc := 106) S dX7_addPrinter_106 (by omega) ?_
        exact s_iret (pc := 107) S hz hlo hr ⟨rfl, Or.inl ⟨w_5, w_12, r_6, r_7, rfl, r_13, r_14, rfl, c_15, rfl, rfl⟩⟩ (Nat.le_of_ble_eq_true rfl) (Nat.le_of_ble_eq_true rfl) dX7_addPrinter_107
      · refine s_iconst (pc := 34) S (v := (nI 2)) dX7_addPrinter_34 (by decide) ?_
        refine s_goto (pc := 35) S 39 dX7_addPrinter_35 (by decide) ?_
        refine s_put (pc := 39) S hz (ref := "SpoolFarmModel") (ty := .int) (cc_mod (A := A) (C := C)) i_RX7 tyX7 tyX7_ok nmX7 rfl 27 (Nat.le_of_ble_eq_true rfl) (by decide +kernel) (fun _ h => h) rfl (by decide +kernel) rfl rfl (Nat.le_of_ble_eq_true rfl) (up3 C 60 100 27 2) cu_mod (by rw [(cc_mod (A := A) (C := (up3 C 60 100 27 2))), up3_u]; rfl) dX7_addPrinter_39 ?_
        refine s_aload_n (pc := 42) S 0 dX7_addPrinter_42 rfl rfl ?_
        refine s_get (pc := 43) S hz (ref := "SpoolFarmModel") (v := .int (nI 2)) (cc_mod (A := A) (C := (up3 C 60 100 27 2))) i_RX7 rfl 27 (Nat.le_of_ble_eq_true rfl) (by decide +kernel) (fun _ h => h) rfl dX7_addPrinter_43 ?_
        refine s_if_leN (pc := 46) S 51 dX7_addPrinter_46 (by decide) (by decide) (fun h => absurd h (by decide)) (fun _ => ?_)
        refine s_iconst (pc := 49) S (v := (nI 0)) dX7_addPrinter_49 (by decide) ?_
        exact s_iret (pc := 50) S hz hlo hr ⟨rfl, Or.inr (Or.inl ⟨w_5, w_12, r_6, r_7, rfl, r_13, r_14, rfl, c_15, rfl, rfl⟩)⟩ (Nat.le_of_ble_eq_true rfl) (Nat.le_of_ble_eq_true rfl) dX7_addPrinter_50
    · have n_16 := rg_no (by decide) (by decide) p_11
      refine s_if_neN (pc := 19) S 26 dX7_addPrinter_19 (by decide) (by decide) (fun h => absurd h (by decide)) (fun _ => ?_)
      refine s_iconst (pc := 22) S (v := (nI 1)) dX7_addPrinter_22 (by decide) ?_
      refine s_goto (pc := 23) S 39 dX7_addPrinter_23 (by decide) ?_
      refine s_put (pc := 39) S hz (ref := "SpoolFarmModel") (ty := .int) (cc_mod (A := A) (C := C)) i_RX7 tyX7 tyX7_ok nmX7 rfl 27 (Nat.le_of_ble_eq_true rfl) (by decide +kernel) (fun _ h => h) rfl (by decide +kernel) rfl rfl (Nat.le_of_ble_eq_true rfl) (up3 C 60 100 27 1) cu_mod (by rw [(cc_mod (A := A) (C := (up3 C 60 100 27 1))), up3_u]; rfl) dX7_addPrinter_39 ?_
      refine s_aload_n (pc := 42) S 0 dX7_addPrinter_42 rfl rfl ?_
      refine s_get (pc := 43) S hz (ref := "SpoolFarmModel") (v := .int (nI 1)) (cc_mod (A := A) (C := (up3 C 60 100 27 1))) i_RX7 rfl 27 (Nat.le_of_ble_eq_true rfl) (by decide +kernel) (fun _ h => h) rfl dX7_addPrinter_43 ?_
      refine s_if_leN (pc := 46) S 51 dX7_addPrinter_46 (by decide) (by decide) (fun h => absurd h (by decide)) (fun _ => ?_)
      refine s_iconst (pc := 49) S (v := (nI 0)) dX7_addPrinter_49 (by decide) ?_
      exact s_iret (pc := 50) S hz hlo hr ⟨rfl, Or.inr (Or.inr (Or.inl ⟨w_5, r_6, r_7, rfl, n_16, rfl, rfl⟩))⟩ (Nat.le_of_ble_eq_true rfl) (Nat.le_of_ble_eq_true rfl) dX7_addPrinter_50
  · have n_17 := rg_no (by decide) (by decide) p_4
    refine s_if_eqN (pc := 9) S 22 dX7_addPrinter_9 (by decide) (by decide) (fun _ => ?_) (fun h => absurd h (by decide))
    refine s_iconst (pc := 22) S (v := (nI 1)) dX7_addPrinter_22 (by decide) ?_
    refine s_goto (pc := 23) S 39 dX7_addPrinter_23 (by decide) ?_
    refine s_put (pc := 39) S hz (ref := "SpoolFarmModel") (ty := .int) (cc_mod (A := A) (C := C)) i_RX7 tyX7 tyX7_ok nmX7 rfl 27 (Nat.le_of_ble_eq_true rfl) (by decide +kernel) (fun _ h => h) rfl (by decide +kernel) rfl rfl (Nat.le_of_ble_eq_true rfl) (up3 C 60 100 27 1) cu_mod (by rw [(cc_mod (A := A) (C := (up3 C 60 100 27 1))), up3_u]; rfl) dX7_addPrinter_39 ?_
    refine s_aload_n (pc := 42) S 0 dX7_addPrinter_42 rfl rfl ?_
    refine s_get (pc := 43) S hz (ref := "SpoolFarmModel") (v := .int (nI 1)) (cc_mod (A := A) (C := (up3 C 60 100 27 1))) i_RX7 rfl 27 (Nat.le_of_ble_eq_true rfl) (by decide +kernel) (fun _ h => h) rfl dX7_addPrinter_43 ?_
    refine s_if_leN (pc := 46) S 51 dX7_addPrinter_46 (by decide) (by decide) (fun h => absurd h (by decide)) (fun _ => ?_)
    refine s_iconst (pc := 49) S (v := (nI 0)) dX7_addPrinter_49 (by decide) ?_
    exact s_iret (pc := 50) S hz hlo hr ⟨rfl, Or.inr (Or.inr (Or.inr (⟨n_17, rfl, rfl⟩)))⟩ (Nat.le_of_ble_eq_true rfl) (Nat.le_of_ble_eq_true rfl) dX7_addPrinter_50
set_option maxHeartbeats 4000000 in
set_option maxRecDepth 100000 in
theorem k_X7_addTray (Z : Zp) (l : Launch) (A : AF) (C : CF) (x : Int32) (q : Nat) (y : Int32) (hq : q < 65536) (hO : OkR C) : CtS Z l yX7_addTray wsX7_addTray ({ frames := 2, cells := 0, slots := 0, locals := 43 }) [.ref (A 60 100), .int x, .int (nI q), .int y] A C 0 0 (fun v A2 C2 => A = A2 ∧ ((∃ k_2 w_18 : Nat, k_2 < C 60 100 29 ∧ nI k_2 = x ∧ isPap q ∧ 0 ≤ w_18 ∧ w_18 ≤ 500 ∧ nI w_18 = y ∧ ¬ C 60 2 k_2 = 3 ∧ (up3 (up3 (up3 (up3 C 60 100 27 0) 60 8 ((3 * k_2) + (C 60 2 k_2)) q) 60 3 ((3 * k_2) + (C 60 2 k_2)) w_18) 60 2 k_2 ((C 60 2 k_2) + 1)) = C2 ∧ some (.int (nI (C 60 2 k_2))) = v) ∨ (∃ k_2 w_18 : Nat, k_2 < C 60 100 29 ∧ nI k_2 = x ∧ isPap q ∧ 0 ≤ w_18 ∧ w_18 ≤ 500 ∧ nI w_18 = y ∧ C 60 2 k_2 = 3 ∧ (up3 C 60 100 27 3) = C2 ∧ some (.int (nI 0)) = v) ∨ (∃ k_2 : Nat, k_2 < C 60 100 29 ∧ nI k_2 = x ∧ isPap q ∧ (∀ k : Nat, 0 ≤ k → k ≤ 500 → nI k ≠ y) ∧ (up3 C 60 100 27 2) = C2 ∧ some (.int (nI 0)) = v) ∨ (∃ k_2 : Nat, k_2 < C 60 100 29 ∧ nI k_2 = x ∧ ¬ isPap q ∧ (up3 C 60 100 27 2) = C2 ∧ some (.int (nI 0)) = v) ∨ ((∀ k : Nat, k < C 60 100 29 → nI k ≠ x) ∧ (up3 C 60 100 27 1) = C2 ∧ some (.int (nI 0)) = v))) (fun _ _ _ => False) := by
  refine CtS.of (cc0 := cX7_addTray) (maxL := 5) (ret := (some .int)) (by decide) rfl (Nat.le_of_ble_eq_true rfl) ?_
  intro M0_ p_ e_ s_ m_ args_ below_ meth_ c_ S hz hml hex hlo hr hin
  refine s_loc (L2 := [(0, .ref (A 60 100)), (1, .int x), (2, .int (nI q)), (3, .int y)]) rfl ?_
  have i_RX7 : ∀ w ∈ u_ws RX7 TX7 38, w ∈ wsX7_addTray := by decide +kernel
  obtain ⟨oU, oP, oJ, oTc, oY, o8, o9, o10, o11, o12, o13, o14, o15, oX, oQ, oB, oK, oS, oJk, oM, oCo, oSh, oLg, oPo, oLl, oL2, oL3, oL4, oLle, oE1, oE2, oE3, oE4⟩ := id hO
  have hu : C 60 100 28 < 2 ^ 30 := by omega
  have hp : C 60 100 29 < 2 ^ 30 := by omega
  have hj : C 60 100 30 < 2 ^ 30 := by omega
  have hlg : C 60 100 31 < 2 ^ 30 := by omega
  have hp4 := oP
  have htc := oTc
  refine s_aload_n (pc := 0) S 0 dX7_addTray_0 rfl rfl ?_
  refine s_aload_n (pc := 1) S 0 dX7_addTray_1 rfl rfl ?_
  refine s_iload_n (pc := 2) S 1 dX7_addTray_2 rfl rfl ?_
  refine s_callV (pc := 3) S hz hml [.int x] (k_X7_isPrinter Z l A C x hp) (cwV 1 S.2.2.2.2 gX7_addTray_X7_isPrinter rfl rfl rfl (by decide +kernel) ⟨Nat.le_of_ble_eq_true rfl, Nat.le_of_ble_eq_true rfl⟩) (cc_mod (A := A) (C := C)) rfl rfl rfl (Nat.le_of_ble_eq_true rfl) dX7_addTray_3 ⟨Nat.le_of_ble_eq_true rfl, Nat.le_of_ble_eq_true rfl⟩ (fun _ _ _ h => h.elim) (fun v A2 C2 h_1 => ?_)
  rcases h_1 with ⟨rfl, rfl, ⟨k_2, hk_3, rfl, rfl⟩ | ⟨no_4, rfl⟩⟩
  · have z_5 : k_2 < 4 := by omega
    have z_6 := oTc k_2
    have z_7 := oB k_2
    have z_8 := oK k_2
    have z_9 := oS k_2
    have z_10 := o11 k_2
    refine s_if_neN (pc := 6) S 13 dX7_addTray_6 (by decide) (by decide) (fun _ => ?_) (fun h => absurd h (by decide))
    refine s_iload_n (pc := 13) S 2 dX7_addTray_13 rfl rfl ?_
    refine s_callS (pc := 14) S hz hml [.int (nI q)] (k_X7_isPaper Z l A C q hq) (cwS 1 S.2.2.2.2 gX7_addTray_X7_isPaper rfl rfl rfl (by decide +kernel) ⟨Nat.le_of_ble_eq_true rfl, Nat.le_of_ble_eq_true rfl⟩) rfl rfl (Nat.le_of_ble_eq_true rfl) dX7_addTray_14 ⟨Nat.le_of_ble_eq_true rfl, Nat.le_of_ble_eq_true rfl⟩ (fun _ _ _ h => h.elim) (fun v A2 C2 h_11 => ?_)
    rcases h_11 with ⟨rfl, rfl, ⟨pq_12, rfl⟩ | ⟨pq_13, rfl⟩⟩
    · refine s_if_eqN (pc := 17) S 31 dX7_addTray_17 (by decide) (by decide) (fun h => absurd h (by decide)) (fun _ => ?_)
      refine s_iload_n (pc := 20) S 3 dX7_addTray_20 rfl rfl ?_
      refine s_iconst (pc := 21) S (v := (nI 0)) dX7_addTray_21 (by decide) ?_
      refine s_sipush (pc := 22) S (v := (nI 500)) dX7_addTray_22 (by decide) ?_
      refine s_callS (pc := 25) S hz hml [.int y, .int (nI 0), .int (nI 500)] (k_X7_in Z l A C y (nI 0) (nI 500)) (cwS 3 S.2.2.2.2 gX7_addTray_X7_in rfl rfl rfl (by decide +kernel) ⟨Nat.le_of_ble_eq_true rfl, Nat.le_of_ble_eq_true rfl⟩) rfl rfl (Nat.le_of_ble_eq_true rfl) dX7_addTray_25 ⟨Nat.le_of_ble_eq_true rfl, Nat.le_of_ble_eq_true rfl⟩ (fun _ _ _ h => h.elim) (fun v A2 C2 h_14 => ?_)
      rcases h_14 with ⟨rfl, rfl, ⟨p_15, p_16, rfl⟩ | ⟨p_17, rfl⟩⟩
      · obtain ⟨w_18, r_19, r_20, rfl⟩ := rg_of (by decide) p_15 p_16 (by decide)
        refine s_if_neN (pc := 28) S 35 dX7_addTray_28 (by decide) (by decide) (fun _ => ?_) (fun h => absurd h (by decide))
        refine s_aload_n (pc := 35) S 0 dX7_addTray_35 rfl rfl ?_
        refine s_get (pc := 36) S hz (ref := "SpoolFarmModel") (v := .ref (A 60 2)) (cc_mod (A := A) (C := C)) i_RX7 rfl 2 (Nat.le_of_ble_eq_true rfl) (by decide +kernel) (fun _ h => h) rfl dX7_addTray_36 ?_
        refine s_iload_n (pc := 39) S 1 dX7_addTray_39 rfl rfl ?_
        refine s_iald (pc := 40) S hz (x := C 60 2 k_2) (cc_row (A := A) (C := C) (x := aN .int 4 (C 60 2)) 2 (by decide) rfl) (by omega) (by omega) rfl dX7_addTray_40 ?_
        refine s_iconst (pc := 41) S (v := (nI 3)) dX7_addTray_41 (by decide) ?_
        refine s_icmp_neN (pc := 42) S 49 dX7_addTray_42 (by decide) (by omega) (by omega) (fun c_21 => ?_) (fun c_21 => ?_)
        · refine s_iconst (pc := 49) S (v := (nI 0)) dX7_addTray_49 (by decide) ?_
          refine s_put (pc := 50) S hz (ref := "SpoolFarmModel") (ty := .int) (cc_mod (A := A) (C := C)) i_RX7 tyX7 tyX7_ok nmX7 rfl 27 (Nat.le_of_ble_eq_true rfl) (by decide +kernel) (fun _ h => h) rfl (by decide +kernel) rfl rfl (Nat.le_of_ble_eq_true rfl) (up3 C 60 100 27 0) cu_mod (by rw [(cc_mod (A := A) (C := (up3 C 60 100 27 0))), up3_u]; rfl) dX7_addTray_50 ?_
          refine s_aload_n (pc := 53) S 0 dX7_addTray_53 rfl rfl ?_
          refine s_get (pc := 54) S hz (ref := "SpoolFarmModel") (v := .int (nI 0)) (cc_mod (A := A) (C := (up3 C 60 100 27 0))) i_RX7 rfl 27 (Nat.le_of_ble_eq_true rfl) (by decide +kernel) (fun _ h => h) rfl dX7_addTray_54 ?_
          refine s_if_leN (pc := 57) S 62 dX7_addTray_57 (by decide) (by decide) (fun _ => ?_) (fun h => absurd h (by decide))
          refine s_aload_n (pc := 62) S 0 dX7_addTray_62 rfl rfl ?_
          refine s_get (pc := 63) S hz (ref := "SpoolFarmModel") (v := .ref (A 60 2)) (cc_mod (A := A) (C := (up3 C 60 100 27 0))) i_RX7 rfl 2 (Nat.le_of_ble_eq_true rfl) (by decide +kernel) (fun _ h => h) rfl dX7_addTray_63 ?_
          refine s_iload_n (pc := 66) S 1 dX7_addTray_66 rfl rfl ?_
          refine s_iald (pc := 67) S hz (x := C 60 2 k_2) (cc_row (A := A) (C := (up3 C 60 100 27 0)) (x := aN .int 4 ((up3 C 60 100 27 0) 60 2)) 2 (by decide) rfl) (by omega) (by omega) rfl dX7_addTray_67 ?_
          refine s_istore (pc := 68) S [(4, .int (nI (C 60 2 k_2))), (0, .ref (A 60 100)), (1, .int (nI k_2)), (2, .int (nI q)), (3, .int (nI w_18))] dX7_addTray_68 (by decide) rfl ?_
          refine s_aload_n (pc := 70) S 1 dX7_addTray_70 rfl rfl ?_
          refine s_get (pc := 71) S hz (ref := "SpoolFarmModel") (v := .ref (A 60 8)) (cc_mod (A := A) (C := (up3 C 60 100 27 0))) i_RX7 rfl 8 (Nat.le_of_ble_eq_true rfl) (by decide +kernel) (fun _ h => h) rfl dX7_addTray_71 ?_
          refine s_iconst (pc := 74) S (v := (nI 3)) dX7_addTray_74 (by decide) ?_
          refine s_iload_n (pc := 75) S 2 dX7_addTray_75 rfl rfl ?_
          refine s_imulN (pc := 76) S dX7_addTray_76 ?_
          refine s_iload (pc := 77) S 0 dX7_addTray_77 rfl ?_
          refine s_iaddN (pc := 79) S dX7_addTray_79 ?_
          refine s_iload_n (pc := 80) S 3 dX7_addTray_80 rfl rfl ?_
          refine s_cast (pc := 81) S hz (cc_row (A := A) (C := (up3 C 60 100 27 0)) (x := aN .char 12 ((up3 C 60 100 27 0) 60 8)) 8 (by decide) rfl) (by omega) (by omega) (by omega) (up3 (up3 C 60 100 27 0) 60 8 ((3 * k_2) + (C 60 2 k_2)) q) cu_mod (by rw [(cc_row (A := A) (C := (up3 (up3 C 60 100 27 0) 60 8 ((3 * k_2) + (C 60 2 k_2)) q)) (x := aN .char 12 ((up3 (up3 C 60 100 27 0) 60 8 ((3 * k_2) + (C 60 2 k_2)) q) 60 8)) 8 (by decide) rfl), up3_u]) dX7_addTray_81 ?_
          refine s_aload_n (pc := 82) S 1 dX7_addTray_82 rfl rfl ?_
          refine s_get (pc := 83) S hz (ref := "SpoolFarmModel") (v := .ref (A 60 3)) (cc_mod (A := A) (C := (up3 (up3 C 60 100 27 0) 60 8 ((3 * k_2) + (C 60 2 k_2)) q))) i_RX7 rfl 3 (Nat.le_of_ble_eq_true rfl) (by decide +kernel) (fun _ h => h) rfl dX7_addTray_83 ?_
          refine s_iconst (pc := 86) S (v := (nI 3)) dX7_addTray_86 (by decide) ?_
          refine s_iload_n (pc := 87) S 2 dX7_addTray_87 rfl rfl ?_
          refine s_imulN (pc := 88) S dX7_addTray_88 ?_
          refine s_iload (pc := 89) S 0 dX7_addTray_89 rfl ?_
          refine s_iaddN (pc := 91) S dX7_addTray_91 ?_
          refine s_iload_n (pc := 92) S 4 dX7_addTray_92 rfl rfl ?_
          refine s_iast (pc := 93) S hz (cc_row (A := A) (C := (up3 (up3 C 60 100 27 0) 60 8 ((3 * k_2) + (C 60 2 k_2)) q)) (x := aN .int 12 ((up3 (up3 C 60 100 27 0) 60 8 ((3 * k_2) + (C 60 2 k_2)) q) 60 3)) 3 (by decide) rfl) (by omega) (by omega) (up3 (up3 (up3 C 60 100 27 0) 60 8 ((3 * k_2) + (C 60 2 k_2)) q) 60 3 ((3 * k_2) + (C 60 2 k_2)) w_18) cu_mod (by rw [(cc_row (A := A) (C := (up3 (up3 (up3 C 60 100 27 0) 60 8 ((3 * k_2) + (C 60 2 k_2)) q) 60 3 ((3 * k_2) + (C 60 2 k_2)) w_18)) (x := aN .int 12 ((up3 (up3 (up3 C 60 100 27 0) 60 8 ((3 * k_2) + (C 60 2 k_2)) q) 60 3 ((3 * k_2) + (C 60 2 k_2)) w_18) 60 3)) 3 (by decide) rfl), up3_u]) dX7_addTray_93 ?_
          refine s_aload_n (pc := 94) S 1 dX7_addTray_94 rfl rfl ?_
          refine s_get (pc := 95) S hz (ref := "SpoolFarmModel") (v := .ref (A 60 2)) (cc_mod (A := A) (C := (up3 (up3 (up3 C 60 100 27 0) 60 8 ((3 * k_2) + (C 60 2 k_2)) q) 60 3 ((3 * k_2) + (C 60 2 k_2)) w_18))) i_RX7 rfl 2 (Nat.le_of_ble_eq_true rfl) (by decide +kernel) (fun _ h => h) rfl dX7_addTray_95 ?_
          refine s_iload_n (pc := 98) S 2 dX7_addTray_98 rfl rfl ?_
          refine s_dup2 (pc := 99) S dX7_addTray_99 rfl rfl ?_
          refine s_iald (pc := 100) S hz (x := C 60 2 k_2) (cc_row (A := A) (C := (up3 (up3 (up3 C 60 100 27 0) 60 8 ((3 * k_2) + (C 60 2 k_2)) q) 60 3 ((3 * k_2) + (C 60 2 k_2)) w_18)) (x := aN .int 4 ((up3 (up3 (up3 C 60 100 27 0) 60 8 ((3 * k_2) + (C 60 2 k_2)) q) 60 3 ((3 * k_2) + (C 60 2 k_2)) w_18) 60 2)) 2 (by decide) rfl) (by omega) (by omega) rfl dX7_addTray_100 ?_
          refine s_iconst (pc := 101) S (v := (nI 1)) dX7_addTray_101 (by decide) ?_
          refine s_iaddN (pc := 102) S dX7_addTray_102 ?_
          refine s_iast (pc := 103) S hz (cc_row (A := A) (C := (up3 (up3 (up3 C 60 100 27 0) 60 8 ((3 * k_2) + (C 60 2 k_2)) q) 60 3 ((3 * k_2) + (C 60 2 k_2)) w_18)) (x := aN .int 4 ((up3 (up3 (up3 C 60 100 27 0) 60 8 ((3 * k_2) + (C 60 2 k_2)) q) 60 3 ((3 * k_2) + (C 60 2 k_2)) w_18) 60 2)) 2 (by decide) rfl) (by omega) (by omega) (up3 (up3 (up3 (up3 C 60 100 27 0) 60 8 ((3 * k_2) + (C 60 2 k_2)) q) 60 3 ((3 * k_2) + (C 60 2 k_2)) w_18) 60 2 k_2 ((C 60 2 k_2) + 1)) cu_mod (by rw [(cc_row (A := A) (C := (up3 (up3 (up3 (up3 C 60 100 27 0) 60 8 ((3 * k_2) + (C 60 2 k_2)) q) 60 3 ((3 * k_2) + (C 60 2 k_2)) w_18) 60 2 k_2 ((C 60 2 k_2) + 1))) (x := aN .int 4 ((up3 (up3 (up3 (up3 C 60 100 27 0) 60 8 ((3 * k_2) + (C 60 2 k_2)) q) 60 3 ((3 * k_2) + (C 60 2 k_2)) w_18) 60 2 k_2 ((C 60 2 k_2) + 1)) 60 2)) 2 (by decide) rfl), up3_u]) dX7_addTray_103 ?_
          refine s_iload (pc := 104) S 0 dX7_addTray_104 rfl ?_
          exact s_iret (pc := 106) S hz hlo hr ⟨rfl, Or.inl ⟨k_2, w_18, hk_3, rfl, pq_12, r_19, r_20, rfl, c_21, rfl, rfl⟩⟩ (Nat.le_of_ble_eq_true rfl) (Nat.le_of_ble_eq_true rfl) dX7_addTray_106
        · refine s_iconst (pc := 45) S (v := (nI 3)) dX7_addTray_45 (by decide) ?_
          refine s_goto (pc := 46) S 50 dX7_addTray_46 (by decide) ?_
          refine s_put (pc := 50) S hz (ref := "SpoolFarmModel") (ty := .int) (cc_mod (A := A) (C := C)) i_RX7 tyX7 tyX7_ok nmX7 rfl 27 (Nat.le_of_ble_eq_true rfl) (by decide +kernel) (fun _ h => h) rfl (by decide +kernel) rfl rfl (Nat.le_of_ble_eq_true rfl) (up3 C 60 100 27 3) cu_mod (by rw [(cc_mod (A := A) (C := (up3 C 60 100 27 3))), up3_u]; rfl) dX7_addTray_50 ?_
          refine s_aload_n (pc := 53) S 0 dX7_addTray_53 rfl rfl ?_
          refine s_get (pc := 54) S hz (ref := "SpoolFarmModel") (v := .int (nI 3)) (cc_mod (A := A) (C := (up3 C 60 100 27 3))) i_RX7 rfl 27 (Nat.le_of_ble_eq_true rfl) (by decide +kernel) (fun _ h => h) rfl dX7_addTray_54 ?_
          refine s_if_leN (pc := 57) S 62 dX7_addTray_57 (by decide) (by decide) (fun h => absurd h (by decide)) (fun _ => ?_)
          refine s_iconst (pc := 60) S (v := (nI 0)) dX7_addTray_60 (by decide) ?_
          exact s_iret (pc := 61) S hz hlo hr ⟨rfl, Or.inr (Or.inl ⟨k_2, w_18, hk_3, rfl, pq_12, r_19, r_20, rfl, c_21, rfl, rfl⟩)⟩ (Nat.le_of_ble_eq_true rfl) (Nat.le_of_ble_eq_true rfl) dX7_addTray_61
      · have n_22 := rg_no (by decide) (by decide) p_17
        refine s_if_neN (pc := 28) S 35 dX7_addTray_28 (by decide) (by decide) (fun h => absurd h (by decide)) (fun _ => ?_)
        refine s_iconst (pc := 31) S (v := (nI 2)) dX7_addTray_31 (by decide) ?_
        refine s_goto (pc := 32) S 50 dX7_addTray_32 (by decide) ?_
        refine s_put (pc := 50) S hz (ref := "SpoolFarmModel") (ty := .int) (cc_mod (A := A) (C := C)) i_RX7 tyX7 tyX7_ok nmX7 rfl 27 (Nat.le_of_ble_eq_true rfl) (by decide +kernel) (fun _ h => h) rfl (by decide +kernel) rfl rfl (Nat.le_of_ble_eq_true rfl) (up3 C 60 100 27 2) cu_mod (by rw [(cc_mod (A := A) (C := (up3 C 60 100 27 2))), up3_u]; rfl) dX7_addTray_50 ?_
        refine s_aload_n (pc := 53) S 0 dX7_addTray_53 rfl rfl ?_
        refine s_get (pc := 54) S hz (ref := "SpoolFarmModel") (v := .int (nI 2)) (cc_mod (A := A) (C := (up3 C 60 100 27 2))) i_RX7 rfl 27 (Nat.le_of_ble_eq_true rfl) (by decide +kernel) (fun _ h => h) rfl dX7_addTray_54 ?_
        refine s_if_leN (pc := 57) S 62 dX7_addTray_57 (by decide) (by decide) (fun h => absurd h (by decide)) (fun _ => ?_)
        refine s_iconst (pc := 60) S (v := (nI 0)) dX7_addTray_60 (by decide) ?_
        exact s_iret (pc := 61) S hz hlo hr ⟨rfl, Or.inr (Or.inr (Or.inl ⟨k_2, hk_3, rfl, pq_12, n_22, rfl, rfl⟩))⟩ (Nat.le_of_ble_eq_true rfl) (Nat.le_of_ble_eq_true rfl) dX7_addTray_61
    · refine s_if_eqN (pc := 17) S 31 dX7_addTray_17 (by decide) (by decide) (fun _ => ?_) (fun h => absurd h (by decide))
      refine s_iconst (pc := 31) S (v := (nI 2)) dX7_addTray_31 (by decide) ?_
      refine s_goto (pc := 32) S 50 dX7_addTray_32 (by decide) ?_
      refine s_put (pc := 50) S hz (ref := "SpoolFarmModel") (ty := .int) (cc_mod (A := A) (C := C)) i_RX7 tyX7 tyX7_ok nmX7 rfl 27 (Nat.le_of_ble_eq_true rfl) (by decide +kernel) (fun _ h => h) rfl (by decide +kernel) rfl rfl (Nat.le_of_ble_eq_true rfl) (up3 C 60 100 27 2) cu_mod (by rw [(cc_mod (A := A) (C := (up3 C 60 100 27 2))), up3_u]; rfl) dX7_addTray_50 ?_
      refine s_aload_n (pc := 53) S 0 dX7_addTray_53 rfl rfl ?_
      refine s_get (pc := 54) S hz (ref := "SpoolFarmModel") (v := .int (nI 2)) (cc_mod (A := A) (C := (up3 C 60 100 27 2))) i_RX7 rfl 27 (Nat.le_of_ble_eq_true rfl) (by decide +kernel) (fun _ h => h) rfl dX7_addTray_54 ?_
      refine s_if_leN (pc := 57) S 62 dX7_addTray_57 (by decide) (by decide) (fun h => absurd h (by decide)) (fun _ => ?_)
      refine s_iconst (pc := 60) S (v := (nI 0)) dX7_addTray_60 (by decide) ?_
      exact s_iret (pc := 61) S hz hlo hr ⟨rfl, Or.inr (Or.inr (Or.inr (Or.inl ⟨k_2, hk_3, rfl, pq_13, rfl, rfl⟩)))⟩ (Nat.le_of_ble_eq_true rfl) (Nat.le_of_ble_eq_true rfl) dX7_addTray_61
  · refine s_if_neN (pc := 6) S 13 dX7_addTray_6 (by decide) (by decide) (fun h => absurd h (by decide)) (fun _ => ?_)
    refine s_iconst (pc := 9) S (v := (nI 1)) dX7_addTray_9 (by decide) ?_
    refine s_goto (pc := 10) S 50 dX7_addTray_10 (by decide) ?_
    refine s_put (pc := 50) S hz (ref := "SpoolFarmModel") (ty := .int) (cc_mod (A := A) (C := C)) i_RX7 tyX7 tyX7_ok nmX7 rfl 27 (Nat.le_of_ble_eq_true rfl) (by decide +kernel) (fun _ h => h) rfl (by decide +kernel) rfl rfl (Nat.le_of_ble_eq_true rfl) (up3 C 60 100 27 1) cu_mod (by rw [(cc_mod (A := A) (C := (up3 C 60 100 27 1))), up3_u]; rfl) dX7_addTray_50 ?_
    refine s_aload_n (pc := 53) S 0 dX7_addTray_53 rfl rfl ?_
    refine s_get (pc := 54) S hz (ref := "SpoolFarmModel") (v := .int (nI 1)) (cc_mod (A := A) (C := (up3 C 60 100 27 1))) i_RX7 rfl 27 (Nat.le_of_ble_eq_true rfl) (by decide +kernel) (fun _ h => h) rfl dX7_addTray_54 ?_
    refine s_if_leN (pc := 57) S 62 dX7_addTray_57 (by decide) (by decide) (fun h => absurd h (by decide)) (fun _ => ?_)
    refine s_iconst (pc := 60) S (v := (nI 0)) dX7_addTray_60 (by decide) ?_
    exact s_iret (pc := 61) S hz hlo hr ⟨rfl, Or.inr (Or.inr (Or.inr (Or.inr (⟨no_4, rfl, rfl⟩))))⟩ (Nat.le_of_ble_eq_true rfl) (Nat.le_of_ble_eq_true rfl) dX7_addTray_61
set_option maxHeartbeats 4000000 in
set_option maxRecDepth 100000 in
theorem k_X7_trayCount (Z : Zp) (l : Launch) (A : AF) (C : CF) (x : Int32) (hO : OkR C) : CtS Z l yX7_trayCount wsX7_trayCount ({ frames := 2, cells := 0, slots := 0, locals := 43 }) [.ref (A 60 100), .int x] A C 0 0 (fun v A2 C2 => A = A2 ∧ ((∃ k_2 : Nat, k_2 < C 60 100 29 ∧ nI k_2 = x ∧ (up3 C 60 100 27 0) = C2 ∧ some (.int (nI (C 60 2 k_2))) = v) ∨ ((∀ k : Nat, k < C 60 100 29 → nI k ≠ x) ∧ (up3 C 60 100 27 1) = C2 ∧ some (.int (nI 0)) = v))) (fun _ _ _ => False) := by
  refine CtS.of (cc0 := cX7_trayCount) (maxL := 2) (ret := (some .int)) (by decide) rfl (Nat.le_of_ble_eq_true rfl) ?_
  intro M0_ p_ e_ s_ m_ args_ below_ meth_ c_ S hz hml hex hlo hr hin
  refine s_loc (L2 := [(0, .ref (A 60 100)), (1, .int x)]) rfl ?_
  have i_RX7 : ∀ w ∈ u_ws RX7 TX7 38, w ∈ wsX7_trayCount := by decide +kernel
  obtain ⟨oU, oP, oJ, oTc, oY, o8, o9, o10, o11, o12, o13, o14, o15, oX, oQ, oB, oK, oS, oJk, oM, oCo, oSh, oLg, oPo, oLl, oL2, oL3, oL4, oLle, oE1, oE2, oE3, oE4⟩ := id hO
  have hu : C 60 100 28 < 2 ^ 30 := by omega
  have hp : C 60 100 29 < 2 ^ 30 := by omega
  have hj : C 60 100 30 < 2 ^ 30 := by omega
  have hlg : C 60 100 31 < 2 ^ 30 := by omega
  have hp4 := oP
  have htc := oTc
  refine s_aload_n (pc := 0) S 0 dX7_trayCount_0 rfl rfl ?_
  refine s_aload_n (pc := 1) S 0 dX7_trayCount_1 rfl rfl ?_
  refine s_iload_n (pc := 2) S 1 dX7_trayCount_2 rfl rfl ?_
  refine s_callV (pc := 3) S hz hml [.int x] (k_X7_isPrinter Z l A C x hp) (cwV 1 S.2.2.2.2 gX7_trayCount_X7_isPrinter rfl rfl rfl (by decide +kernel) ⟨Nat.le_of_ble_eq_true rfl, Nat.le_of_ble_eq_true rfl⟩) (cc_mod (A := A) (C := C)) rfl rfl rfl (Nat.le_of_ble_eq_true rfl) dX7_trayCount_3 ⟨Nat.le_of_ble_eq_true rfl, Nat.le_of_ble_eq_true rfl⟩ (fun _ _ _ h => h.elim) (fun v A2 C2 h_1 => ?_)
  rcases h_1 with ⟨rfl, rfl, ⟨k_2, hk_3, rfl, rfl⟩ | ⟨no_4, rfl⟩⟩
  · have z_5 : k_2 < 4 := by omega
    have z_6 := oTc k_2
    have z_7 := oB k_2
    have z_8 := oK k_2
    have z_9 := oS k_2
    have z_10 := o11 k_2
    refine s_callV (pc := 6) S hz hml [.int (nI 1)] (k_X7_checked Z l A C 1 (by decide)) (cwV 1 S.2.2.2.2 gX7_trayCount_X7_checked rfl rfl rfl (by decide +kernel) ⟨Nat.le_of_ble_eq_true rfl, Nat.le_of_ble_eq_true rfl⟩) (cc_mod (A := A) (C := C)) rfl rfl rfl (Nat.le_of_ble_eq_true rfl) dX7_trayCount_6 ⟨Nat.le_of_ble_eq_true rfl, Nat.le_of_ble_eq_true rfl⟩ (fun _ _ _ h => h.elim) (fun v A2 C2 h_11 => ?_)
    obtain ⟨rfl, rfl, rfl⟩ := h_11
    refine s_if_leN (pc := 9) S 16 dX7_trayCount_9 (by decide) (by decide) (fun _ => ?_) (fun h => absurd h (by decide))
    refine s_aload_n (pc := 16) S 0 dX7_trayCount_16 rfl rfl ?_
    refine s_get (pc := 17) S hz (ref := "SpoolFarmModel") (v := .ref (A 60 2)) (cc_mod (A := A) (C := (up3 C 60 100 27 0))) i_RX7 rfl 2 (Nat.le_of_ble_eq_true rfl) (by decide +kernel) (fun _ h => h) rfl dX7_trayCount_17 ?_
    refine s_iload_n (pc := 20) S 1 dX7_trayCount_20 rfl rfl ?_
    refine s_iald (pc := 21) S hz (x := C 60 2 k_2) (cc_row (A := A) (C := (up3 C 60 100 27 0)) (x := aN .int 4 ((up3 C 60 100 27 0) 60 2)) 2 (by decide) rfl) (by omega) (by omega) rfl dX7_trayCount_21 ?_
    exact s_iret (pc := 22) S hz hlo hr ⟨rfl, Or.inl ⟨k_2, hk_3, rfl, rfl, rfl⟩⟩ (Nat.le_of_ble_eq_true rfl) (Nat.le_of_ble_eq_true rfl) dX7_trayCount_22
  · refine s_callV (pc := 6) S hz hml [.int (nI 0)] (k_X7_checked Z l A C 0 (by decide)) (cwV 1 S.2.2.2.2 gX7_trayCount_X7_checked rfl rfl rfl (by decide +kernel) ⟨Nat.le_of_ble_eq_true rfl, Nat.le_of_ble_eq_true rfl⟩) (cc_mod (A := A) (C := C)) rfl rfl rfl (Nat.le_of_ble_eq_true rfl) dX7_trayCount_6 ⟨Nat.le_of_ble_eq_true rfl, Nat.le_of_ble_eq_true rfl⟩ (fun _ _ _ h => h.elim) (fun v A2 C2 h_12 => ?_)
    obtain ⟨rfl, rfl, rfl⟩ := h_12
    refine s_if_leN (pc := 9) S 16 dX7_trayCount_9 (by decide) (by decide) (fun h => absurd h (by decide)) (fun _ => ?_)
    refine s_iconst (pc := 12) S (v := (nI 0)) dX7_trayCount_12 (by decide) ?_
    refine s_goto (pc := 13) S 22 dX7_trayCount_13 (by decide) ?_
    exact s_iret (pc := 22) S hz hlo hr ⟨rfl, Or.inr (⟨no_4, rfl, rfl⟩)⟩ (Nat.le_of_ble_eq_true rfl) (Nat.le_of_ble_eq_true rfl) dX7_trayCount_22
set_option maxHeartbeats 4000000 in
set_option maxRecDepth 100000 in
theorem k_X7_load (Z : Zp) (l : Launch) (A : AF) (C : CF) (x y w : Int32) (hO : OkR C) : CtS Z l yX7_load wsX7_load ({ frames := 3, cells := 0, slots := 0, locals := 65 }) [.ref (A 60 100), .int x, .int y, .int w] A C 0 0 (fun v A2 C2 => A = A2 ∧ ((∃ k_2 t_3 w_14 : Nat, k_2 < C 60 100 29 ∧ t_3 < C 60 2 k_2 ∧ nI k_2 = x ∧ nI t_3 = y ∧ 1 ≤ w_14 ∧ w_14 ≤ 500 ∧ nI w_14 = w ∧ (C 60 3 ((3 * k_2) + t_3)) + w_14 ≤ 500 ∧ (up3 (up3 C 60 100 27 0) 60 3 ((3 * k_2) + t_3) ((C 60 3 ((3 * k_2) + t_3)) + w_14)) = C2 ∧ some (.int (nI ((C 60 3 ((3 * k_2) + t_3)) + w_14))) = v) ∨ (∃ k_2 t_3 w_14 : Nat, k_2 < C 60 100 29 ∧ t_3 < C 60 2 k_2 ∧ nI k_2 = x ∧ nI t_3 = y ∧ 1 ≤ w_14 ∧ w_14 ≤ 500 ∧ nI w_14 = w ∧ ¬ (C 60 3 ((3 * k_2) + t_3)) + w_14 ≤ 500 ∧ (up3 C 60 100 27 3) = C2 ∧ some (.int (nI 0)) = v) ∨ (∃ k_2 t_3 : Nat, k_2 < C 60 100 29 ∧ t_3 < C 60 2 k_2 ∧ nI k_2 = x ∧ nI t_3 = y ∧ (∀ k : Nat, 1 ≤ k → k ≤ 500 → nI k ≠ w) ∧ (up3 C 60 100 27 2) = C2 ∧ some (.int (nI 0)) = v) ∨ (((∀ p : Nat, p < C 60 100 29 → nI p ≠ x) ∨ ∃ p : Nat, p < C 60 100 29 ∧ nI p = x ∧ ∀ t : Nat, t < C 60 2 p → nI t ≠ y) ∧ (up3 C 60 100 27 1) = C2 ∧ some (.int (nI 0)) = v))) (fun _ _ _ => False) := by
  refine CtS.of (cc0 := cX7_load) (maxL := 4) (ret := (some .int)) (by decide) rfl (Nat.le_of_ble_eq_true rfl) ?_
  intro M0_ p_ e_ s_ m_ args_ below_ meth_ c_ S hz hml hex hlo hr hin
  refine s_loc (L2 := [(0, .ref (A 60 100)), (1, .int x), (2, .int y), (3, .int w)]) rfl ?_
  have i_RX7 : ∀ w ∈ u_ws RX7 TX7 38, w ∈ wsX7_load := by decide +kernel
  obtain ⟨oU, oP, oJ, oTc, oY, o8, o9, o10, o11, o12, o13, o14, o15, oX, oQ, oB, oK, oS, oJk, oM, oCo, oSh, oLg, oPo, oLl, oL2, oL3, oL4, oLle, oE1, oE2, oE3, oE4⟩ := id hO
  have hu : C 60 100 28 < 2 ^ 30 := by omega
  have hp : C 60 100 29 < 2 ^ 30 := by omega
  have hj : C 60 100 30 < 2 ^ 30 := by omega
  have hlg : C 60 100 31 < 2 ^ 30 := by omega
  have hp4 := oP
  have htc := oTc
  refine s_aload_n (pc := 0) S 0 dX7_load_0 rfl rfl ?_
  refine s_aload_n (pc := 1) S 0 dX7_load_1 rfl rfl ?_
  refine s_iload_n (pc := 2) S 1 dX7_load_2 rfl rfl ?_
  refine s_iload_n (pc := 3) S 2 dX7_load_3 rfl rfl ?_
  refine s_callV (pc := 4) S hz hml [.int x, .int y] (k_X7_isTray Z l A C x y hp hp4 htc) (cwV 2 S.2.2.2.2 gX7_load_X7_isTray rfl rfl rfl (by decide +kernel) ⟨Nat.le_of_ble_eq_true rfl, Nat.le_of_ble_eq_true rfl⟩) (cc_mod (A := A) (C := C)) rfl rfl rfl (Nat.le_of_ble_eq_true rfl) dX7_load_4 ⟨Nat.le_of_ble_eq_true rfl, Nat.le_of_ble_eq_true rfl⟩ (fun _ _ _ h => h.elim) (fun v A2 C2 h_1 => ?_)
  rcases h_1 with ⟨rfl, rfl, ⟨k_2, t_3, hk_4, ht_5, rfl, rfl, rfl⟩ | ⟨no_6, rfl⟩⟩
  · have h3 := htc k_2
    have z_7 : k_2 < 4 := by omega
    have z_8 := oY (3 * k_2 + t_3)
    have z_9 := o8 (3 * k_2 + t_3)
    refine s_if_neN (pc := 7) S 14 dX7_load_7 (by decide) (by decide) (fun _ => ?_) (fun h => absurd h (by decide))
    refine s_iload_n (pc := 14) S 3 dX7_load_14 rfl rfl ?_
    refine s_iconst (pc := 15) S (v := (nI 1)) dX7_load_15 (by decide) ?_
    refine s_sipush (pc := 16) S (v := (nI 500)) dX7_load_16 (by decide) ?_
    refine s_callS (pc := 19) S hz hml [.int w, .int (nI 1), .int (nI 500)] (k_X7_in Z l A C w (nI 1) (nI 500)) (cwS 3 S.2.2.2.2 gX7_load_X7_in rfl rfl rfl (by decide +kernel) ⟨Nat.le_of_ble_eq_true rfl, Nat.le_of_ble_eq_true rfl⟩) rfl rfl (Nat.le_of_ble_eq_true rfl) dX7_load_19 ⟨Nat.le_of_ble_eq_true rfl, Nat.le_of_ble_eq_true rfl⟩ (fun _ _ _ h => h.elim) (fun v A2 C2 h_10 => ?_)
    rcases h_10 with ⟨rfl, rfl, ⟨p_11, p_12, rfl⟩ | ⟨p_13, rfl⟩⟩
    · obtain ⟨w_14, r_15, r_16, rfl⟩ := rg_of (by decide) p_11 p_12 (by decide)
      refine s_if_neN (pc := 22) S 29 dX7_load_22 (by decide) (by decide) (fun _ => ?_) (fun h => absurd h (by decide))
      refine s_aload_n (pc := 29) S 0 dX7_load_29 rfl rfl ?_
      refine s_get (pc := 30) S hz (ref := "SpoolFarmModel") (v := .ref (A 60 3)) (cc_mod (A := A) (C := C)) i_RX7 rfl 3 (Nat.le_of_ble_eq_true rfl) (by decide +kernel) (fun _ h => h) rfl dX7_load_30 ?_
      refine s_iconst (pc := 33) S (v := (nI 3)) dX7_load_33 (by decide) ?_
      refine s_iload_n (pc := 34) S 1 dX7_load_34 rfl rfl ?_
      refine s_imulN (pc := 35) S dX7_load_35 ?_
      refine s_iload_n (pc := 36) S 2 dX7_load_36 rfl rfl ?_
      refine s_iaddN (pc := 37) S dX7_load_37 ?_
      refine s_iald (pc := 38) S hz (x := C 60 3 ((3 * k_2) + t_3)) (cc_row (A := A) (C := C) (x := aN .int 12 (C 60 3)) 3 (by decide) rfl) (by omega) (by omega) rfl dX7_load_38 ?_
      refine s_iload_n (pc := 39) S 3 dX7_load_39 rfl rfl ?_
      refine s_iaddN (pc := 40) S dX7_load_40 ?_
      refine s_sipush (pc := 41) S (v := (nI 500)) dX7_load_41 (by decide) ?_
      refine s_icmp_leN (pc := 44) S 51 dX7_load_44 (by decide) (by omega) (by omega) (fun c_17 => ?_) (fun c_17 => ?_)
      · refine s_iconst (pc := 51) S (v := (nI 0)) dX7_load_51 (by decide) ?_
        refine s_put (pc := 52) S hz (ref := "SpoolFarmModel") (ty := .int) (cc_mod (A := A) (C := C)) i_RX7 tyX7 tyX7_ok nmX7 rfl 27 (Nat.le_of_ble_eq_true rfl) (by decide +kernel) (fun _ h => h) rfl (by decide +kernel) rfl rfl (Nat.le_of_ble_eq_true rfl) (up3 C 60 100 27 0) cu_mod (by rw [(cc_mod (A := A) (C := (up3 C 60 100 27 0))), up3_u]; rfl) dX7_load_52 ?_
        refine s_aload_n (pc := 55) S 0 dX7_load_55 rfl rfl ?_
        refine s_get (pc := 56) S hz (ref := "SpoolFarmModel") (v := .int (nI 0)) (cc_mod (A := A) (C := (up3 C 60 100 27 0))) i_RX7 rfl 27 (Nat.le_of_ble_eq_true rfl) (by decide +kernel) (fun _ h => h) rfl dX7_load_56 ?_
        refine s_if_leN (pc := 59) S 64 dX7_load_59 (by decide) (by decide) (fun _ => ?_) (fun h => absurd h (by decide))
        refine s_aload_n (pc := 64) S 0 dX7_load_64 rfl rfl ?_
        refine s_get (pc := 65) S hz (ref := "SpoolFarmModel") (v := .ref (A 60 3)) (cc_mod (A := A) (C := (up3 C 60 100 27 0))) i_RX7 rfl 3 (Nat.le_of_ble_eq_true rfl) (by decide +kernel) (fun _ h => h) rfl dX7_load_65 ?_
        refine s_iconst (pc := 68) S (v := (nI 3)) dX7_load_68 (by decide) ?_
        refine s_iload_n (pc := 69) S 1 dX7_load_69 rfl rfl ?_
        refine s_imulN (pc := 70) S dX7_load_70 ?_
        refine s_iload_n (pc := 71) S 2 dX7_load_71 rfl rfl ?_
        refine s_iaddN (pc := 72) S dX7_load_72 ?_
        refine s_dup2 (pc := 73) S dX7_load_73 rfl rfl ?_
        refine s_iald (pc := 74) S hz (x := C 60 3 ((3 * k_2) + t_3)) (cc_row (A := A) (C := (up3 C 60 100 27 0)) (x := aN .int 12 ((up3 C 60 100 27 0) 60 3)) 3 (by decide) rfl) (by omega) (by omega) rfl dX7_load_74 ?_
        refine s_iload_n (pc := 75) S 3 dX7_load_75 rfl rfl ?_
        refine s_iaddN (pc := 76) S dX7_load_76 ?_
        refine s_iast (pc := 77) S hz (cc_row (A := A) (C := (up3 C 60 100 27 0)) (x := aN .int 12 ((up3 C 60 100 27 0) 60 3)) 3 (by decide) rfl) (by omega) (by omega) (up3 (up3 C 60 100 27 0) 60 3 ((3 * k_2) + t_3) ((C 60 3 ((3 * k_2) + t_3)) + w_14)) cu_mod (by rw [(cc_row (A := A) (C := (up3 (up3 C 60 100 27 0) 60 3 ((3 * k_2) + t_3) ((C 60 3 ((3 * k_2) + t_3)) + w_14))) (x := aN .int 12 ((up3 (up3 C 60 100 27 0) 60 3 ((3 * k_2) + t_3) ((C 60 3 ((3 * k_2) + t_3)) + w_14)) 60 3)) 3 (by decide) rfl), up3_u]) dX7_load_77 ?_
        refine s_aload_n (pc := 78) S 0 dX7_load_78 rfl rfl ?_
        refine s_get (pc := 79) S hz (ref := "SpoolFarmModel") (v := .ref (A 60 3)) (cc_mod (A := A) (C := (up3 (up3 C 60 100 27 0) 60 3 ((3 * k_2) + t_3) ((C 60 3 ((3 * k_2) + t_3)) + w_14)))) i_RX7 rfl 3 (Nat.le_of_ble_eq_true rfl) (by decide +kernel) (fun _ h => h) rfl dX7_load_79 ?_
        refine s_iconst (pc := 82) S (v := (nI 3)) dX7_load_82 (by decide) ?_
        refine s_iload_n (pc := 83) S 1 dX7_load_83 rfl rfl ?_
        refine s_imulN (pc := 84) S dX7_load_84 ?_
        refine s_iload_n (pc := 85) S 2 dX7_load_85 rfl rfl ?_
        refine s_iaddN (pc := 86) S dX7_load_86 ?_
        refine s_iald (pc := 87) S hz (x := (C 60 3 ((3 * k_2) + t_3)) + w_14) (cc_row (A := A) (C := (up3 (up3 C 60 100 27 0) 60 3 ((3 * k_2) + t_3) ((C 60 3 ((3 * k_2) + t_3)) + w_14))) (x := aN .int 12 ((up3 (up3 C 60 100 27 0) 60 3 ((3 * k_2) + t_3) ((C 60 3 ((3 * k_2) + t_3)) + w_14)) 60 3)) 3 (by decide) rfl) (by omega) (by omega) (by simp [up3]) dX7_load_87 ?_
        exact s_iret (pc := 88) S hz hlo hr ⟨rfl, Or.inl ⟨k_2, t_3, w_14, hk_4, ht_5, rfl, rfl, r_15, r_16, rfl, c_17, rfl, rfl⟩⟩ (Nat.le_of_ble_eq_true rfl) (Nat.le_of_ble_eq_true rfl) dX7_load_88
      · refine s_iconst (pc := 47) S (v := (nI 3)) dX7_load_47 (by decide) ?_
        refine s_goto (pc := 48) S 52 dX7_load_48 (by decide) ?_
        refine s_put (pc := 52) S hz (ref := "SpoolFarmModel") (ty := .int) (cc_mod (A := A) (C := C)) i_RX7 tyX7 tyX7_ok nmX7 rfl 27 (Nat.le_of_ble_eq_true rfl) (by decide +kernel) (fun _ h => h) rfl (by decide +kernel) rfl rfl (Nat.le_of_ble_eq_true rfl) (up3 C 60 100 27 3) cu_mod (by rw [(cc_mod (A := A) (C := (up3 C 60 100 27 3))), up3_u]; rfl) dX7_load_52 ?_
        refine s_aload_n (pc := 55) S 0 dX7_load_55 rfl rfl ?_
        refine s_get (pc := 56) S hz (ref := "SpoolFarmModel") (v := .int (nI 3)) (cc_mod (A := A) (C := (up3 C 60 100 27 3))) i_RX7 rfl 27 (Nat.le_of_ble_eq_true rfl) (by decide +kernel) (fun _ h => h) rfl dX7_load_56 ?_
        refine s_if_leN (pc := 59) S 64 dX7_load_59 (by decide) (by decide) (fun h => absurd h (by decide)) (fun _ => ?_)
        refine s_iconst (pc := 62) S (v := (nI 0)) dX7_load_62 (by decide) ?_
        exact s_iret (pc := 63) S hz hlo hr ⟨rfl, Or.inr (Or.inl ⟨k_2, t_3, w_14, hk_4, ht_5, rfl, rfl, r_15, r_16, rfl, c_17, rfl, rfl⟩)⟩ (Nat.le_of_ble_eq_true rfl) (Nat.le_of_ble_eq_true rfl) dX7_load_63
    · have n_18 := rg_no (by decide) (by decide) p_13
      refine s_if_neN (pc := 22) S 29 dX7_load_22 (by decide) (by decide) (fun h => absurd h (by decide)) (fun _ => ?_)
      refine s_iconst (pc := 25) S (v := (nI 2)) dX7_load_25 (by decide) ?_
      refine s_goto (pc := 26) S 52 dX7_load_26 (by decide) ?_
      refine s_put (pc := 52) S hz (ref := "SpoolFarmModel") (ty := .int) (cc_mod (A := A) (C := C)) i_RX7 tyX7 tyX7_ok nmX7 rfl 27 (Nat.le_of_ble_eq_true rfl) (by decide +kernel) (fun _ h => h) rfl (by decide +kernel) rfl rfl (Nat.le_of_ble_eq_true rfl) (up3 C 60 100 27 2) cu_mod (by rw [(cc_mod (A := A) (C := (up3 C 60 100 27 2))), up3_u]; rfl) dX7_load_52 ?_
      refine s_aload_n (pc := 55) S 0 dX7_load_55 rfl rfl ?_
      refine s_get (pc := 56) S hz (ref := "SpoolFarmModel") (v := .int (nI 2)) (cc_mod (A := A) (C := (up3 C 60 100 27 2))) i_RX7 rfl 27 (Nat.le_of_ble_eq_true rfl) (by decide +kernel) (fun _ h => h) rfl dX7_load_56 ?_
      refine s_if_leN (pc := 59) S 64 dX7_load_59 (by decide) (by decide) (fun h => absurd h (by decide)) (fun _ => ?_)
      refine s_iconst (pc := 62) S (v := (nI 0)) dX7_load_62 (by decide) ?_
      exact s_iret (pc := 63) S hz hlo hr ⟨rfl, Or.inr (Or.inr (Or.inl ⟨k_2, t_3, hk_4, ht_5, rfl, rfl, n_18, rfl, rfl⟩))⟩ (Nat.le_of_ble_eq_true rfl) (Nat.le_of_ble_eq_true rfl) dX7_load_63
  · refine s_if_neN (pc := 7) S 14 dX7_load_7 (by decide) (by decide) (fun h => absurd h (by decide)) (fun _ => ?_)
    refine s_iconst (pc := 10) S (v := (nI 1)) dX7_load_10 (by decide) ?_
    refine s_goto (pc := 11) S 52 dX7_load_11 (by decide) ?_
    refine s_put (pc := 52) S hz (ref := "SpoolFarmModel") (ty := .int) (cc_mod (A := A) (C := C)) i_RX7 tyX7 tyX7_ok nmX7 rfl 27 (Nat.le_of_ble_eq_true rfl) (by decide +kernel) (fun _ h => h) rfl (by decide +kernel) rfl rfl (Nat.le_of_ble_eq_true rfl) (up3 C 60 100 27 1) cu_mod (by rw [(cc_mod (A := A) (C := (up3 C 60 100 27 1))), up3_u]; rfl) dX7_load_52 ?_
    refine s_aload_n (pc := 55) S 0 dX7_load_55 rfl rfl ?_
    refine s_get (pc := 56) S hz (ref := "SpoolFarmModel") (v := .int (nI 1)) (cc_mod (A := A) (C := (up3 C 60 100 27 1))) i_RX7 rfl 27 (Nat.le_of_ble_eq_true rfl) (by decide +kernel) (fun _ h => h) rfl dX7_load_56 ?_
    refine s_if_leN (pc := 59) S 64 dX7_load_59 (by decide) (by decide) (fun h => absurd h (by decide)) (fun _ => ?_)
    refine s_iconst (pc := 62) S (v := (nI 0)) dX7_load_62 (by decide) ?_
    exact s_iret (pc := 63) S hz hlo hr ⟨rfl, Or.inr (Or.inr (Or.inr (⟨no_6, rfl, rfl⟩)))⟩ (Nat.le_of_ble_eq_true rfl) (Nat.le_of_ble_eq_true rfl) dX7_load_63
set_option maxHeartbeats 4000000 in
set_option maxRecDepth 100000 in
theorem k_X7_changePaper (Z : Zp) (l : Launch) (A : AF) (C : CF) (x y : Int32) (q : Nat) (hq : q < 65536) (hO : OkR C) : CtS Z l yX7_changePaper wsX7_changePaper ({ frames := 3, cells := 0, slots := 0, locals := 65 }) [.ref (A 60 100), .int x, .int y, .int (nI q)] A C 0 0 (fun v A2 C2 => A = A2 ∧ ((∃ k_2 t_3 : Nat, k_2 < C 60 100 29 ∧ t_3 < C 60 2 k_2 ∧ nI k_2 = x ∧ nI t_3 = y ∧ isPap q ∧ C 60 3 ((3 * k_2) + t_3) ≤ 0 ∧ (up3 (up3 C 60 100 27 0) 60 8 ((3 * k_2) + t_3) q) = C2 ∧ some (.int (nI (C 60 8 ((3 * k_2) + t_3)))) = v) ∨ (∃ k_2 t_3 : Nat, k_2 < C 60 100 29 ∧ t_3 < C 60 2 k_2 ∧ nI k_2 = x ∧ nI t_3 = y ∧ isPap q ∧ ¬ C 60 3 ((3 * k_2) + t_3) ≤ 0 ∧ (up3 C 60 100 27 3) = C2 ∧ some (.int (nI 32)) = v) ∨ (∃ k_2 t_3 : Nat, k_2 < C 60 100 29 ∧ t_3 < C 60 2 k_2 ∧ nI k_2 = x ∧ nI t_3 = y ∧ ¬ isPap q ∧ (up3 C 60 100 27 2) = C2 ∧ some (.int (nI 32)) = v) ∨ (((∀ p : Nat, p < C 60 100 29 → nI p ≠ x) ∨ ∃ p : Nat, p < C 60 100 29 ∧ nI p = x ∧ ∀ t : Nat, t < C 60 2 p → nI t ≠ y) ∧ (up3 C 60 100 27 1) = C2 ∧ some (.int (nI 32)) = v))) (fun _ _ _ => False) := by
  refine CtS.of (cc0 := cX7_changePaper) (maxL := 5) (ret := (some .char)) (by decide) rfl (Nat.le_of_ble_eq_true rfl) ?_
  intro M0_ p_ e_ s_ m_ args_ below_ meth_ c_ S hz hml hex hlo hr hin
  refine s_loc (L2 := [(0, .ref (A 60 100)), (1, .int x), (2, .int y), (3, .int (nI q))]) rfl ?_
  have i_RX7 : ∀ w ∈ u_ws RX7 TX7 38, w ∈ wsX7_changePaper := by decide +kernel
  obtain ⟨oU, oP, oJ, oTc, oY, o8, o9, o10, o11, o12, o13, o14, o15, oX, oQ, oB, oK, oS, oJk, oM, oCo, oSh, oLg, oPo, oLl, oL2, oL3, oL4, oLle, oE1, oE2, oE3, oE4⟩ := id hO
  have hu : C 60 100 28 < 2 ^ 30 := by omega
  have hp : C 60 100 29 < 2 ^ 30 := by omega
  have hj : C 60 100 30 < 2 ^ 30 := by omega
  have hlg : C 60 100 31 < 2 ^ 30 := by omega
  have hp4 := oP
  have htc := oTc
  refine s_aload_n (pc := 0) S 0 dX7_changePaper_0 rfl rfl ?_
  refine s_aload_n (pc := 1) S 0 dX7_changePaper_1 rfl rfl ?_
  refine s_iload_n (pc := 2) S 1 dX7_changePaper_2 rfl rfl ?_
  refine s_iload_n (pc := 3) S 2 dX7_changePaper_3 rfl rfl ?_
  refine s_callV (pc := 4) S hz hml [.int x, .int y] (k_X7_isTray Z l A C x y hp hp4 htc) (cwV 2 S.2.2.2.2 gX7_changePaper_X7_isTray rfl rfl rfl (by decide +kernel) ⟨Nat.le_of_ble_eq_true rfl, Nat.le_of_ble_eq_true rfl⟩) (cc_mod (A := A) (C := C)) rfl rfl rfl (Nat.le_of_ble_eq_true rfl) dX7_changePaper_4 ⟨Nat.le_of_ble_eq_true rfl, Nat.le_of_ble_eq_true rfl⟩ (fun _ _ _ h => h.elim) (fun v A2 C2 h_1 => ?_)
  rcases h_1 with ⟨rfl, rfl, ⟨k_2, t_3, hk_4, ht_5, rfl, rfl, rfl⟩ | ⟨no_6, rfl⟩⟩
  · have h3 := htc k_2
    have z_7 : k_2 < 4 := by omega
    have z_8 := oY (3 * k_2 + t_3)
    have z_9 := o8 (3 * k_2 + t_3)
    refine s_if_neN (pc := 7) S 14 dX7_changePaper_7 (by decide) (by decide) (fun _ => ?_) (fun h => absurd h (by decide))
    refine s_iload_n (pc := 14) S 3 dX7_changePaper_14 rfl rfl ?_
    refine s_callS (pc := 15) S hz hml [.int (nI q)] (k_X7_isPaper Z l A C q hq) (cwS 1 S.2.2.2.2 gX7_changePaper_X7_isPaper rfl rfl rfl (by decide +kernel) ⟨Nat.le_of_ble_eq_true rfl, Nat.le_of_ble_eq_true rfl⟩) rfl rfl (Nat.le_of_ble_eq_true rfl) dX7_changePaper_15 ⟨Nat.le_of_ble_eq_true rfl, Nat.le_of_ble_eq_true rfl⟩ (fun _ _ _ h => h.elim) (fun v A2 C2 h_10 => ?_)
    rcases h_10 with ⟨rfl, rfl, ⟨pq_11, rfl⟩ | ⟨pq_12, rfl⟩⟩
    · refine s_if_neN (pc := 18) S 25 dX7_changePaper_18 (by decide) (by decide) (fun _ => ?_) (fun h => absurd h (by decide))
      refine s_aload_n (pc := 25) S 0 dX7_changePaper_25 rfl rfl ?_
      refine s_get (pc := 26) S hz (ref := "SpoolFarmModel") (v := .ref (A 60 3)) (cc_mod (A := A) (C := C)) i_RX7 rfl 3 (Nat.le_of_ble_eq_true rfl) (by decide +kernel) (fun _ h => h) rfl dX7_changePaper_26 ?_
      refine s_iconst (pc := 29) S (v := (nI 3)) dX7_changePaper_29 (by decide) ?_
      refine s_iload_n (pc := 30) S 1 dX7_changePaper_30 rfl rfl ?_
      refine s_imulN (pc := 31) S dX7_changePaper_31 ?_
      refine s_iload_n (pc := 32) S 2 dX7_changePaper_32 rfl rfl ?_
      refine s_iaddN (pc := 33) S dX7_changePaper_33 ?_
      refine s_iald (pc := 34) S hz (x := C 60 3 ((3 * k_2) + t_3)) (cc_row (A := A) (C := C) (x := aN .int 12 (C 60 3)) 3 (by decide) rfl) (by omega) (by omega) rfl dX7_changePaper_34 ?_
      refine s_if_leN (pc := 35) S 42 dX7_changePaper_35 (by decide) (by omega) (fun c_13 => ?_) (fun c_13 => ?_)
      · refine s_iconst (pc := 42) S (v := (nI 0)) dX7_changePaper_42 (by decide) ?_
        refine s_put (pc := 43) S hz (ref := "SpoolFarmModel") (ty := .int) (cc_mod (A := A) (C := C)) i_RX7 tyX7 tyX7_ok nmX7 rfl 27 (Nat.le_of_ble_eq_true rfl) (by decide +kernel) (fun _ h => h) rfl (by decide +kernel) rfl rfl (Nat.le_of_ble_eq_true rfl) (up3 C 60 100 27 0) cu_mod (by rw [(cc_mod (A := A) (C := (up3 C 60 100 27 0))), up3_u]; rfl) dX7_changePaper_43 ?_
        refine s_aload_n (pc := 46) S 0 dX7_changePaper_46 rfl rfl ?_
        refine s_get (pc := 47) S hz (ref := "SpoolFarmModel") (v := .int (nI 0)) (cc_mod (A := A) (C := (up3 C 60 100 27 0))) i_RX7 rfl 27 (Nat.le_of_ble_eq_true rfl) (by decide +kernel) (fun _ h => h) rfl dX7_changePaper_47 ?_
        refine s_if_leN (pc := 50) S 56 dX7_changePaper_50 (by decide) (by decide) (fun _ => ?_) (fun h => absurd h (by decide))
        refine s_aload_n (pc := 56) S 0 dX7_changePaper_56 rfl rfl ?_
        refine s_get (pc := 57) S hz (ref := "SpoolFarmModel") (v := .ref (A 60 8)) (cc_mod (A := A) (C := (up3 C 60 100 27 0))) i_RX7 rfl 8 (Nat.le_of_ble_eq_true rfl) (by decide +kernel) (fun _ h => h) rfl dX7_changePaper_57 ?_
        refine s_iconst (pc := 60) S (v := (nI 3)) dX7_changePaper_60 (by decide) ?_
        refine s_iload_n (pc := 61) S 1 dX7_changePaper_61 rfl rfl ?_
        refine s_imulN (pc := 62) S dX7_changePaper_62 ?_
        refine s_iload_n (pc := 63) S 2 dX7_changePaper_63 rfl rfl ?_
        refine s_iaddN (pc := 64) S dX7_changePaper_64 ?_
        refine s_cald (pc := 65) S hz (x := C 60 8 ((3 * k_2) + t_3)) (cc_row (A := A) (C := (up3 C 60 100 27 0)) (x := aN .char 12 ((up3 C 60 100 27 0) 60 8)) 8 (by decide) rfl) (by omega) (by omega) rfl dX7_changePaper_65 ?_
        refine s_istore (pc := 66) S [(4, .int (nI (C 60 8 ((3 * k_2) + t_3)))), (0, .ref (A 60 100)), (1, .int (nI k_2)), (2, .int (nI t_3)), (3, .int (nI q))] dX7_changePaper_66 (by decide) rfl ?_
        refine s_aload_n (pc := 68) S 1 dX7_changePaper_68 rfl rfl ?_
        refine s_get (pc := 69) S hz (ref := "SpoolFarmModel") (v := .ref (A 60 8)) (cc_mod (A := A) (C := (up3 C 60 100 27 0))) i_RX7 rfl 8 (Nat.le_of_ble_eq_true rfl) (by decide +kernel) (fun _ h => h) rfl dX7_changePaper_69 ?_
        refine s_iconst (pc := 72) S (v := (nI 3)) dX7_changePaper_72 (by decide) ?_
        refine s_iload_n (pc := 73) S 2 dX7_changePaper_73 rfl rfl ?_
        refine s_imulN (pc := 74) S dX7_changePaper_74 ?_
        refine s_iload_n (pc := 75) S 3 dX7_changePaper_75 rfl rfl ?_
        refine s_iaddN (pc := 76) S dX7_changePaper_76 ?_
        refine s_iload_n (pc := 77) S 4 dX7_changePaper_77 rfl rfl ?_
        refine s_cast (pc := 78) S hz (cc_row (A := A) (C := (up3 C 60 100 27 0)) (x := aN .char 12 ((up3 C 60 100 27 0) 60 8)) 8 (by decide) rfl) (by omega) (by omega) (by omega) (up3 (up3 C 60 100 27 0) 60 8 ((3 * k_2) + t_3) q) cu_mod (by rw [(cc_row (A := A) (C := (up3 (up3 C 60 100 27 0) 60 8 ((3 * k_2) + t_3) q)) (x := aN .char 12 ((up3 (up3 C 60 100 27 0) 60 8 ((3 * k_2) + t_3) q) 60 8)) 8 (by decide) rfl), up3_u]) dX7_changePaper_78 ?_
        refine s_iload (pc := 79) S 0 dX7_changePaper_79 rfl ?_
        exact s_zret (pc := 81) S hz hlo (nar_c (by omega)) hr ⟨rfl, Or.inl ⟨k_2, t_3, hk_4, ht_5, rfl, rfl, pq_11, c_13, rfl, rfl⟩⟩ (Nat.le_of_ble_eq_true rfl) (Nat.le_of_ble_eq_true rfl) dX7_changePaper_81
      · refine s_iconst (pc := 38) S (v := (nI 3)) dX7_changePaper_38 (by decide) ?_
        refine s_goto (pc := 39) S 43 dX7_changePaper_39 (by decide) ?_
        refine s_put (pc := 43) S hz (ref := "SpoolFarmModel") (ty := .int) (cc_mod (A := A) (C := C)) i_RX7 tyX7 tyX7_ok nmX7 rfl 27 (Nat.le_of_ble_eq_true rfl) (by decide +kernel) (fun _ h => h) rfl (by decide +kernel) rfl rfl (Nat.le_of_ble_eq_true rfl) (up3 C 60 100 27 3) cu_mod (by rw [(cc_mod (A := A) (C := (up3 C 60 100 27 3))), up3_u]; rfl) dX7_changePaper_43 ?_
        refine s_aload_n (pc := 46) S 0 dX7_changePaper_46 rfl rfl ?_
        refine s_get (pc := 47) S hz (ref := "SpoolFarmModel") (v := .int (nI 3)) (cc_mod (A := A) (C := (up3 C 60 100 27 3))) i_RX7 rfl 27 (Nat.le_of_ble_eq_true rfl) (by decide +kernel) (fun _ h => h) rfl dX7_changePaper_47 ?_
        refine s_if_leN (pc := 50) S 56 dX7_changePaper_50 (by decide) (by decide) (fun h => absurd h (by decide)) (fun _ => ?_)
        refine s_bipush (pc := 53) S (v := (nI 32)) dX7_changePaper_53 (by decide) ?_
        exact s_zret (pc := 55) S hz hlo (nar_c (by omega)) hr ⟨rfl, Or.inr (Or.inl ⟨k_2, t_3, hk_4, ht_5, rfl, rfl, pq_11, c_13, rfl, rfl⟩)⟩ (Nat.le_of_ble_eq_true rfl) (Nat.le_of_ble_eq_true rfl) dX7_changePaper_55
    · refine s_if_neN (pc := 18) S 25 dX7_changePaper_18 (by decide) (by decide) (fun h => absurd h (by decide)) (fun _ => ?_)
      refine s_iconst (pc := 21) S (v := (nI 2)) dX7_changePaper_21 (by decide) ?_
      refine s_goto (pc := 22) S 43 dX7_changePaper_22 (by decide) ?_
      refine s_put (pc := 43) S hz (ref := "SpoolFarmModel") (ty := .int) (cc_mod (A := A) (C := C)) i_RX7 tyX7 tyX7_ok nmX7 rfl 27 (Nat.le_of_ble_eq_true rfl) (by decide +kernel) (fun _ h => h) rfl (by decide +kernel) rfl rfl (Nat.le_of_ble_eq_true rfl) (up3 C 60 100 27 2) cu_mod (by rw [(cc_mod (A := A) (C := (up3 C 60 100 27 2))), up3_u]; rfl) dX7_changePaper_43 ?_
      refine s_aload_n (pc := 46) S 0 dX7_changePaper_46 rfl rfl ?_
      refine s_get (pc := 47) S hz (ref := "SpoolFarmModel") (v := .int (nI 2)) (cc_mod (A := A) (C := (up3 C 60 100 27 2))) i_RX7 rfl 27 (Nat.le_of_ble_eq_true rfl) (by decide +kernel) (fun _ h => h) rfl dX7_changePaper_47 ?_
      refine s_if_leN (pc := 50) S 56 dX7_changePaper_50 (by decide) (by decide) (fun h => absurd h (by decide)) (fun _ => ?_)
      refine s_bipush (pc := 53) S (v := (nI 32)) dX7_changePaper_53 (by decide) ?_
      exact s_zret (pc := 55) S hz hlo (nar_c (by omega)) hr ⟨rfl, Or.inr (Or.inr (Or.inl ⟨k_2, t_3, hk_4, ht_5, rfl, rfl, pq_12, rfl, rfl⟩))⟩ (Nat.le_of_ble_eq_true rfl) (Nat.le_of_ble_eq_true rfl) dX7_changePaper_55
  · refine s_if_neN (pc := 7) S 14 dX7_changePaper_7 (by decide) (by decide) (fun h => absurd h (by decide)) (fun _ => ?_)
    refine s_iconst (pc := 10) S (v := (nI 1)) dX7_changePaper_10 (by decide) ?_
    refine s_goto (pc := 11) S 43 dX7_changePaper_11 (by decide) ?_
    refine s_put (pc := 43) S hz (ref := "SpoolFarmModel") (ty := .int) (cc_mod (A := A) (C := C)) i_RX7 tyX7 tyX7_ok nmX7 rfl 27 (Nat.le_of_ble_eq_true rfl) (by decide +kernel) (fun _ h => h) rfl (by decide +kernel) rfl rfl (Nat.le_of_ble_eq_true rfl) (up3 C 60 100 27 1) cu_mod (by rw [(cc_mod (A := A) (C := (up3 C 60 100 27 1))), up3_u]; rfl) dX7_changePaper_43 ?_
    refine s_aload_n (pc := 46) S 0 dX7_changePaper_46 rfl rfl ?_
    refine s_get (pc := 47) S hz (ref := "SpoolFarmModel") (v := .int (nI 1)) (cc_mod (A := A) (C := (up3 C 60 100 27 1))) i_RX7 rfl 27 (Nat.le_of_ble_eq_true rfl) (by decide +kernel) (fun _ h => h) rfl dX7_changePaper_47 ?_
    refine s_if_leN (pc := 50) S 56 dX7_changePaper_50 (by decide) (by decide) (fun h => absurd h (by decide)) (fun _ => ?_)
    refine s_bipush (pc := 53) S (v := (nI 32)) dX7_changePaper_53 (by decide) ?_
    exact s_zret (pc := 55) S hz hlo (nar_c (by omega)) hr ⟨rfl, Or.inr (Or.inr (Or.inr (⟨no_6, rfl, rfl⟩)))⟩ (Nat.le_of_ble_eq_true rfl) (Nat.le_of_ble_eq_true rfl) dX7_changePaper_55
set_option maxHeartbeats 4000000 in
set_option maxRecDepth 100000 in
theorem k_X7_sheetsIn (Z : Zp) (l : Launch) (A : AF) (C : CF) (x y : Int32) (hO : OkR C) : CtS Z l yX7_sheetsIn wsX7_sheetsIn ({ frames := 3, cells := 0, slots := 0, locals := 65 }) [.ref (A 60 100), .int x, .int y] A C 0 0 (fun v A2 C2 => A = A2 ∧ ((∃ k_2 t_3 : Nat, k_2 < C 60 100 29 ∧ t_3 < C 60 2 k_2 ∧ nI k_2 = x ∧ nI t_3 = y ∧ (up3 C 60 100 27 0) = C2 ∧ some (.int (nI (C 60 3 ((3 * k_2) + t_3)))) = v) ∨ (((∀ p : Nat, p < C 60 100 29 → nI p ≠ x) ∨ ∃ p : Nat, p < C 60 100 29 ∧ nI p = x ∧ ∀ t : Nat, t < C 60 2 p → nI t ≠ y) ∧ (up3 C 60 100 27 1) = C2 ∧ some (.int (nI 0)) = v))) (fun _ _ _ => False) := by
  refine CtS.of (cc0 := cX7_sheetsIn) (maxL := 3) (ret := (some .int)) (by decide) rfl (Nat.le_of_ble_eq_true rfl) ?_
  intro M0_ p_ e_ s_ m_ args_ below_ meth_ c_ S hz hml hex hlo hr hin
  refine s_loc (L2 := [(0, .ref (A 60 100)), (1, .int x), (2, .int y)]) rfl ?_
  have i_RX7 : ∀ w ∈ u_ws RX7 TX7 38, w ∈ wsX7_sheetsIn := by decide +kernel
  obtain ⟨oU, oP, oJ, oTc, oY, o8, o9, o10, o11, o12, o13, o14, o15, oX, oQ, oB, oK, oS, oJk, oM, oCo, oSh, oLg, oPo, oLl, oL2, oL3, oL4, oLle, oE1, oE2, oE3, oE4⟩ := id hO
  have hu : C 60 100 28 < 2 ^ 30 := by omega
  have hp : C 60 100 29 < 2 ^ 30 := by omega
  have hj : C 60 100 30 < 2 ^ 30 := by omega
  have hlg : C 60 100 31 < 2 ^ 30 := by omega
  have hp4 := oP
  have htc := oTc
  refine s_aload_n (pc := 0) S 0 dX7_sheetsIn_0 rfl rfl ?_
  refine s_aload_n (pc := 1) S 0 dX7_sheetsIn_1 rfl rfl ?_
  refine s_iload_n (pc := 2) S 1 dX7_sheetsIn_2 rfl rfl ?_
  refine s_iload_n (pc := 3) S 2 dX7_sheetsIn_3 rfl rfl ?_
  refine s_callV (pc := 4) S hz hml [.int x, .int y] (k_X7_isTray Z l A C x y hp hp4 htc) (cwV 2 S.2.2.2.2 gX7_sheetsIn_X7_isTray rfl rfl rfl (by decide +kernel) ⟨Nat.le_of_ble_eq_true rfl, Nat.le_of_ble_eq_true rfl⟩) (cc_mod (A := A) (C := C)) rfl rfl rfl (Nat.le_of_ble_eq_true rfl) dX7_sheetsIn_4 ⟨Nat.le_of_ble_eq_true rfl, Nat.le_of_ble_eq_true rfl⟩ (fun _ _ _ h => h.elim) (fun v A2 C2 h_1 => ?_)
  rcases h_1 with ⟨rfl, rfl, ⟨k_2, t_3, hk_4, ht_5, rfl, rfl, rfl⟩ | ⟨no_6, rfl⟩⟩
  · have h3 := htc k_2
    have z_7 : k_2 < 4 := by omega
    have z_8 := oY (3 * k_2 + t_3)
    have z_9 := o8 (3 * k_2 + t_3)
    refine s_callV (pc := 7) S hz hml [.int (nI 1)] (k_X7_checked Z l A C 1 (by decide)) (cwV 1 S.2.2.2.2 gX7_sheetsIn_X7_checked rfl rfl rfl (by decide +kernel) ⟨Nat.le_of_ble_eq_true rfl, Nat.le_of_ble_eq_true rfl⟩) (cc_mod (A := A) (C := C)) rfl rfl rfl (Nat.le_of_ble_eq_true rfl) dX7_sheetsIn_7 ⟨Nat.le_of_ble_eq_true rfl, Nat.le_of_ble_eq_true rfl⟩ (fun _ _ _ h => h.elim) (fun v A2 C2 h_10 => ?_)
    obtain ⟨rfl, rfl, rfl⟩ := h_10
    refine s_if_leN (pc := 10) S 17 dX7_sheetsIn_10 (by decide) (by decide) (fun _ => ?_) (fun h => absurd h (by decide))
    refine s_aload_n (pc := 17) S 0 dX7_sheetsIn_17 rfl rfl ?_
    refine s_get (pc := 18) S hz (ref := "SpoolFarmModel") (v := .ref (A 60 3)) (cc_mod (A := A) (C := (up3 C 60 100 27 0))) i_RX7 rfl 3 (Nat.le_of_ble_eq_true rfl) (by decide +kernel) (fun _ h => h) rfl dX7_sheetsIn_18 ?_
    refine s_iconst (pc := 21) S (v := (nI 3)) dX7_sheetsIn_21 (by decide) ?_
    refine s_iload_n (pc := 22) S 1 dX7_sheetsIn_22 rfl rfl ?_
    refine s_imulN (pc := 23) S dX7_sheetsIn_23 ?_
    refine s_iload_n (pc := 24) S 2 dX7_sheetsIn_24 rfl rfl ?_
    refine s_iaddN (pc := 25) S dX7_sheetsIn_25 ?_
    refine s_iald (pc := 26) S hz (x := C 60 3 ((3 * k_2) + t_3)) (cc_row (A := A) (C := (up3 C 60 100 27 0)) (x := aN .int 12 ((up3 C 60 100 27 0) 60 3)) 3 (by decide) rfl) (by omega) (by omega) rfl dX7_sheetsIn_26 ?_
    exact s_iret (pc := 27) S hz hlo hr ⟨rfl, Or.inl ⟨k_2, t_3, hk_4, ht_5, rfl, rfl, rfl, rfl⟩⟩ (Nat.le_of_ble_eq_true rfl) (Nat.le_of_ble_eq_true rfl) dX7_sheetsIn_27
  · refine s_callV (pc := 7) S hz hml [.int (nI 0)] (k_X7_checked Z l A C 0 (by decide)) (cwV 1 S.2.2.2.2 gX7_sheetsIn_X7_checked rfl rfl rfl (by decide +kernel) ⟨Nat.le_of_ble_eq_true rfl, Nat.le_of_ble_eq_true rfl⟩) (cc_mod (A := A) (C := C)) rfl rfl rfl (Nat.le_of_ble_eq_true rfl) dX7_sheetsIn_7 ⟨Nat.le_of_ble_eq_true rfl, Nat.le_of_ble_eq_true rfl⟩ (fun _ _ _ h => h.elim) (fun v A2 C2 h_11 => ?_)
    obtain ⟨rfl, rfl, rfl⟩ := h_11
    refine s_if_leN (pc := 10) S 17 dX7_sheetsIn_10 (by decide) (by decide) (fun h => absurd h (by decide)) (fun _ => ?_)
    refine s_iconst (pc := 13) S (v := (nI 0)) dX7_sheetsIn_13 (by decide) ?_
    refine s_goto (pc := 14) S 27 dX7_sheetsIn_14 (by decide) ?_
    exact s_iret (pc := 27) S hz hlo hr ⟨rfl, Or.inr (⟨no_6, rfl, rfl⟩)⟩ (Nat.le_of_ble_eq_true rfl) (Nat.le_of_ble_eq_true rfl) dX7_sheetsIn_27
set_option maxHeartbeats 4000000 in
set_option maxRecDepth 100000 in
theorem k_X7_paperOf (Z : Zp) (l : Launch) (A : AF) (C : CF) (x y : Int32) (hO : OkR C) : CtS Z l yX7_paperOf wsX7_paperOf ({ frames := 3, cells := 0, slots := 0, locals := 65 }) [.ref (A 60 100), .int x, .int y] A C 0 0 (fun v A2 C2 => A = A2 ∧ ((∃ k_2 t_3 : Nat, k_2 < C 60 100 29 ∧ t_3 < C 60 2 k_2 ∧ nI k_2 = x ∧ nI t_3 = y ∧ (up3 C 60 100 27 0) = C2 ∧ some (.int (nI (C 60 8 ((3 * k_2) + t_3)))) = v) ∨ (((∀ p : Nat, p < C 60 100 29 → nI p ≠ x) ∨ ∃ p : Nat, p < C 60 100 29 ∧ nI p = x ∧ ∀ t : Nat, t < C 60 2 p → nI t ≠ y) ∧ (up3 C 60 100 27 1) = C2 ∧ some (.int (nI 32)) = v))) (fun _ _ _ => False) := by
  refine CtS.of (cc0 := cX7_paperOf) (maxL := 3) (ret := (some .char)) (by decide) rfl (Nat.le_of_ble_eq_true rfl) ?_
  intro M0_ p_ e_ s_ m_ args_ below_ meth_ c_ S hz hml hex hlo hr hin
  refine s_loc (L2 := [(0, .ref (A 60 100)), (1, .int x), (2, .int y)]) rfl ?_
  have i_RX7 : ∀ w ∈ u_ws RX7 TX7 38, w ∈ wsX7_paperOf := by decide +kernel
  obtain ⟨oU, oP, oJ, oTc, oY, o8, o9, o10, o11, o12, o13, o14, o15, oX, oQ, oB, oK, oS, oJk, oM, oCo, oSh, oLg, oPo, oLl, oL2, oL3, oL4, oLle, oE1, oE2, oE3, oE4⟩ := id hO
  have hu : C 60 100 28 < 2 ^ 30 := by omega
  have hp : C 60 100 29 < 2 ^ 30 := by omega
  have hj : C 60 100 30 < 2 ^ 30 := by omega
  have hlg : C 60 100 31 < 2 ^ 30 := by omega
  have hp4 := oP
  have htc := oTc
  refine s_aload_n (pc := 0) S 0 dX7_paperOf_0 rfl rfl ?_
  refine s_aload_n (pc := 1) S 0 dX7_paperOf_1 rfl rfl ?_
  refine s_iload_n (pc := 2) S 1 dX7_paperOf_2 rfl rfl ?_
  refine s_iload_n (pc := 3) S 2 dX7_paperOf_3 rfl rfl ?_
  refine s_callV (pc := 4) S hz hml [.int x, .int y] (k_X7_isTray Z l A C x y hp hp4 htc) (cwV 2 S.2.2.2.2 gX7_paperOf_X7_isTray rfl rfl rfl (by decide +kernel) ⟨Nat.le_of_ble_eq_true rfl, Nat.le_of_ble_eq_true rfl⟩) (cc_mod (A := A) (C := C)) rfl rfl rfl (Nat.le_of_ble_eq_true rfl) dX7_paperOf_4 ⟨Nat.le_of_ble_eq_true rfl, Nat.le_of_ble_eq_true rfl⟩ (fun _ _ _ h => h.elim) (fun v A2 C2 h_1 => ?_)
  rcases h_1 with ⟨rfl, rfl, ⟨k_2, t_3, hk_4, ht_5, rfl, rfl, rfl⟩ | ⟨no_6, rfl⟩⟩
  · have h3 := htc k_2
    have z_7 : k_2 < 4 := by omega
    have z_8 := oY (3 * k_2 + t_3)
    have z_9 := o8 (3 * k_2 + t_3)
    refine s_callV (pc := 7) S hz hml [.int (nI 1)] (k_X7_checked Z l A C 1 (by decide)) (cwV 1 S.2.2.2.2 gX7_paperOf_X7_checked rfl rfl rfl (by decide +kernel) ⟨Nat.le_of_ble_eq_true rfl, Nat.le_of_ble_eq_true rfl⟩) (cc_mod (A := A) (C := C)) rfl rfl rfl (Nat.le_of_ble_eq_true rfl) dX7_paperOf_7 ⟨Nat.le_of_ble_eq_true rfl, Nat.le_of_ble_eq_true rfl⟩ (fun _ _ _ h => h.elim) (fun v A2 C2 h_10 => ?_)
    obtain ⟨rfl, rfl, rfl⟩ := h_10
    refine s_if_leN (pc := 10) S 18 dX7_paperOf_10 (by decide) (by decide) (fun _ => ?_) (fun h => absurd h (by decide))
    refine s_aload_n (pc := 18) S 0 dX7_paperOf_18 rfl rfl ?_
    refine s_get (pc := 19) S hz (ref := "SpoolFarmModel") (v := .ref (A 60 8)) (cc_mod (A := A) (C := (up3 C 60 100 27 0))) i_RX7 rfl 8 (Nat.le_of_ble_eq_true rfl) (by decide +kernel) (fun _ h => h) rfl dX7_paperOf_19 ?_
    refine s_iconst (pc := 22) S (v := (nI 3)) dX7_paperOf_22 (by decide) ?_
    refine s_iload_n (pc := 23) S 1 dX7_paperOf_23 rfl rfl ?_
    refine s_imulN (pc := 24) S dX7_paperOf_24 ?_
    refine s_iload_n (pc := 25) S 2 dX7_paperOf_25 rfl rfl ?_
    refine s_iaddN (pc := 26) S dX7_paperOf_26 ?_
    refine s_cald (pc := 27) S hz (x := C 60 8 ((3 * k_2) + t_3)) (cc_row (A := A) (C := (up3 C 60 100 27 0)) (x := aN .char 12 ((up3 C 60 100 27 0) 60 8)) 8 (by decide) rfl) (by omega) (by omega) rfl dX7_paperOf_27 ?_
    exact s_zret (pc := 28) S hz hlo (nar_c (by omega)) hr ⟨rfl, Or.inl ⟨k_2, t_3, hk_4, ht_5, rfl, rfl, rfl, rfl⟩⟩ (Nat.le_of_ble_eq_true rfl) (Nat.le_of_ble_eq_true rfl) dX7_paperOf_28
  · refine s_callV (pc := 7) S hz hml [.int (nI 0)] (k_X7_checked Z l A C 0 (by decide)) (cwV 1 S.2.2.2.2 gX7_paperOf_X7_checked rfl rfl rfl (by decide +kernel) ⟨Nat.le_of_ble_eq_true rfl, Nat.le_of_ble_eq_true rfl⟩) (cc_mod (A := A) (C := C)) rfl rfl rfl (Nat.le_of_ble_eq_true rfl) dX7_paperOf_7 ⟨Nat.le_of_ble_eq_true rfl, Nat.le_of_ble_eq_true rfl⟩ (fun _ _ _ h => h.elim) (fun v A2 C2 h_11 => ?_)
    obtain ⟨rfl, rfl, rfl⟩ := h_11
    refine s_if_leN (pc := 10) S 18 dX7_paperOf_10 (by decide) (by decide) (fun h => absurd h (by decide)) (fun _ => ?_)
    refine s_bipush (pc := 13) S (v := (nI 32)) dX7_paperOf_13 (by decide) ?_
    refine s_goto (pc := 15) S 28 dX7_paperOf_15 (by decide) ?_
    exact s_zret (pc := 28) S hz hlo (nar_c (by omega)) hr ⟨rfl, Or.inr (⟨no_6, rfl, rfl⟩)⟩ (Nat.le_of_ble_eq_true rfl) (Nat.le_of_ble_eq_true rfl) dX7_paperOf_28
set_option maxHeartbeats 4000000 in
set_option maxRecDepth 100000 in
theorem k_X7_setToner (Z : Zp) (l : Launch) (A : AF) (C : CF) (x : Int32) (cb : Nat) (y : Int32) (hcb : cb < 2) (hO : OkR C) : CtS Z l yX7_setToner wsX7_setToner ({ frames := 2, cells := 0, slots := 0, locals := 43 }) [.ref (A 60 100), .int x, .int (nI cb), .int y] A C 0 0 (fun v A2 C2 => A = A2 ∧ ((∃ k_2 w_15 : Nat, k_2 < C 60 100 29 ∧ nI k_2 = x ∧ 0 ≤ w_15 ∧ w_15 ≤ 1000 ∧ nI w_15 = y ∧ cb = 0 ∧ (up3 (up3 C 60 100 27 0) 60 4 k_2 w_15) = C2 ∧ some (.int (nI (C 60 4 k_2))) = v) ∨ (∃ k_2 w_15 : Nat, k_2 < C 60 100 29 ∧ nI k_2 = x ∧ 0 ≤ w_15 ∧ w_15 ≤ 1000 ∧ nI w_15 = y ∧ ¬ cb = 0 ∧ ¬ C 60 11 k_2 = 0 ∧ (up3 (up3 C 60 100 27 0) 60 5 k_2 w_15) = C2 ∧ some (.int (nI (C 60 5 k_2))) = v) ∨ (∃ k_2 w_15 : Nat, k_2 < C 60 100 29 ∧ nI k_2 = x ∧ 0 ≤ w_15 ∧ w_15 ≤ 1000 ∧ nI w_15 = y ∧ ¬ cb = 0 ∧ C 60 11 k_2 = 0 ∧ (up3 C 60 100 27 3) = C2 ∧ some (.int (nI 0)) = v) ∨ (∃ k_2 : Nat, k_2 < C 60 100 29 ∧ nI k_2 = x ∧ (∀ k : Nat, 0 ≤ k → k ≤ 1000 → nI k ≠ y) ∧ (up3 C 60 100 27 2) = C2 ∧ some (.int (nI 0)) = v) ∨ ((∀ k : Nat, k < C 60 100 29 → nI k ≠ x) ∧ (up3 C 60 100 27 1) = C2 ∧ some (.int (nI 0)) = v))) (fun _ _ _ => False) := by
  refine CtS.of (cc0 := cX7_setToner) (maxL := 5) (ret := (some .int)) (by decide) rfl (Nat.le_of_ble_eq_true rfl) ?_
  intro M0_ p_ e_ s_ m_ args_ below_ meth_ c_ S hz hml hex hlo hr hin
  refine s_loc (L2 := [(0, .ref (A 60 100)), (1, .int x), (2, .int (nI cb)), (3, .int y)]) rfl ?_
  have i_RX7 : ∀ w ∈ u_ws RX7 TX7 38, w ∈ wsX7_setToner := by decide +kernel
  obtain ⟨oU, oP, oJ, oTc, oY, o8, o9, o10, o11, o12, o13, o14, o15, oX, oQ, oB, oK, oS, oJk, oM, oCo, oSh, oLg, oPo, oLl, oL2, oL3, oL4, oLle, oE1, oE2, oE3, oE4⟩ := id hO
  have hu : C 60 100 28 < 2 ^ 30 := by omega
  have hp : C 60 100 29 < 2 ^ 30 := by omega
  have hj : C 60 100 30 < 2 ^ 30 := by omega
  have hlg : C 60 100 31 < 2 ^ 30 := by omega
  have hp4 := oP
  have htc := oTc
  refine s_aload_n (pc := 0) S 0 dX7_setToner_0 rfl rfl ?_
  refine s_aload_n (pc := 1) S 0 dX7_setToner_1 rfl rfl ?_
  refine s_iload_n (pc := 2) S 1 dX7_setToner_2 rfl rfl ?_
  refine s_callV (pc := 3) S hz hml [.int x] (k_X7_isPrinter Z l A C x hp) (cwV 1 S.2.2.2.2 gX7_setToner_X7_isPrinter rfl rfl rfl (by decide +kernel) ⟨Nat.le_of_ble_eq_true rfl, Nat.le_of_ble_eq_true rfl⟩) (cc_mod (A := A) (C := C)) rfl rfl rfl (Nat.le_of_ble_eq_true rfl) dX7_setToner_3 ⟨Nat.le_of_ble_eq_true rfl, Nat.le_of_ble_eq_true rfl⟩ (fun _ _ _ h => h.elim) (fun v A2 C2 h_1 => ?_)
  rcases h_1 with ⟨rfl, rfl, ⟨k_2, hk_3, rfl, rfl⟩ | ⟨no_4, rfl⟩⟩
  · have z_5 : k_2 < 4 := by omega
    have z_6 := oTc k_2
    have z_7 := oB k_2
    have z_8 := oK k_2
    have z_9 := oS k_2
    have z_10 := o11 k_2
    refine s_if_neN (pc := 6) S 13 dX7_setToner_6 (by decide) (by decide) (fun _ => ?_) (fun h => absurd h (by decide))
    refine s_iload_n (pc := 13) S 3 dX7_setToner_13 rfl rfl ?_
    refine s_iconst (pc := 14) S (v := (nI 0)) dX7_setToner_14 (by decide) ?_
    refine s_sipush (pc := 15) S (v := (nI 1000)) dX7_setToner_15 (by decide) ?_
    refine s_callS (pc := 18) S hz hml [.int y, .int (nI 0), .int (nI 1000)] (k_X7_in Z l A C y (nI 0) (nI 1000)) (cwS 3 S.2.2.2.2 gX7_setToner_X7_in rfl rfl rfl (by decide +kernel) ⟨Nat.le_of_ble_eq_true rfl, Nat.le_of_ble_eq_true rfl⟩) rfl rfl (Nat.le_of_ble_eq_true rfl) dX7_setToner_18 ⟨Nat.le_of_ble_eq_true rfl, Nat.le_of_ble_eq_true rfl⟩ (fun _ _ _ h => h.elim) (fun v A2 C2 h_11 => ?_)
    rcases h_11 with ⟨rfl, rfl, ⟨p_12, p_13, rfl⟩ | ⟨p_14, rfl⟩⟩
    · obtain ⟨w_15, r_16, r_17, rfl⟩ := rg_of (by decide) p_12 p_13 (by decide)
      refine s_if_neN (pc := 21) S 28 dX7_setToner_21 (by decide) (by decide) (fun _ => ?_) (fun h => absurd h (by decide))
      refine s_iload_n (pc := 28) S 2 dX7_setToner_28 rfl rfl ?_
      refine s_if_eqN (pc := 29) S 45 dX7_setToner_29 (by decide) (by omega) (fun c_18 => ?_) (fun c_18 => ?_)
      · refine s_iconst (pc := 45) S (v := (nI 0)) dX7_setToner_45 (by decide) ?_
        refine s_put (pc := 46) S hz (ref := "SpoolFarmModel") (ty := .int) (cc_mod (A := A) (C := C)) i_RX7 tyX7 tyX7_ok nmX7 rfl 27 (Nat.le_of_ble_eq_true rfl) (by decide +kernel) (fun _ h => h) rfl (by decide +kernel) rfl rfl (Nat.le_of_ble_eq_true rfl) (up3 C 60 100 27 0) cu_mod (by rw [(cc_mod (A := A) (C := (up3 C 60 100 27 0))), up3_u]; rfl) dX7_setToner_46 ?_
        refine s_aload_n (pc := 49) S 0 dX7_setToner_49 rfl rfl ?_
        refine s_get (pc := 50) S hz (ref := "SpoolFarmModel") (v := .int (nI 0)) (cc_mod (A := A) (C := (up3 C 60 100 27 0))) i_RX7 rfl 27 (Nat.le_of_ble_eq_true rfl) (by decide +kernel) (fun _ h => h) rfl dX7_setToner_50 ?_
        refine s_if_leN (pc := 53) S 58 dX7_setToner_53 (by decide) (by decide) (fun _ => ?_) (fun h => absurd h (by decide))
        refine s_iload_n (pc := 58) S 2 dX7_setToner_58 rfl rfl ?_
        refine s_if_eqN (pc := 59) S 71 dX7_setToner_59 (by decide) (by omega) (fun c_19 => ?_) (fun c_19 => absurd c_19 (by omega))
        refine s_aload_n (pc := 71) S 0 dX7_setToner_71 rfl rfl ?_
        refine s_get (pc := 72) S hz (ref := "SpoolFarmModel") (v := .ref (A 60 4)) (cc_mod (A := A) (C := (up3 C 60 100 27 0))) i_RX7 rfl 4 (Nat.le_of_ble_eq_true rfl) (by decide +kernel) (fun _ h => h) rfl dX7_setToner_72 ?_
        refine s_iload_n (pc := 75) S 1 dX7_setToner_75 rfl rfl ?_
        refine s_iald (pc := 76) S hz (x := C 60 4 k_2) (cc_row (A := A) (C := (up3 C 60 100 27 0)) (x := aN .int 4 ((up3 C 60 100 27 0) 60 4)) 4 (by decide) rfl) (by omega) (by omega) rfl dX7_setToner_76 ?_
        refine s_istore (pc := 77) S [(4, .int (nI (C 60 4 k_2))), (0, .ref (A 60 100)), (1, .int (nI k_2)), (2, .int (nI cb)), (3, .int (nI w_15))] dX7_setToner_77 (by decide) rfl ?_
        refine s_iload_n (pc := 79) S 3 dX7_setToner_79 rfl rfl ?_
        refine s_if_eqN (pc := 80) S 93 dX7_setToner_80 (by decide) (by omega) (fun c_20 => ?_) (fun c_20 => absurd c_20 (by omega))
        refine s_aload_n (pc := 93) S 1 dX7_setToner_93 rfl rfl ?_
        refine s_get (pc := 94) S hz (ref := "SpoolFarmModel") (v := .ref (A 60 4)) (cc_mod (A := A) (C := (up3 C 60 100 27 0))) i_RX7 rfl 4 (Nat.le_of_ble_eq_true rfl) (by decide +kernel) (fun _ h => h) rfl dX7_setToner_94 ?_
        refine s_iload_n (pc := 97) S 2 dX7_setToner_97 rfl rfl ?_
        refine s_iload_n (pc := 98) S 4 dX7_setToner_98 rfl rfl ?_
        refine s_iast (pc := 99) S hz (cc_row (A := A) (C := (up3 C 60 100 27 0)) (x := aN .int 4 ((up3 C 60 100 27 0) 60 4)) 4 (by decide) rfl) (by omega) (by omega) (up3 (up3 C 60 100 27 0) 60 4 k_2 w_15) cu_mod (by rw [(cc_row (A := A) (C := (up3 (up3 C 60 100 27 0) 60 4 k_2 w_15)) (x := aN .int 4 ((up3 (up3 C 60 100 27 0) 60 4 k_2 w_15) 60 4)) 4 (by decide) rfl), up3_u]) dX7_setToner_99 ?_
        refine s_iload (pc := 100) S 0 dX7_setToner_100 rfl ?_
        exact s_iret (pc := 102) S hz hlo hr ⟨rfl, Or.inl ⟨k_2, w_15, hk_3, rfl, r_16, r_17, rfl, c_18, rfl, rfl⟩⟩ (Nat.le_of_ble_eq_true rfl) (Nat.le_of_ble_eq_true rfl) dX7_setToner_102
      · refine s_aload_n (pc := 32) S 0 dX7_setToner_32 rfl rfl ?_
        refine s_get (pc := 33) S hz (ref := "SpoolFarmModel") (v := .ref (A 60 11)) (cc_mod (A := A) (C := C)) i_RX7 rfl 11 (Nat.le_of_ble_eq_true rfl) (by decide +kernel) (fun _ h => h) rfl dX7_setToner_33 ?_
        refine s_iload_n (pc := 36) S 1 dX7_setToner_36 rfl rfl ?_
        refine s_zald (pc := 37) S hz (x := C 60 11 k_2) (cc_row (A := A) (C := C) (x := aN .boolean 4 (C 60 11)) 11 (by decide) rfl) (by omega) (by omega) rfl dX7_setToner_37 ?_
        refine s_if_neN (pc := 38) S 45 dX7_setToner_38 (by decide) (by omega) (fun c_21 => ?_) (fun c_21 => ?_)
        · refine s_iconst (pc := 45) S (v := (nI 0)) dX7_setToner_45 (by decide) ?_
          refine s_put (pc := 46) S hz (ref := "SpoolFarmModel") (ty := .int) (cc_mod (A := A) (C := C)) i_RX7 tyX7 tyX7_ok nmX7 rfl 27 (Nat.le_of_ble_eq_true rfl) (by decide +kernel) (fun _ h => h) rfl (by decide +kernel) rfl rfl (Nat.le_of_ble_eq_true rfl) (up3 C 60 100 27 0) cu_mod (by rw [(cc_mod (A := A) (C := (up3 C 60 100 27 0))), up3_u]; rfl) dX7_setToner_46 ?_
          refine s_aload_n (pc := 49) S 0 dX7_setToner_49 rfl rfl ?_
          refine s_get (pc := 50) S hz (ref := "SpoolFarmModel") (v := .int (nI 0)) (cc_mod (A := A) (C := (up3 C 60 100 27 0))) i_RX7 rfl 27 (Nat.le_of_ble_eq_true rfl) (by decide +kernel) (fun _ h => h) rfl dX7_setToner_50 ?_
          refine s_if_leN (pc := 53) S 58 dX7_setToner_53 (by decide) (by decide) (fun _ => ?_) (fun h => absurd h (by decide))
          refine s_iload_n (pc := 58) S 2 dX7_setToner_58 rfl rfl ?_
          refine s_if_eqN (pc := 59) S 71 dX7_setToner_59 (by decide) (by omega) (fun c_22 => absurd c_22 (by omega)) (fun c_22 => ?_)
          refine s_aload_n (pc := 62) S 0 dX7_setToner_62 rfl rfl ?_
          refine s_get (pc := 63) S hz (ref := "SpoolFarmModel") (v := .ref (A 60 5)) (cc_mod (A := A) (C := (up3 C 60 100 27 0))) i_RX7 rfl 5 (Nat.le_of_ble_eq_true rfl) (by decide +kernel) (fun _ h => h) rfl dX7_setToner_63 ?_
          refine s_iload_n (pc := 66) S 1 dX7_setToner_66 rfl rfl ?_
          refine s_iald (pc := 67) S hz (x := C 60 5 k_2) (cc_row (A := A) (C := (up3 C 60 100 27 0)) (x := aN .int 4 ((up3 C 60 100 27 0) 60 5)) 5 (by decide) rfl) (by omega) (by omega) rfl dX7_setToner_67 ?_
          refine s_goto (pc := 68) S 77 dX7_setToner_68 (by decide) ?_
          refine s_istore (pc := 77) S [(4, .int (nI (C 60 5 k_2))), (0, .ref (A 60 100)), (1, .int (nI k_2)), (2, .int (nI cb)), (3, .int (nI w_15))] dX7_setToner_77 (by decide) rfl ?_
          refine s_iload_n (pc := 79) S 3 dX7_setToner_79 rfl rfl ?_
          refine s_if_eqN (pc := 80) S 93 dX7_setToner_80 (by decide) (by omega) (fun c_23 => absurd c_23 (by omega)) (fun c_23 => ?_)
          refine s_aload_n (pc := 83) S 1 dX7_setToner_83 rfl rfl ?_
          refine s_get (pc := 84) S hz (ref := "SpoolFarmModel") (v := .ref (A 60 5)) (cc_mod (A := A) (C := (up3 C 60 100 27 0))) i_RX7 rfl 5 (Nat.le_of_ble_eq_true rfl) (by decide +kernel) (fun _ h => h) rfl dX7_setToner_84 ?_
          refine s_iload_n (pc := 87) S 2 dX7_setToner_87 rfl rfl ?_
          refine s_iload_n (pc := 88) S 4 dX7_setToner_88 rfl rfl ?_
          refine s_iast (pc := 89) S hz (cc_row (A := A) (C := (up3 C 60 100 27 0)) (x := aN .int 4 ((up3 C 60 100 27 0) 60 5)) 5 (by decide) rfl) (by omega) (by omega) (up3 (up3 C 60 100 27 0) 60 5 k_2 w_15) cu_mod (by rw [(cc_row (A := A) (C := (up3 (up3 C 60 100 27 0) 60 5 k_2 w_15)) (x := aN .int 4 ((up3 (up3 C 60 100 27 0) 60 5 k_2 w_15) 60 5)) 5 (by decide) rfl), up3_u]) dX7_setToner_89 ?_
          refine s_goto (pc := 90) S 100 dX7_setToner_90 (by decide) ?_
          refine s_iload (pc := 100) S 0 dX7_setToner_100 rfl ?_
          exact s_iret (pc := 102) S hz hlo hr ⟨rfl, Or.inr (Or.inl ⟨k_2, w_15, hk_3, rfl, r_16, r_17, rfl, c_18, c_21, rfl, rfl⟩)⟩ (Nat.le_of_ble_eq_true rfl) (Nat.le_of_ble_eq_true rfl) dX7_setToner_102
        · refine s_iconst (pc := 41) S (v := (nI 3)) dX7_setToner_41 (by decide) ?_
          refine s_goto (pc := 42) S 46 dX7_setToner_42 (by decide) ?_
          refine s_put (pc := 46) S hz (ref := "SpoolFarmModel") (ty := .int) (cc_mod (A := A) (C := C)) i_RX7 tyX7 tyX7_ok nmX7 rfl 27 (Nat.le_of_ble_eq_true rfl) (by decide +kernel) (fun _ h => h) rfl (by decide +kernel) rfl rfl (Nat.le_of_ble_eq_true rfl) (up3 C 60 100 27 3) cu_mod (by rw [(cc_mod (A := A) (C := (up3 C 60 100 27 3))), up3_u]; rfl) dX7_setToner_46 ?_
          refine s_aload_n (pc := 49) S 0 dX7_setToner_49 rfl rfl ?_
          refine s_get (pc := 50) S hz (ref := "SpoolFarmModel") (v := .int (nI 3)) (cc_mod (A := A) (C := (up3 C 60 100 27 3))) i_RX7 rfl 27 (Nat.le_of_ble_eq_true rfl) (by decide +kernel) (fun _ h => h) rfl dX7_setToner_50 ?_
          refine s_if_leN (pc := 53) S 58 dX7_setToner_53 (by decide) (by decide) (fun h => absurd h (by decide)) (fun _ => ?_)
          refine s_iconst (pc := 56) S (v := (nI 0)) dX7_setToner_56 (by decide) ?_
          exact s_iret (pc := 57) S hz hlo hr ⟨rfl, Or.inr (Or.inr (Or.inl ⟨k_2, w_15, hk_3, rfl, r_16, r_17, rfl, c_18, c_21, rfl, rfl⟩))⟩ (Nat.le_of_ble_eq_true rfl) (Nat.le_of_ble_eq_true rfl) dX7_setToner_57
    · have n_24 := rg_no (by decide) (by decide) p_14
      refine s_if_neN (pc := 21) S 28 dX7_setToner_21 (by decide) (by decide) (fun h => absurd h (by decide)) (fun _ => ?_)
      refine s_iconst (pc := 24) S (v := (nI 2)) dX7_setToner_24 (by decide) ?_
      refine s_goto (pc := 25) S 46 dX7_setToner_25 (by decide) ?_
      refine s_put (pc := 46) S hz (ref := "SpoolFarmModel") (ty := .int) (cc_mod (A := A) (C := C)) i_RX7 tyX7 tyX7_ok nmX7 rfl 27 (Nat.le_of_ble_eq_true rfl) (by decide +kernel) (fun _ h => h) rfl (by decide +kernel) rfl rfl (Nat.le_of_ble_eq_true rfl) (up3 C 60 100 27 2) cu_mod (by rw [(cc_mod (A := A) (C := (up3 C 60 100 27 2))), up3_u]; rfl) dX7_setToner_46 ?_
      refine s_aload_n (pc := 49) S 0 dX7_setToner_49 rfl rfl ?_
      refine s_get (pc := 50) S hz (ref := "SpoolFarmModel") (v := .int (nI 2)) (cc_mod (A := A) (C := (up3 C 60 100 27 2))) i_RX7 rfl 27 (Nat.le_of_ble_eq_true rfl) (by decide +kernel) (fun _ h => h) rfl dX7_setToner_50 ?_
      refine s_if_leN (pc := 53) S 58 dX7_setToner_53 (by decide) (by decide) (fun h => absurd h (by decide)) (fun _ => ?_)
      refine s_iconst (pc := 56) S (v := (nI 0)) dX7_setToner_56 (by decide) ?_
      exact s_iret (pc := 57) S hz hlo hr ⟨rfl, Or.inr (Or.inr (Or.inr (Or.inl ⟨k_2, hk_3, rfl, n_24, rfl, rfl⟩)))⟩ (Nat.le_of_ble_eq_true rfl) (Nat.le_of_ble_eq_true rfl) dX7_setToner_57
  · refine s_if_neN (pc := 6) S 13 dX7_setToner_6 (by decide) (by decide) (fun h => absurd h (by decide)) (fun _ => ?_)
    refine s_iconst (pc := 9) S (v := (nI 1)) dX7_setToner_9 (by decide) ?_
    refine s_goto (pc := 10) S 46 dX7_setToner_10 (by decide) ?_
    refine s_put (pc := 46) S hz (ref := "SpoolFarmModel") (ty := .int) (cc_mod (A := A) (C := C)) i_RX7 tyX7 tyX7_ok nmX7 rfl 27 (Nat.le_of_ble_eq_true rfl) (by decide +kernel) (fun _ h => h) rfl (by decide +kernel) rfl rfl (Nat.le_of_ble_eq_true rfl) (up3 C 60 100 27 1) cu_mod (by rw [(cc_mod (A := A) (C := (up3 C 60 100 27 1))), up3_u]; rfl) dX7_setToner_46 ?_
    refine s_aload_n (pc := 49) S 0 dX7_setToner_49 rfl rfl ?_
    refine s_get (pc := 50) S hz (ref := "SpoolFarmModel") (v := .int (nI 1)) (cc_mod (A := A) (C := (up3 C 60 100 27 1))) i_RX7 rfl 27 (Nat.le_of_ble_eq_true rfl) (by decide +kernel) (fun _ h => h) rfl dX7_setToner_50 ?_
    refine s_if_leN (pc := 53) S 58 dX7_setToner_53 (by decide) (by decide) (fun h => absurd h (by decide)) (fun _ => ?_)
    refine s_iconst (pc := 56) S (v := (nI 0)) dX7_setToner_56 (by decide) ?_
    exact s_iret (pc := 57) S hz hlo hr ⟨rfl, Or.inr (Or.inr (Or.inr (Or.inr (⟨no_4, rfl, rfl⟩))))⟩ (Nat.le_of_ble_eq_true rfl) (Nat.le_of_ble_eq_true rfl) dX7_setToner_57
set_option maxHeartbeats 4000000 in
set_option maxRecDepth 100000 in
theorem k_X7_tonerOf (Z : Zp) (l : Launch) (A : AF) (C : CF) (x : Int32) (cb : Nat) (hcb : cb < 2) (hO : OkR C) : CtS Z l yX7_tonerOf wsX7_tonerOf ({ frames := 2, cells := 0, slots := 0, locals := 43 }) [.ref (A 60 100), .int x, .int (nI cb)] A C 0 0 (fun v A2 C2 => A = A2 ∧ ((∃ k_2 : Nat, k_2 < C 60 100 29 ∧ nI k_2 = x ∧ cb = 0 ∧ (up3 C 60 100 27 0) = C2 ∧ some (.int (nI (C 60 4 k_2))) = v) ∨ (∃ k_2 : Nat, k_2 < C 60 100 29 ∧ nI k_2 = x ∧ ¬ cb = 0 ∧ ¬ C 60 11 k_2 = 0 ∧ (up3 C 60 100 27 0) = C2 ∧ some (.int (nI (C 60 5 k_2))) = v) ∨ (∃ k_2 : Nat, k_2 < C 60 100 29 ∧ nI k_2 = x ∧ ¬ cb = 0 ∧ C 60 11 k_2 = 0 ∧ (up3 C 60 100 27 2) = C2 ∧ some (.int (nI 0)) = v) ∨ ((∀ k : Nat, k < C 60 100 29 → nI k ≠ x) ∧ (up3 C 60 100 27 1) = C2 ∧ some (.int (nI 0)) = v))) (fun _ _ _ => False) := by
  refine CtS.of (cc0 := cX7_tonerOf) (maxL := 3) (ret := (some .int)) (by decide) rfl (Nat.le_of_ble_eq_true rfl) ?_
  intro M0_ p_ e_ s_ m_ args_ below_ meth_ c_ S hz hml hex hlo hr hin
  refine s_loc (L2 := [(0, .ref (A 60 100)), (1, .int x), (2, .int (nI cb))]) rfl ?_
  have i_RX7 : ∀ w ∈ u_ws RX7 TX7 38, w ∈ wsX7_tonerOf := by decide +kernel
  obtain ⟨oU, oP, oJ, oTc, oY, o8, o9, o10, o11, o12, o13, o14, o15, oX, oQ, oB, oK, oS, oJk, oM, oCo, oSh, oLg, oPo, oLl, oL2, oL3, oL4, oLle, oE1, oE2, oE3, oE4⟩ := id hO
  have hu : C 60 100 28 < 2 ^ 30 := by omega
  have hp : C 60 100 29 < 2 ^ 30 := by omega
  have hj : C 60 100 30 < 2 ^ 30 := by omega
  have hlg : C 60 100 31 < 2 ^ 30 := by omega
  have hp4 := oP
  have htc := oTc
  refine s_aload_n (pc := 0) S 0 dX7_tonerOf_0 rfl rfl ?_
  refine s_aload_n (pc := 1) S 0 dX7_tonerOf_1 rfl rfl ?_
  refine s_iload_n (pc := 2) S 1 dX7_tonerOf_2 rfl rfl ?_
  refine s_callV (pc := 3) S hz hml [.int x] (k_X7_isPrinter Z l A C x hp) (cwV 1 S.2.2.2.2 gX7_tonerOf_X7_isPrinter rfl rfl rfl (by decide +kernel) ⟨Nat.le_of_ble_eq_true rfl, Nat.le_of_ble_eq_true rfl⟩) (cc_mod (A := A) (C := C)) rfl rfl rfl (Nat.le_of_ble_eq_true rfl) dX7_tonerOf_3 ⟨Nat.le_of_ble_eq_true rfl, Nat.le_of_ble_eq_true rfl⟩ (fun _ _ _ h => h.elim) (fun v A2 C2 h_1 => ?_)
  rcases h_1 with ⟨rfl, rfl, ⟨k_2, hk_3, rfl, rfl⟩ | ⟨no_4, rfl⟩⟩
  · have z_5 : k_2 < 4 := by omega
    have z_6 := oTc k_2
    have z_7 := oB k_2
    have z_8 := oK k_2
    have z_9 := oS k_2
    have z_10 := o11 k_2
    refine s_if_neN (pc := 6) S 13 dX7_tonerOf_6 (by decide) (by decide) (fun _ => ?_) (fun h => absurd h (by decide))
    refine s_iload_n (pc := 13) S 2 dX7_tonerOf_13 rfl rfl ?_
    refine s_if_eqN (pc := 14) S 30 dX7_tonerOf_14 (by decide) (by omega) (fun c_11 => ?_) (fun c_11 => ?_)
    · refine s_iconst (pc := 30) S (v := (nI 0)) dX7_tonerOf_30 (by decide) ?_
      refine s_put (pc := 31) S hz (ref := "SpoolFarmModel") (ty := .int) (cc_mod (A := A) (C := C)) i_RX7 tyX7 tyX7_ok nmX7 rfl 27 (Nat.le_of_ble_eq_true rfl) (by decide +kernel) (fun _ h => h) rfl (by decide +kernel) rfl rfl (Nat.le_of_ble_eq_true rfl) (up3 C 60 100 27 0) cu_mod (by rw [(cc_mod (A := A) (C := (up3 C 60 100 27 0))), up3_u]; rfl) dX7_tonerOf_31 ?_
      refine s_aload_n (pc := 34) S 0 dX7_tonerOf_34 rfl rfl ?_
      refine s_get (pc := 35) S hz (ref := "SpoolFarmModel") (v := .int (nI 0)) (cc_mod (A := A) (C := (up3 C 60 100 27 0))) i_RX7 rfl 27 (Nat.le_of_ble_eq_true rfl) (by decide +kernel) (fun _ h => h) rfl dX7_tonerOf_35 ?_
      refine s_if_leN (pc := 38) S 43 dX7_tonerOf_38 (by decide) (by decide) (fun _ => ?_) (fun h => absurd h (by decide))
      refine s_iload_n (pc := 43) S 2 dX7_tonerOf_43 rfl rfl ?_
      refine s_if_eqN (pc := 44) S 56 dX7_tonerOf_44 (by decide) (by omega) (fun c_12 => ?_) (fun c_12 => absurd c_12 (by omega))
      refine s_aload_n (pc := 56) S 0 dX7_tonerOf_56 rfl rfl ?_
      refine s_get (pc := 57) S hz (ref := "SpoolFarmModel") (v := .ref (A 60 4)) (cc_mod (A := A) (C := (up3 C 60 100 27 0))) i_RX7 rfl 4 (Nat.le_of_ble_eq_true rfl) (by decide +kernel) (fun _ h => h) rfl dX7_tonerOf_57 ?_
      refine s_iload_n (pc := 60) S 1 dX7_tonerOf_60 rfl rfl ?_
      refine s_iald (pc := 61) S hz (x := C 60 4 k_2) (cc_row (A := A) (C := (up3 C 60 100 27 0)) (x := aN .int 4 ((up3 C 60 100 27 0) 60 4)) 4 (by decide) rfl) (by omega) (by omega) rfl dX7_tonerOf_61 ?_
      exact s_iret (pc := 62) S hz hlo hr ⟨rfl, Or.inl ⟨k_2, hk_3, rfl, c_11, rfl, rfl⟩⟩ (Nat.le_of_ble_eq_true rfl) (Nat.le_of_ble_eq_true rfl) dX7_tonerOf_62
    · refine s_aload_n (pc := 17) S 0 dX7_tonerOf_17 rfl rfl ?_
      refine s_get (pc := 18) S hz (ref := "SpoolFarmModel") (v := .ref (A 60 11)) (cc_mod (A := A) (C := C)) i_RX7 rfl 11 (Nat.le_of_ble_eq_true rfl) (by decide +kernel) (fun _ h => h) rfl dX7_tonerOf_18 ?_
      refine s_iload_n (pc := 21) S 1 dX7_tonerOf_21 rfl rfl ?_
      refine s_zald (pc := 22) S hz (x := C 60 11 k_2) (cc_row (A := A) (C := C) (x := aN .boolean 4 (C 60 11)) 11 (by decide) rfl) (by omega) (by omega) rfl dX7_tonerOf_22 ?_
      refine s_if_neN (pc := 23) S 30 dX7_tonerOf_23 (by decide) (by omega) (fun c_13 => ?_) (fun c_13 => ?_)
      · refine s_iconst (pc := 30) S (v := (nI 0)) dX7_tonerOf_30 (by decide) ?_
        refine s_put (pc := 31) S hz (ref := "SpoolFarmModel") (ty := .int) (cc_mod (A := A) (C := C)) i_RX7 tyX7 tyX7_ok nmX7 rfl 27 (Nat.le_of_ble_eq_true rfl) (by decide +kernel) (fun _ h => h) rfl (by decide +kernel) rfl rfl (Nat.le_of_ble_eq_true rfl) (up3 C 60 100 27 0) cu_mod (by rw [(cc_mod (A := A) (C := (up3 C 60 100 27 0))), up3_u]; rfl) dX7_tonerOf_31 ?_
        refine s_aload_n (pc := 34) S 0 dX7_tonerOf_34 rfl rfl ?_
        refine s_get (pc := 35) S hz (ref := "SpoolFarmModel") (v := .int (nI 0)) (cc_mod (A := A) (C := (up3 C 60 100 27 0))) i_RX7 rfl 27 (Nat.le_of_ble_eq_true rfl) (by decide +kernel) (fun _ h => h) rfl dX7_tonerOf_35 ?_
        refine s_if_leN (pc := 38) S 43 dX7_tonerOf_38 (by decide) (by decide) (fun _ => ?_) (fun h => absurd h (by decide))
        refine s_iload_n (pc := 43) S 2 dX7_tonerOf_43 rfl rfl ?_
        refine s_if_eqN (pc := 44) S 56 dX7_tonerOf_44 (by decide) (by omega) (fun c_14 => absurd c_14 (by omega)) (fun c_14 => ?_)
        refine s_aload_n (pc := 47) S 0 dX7_tonerOf_47 rfl rfl ?_
        refine s_get (pc := 48) S hz (ref := "SpoolFarmModel") (v := .ref (A 60 5)) (cc_mod (A := A) (C := (up3 C 60 100 27 0))) i_RX7 rfl 5 (Nat.le_of_ble_eq_true rfl) (by decide +kernel) (fun _ h => h) rfl dX7_tonerOf_48 ?_
        refine s_iload_n (pc := 51) S 1 dX7_tonerOf_51 rfl rfl ?_
        refine s_iald (pc := 52) S hz (x := C 60 5 k_2) (cc_row (A := A) (C := (up3 C 60 100 27 0)) (x := aN .int 4 ((up3 C 60 100 27 0) 60 5)) 5 (by decide) rfl) (by omega) (by omega) rfl dX7_tonerOf_52 ?_
        refine s_goto (pc := 53) S 62 dX7_tonerOf_53 (by decide) ?_
        exact s_iret (pc := 62) S hz hlo hr ⟨rfl, Or.inr (Or.inl ⟨k_2, hk_3, rfl, c_11, c_13, rfl, rfl⟩)⟩ (Nat.le_of_ble_eq_true rfl) (Nat.le_of_ble_eq_true rfl) dX7_tonerOf_62
      · refine s_iconst (pc := 26) S (v := (nI 2)) dX7_tonerOf_26 (by decide) ?_
        refine s_goto (pc := 27) S 31 dX7_tonerOf_27 (by decide) ?_
        refine s_put (pc := 31) S hz (ref := "SpoolFarmModel") (ty := .int) (cc_mod (A := A) (C := C)) i_RX7 tyX7 tyX7_ok nmX7 rfl 27 (Nat.le_of_ble_eq_true rfl) (by decide +kernel) (fun _ h => h) rfl (by decide +kernel) rfl rfl (Nat.le_of_ble_eq_true rfl) (up3 C 60 100 27 2) cu_mod (by rw [(cc_mod (A := A) (C := (up3 C 60 100 27 2))), up3_u]; rfl) dX7_tonerOf_31 ?_
        refine s_aload_n (pc := 34) S 0 dX7_tonerOf_34 rfl rfl ?_
        refine s_get (pc := 35) S hz (ref := "SpoolFarmModel") (v := .int (nI 2)) (cc_mod (A := A) (C := (up3 C 60 100 27 2))) i_RX7 rfl 27 (Nat.le_of_ble_eq_true rfl) (by decide +kernel) (fun _ h => h) rfl dX7_tonerOf_35 ?_
        refine s_if_leN (pc := 38) S 43 dX7_tonerOf_38 (by decide) (by decide) (fun h => absurd h (by decide)) (fun _ => ?_)
        refine s_iconst (pc := 41) S (v := (nI 0)) dX7_tonerOf_41 (by decide) ?_
        exact s_iret (pc := 42) S hz hlo hr ⟨rfl, Or.inr (Or.inr (Or.inl ⟨k_2, hk_3, rfl, c_11, c_13, rfl, rfl⟩))⟩ (Nat.le_of_ble_eq_true rfl) (Nat.le_of_ble_eq_true rfl) dX7_tonerOf_42
  · refine s_if_neN (pc := 6) S 13 dX7_tonerOf_6 (by decide) (by decide) (fun h => absurd h (by decide)) (fun _ => ?_)
    refine s_iconst (pc := 9) S (v := (nI 1)) dX7_tonerOf_9 (by decide) ?_
    refine s_goto (pc := 10) S 31 dX7_tonerOf_10 (by decide) ?_
    refine s_put (pc := 31) S hz (ref := "SpoolFarmModel") (ty := .int) (cc_mod (A := A) (C := C)) i_RX7 tyX7 tyX7_ok nmX7 rfl 27 (Nat.le_of_ble_eq_true rfl) (by decide +kernel) (fun _ h => h) rfl (by decide +kernel) rfl rfl (Nat.le_of_ble_eq_true rfl) (up3 C 60 100 27 1) cu_mod (by rw [(cc_mod (A := A) (C := (up3 C 60 100 27 1))), up3_u]; rfl) dX7_tonerOf_31 ?_
    refine s_aload_n (pc := 34) S 0 dX7_tonerOf_34 rfl rfl ?_
    refine s_get (pc := 35) S hz (ref := "SpoolFarmModel") (v := .int (nI 1)) (cc_mod (A := A) (C := (up3 C 60 100 27 1))) i_RX7 rfl 27 (Nat.le_of_ble_eq_true rfl) (by decide +kernel) (fun _ h => h) rfl dX7_tonerOf_35 ?_
    refine s_if_leN (pc := 38) S 43 dX7_tonerOf_38 (by decide) (by decide) (fun h => absurd h (by decide)) (fun _ => ?_)
    refine s_iconst (pc := 41) S (v := (nI 0)) dX7_tonerOf_41 (by decide) ?_
    exact s_iret (pc := 42) S hz hlo hr ⟨rfl, Or.inr (Or.inr (Or.inr (⟨no_4, rfl, rfl⟩)))⟩ (Nat.le_of_ble_eq_true rfl) (Nat.le_of_ble_eq_true rfl) dX7_tonerOf_42
set_option maxHeartbeats 4000000 in
set_option maxRecDepth 100000 in
theorem k_X7_setStaples (Z : Zp) (l : Launch) (A : AF) (C : CF) (x y : Int32) (hO : OkR C) : CtS Z l yX7_setStaples wsX7_setStaples ({ frames := 2, cells := 0, slots := 0, locals := 43 }) [.ref (A 60 100), .int x, .int y] A C 0 0 (fun v A2 C2 => A = A2 ∧ ((∃ k_2 w_15 : Nat, k_2 < C 60 100 29 ∧ nI k_2 = x ∧ 0 ≤ w_15 ∧ w_15 ≤ 100 ∧ nI w_15 = y ∧ (up3 (up3 C 60 100 27 0) 60 6 k_2 w_15) = C2 ∧ some (.int (nI (C 60 6 k_2))) = v) ∨ (∃ k_2 : Nat, k_2 < C 60 100 29 ∧ nI k_2 = x ∧ (∀ k : Nat, 0 ≤ k → k ≤ 100 → nI k ≠ y) ∧ (up3 C 60 100 27 2) = C2 ∧ some (.int (nI 0)) = v) ∨ ((∀ k : Nat, k < C 60 100 29 → nI k ≠ x) ∧ (up3 C 60 100 27 1) = C2 ∧ some (.int (nI 0)) = v))) (fun _ _ _ => False) := by
  refine CtS.of (cc0 := cX7_setStaples) (maxL := 4) (ret := (some .int)) (by decide) rfl (Nat.le_of_ble_eq_true rfl) ?_
  intro M0_ p_ e_ s_ m_ args_ below_ meth_ c_ S hz hml hex hlo hr hin
  refine s_loc (L2 := [(0, .ref (A 60 100)), (1, .int x), (2, .int y)]) rfl ?_
  have i_RX7 : ∀ w ∈ u_ws RX7 TX7 38, w ∈ wsX7_setStaples := by decide +kernel
  obtain ⟨oU, oP, oJ, oTc, oY, o8, o9, o10, o11, o12, o13, o14, o15, oX, oQ, oB, oK, oS, oJk, oM, oCo, oSh, oLg, oPo, oLl, oL2, oL3, oL4, oLle, oE1, oE2, oE3, oE4⟩ := id hO
  have hu : C 60 100 28 < 2 ^ 30 := by omega
  have hp : C 60 100 29 < 2 ^ 30 := by omega
  have hj : C 60 100 30 < 2 ^ 30 := by omega
  have hlg : C 60 100 31 < 2 ^ 30 := by omega
  have hp4 := oP
  have htc := oTc
  refine s_aload_n (pc := 0) S 0 dX7_setStaples_0 rfl rfl ?_
  refine s_aload_n (pc := 1) S 0 dX7_setStaples_1 rfl rfl ?_
  refine s_iload_n (pc := 2) S 1 dX7_setStaples_2 rfl rfl ?_
  refine s_callV (pc := 3) S hz hml [.int x] (k_X7_isPrinter Z l A C x hp) (cwV 1 S.2.2.2.2 gX7_setStaples_X7_isPrinter rfl rfl rfl (by decide +kernel) ⟨Nat.le_of_ble_eq_true rfl, Nat.le_of_ble_eq_true rfl⟩) (cc_mod (A := A) (C := C)) rfl rfl rfl (Nat.le_of_ble_eq_true rfl) dX7_setStaples_3 ⟨Nat.le_of_ble_eq_true rfl, Nat.le_of_ble_eq_true rfl⟩ (fun _ _ _ h => h.elim) (fun v A2 C2 h_1 => ?_)
  rcases h_1 with ⟨rfl, rfl, ⟨k_2, hk_3, rfl, rfl⟩ | ⟨no_4, rfl⟩⟩
  · have z_5 : k_2 < 4 := by omega
    have z_6 := oTc k_2
    have z_7 := oB k_2
    have z_8 := oK k_2
    have z_9 := oS k_2
    have z_10 := o11 k_2
    refine s_if_neN (pc := 6) S 13 dX7_setStaples_6 (by decide) (by decide) (fun _ => ?_) (fun h => absurd h (by decide))
    refine s_iload_n (pc := 13) S 2 dX7_setStaples_13 rfl rfl ?_
    refine s_iconst (pc := 14) S (v := (nI 0)) dX7_setStaples_14 (by decide) ?_
    refine s_bipush (pc := 15) S (v := (nI 100)) dX7_setStaples_15 (by decide) ?_
    refine s_callS (pc := 17) S hz hml [.int y, .int (nI 0), .int (nI 100)] (k_X7_in Z l A C y (nI 0) (nI 100)) (cwS 3 S.2.2.2.2 gX7_setStaples_X7_in rfl rfl rfl (by decide +kernel) ⟨Nat.le_of_ble_eq_true rfl, Nat.le_of_ble_eq_true rfl⟩) rfl rfl (Nat.le_of_ble_eq_true rfl) dX7_setStaples_17 ⟨Nat.le_of_ble_eq_true rfl, Nat.le_of_ble_eq_true rfl⟩ (fun _ _ _ h => h.elim) (fun v A2 C2 h_11 => ?_)
    rcases h_11 with ⟨rfl, rfl, ⟨p_12, p_13, rfl⟩ | ⟨p_14, rfl⟩⟩
    · obtain ⟨w_15, r_16, r_17, rfl⟩ := rg_of (by decide) p_12 p_13 (by decide)
      refine s_if_neN (pc := 20) S 27 dX7_setStaples_20 (by decide) (by decide) (fun _ => ?_) (fun h => absurd h (by decide))
      refine s_iconst (pc := 27) S (v := (nI 0)) dX7_setStaples_27 (by decide) ?_
      refine s_put (pc := 28) S hz (ref := "SpoolFarmModel") (ty := .int) (cc_mod (A := A) (C := C)) i_RX7 tyX7 tyX7_ok nmX7 rfl 27 (Nat.le_of_ble_eq_true rfl) (by decide +kernel) (fun _ h => h) rfl (by decide +kernel) rfl rfl (Nat.le_of_ble_eq_true rfl) (up3 C 60 100 27 0) cu_mod (by rw [(cc_mod (A := A) (C := (up3 C 60 100 27 0))), up3_u]; rfl) dX7_setStaples_28 ?_
      refine s_aload_n (pc := 31) S 0 dX7_setStaples_31 rfl rfl ?_
      refine s_get (pc := 32) S hz (ref := "SpoolFarmModel") (v := .int (nI 0)) (cc_mod (A := A) (C := (up3 C 60 100 27 0))) i_RX7 rfl 27 (Nat.le_of_ble_eq_true rfl) (by decide +kernel) (fun _ h => h) rfl dX7_setStaples_32 ?_
      refine s_if_leN (pc := 35) S 40 dX7_setStaples_35 (by decide) (by decide) (fun _ => ?_) (fun h => absurd h (by decide))
      refine s_aload_n (pc := 40) S 0 dX7_setStaples_40 rfl rfl ?_
      refine s_get (pc := 41) S hz (ref := "SpoolFarmModel") (v := .ref (A 60 6)) (cc_mod (A := A) (C := (up3 C 60 100 27 0))) i_RX7 rfl 6 (Nat.le_of_ble_eq_true rfl) (by decide +kernel) (fun _ h => h) rfl dX7_setStaples_41 ?_
      refine s_iload_n (pc := 44) S 1 dX7_setStaples_44 rfl rfl ?_
      refine s_iald (pc := 45) S hz (x := C 60 6 k_2) (cc_row (A := A) (C := (up3 C 60 100 27 0)) (x := aN .int 4 ((up3 C 60 100 27 0) 60 6)) 6 (by decide) rfl) (by omega) (by omega) rfl dX7_setStaples_45 ?_
      refine s_istore_n (pc := 46) S [(3, .int (nI (C 60 6 k_2))), (0, .ref (A 60 100)), (1, .int (nI k_2)), (2, .int (nI w_15))] dX7_setStaples_46 rfl (by decide) rfl ?_
      refine s_aload_n (pc := 47) S 1 dX7_setStaples_47 rfl rfl ?_
      refine s_get (pc := 48) S hz (ref := "SpoolFarmModel") (v := .ref (A 60 6)) (cc_mod (A := A) (C := (up3 C 60 100 27 0))) i_RX7 rfl 6 (Nat.le_of_ble_eq_true rfl) (by decide +kernel) (fun _ h => h) rfl dX7_setStaples_48 ?_
      refine s_iload_n (pc := 51) S 2 dX7_setStaples_51 rfl rfl ?_
      refine s_iload_n (pc := 52) S 3 dX7_setStaples_52 rfl rfl ?_
      refine s_iast (pc := 53) S hz (cc_row (A := A) (C := (up3 C 60 100 27 0)) (x := aN .int 4 ((up3 C 60 100 27 0) 60 6)) 6 (by decide) rfl) (by omega) (by omega) (up3 (up3 C 60 100 27 0) 60 6 k_2 w_15) cu_mod (by rw [(cc_row (A := A) (C := (up3 (up3 C 60 100 27 0) 60 6 k_2 w_15)) (x := aN .int 4 ((up3 (up3 C 60 100 27 0) 60 6 k_2 w_15) 60 6)) 6 (by decide) rfl), up3_u]) dX7_setStaples_53 ?_
      refine s_iload_n (pc := 54) S 0 dX7_setStaples_54 rfl rfl ?_
      exact s_iret (pc := 55) S hz hlo hr ⟨rfl, Or.inl ⟨k_2, w_15, hk_3, rfl, r_16, r_17, rfl, rfl, rfl⟩⟩ (Nat.le_of_ble_eq_true rfl) (Nat.le_of_ble_eq_true rfl) dX7_setStaples_55
    · have n_18 := rg_no (by decide) (by decide) p_14
      refine s_if_neN (pc := 20) S 27 dX7_setStaples_20 (by decide) (by decide) (fun h => absurd h (by decide)) (fun _ => ?_)
      refine s_iconst (pc := 23) S (v := (nI 2)) dX7_setStaples_23 (by decide) ?_
      refine s_goto (pc := 24) S 28 dX7_setStaples_24 (by decide) ?_
      refine s_put (pc := 28) S hz (ref := "SpoolFarmModel") (ty := .int) (cc_mod (A := A) (C := C)) i_RX7 tyX7 tyX7_ok nmX7 rfl 27 (Nat.le_of_ble_eq_true rfl) (by decide +kernel) (fun _ h => h) rfl (by decide +kernel) rfl rfl (Nat.le_of_ble_eq_true rfl) (up3 C 60 100 27 2) cu_mod (by rw [(cc_mod (A := A) (C := (up3 C 60 100 27 2))), up3_u]; rfl) dX7_setStaples_28 ?_
      refine s_aload_n (pc := 31) S 0 dX7_setStaples_31 rfl rfl ?_
      refine s_get (pc := 32) S hz (ref := "SpoolFarmModel") (v := .int (nI 2)) (cc_mod (A := A) (C := (up3 C 60 100 27 2))) i_RX7 rfl 27 (Nat.le_of_ble_eq_true rfl) (by decide +kernel) (fun _ h => h) rfl dX7_setStaples_32 ?_
      refine s_if_leN (pc := 35) S 40 dX7_setStaples_35 (by decide) (by decide) (fun h => absurd h (by decide)) (fun _ => ?_)
      refine s_iconst (pc := 38) S (v := (nI 0)) dX7_setStaples_38 (by decide) ?_
      exact s_iret (pc := 39) S hz hlo hr ⟨rfl, Or.inr (Or.inl ⟨k_2, hk_3, rfl, n_18, rfl, rfl⟩)⟩ (Nat.le_of_ble_eq_true rfl) (Nat.le_of_ble_eq_true rfl) dX7_setStaples_39
  · refine s_if_neN (pc := 6) S 13 dX7_setStaples_6 (by decide) (by decide) (fun h => absurd h (by decide)) (fun _ => ?_)
    refine s_iconst (pc := 9) S (v := (nI 1)) dX7_setStaples_9 (by decide) ?_
    refine s_goto (pc := 10) S 28 dX7_setStaples_10 (by decide) ?_
    refine s_put (pc := 28) S hz (ref := "SpoolFarmModel") (ty := .int) (cc_mod (A := A) (C := C)) i_RX7 tyX7 tyX7_ok nmX7 rfl 27 (Nat.le_of_ble_eq_true rfl) (by decide +kernel) (fun _ h => h) rfl (by decide +kernel) rfl rfl (Nat.le_of_ble_eq_true rfl) (up3 C 60 100 27 1) cu_mod (by rw [(cc_mod (A := A) (C := (up3 C 60 100 27 1))), up3_u]; rfl) dX7_setStaples_28 ?_
    refine s_aload_n (pc := 31) S 0 dX7_setStaples_31 rfl rfl ?_
    refine s_get (pc := 32) S hz (ref := "SpoolFarmModel") (v := .int (nI 1)) (cc_mod (A := A) (C := (up3 C 60 100 27 1))) i_RX7 rfl 27 (Nat.le_of_ble_eq_true rfl) (by decide +kernel) (fun _ h => h) rfl dX7_setStaples_32 ?_
    refine s_if_leN (pc := 35) S 40 dX7_setStaples_35 (by decide) (by decide) (fun h => absurd h (by decide)) (fun _ => ?_)
    refine s_iconst (pc := 38) S (v := (nI 0)) dX7_setStaples_38 (by decide) ?_
    exact s_iret (pc := 39) S hz hlo hr ⟨rfl, Or.inr (Or.inr (⟨no_4, rfl, rfl⟩))⟩ (Nat.le_of_ble_eq_true rfl) (Nat.le_of_ble_eq_true rfl) dX7_setStaples_39
set_option maxHeartbeats 4000000 in
set_option maxRecDepth 100000 in
theorem k_X7_staplesIn (Z : Zp) (l : Launch) (A : AF) (C : CF) (x : Int32) (hO : OkR C) : CtS Z l yX7_staplesIn wsX7_staplesIn ({ frames := 2, cells := 0, slots := 0, locals := 43 }) [.ref (A 60 100), .int x] A C 0 0 (fun v A2 C2 => A = A2 ∧ ((∃ k_2 : Nat, k_2 < C 60 100 29 ∧ nI k_2 = x ∧ (up3 C 60 100 27 0) = C2 ∧ some (.int (nI (C 60 6 k_2))) = v) ∨ ((∀ k : Nat, k < C 60 100 29 → nI k ≠ x) ∧ (up3 C 60 100 27 1) = C2 ∧ some (.int (nI 0)) = v))) (fun _ _ _ => False) := by
  refine CtS.of (cc0 := cX7_staplesIn) (maxL := 2) (ret := (some .int)) (by decide) rfl (Nat.le_of_ble_eq_true rfl) ?_
  intro M0_ p_ e_ s_ m_ args_ below_ meth_ c_ S hz hml hex hlo hr hin
  refine s_loc (L2 := [(0, .ref (A 60 100)), (1, .int x)]) rfl ?_
  have i_RX7 : ∀ w ∈ u_ws RX7 TX7 38, w ∈ wsX7_staplesIn := by decide +kernel
  obtain ⟨oU, oP, oJ, oTc, oY, o8, o9, o10, o11, o12, o13, o14, o15, oX, oQ, oB, oK, oS, oJk, oM, oCo, oSh, oLg, oPo, oLl, oL2, oL3, oL4, oLle, oE1, oE2, oE3, oE4⟩ := id hO
  have hu : C 60 100 28 < 2 ^ 30 := by omega
  have hp : C 60 100 29 < 2 ^ 30 := by omega
  have hj : C 60 100 30 < 2 ^ 30 := by omega
  have hlg : C 60 100 31 < 2 ^ 30 := by omega
  have hp4 := oP
  have htc := oTc
  refine s_aload_n (pc := 0) S 0 dX7_staplesIn_0 rfl rfl ?_
  refine s_aload_n (pc := 1) S 0 dX7_staplesIn_1 rfl rfl ?_
  refine s_iload_n (pc := 2) S 1 dX7_staplesIn_2 rfl rfl ?_
  refine s_callV (pc := 3) S hz hml [.int x] (k_X7_isPrinter Z l A C x hp) (cwV 1 S.2.2.2.2 gX7_staplesIn_X7_isPrinter rfl rfl rfl (by decide +kernel) ⟨Nat.le_of_ble_eq_true rfl, Nat.le_of_ble_eq_true rfl⟩) (cc_mod (A := A) (C := C)) rfl rfl rfl (Nat.le_of_ble_eq_true rfl) dX7_staplesIn_3 ⟨Nat.le_of_ble_eq_true rfl, Nat.le_of_ble_eq_true rfl⟩ (fun _ _ _ h => h.elim) (fun v A2 C2 h_1 => ?_)
  rcases h_1 with ⟨rfl, rfl, ⟨k_2, hk_3, rfl, rfl⟩ | ⟨no_4, rfl⟩⟩
  · have z_5 : k_2 < 4 := by omega
    have z_6 := oTc k_2
    have z_7 := oB k_2
    have z_8 := oK k_2
    have z_9 := oS k_2
    have z_10 := o11 k_2
    refine s_callV (pc := 6) S hz hml [.int (nI 1)] (k_X7_checked Z l A C 1 (by decide)) (cwV 1 S.2.2.2.2 gX7_staplesIn_X7_checked rfl rfl rfl (by decide +kernel) ⟨Nat.le_of_ble_eq_true rfl, Nat.le_of_ble_eq_true rfl⟩) (cc_mod (A := A) (C := C)) rfl rfl rfl (Nat.le_of_ble_eq_true rfl) dX7_staplesIn_6 ⟨Nat.le_of_ble_eq_true rfl, Nat.le_of_ble_eq_true rfl⟩ (fun _ _ _ h => h.elim) (fun v A2 C2 h_11 => ?_)
    obtain ⟨rfl, rfl, rfl⟩ := h_11
    refine s_if_leN (pc := 9) S 16 dX7_staplesIn_9 (by decide) (by decide) (fun _ => ?_) (fun h => absurd h (by decide))
    refine s_aload_n (pc := 16) S 0 dX7_staplesIn_16 rfl rfl ?_
    refine s_get (pc := 17) S hz (ref := "SpoolFarmModel") (v := .ref (A 60 6)) (cc_mod (A := A) (C := (up3 C 60 100 27 0))) i_RX7 rfl 6 (Nat.le_of_ble_eq_true rfl) (by decide +kernel) (fun _ h => h) rfl dX7_staplesIn_17 ?_
    refine s_iload_n (pc := 20) S 1 dX7_staplesIn_20 rfl rfl ?_
    refine s_iald (pc := 21) S hz (x := C 60 6 k_2) (cc_row (A := A) (C := (up3 C 60 100 27 0)) (x := aN .int 4 ((up3 C 60 100 27 0) 60 6)) 6 (by decide) rfl) (by omega) (by omega) rfl dX7_staplesIn_21 ?_
    exact s_iret (pc := 22) S hz hlo hr ⟨rfl, Or.inl ⟨k_2, hk_3, rfl, rfl, rfl⟩⟩ (Nat.le_of_ble_eq_true rfl) (Nat.le_of_ble_eq_true rfl) dX7_staplesIn_22
  · refine s_callV (pc := 6) S hz hml [.int (nI 0)] (k_X7_checked Z l A C 0 (by decide)) (cwV 1 S.2.2.2.2 gX7_staplesIn_X7_checked rfl rfl rfl (by decide +kernel) ⟨Nat.le_of_ble_eq_true rfl, Nat.le_of_ble_eq_true rfl⟩) (cc_mod (A := A) (C := C)) rfl rfl rfl (Nat.le_of_ble_eq_true rfl) dX7_staplesIn_6 ⟨Nat.le_of_ble_eq_true rfl, Nat.le_of_ble_eq_true rfl⟩ (fun _ _ _ h => h.elim) (fun v A2 C2 h_12 => ?_)
    obtain ⟨rfl, rfl, rfl⟩ := h_12
    refine s_if_leN (pc := 9) S 16 dX7_staplesIn_9 (by decide) (by decide) (fun h => absurd h (by decide)) (fun _ => ?_)
    refine s_iconst (pc := 12) S (v := (nI 0)) dX7_staplesIn_12 (by decide) ?_
    refine s_goto (pc := 13) S 22 dX7_staplesIn_13 (by decide) ?_
    exact s_iret (pc := 22) S hz hlo hr ⟨rfl, Or.inr (⟨no_4, rfl, rfl⟩)⟩ (Nat.le_of_ble_eq_true rfl) (Nat.le_of_ble_eq_true rfl) dX7_staplesIn_22
set_option maxHeartbeats 4000000 in
set_option maxRecDepth 100000 in
theorem k_X7_grant (Z : Zp) (l : Launch) (A : AF) (C : CF) (x : Int32) (cb : Nat) (y : Int32) (hcb : cb < 2) (hO : OkR C) : CtS Z l yX7_grant wsX7_grant ({ frames := 2, cells := 0, slots := 0, locals := 43 }) [.ref (A 60 100), .int x, .int (nI cb), .int y] A C 0 0 (fun v A2 C2 => A = A2 ∧ ((∃ k_2 w_10 : Nat, k_2 < C 60 100 28 ∧ nI k_2 = x ∧ 1 ≤ w_10 ∧ w_10 ≤ 999 ∧ nI w_10 = y ∧ (C 60 0 (2 * k_2 + (if cb = 0 then 0 else 1))) + w_10 ≤ 9999 ∧ (up3 (up3 C 60 100 27 0) 60 0 (2 * k_2 + (if cb = 0 then 0 else 1)) ((C 60 0 (2 * k_2 + (if cb = 0 then 0 else 1))) + w_10)) = C2 ∧ some (.int (nI ((C 60 0 (2 * k_2 + (if cb = 0 then 0 else 1))) + w_10))) = v) ∨ (∃ k_2 w_10 : Nat, k_2 < C 60 100 28 ∧ nI k_2 = x ∧ 1 ≤ w_10 ∧ w_10 ≤ 999 ∧ nI w_10 = y ∧ ¬ (C 60 0 (2 * k_2 + (if cb = 0 then 0 else 1))) + w_10 ≤ 9999 ∧ (up3 C 60 100 27 3) = C2 ∧ some (.int (nI 0)) = v) ∨ (∃ k_2 : Nat, k_2 < C 60 100 28 ∧ nI k_2 = x ∧ (∀ k : Nat, 1 ≤ k → k ≤ 999 → nI k ≠ y) ∧ (up3 C 60 100 27 2) = C2 ∧ some (.int (nI 0)) = v) ∨ ((∀ k : Nat, k < C 60 100 28 → nI k ≠ x) ∧ (up3 C 60 100 27 1) = C2 ∧ some (.int (nI 0)) = v))) (fun _ _ _ => False) := by
  refine CtS.of (cc0 := cX7_grant) (maxL := 4) (ret := (some .int)) (by decide) rfl (Nat.le_of_ble_eq_true rfl) ?_
  intro M0_ p_ e_ s_ m_ args_ below_ meth_ c_ S hz hml hex hlo hr hin
  refine s_loc (L2 := [(0, .ref (A 60 100)), (1, .int x), (2, .int (nI cb)), (3, .int y)]) rfl ?_
  have i_RX7 : ∀ w ∈ u_ws RX7 TX7 38, w ∈ wsX7_grant := by decide +kernel
  obtain ⟨oU, oP, oJ, oTc, oY, o8, o9, o10, o11, o12, o13, o14, o15, oX, oQ, oB, oK, oS, oJk, oM, oCo, oSh, oLg, oPo, oLl, oL2, oL3, oL4, oLle, oE1, oE2, oE3, oE4⟩ := id hO
  have hu : C 60 100 28 < 2 ^ 30 := by omega
  have hp : C 60 100 29 < 2 ^ 30 := by omega
  have hj : C 60 100 30 < 2 ^ 30 := by omega
  have hlg : C 60 100 31 < 2 ^ 30 := by omega
  have hp4 := oP
  have htc := oTc
  have hif : (if cb = 0 then 0 else 1) < 2 := by split <;> omega
  refine s_aload_n (pc := 0) S 0 dX7_grant_0 rfl rfl ?_
  refine s_aload_n (pc := 1) S 0 dX7_grant_1 rfl rfl ?_
  refine s_iload_n (pc := 2) S 1 dX7_grant_2 rfl rfl ?_
  refine s_callV (pc := 3) S hz hml [.int x] (k_X7_isUser Z l A C x hu) (cwV 1 S.2.2.2.2 gX7_grant_X7_isUser rfl rfl rfl (by decide +kernel) ⟨Nat.le_of_ble_eq_true rfl, Nat.le_of_ble_eq_true rfl⟩) (cc_mod (A := A) (C := C)) rfl rfl rfl (Nat.le_of_ble_eq_true rfl) dX7_grant_3 ⟨Nat.le_of_ble_eq_true rfl, Nat.le_of_ble_eq_true rfl⟩ (fun _ _ _ h => h.elim) (fun v A2 C2 h_1 => ?_)
  rcases h_1 with ⟨rfl, rfl, ⟨k_2, hk_3, rfl, rfl⟩ | ⟨no_4, rfl⟩⟩
  · have z_5 : k_2 < 6 := by omega
    refine s_if_neN (pc := 6) S 13 dX7_grant_6 (by decide) (by decide) (fun _ => ?_) (fun h => absurd h (by decide))
    refine s_iload_n (pc := 13) S 3 dX7_grant_13 rfl rfl ?_
    refine s_iconst (pc := 14) S (v := (nI 1)) dX7_grant_14 (by decide) ?_
    refine s_sipush (pc := 15) S (v := (nI 999)) dX7_grant_15 (by decide) ?_
    refine s_callS (pc := 18) S hz hml [.int y, .int (nI 1), .int (nI 999)] (k_X7_in Z l A C y (nI 1) (nI 999)) (cwS 3 S.2.2.2.2 gX7_grant_X7_in rfl rfl rfl (by decide +kernel) ⟨Nat.le_of_ble_eq_true rfl, Nat.le_of_ble_eq_true rfl⟩) rfl rfl (Nat.le_of_ble_eq_true rfl) dX7_grant_18 ⟨Nat.le_of_ble_eq_true rfl, Nat.le_of_ble_eq_true rfl⟩ (fun _ _ _ h => h.elim) (fun v A2 C2 h_6 => ?_)
    rcases h_6 with ⟨rfl, rfl, ⟨p_7, p_8, rfl⟩ | ⟨p_9, rfl⟩⟩
    · obtain ⟨w_10, r_11, r_12, rfl⟩ := rg_of (by decide) p_7 p_8 (by decide)
      refine s_if_neN (pc := 21) S 28 dX7_grant_21 (by decide) (by decide) (fun _ => ?_) (fun h => absurd h (by decide))
      refine s_aload_n (pc := 28) S 0 dX7_grant_28 rfl rfl ?_
      refine s_get (pc := 29) S hz (ref := "SpoolFarmModel") (v := .ref (A 60 0)) (cc_mod (A := A) (C := C)) i_RX7 rfl 0 (Nat.le_of_ble_eq_true rfl) (by decide +kernel) (fun _ h => h) rfl dX7_grant_29 ?_
      refine s_iload_n (pc := 32) S 1 dX7_grant_32 rfl rfl ?_
      refine s_iload_n (pc := 33) S 2 dX7_grant_33 rfl rfl ?_
      refine s_callS (pc := 34) S hz hml [.int (nI k_2), .int (nI cb)] (k_X7_quotaAt Z l A C k_2 cb (by omega)) (cwS 2 S.2.2.2.2 gX7_grant_X7_quotaAt rfl rfl rfl (by decide +kernel) ⟨Nat.le_of_ble_eq_true rfl, Nat.le_of_ble_eq_true rfl⟩) rfl rfl (Nat.le_of_ble_eq_true rfl) dX7_grant_34 ⟨Nat.le_of_ble_eq_true rfl, Nat.le_of_ble_eq_true rfl⟩ (fun _ _ _ h => h.elim) (fun v A2 C2 h_13 => ?_)
      obtain ⟨rfl, rfl, rfl⟩ := h_13
      have z_14 := oQ (2 * k_2 + (if cb = 0 then 0 else 1))
      refine s_iald (pc := 37) S hz (x := C 60 0 (2 * k_2 + (if cb = 0 then 0 else 1))) (cc_row (A := A) (C := C) (x := aN .int 12 (C 60 0)) 0 (by decide) rfl) (by omega) (by omega) rfl dX7_grant_37 ?_
      refine s_iload_n (pc := 38) S 3 dX7_grant_38 rfl rfl ?_
      refine s_iaddN (pc := 39) S dX7_grant_39 ?_
      refine s_sipush (pc := 40) S (v := (nI 9999)) dX7_grant_40 (by decide) ?_
      refine s_icmp_leN (pc := 43) S 50 dX7_grant_43 (by decide) (by omega) (by omega) (fun c_15 => ?_) (fun c_15 => ?_)
      · refine s_iconst (pc := 50) S (v := (nI 0)) dX7_grant_50 (by decide) ?_
        refine s_put (pc := 51) S hz (ref := "SpoolFarmModel") (ty := .int) (cc_mod (A := A) (C := C)) i_RX7 tyX7 tyX7_ok nmX7 rfl 27 (Nat.le_of_ble_eq_true rfl) (by decide +kernel) (fun _ h => h) rfl (by decide +kernel) rfl rfl (Nat.le_of_ble_eq_true rfl) (up3 C 60 100 27 0) cu_mod (by rw [(cc_mod (A := A) (C := (up3 C 60 100 27 0))), up3_u]; rfl) dX7_grant_51 ?_
        refine s_aload_n (pc := 54) S 0 dX7_grant_54 rfl rfl ?_
        refine s_get (pc := 55) S hz (ref := "SpoolFarmModel") (v := .int (nI 0)) (cc_mod (A := A) (C := (up3 C 60 100 27 0))) i_RX7 rfl 27 (Nat.le_of_ble_eq_true rfl) (by decide +kernel) (fun _ h => h) rfl dX7_grant_55 ?_
        refine s_if_leN (pc := 58) S 63 dX7_grant_58 (by decide) (by decide) (fun _ => ?_) (fun h => absurd h (by decide))
        refine s_aload_n (pc := 63) S 0 dX7_grant_63 rfl rfl ?_
        refine s_get (pc := 64) S hz (ref := "SpoolFarmModel") (v := .ref (A 60 0)) (cc_mod (A := A) (C := (up3 C 60 100 27 0))) i_RX7 rfl 0 (Nat.le_of_ble_eq_true rfl) (by decide +kernel) (fun _ h => h) rfl dX7_grant_64 ?_
        refine s_iload_n (pc := 67) S 1 dX7_grant_67 rfl rfl ?_
        refine s_iload_n (pc := 68) S 2 dX7_grant_68 rfl rfl ?_
        refine s_callS (pc := 69) S hz hml [.int (nI k_2), .int (nI cb)] (k_X7_quotaAt Z l A (up3 C 60 100 27 0) k_2 cb (by omega)) (cwS 2 S.2.2.2.2 gX7_grant_X7_quotaAt rfl rfl rfl (by decide +kernel) ⟨Nat.le_of_ble_eq_true rfl, Nat.le_of_ble_eq_true rfl⟩) rfl rfl (Nat.le_of_ble_eq_true rfl) dX7_grant_69 ⟨Nat.le_of_ble_eq_true rfl, Nat.le_of_ble_eq_true rfl⟩ (fun _ _ _ h => h.elim) (fun v A2 C2 h_16 => ?_)
        obtain ⟨rfl, rfl, rfl⟩ := h_16
        have z_17 := oQ (2 * k_2 + (if cb = 0 then 0 else 1))
        refine s_dup2 (pc := 72) S dX7_grant_72 rfl rfl ?_
        refine s_iald (pc := 73) S hz (x := C 60 0 (2 * k_2 + (if cb = 0 then 0 else 1))) (cc_row (A := A) (C := (up3 C 60 100 27 0)) (x := aN .int 12 ((up3 C 60 100 27 0) 60 0)) 0 (by decide) rfl) (by omega) (by omega) rfl dX7_grant_73 ?_
        refine s_iload_n (pc := 74) S 3 dX7_grant_74 rfl rfl ?_
        refine s_iaddN (pc := 75) S dX7_grant_75 ?_
        refine s_iast (pc := 76) S hz (cc_row (A := A) (C := (up3 C 60 100 27 0)) (x := aN .int 12 ((up3 C 60 100 27 0) 60 0)) 0 (by decide) rfl) (by omega) (by omega) (up3 (up3 C 60 100 27 0) 60 0 (2 * k_2 + (if cb = 0 then 0 else 1)) ((C 60 0 (2 * k_2 + (if cb = 0 then 0 else 1))) + w_10)) cu_mod (by rw [(cc_row (A := A) (C := (up3 (up3 C 60 100 27 0) 60 0 (2 * k_2 + (if cb = 0 then 0 else 1)) ((C 60 0 (2 * k_2 + (if cb = 0 then 0 else 1))) + w_10))) (x := aN .int 12 ((up3 (up3 C 60 100 27 0) 60 0 (2 * k_2 + (if cb = 0 then 0 else 1)) ((C 60 0 (2 * k_2 + (if cb = 0 then 0 else 1))) + w_10)) 60 0)) 0 (by decide) rfl), up3_u]) dX7_grant_76 ?_
        refine s_aload_n (pc := 77) S 0 dX7_grant_77 rfl rfl ?_
        refine s_get (pc := 78) S hz (ref := "SpoolFarmModel") (v := .ref (A 60 0)) (cc_mod (A := A) (C := (up3 (up3 C 60 100 27 0) 60 0 (2 * k_2 + (if cb = 0 then 0 else 1)) ((C 60 0 (2 * k_2 + (if cb = 0 then 0 else 1))) + w_10)))) i_RX7 rfl 0 (Nat.le_of_ble_eq_true rfl) (by decide +kernel) (fun _ h => h) rfl dX7_grant_78 ?_
        refine s_iload_n (pc := 81) S 1 dX7_grant_81 rfl rfl ?_
        refine s_iload_n (pc := 82) S 2 dX7_grant_82 rfl rfl ?_
        refine s_callS (pc := 83) S hz hml [.int (nI k_2), .int (nI cb)] (k_X7_quotaAt Z l A (up3 (up3 C 60 100 27 0) 60 0 (2 * k_2 + (if cb = 0 then 0 else 1)) ((C 60 0 (2 * k_2 + (if cb = 0 then 0 else 1))) + w_10)) k_2 cb (by omega)) (cwS 2 S.2.2.2.2 gX7_grant_X7_quotaAt rfl rfl rfl (by decide +kernel) ⟨Nat.le_of_ble_eq_true rfl, Nat.le_of_ble_eq_true rfl⟩) rfl rfl (Nat.le_of_ble_eq_true rfl) dX7_grant_83 ⟨Nat.le_of_ble_eq_true rfl, Nat.le_of_ble_eq_true rfl⟩ (fun _ _ _ h => h.elim) (fun v A2 C2 h_18 => ?_)
        obtain ⟨rfl, rfl, rfl⟩ := h_18
        have z_19 := oQ (2 * k_2 + (if cb = 0 then 0 else 1))
        refine s_iald (pc := 86) S hz (x := (C 60 0 (2 * k_2 + (if cb = 0 then 0 else 1))) + w_10) (cc_row (A := A) (C := (up3 (up3 C 60 100 27 0) 60 0 (2 * k_2 + (if cb = 0 then 0 else 1)) ((C 60 0 (2 * k_2 + (if cb = 0 then 0 else 1))) + w_10))) (x := aN .int 12 ((up3 (up3 C 60 100 27 0) 60 0 (2 * k_2 + (if cb = 0 then 0 else 1)) ((C 60 0 (2 * k_2 + (if cb = 0 then 0 else 1))) + w_10)) 60 0)) 0 (by decide) rfl) (by omega) (by omega) (by simp [up3]) dX7_grant_86 ?_
        exact s_iret (pc := 87) S hz hlo hr ⟨rfl, Or.inl ⟨k_2, w_10, hk_3, rfl, r_11, r_12, rfl, c_15, rfl, rfl⟩⟩ (Nat.le_of_ble_eq_true rfl) (Nat.le_of_ble_eq_true rfl) dX7_grant_87
      · refine s_iconst (pc := 46) S (v := (nI 3)) dX7_grant_46 (by decide) ?_
        refine s_goto (pc := 47) S 51 dX7_grant_47 (by decide) ?_
        refine s_put (pc := 51) S hz (ref := "SpoolFarmModel") (ty := .int) (cc_mod (A := A) (C := C)) i_RX7 tyX7 tyX7_ok nmX7 rfl 27 (Nat.le_of_ble_eq_true rfl) (by decide +kernel) (fun _ h => h) rfl (by decide +kernel) rfl rfl (Nat.le_of_ble_eq_true rfl) (up3 C 60 100 27 3) cu_mod (by rw [(cc_mod (A := A) (C := (up3 C 60 100 27 3))), up3_u]; rfl) dX7_grant_51 ?_
        refine s_aload_n (pc := 54) S 0 dX7_grant_54 rfl rfl ?_
        refine s_get (pc := 55) S hz (ref := "SpoolFarmModel") (v := .int (nI 3)) (cc_mod (A := A) (C := (up3 C 60 100 27 3))) i_RX7 rfl 27 (Nat.le_of_ble_eq_true rfl) (by decide +kernel) (fun _ h => h) rfl dX7_grant_55 ?_
        refine s_if_leN (pc := 58) S 63 dX7_grant_58 (by decide) (by decide) (fun h => absurd h (by decide)) (fun _ => ?_)
        refine s_iconst (pc := 61) S (v := (nI 0)) dX7_grant_61 (by decide) ?_
        exact s_iret (pc := 62) S hz hlo hr ⟨rfl, Or.inr (Or.inl ⟨k_2, w_10, hk_3, rfl, r_11, r_12, rfl, c_15, rfl, rfl⟩)⟩ (Nat.le_of_ble_eq_true rfl) (Nat.le_of_ble_eq_true rfl) dX7_grant_62
    · have n_20 := rg_no (by decide) (by decide) p_9
      refine s_if_neN (pc := 21) S 28 dX7_grant_21 (by decide) (by decide) (fun h => absurd h (by decide)) (fun _ => ?_)
      refine s_iconst (pc := 24) S (v := (nI 2)) dX7_grant_24 (by decide) ?_
      refine s_goto (pc := 25) S 51 dX7_grant_25 (by decide) ?_
      refine s_put (pc := 51) S hz (ref := "SpoolFarmModel") (ty := .int) (cc_mod (A := A) (C := C)) i_RX7 tyX7 tyX7_ok nmX7 rfl 27 (Nat.le_of_ble_eq_true rfl) (by decide +kernel) (fun _ h => h) rfl (by decide +kernel) rfl rfl (Nat.le_of_ble_eq_true rfl) (up3 C 60 100 27 2) cu_mod (by rw [(cc_mod (A := A) (C := (up3 C 60 100 27 2))), up3_u]; rfl) dX7_grant_51 ?_
      refine s_aload_n (pc := 54) S 0 dX7_grant_54 rfl rfl ?_
      refine s_get (pc := 55) S hz (ref := "SpoolFarmModel") (v := .int (nI 2)) (cc_mod (A := A) (C := (up3 C 60 100 27 2))) i_RX7 rfl 27 (Nat.le_of_ble_eq_true rfl) (by decide +kernel) (fun _ h => h) rfl dX7_grant_55 ?_
      refine s_if_leN (pc := 58) S 63 dX7_grant_58 (by decide) (by decide) (fun h => absurd h (by decide)) (fun _ => ?_)
      refine s_iconst (pc := 61) S (v := (nI 0)) dX7_grant_61 (by decide) ?_
      exact s_iret (pc := 62) S hz hlo hr ⟨rfl, Or.inr (Or.inr (Or.inl ⟨k_2, hk_3, rfl, n_20, rfl, rfl⟩))⟩ (Nat.le_of_ble_eq_true rfl) (Nat.le_of_ble_eq_true rfl) dX7_grant_62
  · refine s_if_neN (pc := 6) S 13 dX7_grant_6 (by decide) (by decide) (fun h => absurd h (by decide)) (fun _ => ?_)
    refine s_iconst (pc := 9) S (v := (nI 1)) dX7_grant_9 (by decide) ?_
    refine s_goto (pc := 10) S 51 dX7_grant_10 (by decide) ?_
    refine s_put (pc := 51) S hz (ref := "SpoolFarmModel") (ty := .int) (cc_mod (A := A) (C := C)) i_RX7 tyX7 tyX7_ok nmX7 rfl 27 (Nat.le_of_ble_eq_true rfl) (by decide +kernel) (fun _ h => h) rfl (by decide +kernel) rfl rfl (Nat.le_of_ble_eq_true rfl) (up3 C 60 100 27 1) cu_mod (by rw [(cc_mod (A := A) (C := (up3 C 60 100 27 1))), up3_u]; rfl) dX7_grant_51 ?_
    refine s_aload_n (pc := 54) S 0 dX7_grant_54 rfl rfl ?_
    refine s_get (pc := 55) S hz (ref := "SpoolFarmModel") (v := .int (nI 1)) (cc_mod (A := A) (C := (up3 C 60 100 27 1))) i_RX7 rfl 27 (Nat.le_of_ble_eq_true rfl) (by decide +kernel) (fun _ h => h) rfl dX7_grant_55 ?_
    refine s_if_leN (pc := 58) S 63 dX7_grant_58 (by decide) (by decide) (fun h => absurd h (by decide)) (fun _ => ?_)
    refine s_iconst (pc := 61) S (v := (nI 0)) dX7_grant_61 (by decide) ?_
    exact s_iret (pc := 62) S hz hlo hr ⟨rfl, Or.inr (Or.inr (Or.inr (⟨no_4, rfl, rfl⟩)))⟩ (Nat.le_of_ble_eq_true rfl) (Nat.le_of_ble_eq_true rfl) dX7_grant_62
set_option maxHeartbeats 4000000 in
set_option maxRecDepth 100000 in
theorem k_X7_quotaOf (Z : Zp) (l : Launch) (A : AF) (C : CF) (x : Int32) (cb : Nat) (hcb : cb < 2) (hO : OkR C) : CtS Z l yX7_quotaOf wsX7_quotaOf ({ frames := 2, cells := 0, slots := 0, locals := 43 }) [.ref (A 60 100), .int x, .int (nI cb)] A C 0 0 (fun v A2 C2 => A = A2 ∧ ((∃ k_2 : Nat, k_2 < C 60 100 28 ∧ nI k_2 = x ∧ (up3 C 60 100 27 0) = C2 ∧ some (.int (nI (C 60 0 (2 * k_2 + (if cb = 0 then 0 else 1))))) = v) ∨ ((∀ k : Nat, k < C 60 100 28 → nI k ≠ x) ∧ (up3 C 60 100 27 1) = C2 ∧ some (.int (nI 0)) = v))) (fun _ _ _ => False) := by
  refine CtS.of (cc0 := cX7_quotaOf) (maxL := 3) (ret := (some .int)) (by decide) rfl (Nat.le_of_ble_eq_true rfl) ?_
  intro M0_ p_ e_ s_ m_ args_ below_ meth_ c_ S hz hml hex hlo hr hin
  refine s_loc (L2 := [(0, .ref (A 60 100)), (1, .int x), (2, .int (nI cb))]) rfl ?_
  have i_RX7 : ∀ w ∈ u_ws RX7 TX7 38, w ∈ wsX7_quotaOf := by decide +kernel
  obtain ⟨oU, oP, oJ, oTc, oY, o8, o9, o10, o11, o12, o13, o14, o15, oX, oQ, oB, oK, oS, oJk, oM, oCo, oSh, oLg, oPo, oLl, oL2, oL3, oL4, oLle, oE1, oE2, oE3, oE4⟩ := id hO
  have hu : C 60 100 28 < 2 ^ 30 := by omega
  have hp : C 60 100 29 < 2 ^ 30 := by omega
  have hj : C 60 100 30 < 2 ^ 30 := by omega
  have hlg : C 60 100 31 < 2 ^ 30 := by omega
  have hp4 := oP
  have htc := oTc
  have hif : (if cb = 0 then 0 else 1) < 2 := by split <;> omega
  refine s_aload_n (pc := 0) S 0 dX7_quotaOf_0 rfl rfl ?_
  refine s_aload_n (pc := 1) S 0 dX7_quotaOf_1 rfl rfl ?_
  refine s_iload_n (pc := 2) S 1 dX7_quotaOf_2 rfl rfl ?_
  refine s_callV (pc := 3) S hz hml [.int x] (k_X7_isUser Z l A C x hu) (cwV 1 S.2.2.2.2 gX7_quotaOf_X7_isUser rfl rfl rfl (by decide +kernel) ⟨Nat.le_of_ble_eq_true rfl, Nat.le_of_ble_eq_true rfl⟩) (cc_mod (A := A) (C := C)) rfl rfl rfl (Nat.le_of_ble_eq_true rfl) dX7_quotaOf_3 ⟨Nat.le_of_ble_eq_true rfl, Nat.le_of_ble_eq_true rfl⟩ (fun _ _ _ h => h.elim) (fun v A2 C2 h_1 => ?_)
  rcases h_1 with ⟨rfl, rfl, ⟨k_2, hk_3, rfl, rfl⟩ | ⟨no_4, rfl⟩⟩
  · have z_5 : k_2 < 6 := by omega
    refine s_callV (pc := 6) S hz hml [.int (nI 1)] (k_X7_checked Z l A C 1 (by decide)) (cwV 1 S.2.2.2.2 gX7_quotaOf_X7_checked rfl rfl rfl (by decide +kernel) ⟨Nat.le_of_ble_eq_true rfl, Nat.le_of_ble_eq_true rfl⟩) (cc_mod (A := A) (C := C)) rfl rfl rfl (Nat.le_of_ble_eq_true rfl) dX7_quotaOf_6 ⟨Nat.le_of_ble_eq_true rfl, Nat.le_of_ble_eq_true rfl⟩ (fun _ _ _ h => h.elim) (fun v A2 C2 h_6 => ?_)
    obtain ⟨rfl, rfl, rfl⟩ := h_6
    refine s_if_leN (pc := 9) S 16 dX7_quotaOf_9 (by decide) (by decide) (fun _ => ?_) (fun h => absurd h (by decide))
    refine s_aload_n (pc := 16) S 0 dX7_quotaOf_16 rfl rfl ?_
    refine s_get (pc := 17) S hz (ref := "SpoolFarmModel") (v := .ref (A 60 0)) (cc_mod (A := A) (C := (up3 C 60 100 27 0))) i_RX7 rfl 0 (Nat.le_of_ble_eq_true rfl) (by decide +kernel) (fun _ h => h) rfl dX7_quotaOf_17 ?_
    refine s_iload_n (pc := 20) S 1 dX7_quotaOf_20 rfl rfl ?_
    refine s_iload_n (pc := 21) S 2 dX7_quotaOf_21 rfl rfl ?_
    refine s_callS (pc := 22) S hz hml [.int (nI k_2), .int (nI cb)] (k_X7_quotaAt Z l A (up3 C 60 100 27 0) k_2 cb (by omega)) (cwS 2 S.2.2.2.2 gX7_quotaOf_X7_quotaAt rfl rfl rfl (by decide +kernel) ⟨Nat.le_of_ble_eq_true rfl, Nat.le_of_ble_eq_true rfl⟩) rfl rfl (Nat.le_of_ble_eq_true rfl) dX7_quotaOf_22 ⟨Nat.le_of_ble_eq_true rfl, Nat.le_of_ble_eq_true rfl⟩ (fun _ _ _ h => h.elim) (fun v A2 C2 h_7 => ?_)
    obtain ⟨rfl, rfl, rfl⟩ := h_7
    have z_8 := oQ (2 * k_2 + (if cb = 0 then 0 else 1))
    refine s_iald (pc := 25) S hz (x := C 60 0 (2 * k_2 + (if cb = 0 then 0 else 1))) (cc_row (A := A) (C := (up3 C 60 100 27 0)) (x := aN .int 12 ((up3 C 60 100 27 0) 60 0)) 0 (by decide) rfl) (by omega) (by omega) rfl dX7_quotaOf_25 ?_
    exact s_iret (pc := 26) S hz hlo hr ⟨rfl, Or.inl ⟨k_2, hk_3, rfl, rfl, rfl⟩⟩ (Nat.le_of_ble_eq_true rfl) (Nat.le_of_ble_eq_true rfl) dX7_quotaOf_26
  · refine s_callV (pc := 6) S hz hml [.int (nI 0)] (k_X7_checked Z l A C 0 (by decide)) (cwV 1 S.2.2.2.2 gX7_quotaOf_X7_checked rfl rfl rfl (by decide +kernel) ⟨Nat.le_of_ble_eq_true rfl, Nat.le_of_ble_eq_true rfl⟩) (cc_mod (A := A) (C := C)) rfl rfl rfl (Nat.le_of_ble_eq_true rfl) dX7_quotaOf_6 ⟨Nat.le_of_ble_eq_true rfl, Nat.le_of_ble_eq_true rfl⟩ (fun _ _ _ h => h.elim) (fun v A2 C2 h_9 => ?_)
    obtain ⟨rfl, rfl, rfl⟩ := h_9
    refine s_if_leN (pc := 9) S 16 dX7_quotaOf_9 (by decide) (by decide) (fun h => absurd h (by decide)) (fun _ => ?_)
    refine s_iconst (pc := 12) S (v := (nI 0)) dX7_quotaOf_12 (by decide) ?_
    refine s_goto (pc := 13) S 26 dX7_quotaOf_13 (by decide) ?_
    exact s_iret (pc := 26) S hz hlo hr ⟨rfl, Or.inr (⟨no_4, rfl, rfl⟩)⟩ (Nat.le_of_ble_eq_true rfl) (Nat.le_of_ble_eq_true rfl) dX7_quotaOf_26
set_option maxHeartbeats 4000000 in
set_option maxRecDepth 100000 in
theorem k_X7_setPrices (Z : Zp) (l : Launch) (A : AF) (C : CF) (x y w : Int32) (hO : OkR C) : CtS Z l yX7_setPrices wsX7_setPrices ({ frames := 1, cells := 0, slots := 0, locals := 22 }) [.ref (A 60 100), .int x, .int y, .int w] A C 0 0 (fun v A2 C2 => A = A2 ∧ ((∃ w_5 w_12 w_19 : Nat, 0 ≤ w_5 ∧ w_5 ≤ 99 ∧ nI w_5 = x ∧ 0 ≤ w_12 ∧ w_12 ≤ 99 ∧ nI w_12 = y ∧ 0 ≤ w_19 ∧ w_19 ≤ 99 ∧ nI w_19 = w ∧ (up3 (up3 (up3 (up3 C 60 100 27 0) 60 100 32 w_5) 60 100 33 w_12) 60 100 34 w_19) = C2 ∧ some (.int (nI (C 60 100 32))) = v) ∨ (∃ w_5 w_12 : Nat, 0 ≤ w_5 ∧ w_5 ≤ 99 ∧ nI w_5 = x ∧ 0 ≤ w_12 ∧ w_12 ≤ 99 ∧ nI w_12 = y ∧ (∀ k : Nat, 0 ≤ k → k ≤ 99 → nI k ≠ w) ∧ (up3 C 60 100 27 1) = C2 ∧ some (.int (nI 0)) = v) ∨ (∃ w_5 : Nat, 0 ≤ w_5 ∧ w_5 ≤ 99 ∧ nI w_5 = x ∧ (∀ k : Nat, 0 ≤ k → k ≤ 99 → nI k ≠ y) ∧ (up3 C 60 100 27 1) = C2 ∧ some (.int (nI 0)) = v) ∨ ((∀ k : Nat, 0 ≤ k → k ≤ 99 → nI k ≠ x) ∧ (up3 C 60 100 27 1) = C2 ∧ some (.int (nI 0)) = v))) (fun _ _ _ => False) := by
  refine CtS.of (cc0 := cX7_setPrices) (maxL := 5) (ret := (some .int)) (by decide) rfl (Nat.le_of_ble_eq_true rfl) ?_
  intro M0_ p_ e_ s_ m_ args_ below_ meth_ c_ S hz hml hex hlo hr hin
  refine s_loc (L2 := [(0, .ref (A 60 100)), (1, .int x), (2, .int y), (3, .int w)]) rfl ?_
  have i_RX7 : ∀ w ∈ u_ws RX7 TX7 38, w ∈ wsX7_setPrices := by decide +kernel
  obtain ⟨oU, oP, oJ, oTc, oY, o8, o9, o10, o11, o12, o13, o14, o15, oX, oQ, oB, oK, oS, oJk, oM, oCo, oSh, oLg, oPo, oLl, oL2, oL3, oL4, oLle, oE1, oE2, oE3, oE4⟩ := id hO
  have hu : C 60 100 28 < 2 ^ 30 := by omega
  have hp : C 60 100 29 < 2 ^ 30 := by omega
  have hj : C 60 100 30 < 2 ^ 30 := by omega
  have hlg : C 60 100 31 < 2 ^ 30 := by omega
  have hp4 := oP
  have htc := oTc
  refine s_aload_n (pc := 0) S 0 dX7_setPrices_0 rfl rfl ?_
  refine s_iload_n (pc := 1) S 1 dX7_setPrices_1 rfl rfl ?_
  refine s_iconst (pc := 2) S (v := (nI 0)) dX7_setPrices_2 (by decide) ?_
  refine s_bipush (pc := 3) S (v := (nI 99)) dX7_setPrices_3 (by decide) ?_
  refine s_callS (pc := 5) S hz hml [.int x, .int (nI 0), .int (nI 99)] (k_X7_in Z l A C x (nI 0) (nI 99)) (cwS 3 S.2.2.2.2 gX7_setPrices_X7_in rfl rfl rfl (by decide +kernel) ⟨Nat.le_of_ble_eq_true rfl, Nat.le_of_ble_eq_true rfl⟩) rfl rfl (Nat.le_of_ble_eq_true rfl) dX7_setPrices_5 ⟨Nat.le_of_ble_eq_true rfl, Nat.le_of_ble_eq_true rfl⟩ (fun _ _ _ h => h.elim) (fun v A2 C2 h_1 => ?_)
  rcases h_1 with ⟨rfl, rfl, ⟨p_2, p_3, rfl⟩ | ⟨p_4, rfl⟩⟩
  · obtain ⟨w_5, r_6, r_7, rfl⟩ := rg_of (by decide) p_2 p_3 (by decide)
    refine s_if_eqN (pc := 8) S 35 dX7_setPrices_8 (by decide) (by decide) (fun h => absurd h (by decide)) (fun _ => ?_)
    refine s_iload_n (pc := 11) S 2 dX7_setPrices_11 rfl rfl ?_
    refine s_iconst (pc := 12) S (v := (nI 0)) dX7_setPrices_12 (by decide) ?_
    refine s_bipush (pc := 13) S (v := (nI 99)) dX7_setPrices_13 (by decide) ?_
    refine s_callS (pc := 15) S hz hml [.int y, .int (nI 0), .int (nI 99)] (k_X7_in Z l A C y (nI 0) (nI 99)) (cwS 3 S.2.2.2.2 gX7_setPrices_X7_in rfl rfl rfl (by decide +kernel) ⟨Nat.le_of_ble_eq_true rfl, Nat.le_of_ble_eq_true rfl⟩) rfl rfl (Nat.le_of_ble_eq_true rfl) dX7_setPrices_15 ⟨Nat.le_of_ble_eq_true rfl, Nat.le_of_ble_eq_true rfl⟩ (fun _ _ _ h => h.elim) (fun v A2 C2 h_8 => ?_)
    rcases h_8 with ⟨rfl, rfl, ⟨p_9, p_10, rfl⟩ | ⟨p_11, rfl⟩⟩
    · obtain ⟨w_12, r_13, r_14, rfl⟩ := rg_of (by decide) p_9 p_10 (by decide)
      refine s_if_eqN (pc := 18) S 35 dX7_setPrices_18 (by decide) (by decide) (fun h => absurd h (by decide)) (fun _ => ?_)
      refine s_iload_n (pc := 21) S 3 dX7_setPrices_21 rfl rfl ?_
      refine s_iconst (pc := 22) S (v := (nI 0)) dX7_setPrices_22 (by decide) ?_
      refine s_bipush (pc := 23) S (v := (nI 99)) dX7_setPrices_23 (by decide) ?_
      refine s_callS (pc := 25) S hz hml [.int w, .int (nI 0), .int (nI 99)] (k_X7_in Z l A C w (nI 0) (nI 99)) (cwS 3 S.2.2.2.2 gX7_setPrices_X7_in rfl rfl rfl (by decide +kernel) ⟨Nat.le_of_ble_eq_true rfl, Nat.le_of_ble_eq_true rfl⟩) rfl rfl (Nat.le_of_ble_eq_true rfl) dX7_setPrices_25 ⟨Nat.le_of_ble_eq_true rfl, Nat.le_of_ble_eq_true rfl⟩ (fun _ _ _ h => h.elim) (fun v A2 C2 h_15 => ?_)
      rcases h_15 with ⟨rfl, rfl, ⟨p_16, p_17, rfl⟩ | ⟨p_18, rfl⟩⟩
      · obtain ⟨w_19, r_20, r_21, rfl⟩ := rg_of (by decide) p_16 p_17 (by decide)
        refine s_if_eqN (pc := 28) S 35 dX7_setPrices_28 (by decide) (by decide) (fun h => absurd h (by decide)) (fun _ => ?_)
        refine s_iconst (pc := 31) S (v := (nI 1)) dX7_setPrices_31 (by decide) ?_
        refine s_goto (pc := 32) S 36 dX7_setPrices_32 (by decide) ?_
        refine s_callV (pc := 36) S hz hml [.int (nI 1)] (k_X7_checked Z l A C 1 (by decide)) (cwV 1 S.2.2.2.2 gX7_setPrices_X7_checked rfl rfl rfl (by decide +kernel) ⟨Nat.le_of_ble_eq_true rfl, Nat.le_of_ble_eq_true rfl⟩) (cc_mod (A := A) (C := C)) rfl rfl rfl (Nat.le_of_ble_eq_true rfl) dX7_setPrices_36 ⟨Nat.le_of_ble_eq_true rfl, Nat.le_of_ble_eq_true rfl⟩ (fun _ _ _ h => h.elim) (fun v A2 C2 h_22 => ?_)
        obtain ⟨rfl, rfl, rfl⟩ := h_22
        refine s_if_leN (pc := 39) S 44 dX7_setPrices_39 (by decide) (by decide) (fun _ => ?_) (fun h => absurd h (by decide))
        refine s_aload_n (pc := 44) S 0 dX7_setPrices_44 rfl rfl ?_
        refine s_get (pc := 45) S hz (ref := "SpoolFarmModel") (v := .int (nI (C 60 100 32))) (cc_mod (A := A) (C := (up3 C 60 100 27 0))) i_RX7 rfl 32 (Nat.le_of_ble_eq_true rfl) (by decide +kernel) (fun _ h => h) rfl dX7_setPrices_45 ?_
        refine s_istore (pc := 48) S [(4, .int (nI (C 60 100 32))), (0, .ref (A 60 100)), (1, .int (nI w_5)), (2, .int (nI w_12)), (3, .int (nI w_19))] dX7_setPrices_48 (by decide) rfl ?_
        refine s_aload_n (pc := 50) S 1 dX7_setPrices_50 rfl rfl ?_
        refine s_iload_n (pc := 51) S 2 dX7_setPrices_51 rfl rfl ?_
        refine s_put (pc := 52) S hz (ref := "SpoolFarmModel") (ty := .int) (cc_mod (A := A) (C := (up3 C 60 100 27 0))) i_RX7 tyX7 tyX7_ok nmX7 rfl 32 (Nat.le_of_ble_eq_true rfl) (by decide +kernel) (fun _ h => h) rfl (by decide +kernel) rfl rfl (Nat.le_of_ble_eq_true rfl) (up3 (up3 C 60 100 27 0) 60 100 32 w_5) cu_mod (by rw [(cc_mod (A := A) (C := (up3 (up3 C 60 100 27 0) 60 100 32 w_5))), up3_u]; rfl) dX7_setPrices_52 ?_
        refine s_aload_n (pc := 55) S 1 dX7_setPrices_55 rfl rfl ?_
        refine s_iload_n (pc := 56) S 3 dX7_setPrices_56 rfl rfl ?_
        refine s_put (pc := 57) S hz (ref := "SpoolFarmModel") (ty := .int) (cc_mod (A := A) (C := (up3 (up3 C 60 100 27 0) 60 100 32 w_5))) i_RX7 tyX7 tyX7_ok nmX7 rfl 33 (Nat.le_of_ble_eq_true rfl) (by decide +kernel) (fun _ h => h) rfl (by decide +kernel) rfl rfl (Nat.le_of_ble_eq_true rfl) (up3 (up3 (up3 C 60 100 27 0) 60 100 32 w_5) 60 100 33 w_12) cu_mod (by rw [(cc_mod (A := A) (C := (up3 (up3 (up3 C 60 100 27 0) 60 100 32 w_5) 60 100 33 w_12))), up3_u]; rfl) dX7_setPrices_57 ?_
        refine s_aload_n (pc := 60) S 1 dX7_setPrices_60 rfl rfl ?_
        refine s_iload_n (pc := 61) S 4 dX7_setPrices_61 rfl rfl ?_
        refine s_put (pc := 62) S hz (ref := "SpoolFarmModel") (ty := .int) (cc_mod (A := A) (C := (up3 (up3 (up3 C 60 100 27 0) 60 100 32 w_5) 60 100 33 w_12))) i_RX7 tyX7 tyX7_ok nmX7 rfl 34 (Nat.le_of_ble_eq_true rfl) (by decide +kernel) (fun _ h => h) rfl (by decide +kernel) rfl rfl (Nat.le_of_ble_eq_true rfl) (up3 (up3 (up3 (up3 C 60 100 27 0) 60 100 32 w_5) 60 100 33 w_12) 60 100 34 w_19) cu_mod (by rw [(cc_mod (A := A) (C := (up3 (up3 (up3 (up3 C 60 100 27 0) 60 100 32 w_5) 60 100 33 w_12) 60 100 34 w_19))), up3_u]; rfl) dX7_setPrices_62 ?_
        refine s_iload (pc := 65) S 0 dX7_setPrices_65 rfl ?_
        exact s_iret (pc := 67) S hz hlo hr ⟨rfl, Or.inl ⟨w_5, w_12, w_19, r_6, r_7, rfl, r_13, r_14, rfl, r_20, r_21, rfl, rfl, rfl⟩⟩ (Nat.le_of_ble_eq_true rfl) (Nat.le_of_ble_eq_true rfl) dX7_setPrices_67
      · have n_23 := rg_no (by decide) (by decide) p_18
        refine s_if_eqN (pc := 28) S 35 dX7_setPrices_28 (by decide) (by decide) (fun _ => ?_) (fun h => absurd h (by decide))
        refine s_iconst (pc := 35) S (v := (nI 0)) dX7_setPrices_35 (by decide) ?_
        refine s_callV (pc := 36) S hz hml [.int (nI 0)] (k_X7_checked Z l A C 0 (by decide)) (cwV 1 S.2.2.2.2 gX7_setPrices_X7_checked rfl rfl rfl (by decide +kernel) ⟨Nat.le_of_ble_eq_true rfl, Nat.le_of_ble_eq_true rfl⟩) (cc_mod (A := A) (C := C)) rfl rfl rfl (Nat.le_of_ble_eq_true rfl) dX7_setPrices_36 ⟨Nat.le_of_ble_eq_true rfl, Nat.le_of_ble_eq_true rfl⟩ (fun _ _ _ h => h.elim) (fun v A2 C2 h_24 => ?_)
        obtain ⟨rfl, rfl, rfl⟩ := h_24
        refine s_if_leN (pc := 39) S 44 dX7_setPrices_39 (by decide) (by decide) (fun h => absurd h (by decide)) (fun _ => ?_)
        refine s_iconst (pc := 42) S (v := (nI 0)) dX7_setPrices_42 (by decide) ?_
        exact s_iret (pc := 43) S hz hlo hr ⟨rfl, Or.inr (Or.inl ⟨w_5, w_12, r_6, r_7, rfl, r_13, r_14, rfl, n_23, rfl, rfl⟩)⟩ (Nat.le_of_ble_eq_true rfl) (Nat.le_of_ble_eq_true rfl) dX7_setPrices_43
    · have n_25 := rg_no (by decide) (by decide) p_11
      refine s_if_eqN (pc := 18) S 35 dX7_setPrices_18 (by decide) (by decide) (fun _ => ?_) (fun h => absurd h (by decide))
      refine s_iconst (pc := 35) S (v := (nI 0)) dX7_setPrices_35 (by decide) ?_
      refine s_callV (pc := 36) S hz hml [.int (nI 0)] (k_X7_checked Z l A C 0 (by decide)) (cwV 1 S.2.2.2.2 gX7_setPrices_X7_checked rfl rfl rfl (by decide +kernel) ⟨Nat.le_of_ble_eq_true rfl, Nat.le_of_ble_eq_true rfl⟩) (cc_mod (A := A) (C := C)) rfl rfl rfl (Nat.le_of_ble_eq_true rfl) dX7_setPrices_36 ⟨Nat.le_of_ble_eq_true rfl, Nat.le_of_ble_eq_true rfl⟩ (fun _ _ _ h => h.elim) (fun v A2 C2 h_26 => ?_)
      obtain ⟨rfl, rfl, rfl⟩ := h_26
      refine s_if_leN (pc := 39) S 44 dX7_setPrices_39 (by decide) (by decide) (fun h => absurd h (by decide)) (fun _ => ?_)
      refine s_iconst (pc := 42) S (v := (nI 0)) dX7_setPrices_42 (by decide) ?_
      exact s_iret (pc := 43) S hz hlo hr ⟨rfl, Or.inr (Or.inr (Or.inl ⟨w_5, r_6, r_7, rfl, n_25, rfl, rfl⟩))⟩ (Nat.le_of_ble_eq_true rfl) (Nat.le_of_ble_eq_true rfl) dX7_setPrices_43
  · have n_27 := rg_no (by decide) (by decide) p_4
    refine s_if_eqN (pc := 8) S 35 dX7_setPrices_8 (by decide) (by decide) (fun _ => ?_) (fun h => absurd h (by decide))
    refine s_iconst (pc := 35) S (v := (nI 0)) dX7_setPrices_35 (by decide) ?_
    refine s_callV (pc := 36) S hz hml [.int (nI 0)] (k_X7_checked Z l A C 0 (by decide)) (cwV 1 S.2.2.2.2 gX7_setPrices_X7_checked rfl rfl rfl (by decide +kernel) ⟨Nat.le_of_ble_eq_true rfl, Nat.le_of_ble_eq_true rfl⟩) (cc_mod (A := A) (C := C)) rfl rfl rfl (Nat.le_of_ble_eq_true rfl) dX7_setPrices_36 ⟨Nat.le_of_ble_eq_true rfl, Nat.le_of_ble_eq_true rfl⟩ (fun _ _ _ h => h.elim) (fun v A2 C2 h_28 => ?_)
    obtain ⟨rfl, rfl, rfl⟩ := h_28
    refine s_if_leN (pc := 39) S 44 dX7_setPrices_39 (by decide) (by decide) (fun h => absurd h (by decide)) (fun _ => ?_)
    refine s_iconst (pc := 42) S (v := (nI 0)) dX7_setPrices_42 (by decide) ?_
    exact s_iret (pc := 43) S hz hlo hr ⟨rfl, Or.inr (Or.inr (Or.inr (⟨n_27, rfl, rfl⟩)))⟩ (Nat.le_of_ble_eq_true rfl) (Nat.le_of_ble_eq_true rfl) dX7_setPrices_43
set_option maxHeartbeats 4000000 in
set_option maxRecDepth 100000 in
theorem k_X7_submit (Z : Zp) (l : Launch) (A : AF) (C : CF) (x y w : Int32) (q cb db : Nat) (hq : q < 65536) (hcb : cb < 2) (hdb : db < 2) (hO : OkR C) : CtS Z l yX7_submit wsX7_submit ({ frames := 2, cells := 0, slots := 0, locals := 43 }) [.ref (A 60 100), .int x, .int y, .int w, .int (nI q), .int (nI cb), .int (nI db)] A C 0 0 (fun v A2 C2 => A = A2 ∧ ((∃ k_2 w_10 w_17 : Nat, k_2 < C 60 100 28 ∧ nI k_2 = x ∧ 1 ≤ w_10 ∧ w_10 ≤ 100 ∧ nI w_10 = y ∧ 1 ≤ w_17 ∧ w_17 ≤ 9 ∧ nI w_17 = w ∧ isPap q ∧ ¬ C 60 100 30 = 40 ∧ (up3 (up3 (up3 (up3 (up3 (up3 (up3 (up3 (up3 C 60 100 27 0) 60 16 (C 60 100 30) k_2) 60 17 (C 60 100 30) w_10) 60 18 (C 60 100 30) w_17) 60 9 (C 60 100 30) q) 60 12 (C 60 100 30) cb) 60 13 (C 60 100 30) db) 60 10 (C 60 100 30) 45) 60 100 30 ((C 60 100 30) + 1)) = C2 ∧ some (.int (nI (((C 60 100 30) + 1) - 1))) = v) ∨ (∃ k_2 w_10 w_17 : Nat, k_2 < C 60 100 28 ∧ nI k_2 = x ∧ 1 ≤ w_10 ∧ w_10 ≤ 100 ∧ nI w_10 = y ∧ 1 ≤ w_17 ∧ w_17 ≤ 9 ∧ nI w_17 = w ∧ isPap q ∧ C 60 100 30 = 40 ∧ (up3 C 60 100 27 3) = C2 ∧ some (.int (nI 0)) = v) ∨ (∃ k_2 w_10 w_17 : Nat, k_2 < C 60 100 28 ∧ nI k_2 = x ∧ 1 ≤ w_10 ∧ w_10 ≤ 100 ∧ nI w_10 = y ∧ 1 ≤ w_17 ∧ w_17 ≤ 9 ∧ nI w_17 = w ∧ ¬ isPap q ∧ (up3 C 60 100 27 2) = C2 ∧ some (.int (nI 0)) = v) ∨ (∃ k_2 w_10 : Nat, k_2 < C 60 100 28 ∧ nI k_2 = x ∧ 1 ≤ w_10 ∧ w_10 ≤ 100 ∧ nI w_10 = y ∧ (∀ k : Nat, 1 ≤ k → k ≤ 9 → nI k ≠ w) ∧ (up3 C 60 100 27 2) = C2 ∧ some (.int (nI 0)) = v) ∨ (∃ k_2 : Nat, k_2 < C 60 100 28 ∧ nI k_2 = x ∧ (∀ k : Nat, 1 ≤ k → k ≤ 100 → nI k ≠ y) ∧ (up3 C 60 100 27 2) = C2 ∧ some (.int (nI 0)) = v) ∨ ((∀ k : Nat, k < C 60 100 28 → nI k ≠ x) ∧ (up3 C 60 100 27 1) = C2 ∧ some (.int (nI 0)) = v))) (fun _ _ _ => False) := by
  refine CtS.of (cc0 := cX7_submit) (maxL := 7) (ret := (some .int)) (by decide) rfl (Nat.le_of_ble_eq_true rfl) ?_
  intro M0_ p_ e_ s_ m_ args_ below_ meth_ c_ S hz hml hex hlo hr hin
  refine s_loc (L2 := [(0, .ref (A 60 100)), (1, .int x), (2, .int y), (3, .int w), (4, .int (nI q)), (5, .int (nI cb)), (6, .int (nI db))]) rfl ?_
  have i_RX7 : ∀ w ∈ u_ws RX7 TX7 38, w ∈ wsX7_submit := by decide +kernel
  obtain ⟨oU, oP, oJ, oTc, oY, o8, o9, o10, o11, o12, o13, o14, o15, oX, oQ, oB, oK, oS, oJk, oM, oCo, oSh, oLg, oPo, oLl, oL2, oL3, oL4, oLle, oE1, oE2, oE3, oE4⟩ := id hO
  have hu : C 60 100 28 < 2 ^ 30 := by omega
  have hp : C 60 100 29 < 2 ^ 30 := by omega
  have hj : C 60 100 30 < 2 ^ 30 := by omega
  have hlg : C 60 100 31 < 2 ^ 30 := by omega
  have hp4 := oP
  have htc := oTc
  refine s_aload_n (pc := 0) S 0 dX7_submit_0 rfl rfl ?_
  refine s_aload_n (pc := 1) S 0 dX7_submit_1 rfl rfl ?_
  refine s_iload_n (pc := 2) S 1 dX7_submit_2 rfl rfl ?_
  refine s_callV (pc := 3) S hz hml [.int x] (k_X7_isUser Z l A C x hu) (cwV 1 S.2.2.2.2 gX7_submit_X7_isUser rfl rfl rfl (by decide +kernel) ⟨Nat.le_of_ble_eq_true rfl, Nat.le_of_ble_eq_true rfl⟩) (cc_mod (A := A) (C := C)) rfl rfl rfl (Nat.le_of_ble_eq_true rfl) dX7_submit_3 ⟨Nat.le_of_ble_eq_true rfl, Nat.le_of_ble_eq_true rfl⟩ (fun _ _ _ h => h.elim) (fun v A2 C2 h_1 => ?_)
  rcases h_1 with ⟨rfl, rfl, ⟨k_2, hk_3, rfl, rfl⟩ | ⟨no_4, rfl⟩⟩
  · have z_5 : k_2 < 6 := by omega
    refine s_if_neN (pc := 6) S 13 dX7_submit_6 (by decide) (by decide) (fun _ => ?_) (fun h => absurd h (by decide))
    refine s_iload_n (pc := 13) S 2 dX7_submit_13 rfl rfl ?_
    refine s_iconst (pc := 14) S (v := (nI 1)) dX7_submit_14 (by decide) ?_
    refine s_bipush (pc := 15) S (v := (nI 100)) dX7_submit_15 (by decide) ?_
    refine s_callS (pc := 17) S hz hml [.int y, .int (nI 1), .int (nI 100)] (k_X7_in Z l A C y (nI 1) (nI 100)) (cwS 3 S.2.2.2.2 gX7_submit_X7_in rfl rfl rfl (by decide +kernel) ⟨Nat.le_of_ble_eq_true rfl, Nat.le_of_ble_eq_true rfl⟩) rfl rfl (Nat.le_of_ble_eq_true rfl) dX7_submit_17 ⟨Nat.le_of_ble_eq_true rfl, Nat.le_of_ble_eq_true rfl⟩ (fun _ _ _ h => h.elim) (fun v A2 C2 h_6 => ?_)
    rcases h_6 with ⟨rfl, rfl, ⟨p_7, p_8, rfl⟩ | ⟨p_9, rfl⟩⟩
    · obtain ⟨w_10, r_11, r_12, rfl⟩ := rg_of (by decide) p_7 p_8 (by decide)
      refine s_if_eqN (pc := 20) S 41 dX7_submit_20 (by decide) (by decide) (fun h => absurd h (by decide)) (fun _ => ?_)
      refine s_iload_n (pc := 23) S 3 dX7_submit_23 rfl rfl ?_
      refine s_iconst (pc := 24) S (v := (nI 1)) dX7_submit_24 (by decide) ?_
      refine s_bipush (pc := 25) S (v := (nI 9)) dX7_submit_25 (by decide) ?_
      refine s_callS (pc := 27) S hz hml [.int w, .int (nI 1), .int (nI 9)] (k_X7_in Z l A C w (nI 1) (nI 9)) (cwS 3 S.2.2.2.2 gX7_submit_X7_in rfl rfl rfl (by decide +kernel) ⟨Nat.le_of_ble_eq_true rfl, Nat.le_of_ble_eq_true rfl⟩) rfl rfl (Nat.le_of_ble_eq_true rfl) dX7_submit_27 ⟨Nat.le_of_ble_eq_true rfl, Nat.le_of_ble_eq_true rfl⟩ (fun _ _ _ h => h.elim) (fun v A2 C2 h_13 => ?_)
      rcases h_13 with ⟨rfl, rfl, ⟨p_14, p_15, rfl⟩ | ⟨p_16, rfl⟩⟩
      · obtain ⟨w_17, r_18, r_19, rfl⟩ := rg_of (by decide) p_14 p_15 (by decide)
        refine s_if_eqN (pc := 30) S 41 dX7_submit_30 (by decide) (by decide) (fun h => absurd h (by decide)) (fun _ => ?_)
        refine s_iload (pc := 33) S 4 dX7_submit_33 rfl ?_
        refine s_callS (pc := 35) S hz hml [.int (nI q)] (k_X7_isPaper Z l A C q hq) (cwS 1 S.2.2.2.2 gX7_submit_X7_isPaper rfl rfl rfl (by decide +kernel) ⟨Nat.le_of_ble_eq_true rfl, Nat.le_of_ble_eq_true rfl⟩) rfl rfl (Nat.le_of_ble_eq_true rfl) dX7_submit_35 ⟨Nat.le_of_ble_eq_true rfl, Nat.le_of_ble_eq_true rfl⟩ (fun _ _ _ h => h.elim) (fun v A2 C2 h_20 => ?_)
        rcases h_20 with ⟨rfl, rfl, ⟨pq_21, rfl⟩ | ⟨pq_22, rfl⟩⟩
        · refine s_if_neN (pc := 38) S 45 dX7_submit_38 (by decide) (by decide) (fun _ => ?_) (fun h => absurd h (by decide))
          refine s_aload_n (pc := 45) S 0 dX7_submit_45 rfl rfl ?_
          refine s_get (pc := 46) S hz (ref := "SpoolFarmModel") (v := .int (nI (C 60 100 30))) (cc_mod (A := A) (C := C)) i_RX7 rfl 30 (Nat.le_of_ble_eq_true rfl) (by decide +kernel) (fun _ h => h) rfl dX7_submit_46 ?_
          refine s_bipush (pc := 49) S (v := (nI 40)) dX7_submit_49 (by decide) ?_
          refine s_icmp_neN (pc := 51) S 58 dX7_submit_51 (by decide) (by omega) (by omega) (fun c_23 => ?_) (fun c_23 => ?_)
          · refine s_iconst (pc := 58) S (v := (nI 0)) dX7_submit_58 (by decide) ?_
            refine s_put (pc := 59) S hz (ref := "SpoolFarmModel") (ty := .int) (cc_mod (A := A) (C := C)) i_RX7 tyX7 tyX7_ok nmX7 rfl 27 (Nat.le_of_ble_eq_true rfl) (by decide +kernel) (fun _ h => h) rfl (by decide +kernel) rfl rfl (Nat.le_of_ble_eq_true rfl) (up3 C 60 100 27 0) cu_mod (by rw [(cc_mod (A := A) (C := (up3 C 60 100 27 0))), up3_u]; rfl) dX7_submit_59 ?_
            refine s_aload_n (pc := 62) S 0 dX7_submit_62 rfl rfl ?_
            refine s_get (pc := 63) S hz (ref := "SpoolFarmModel") (v := .int (nI 0)) (cc_mod (A := A) (C := (up3 C 60 100 27 0))) i_RX7 rfl 27 (Nat.le_of_ble_eq_true rfl) (by decide +kernel) (fun _ h => h) rfl dX7_submit_63 ?_
            refine s_if_leN (pc := 66) S 71 dX7_submit_66 (by decide) (by decide) (fun _ => ?_) (fun h => absurd h (by decide))
            refine s_aload_n (pc := 71) S 0 dX7_submit_71 rfl rfl ?_
            refine s_get (pc := 72) S hz (ref := "SpoolFarmModel") (v := .ref (A 60 16)) (cc_mod (A := A) (C := (up3 C 60 100 27 0))) i_RX7 rfl 16 (Nat.le_of_ble_eq_true rfl) (by decide +kernel) (fun _ h => h) rfl dX7_submit_72 ?_
            refine s_aload_n (pc := 75) S 0 dX7_submit_75 rfl rfl ?_
            refine s_get (pc := 76) S hz (ref := "SpoolFarmModel") (v := .int (nI (C 60 100 30))) (cc_mod (A := A) (C := (up3 C 60 100 27 0))) i_RX7 rfl 30 (Nat.le_of_ble_eq_true rfl) (by decide +kernel) (fun _ h => h) rfl dX7_submit_76 ?_
            refine s_iload_n (pc := 79) S 1 dX7_submit_79 rfl rfl ?_
            refine s_iast (pc := 80) S hz (cc_row (A := A) (C := (up3 C 60 100 27 0)) (x := aN .int 40 ((up3 C 60 100 27 0) 60 16)) 16 (by decide) rfl) (by omega) (by omega) (up3 (up3 C 60 100 27 0) 60 16 (C 60 100 30) k_2) cu_mod (by rw [(cc_row (A := A) (C := (up3 (up3 C 60 100 27 0) 60 16 (C 60 100 30) k_2)) (x := aN .int 40 ((up3 (up3 C 60 100 27 0) 60 16 (C 60 100 30) k_2) 60 16)) 16 (by decide) rfl), up3_u]) dX7_submit_80 ?_
            refine s_aload_n (pc := 81) S 0 dX7_submit_81 rfl rfl ?_
            refine s_get (pc := 82) S hz (ref := "SpoolFarmModel") (v := .ref (A 60 17)) (cc_mod (A := A) (C := (up3 (up3 C 60 100 27 0) 60 16 (C 60 100 30) k_2))) i_RX7 rfl 17 (Nat.le_of_ble_eq_true rfl) (by decide +kernel) (fun _ h => h) rfl dX7_submit_82 ?_
            refine s_aload_n (pc := 85) S 0 dX7_submit_85 rfl rfl ?_
            refine s_get (pc := 86) S hz (ref := "SpoolFarmModel") (v := .int (nI (C 60 100 30))) (cc_mod (A := A) (C := (up3 (up3 C 60 100 27 0) 60 16 (C 60 100 30) k_2))) i_RX7 rfl 30 (Nat.le_of_ble_eq_true rfl) (by decide +kernel) (fun _ h => h) rfl dX7_submit_86 ?_
            refine s_iload_n (pc := 89) S 2 dX7_submit_89 rfl rfl ?_
            refine s_iast (pc := 90) S hz (cc_row (A := A) (C := (up3 (up3 C 60 100 27 0) 60 16 (C 60 100 30) k_2)) (x := aN .int 40 ((up3 (up3 C 60 100 27 0) 60 16 (C 60 100 30) k_2) 60 17)) 17 (by decide) rfl) (by omega) (by omega) (up3 (up3 (up3 C 60 100 27 0) 60 16 (C 60 100 30) k_2) 60 17 (C 60 100 30) w_10) cu_mod (by rw [(cc_row (A := A) (C := (up3 (up3 (up3 C 60 100 27 0) 60 16 (C 60 100 30) k_2) 60 17 (C 60 100 30) w_10)) (x := aN .int 40 ((up3 (up3 (up3 C 60 100 27 0) 60 16 (C 60 100 30) k_2) 60 17 (C 60 100 30) w_10) 60 17)) 17 (by decide) rfl), up3_u]) dX7_submit_90 ?_
            refine s_aload_n (pc := 91) S 0 dX7_submit_91 rfl rfl ?_
            refine s_get (pc := 92) S hz (ref := "SpoolFarmModel") (v := .ref (A 60 18)) (cc_mod (A := A) (C := (up3 (up3 (up3 C 60 100 27 0) 60 16 (C 60 100 30) k_2) 60 17 (C 60 100 30) w_10))) i_RX7 rfl 18 (Nat.le_of_ble_eq_true rfl) (by decide +kernel) (fun _ h => h) rfl dX7_submit_92 ?_
            refine s_aload_n (pc := 95) S 0 dX7_submit_95 rfl rfl ?_
            refine s_get (pc := 96) S hz (ref := "SpoolFarmModel") (v := .int (nI (C 60 100 30))) (cc_mod (A := A) (C := (up3 (up3 (up3 C 60 100 27 0) 60 16 (C 60 100 30) k_2) 60 17 (C 60 100 30) w_10))) i_RX7 rfl 30 (Nat.le_of_ble_eq_true rfl) (by decide +kernel) (fun _ h => h) rfl dX7_submit_96 ?_
            refine s_iload_n (pc := 99) S 3 dX7_submit_99 rfl rfl ?_
            refine s_iast (pc := 100) S hz (cc_row (A := A) (C := (up3 (up3 (up3 C 60 100 27 0) 60 16 (C 60 100 30) k_2) 60 17 (C 60 100 30) w_10)) (x := aN .int 40 ((up3 (up3 (up3 C 60 100 27 0) 60 16 (C 60 100 30) k_2) 60 17 (C 60 100 30) w_10) 60 18)) 18 (by decide) rfl) (by omega) (by omega) (up3 (up3 (up3 (up3 C 60 100 27 0) 60 16 (C 60 100 30) k_2) 60 17 (C 60 100 30) w_10) 60 18 (C 60 100 30) w_17) cu_mod (by rw [(cc_row (A := A) (C := (up3 (up3 (up3 (up3 C 60 100 27 0) 60 16 (C 60 100 30) k_2) 60 17 (C 60 100 30) w_10) 60 18 (C 60 100 30) w_17)) (x := aN .int 40 ((up3 (up3 (up3 (up3 C 60 100 27 0) 60 16 (C 60 100 30) k_2) 60 17 (C 60 100 30) w_10) 60 18 (C 60 100 30) w_17) 60 18)) 18 (by decide) rfl), up3_u]) dX7_submit_100 ?_
            refine s_aload_n (pc := 101) S 0 dX7_submit_101 rfl rfl ?_
            refine s_get (pc := 102) S hz (ref := "SpoolFarmModel") (v := .ref (A 60 9)) (cc_mod (A := A) (C := (up3 (up3 (up3 (up3 C 60 100 27 0) 60 16 (C 60 100 30) k_2) 60 17 (C 60 100 30) w_10) 60 18 (C 60 100 30) w_17))) i_RX7 rfl 9 (Nat.le_of_ble_eq_true rfl) (by decide +kernel) (fun _ h => h) rfl dX7_submit_102 ?_
            refine s_aload_n (pc := 105) S 0 dX7_submit_105 rfl rfl ?_
            refine s_get (pc := 106) S hz (ref := "SpoolFarmModel") (v := .int (nI (C 60 100 30))) (cc_mod (A := A) (C := (up3 (up3 (up3 (up3 C 60 100 27 0) 60 16 (C 60 100 30) k_2) 60 17 (C 60 100 30) w_10) 60 18 (C 60 100 30) w_17))) i_RX7 rfl 30 (Nat.le_of_ble_eq_true rfl) (by decide +kernel) (fun _ h => h) rfl dX7_submit_106 ?_
            refine s_iload (pc := 109) S 4 dX7_submit_109 rfl ?_
            refine s_cast (pc := 111) S hz (cc_row (A := A) (C := (up3 (up3 (up3 (up3 C 60 100 27 0) 60 16 (C 60 100 30) k_2) 60 17 (C 60 100 30) w_10) 60 18 (C 60 100 30) w_17)) (x := aN .char 40 ((up3 (up3 (up3 (up3 C 60 100 27 0) 60 16 (C 60 100 30) k_2) 60 17 (C 60 100 30) w_10) 60 18 (C 60 100 30) w_17) 60 9)) 9 (by decide) rfl) (by omega) (by omega) (by omega) (up3 (up3 (up3 (up3 (up3 C 60 100 27 0) 60 16 (C 60 100 30) k_2) 60 17 (C 60 100 30) w_10) 60 18 (C 60 100 30) w_17) 60 9 (C 60 100 30) q) cu_mod (by rw [(cc_row (A := A) (C := (up3 (up3 (up3 (up3 (up3 C 60 100 27 0) 60 16 (C 60 100 30) k_2) 60 17 (C 60 100 30) w_10) 60 18 (C 60 100 30) w_17) 60 9 (C 60 100 30) q)) (x := aN .char 40 ((up3 (up3 (up3 (up3 (up3 C 60 100 27 0) 60 16 (C 60 100 30) k_2) 60 17 (C 60 100 30) w_10) 60 18 (C 60 100 30) w_17) 60 9 (C 60 100 30) q) 60 9)) 9 (by decide) rfl), up3_u]) dX7_submit_111 ?_
            refine s_aload_n (pc := 112) S 0 dX7_submit_112 rfl rfl ?_
            refine s_get (pc := 113) S hz (ref := "SpoolFarmModel") (v := .ref (A 60 12)) (cc_mod (A := A) (C := (up3 (up3 (up3 (up3 (up3 C 60 100 27 0) 60 16 (C 60 100 30) k_2) 60 17 (C 60 100 30) w_10) 60 18 (C 60 100 30) w_17) 60 9 (C 60 100 30) q))) i_RX7 rfl 12 (Nat.le_of_ble_eq_true rfl) (by decide +kernel) (fun _ h => h) rfl dX7_submit_113 ?_
            refine s_aload_n (pc := 116) S 0 dX7_submit_116 rfl rfl ?_
            refine s_get (pc := 117) S hz (ref := "SpoolFarmModel") (v := .int (nI (C 60 100 30))) (cc_mod (A := A) (C := (up3 (up3 (up3 (up3 (up3 C 60 100 27 0) 60 16 (C 60 100 30) k_2) 60 17 (C 60 100 30) w_10) 60 18 (C 60 100 30) w_17) 60 9 (C 60 100 30) q))) i_RX7 rfl 30 (Nat.le_of_ble_eq_true rfl) (by decide +kernel) (fun _ h => h) rfl dX7_submit_117 ?_
            refine s_iload (pc := 120) S 5 dX7_submit_120 rfl ?_
            refine s_zast (pc := 122) S hz (cc_row (A := A) (C := (up3 (up3 (up3 (up3 (up3 C 60 100 27 0) 60 16 (C 60 100 30) k_2) 60 17 (C 60 100 30) w_10) 60 18 (C 60 100 30) w_17) 60 9 (C 60 100 30) q)) (x := aN .boolean 40 ((up3 (up3 (up3 (up3 (up3 C 60 100 27 0) 60 16 (C 60 100 30) k_2) 60 17 (C 60 100 30) w_10) 60 18 (C 60 100 30) w_17) 60 9 (C 60 100 30) q) 60 12)) 12 (by decide) rfl) (by omega) (by omega) (by omega) (up3 (up3 (up3 (up3 (up3 (up3 C 60 100 27 0) 60 16 (C 60 100 30) k_2) 60 17 (C 60 100 30) w_10) 60 18 (C 60 100 30) w_17) 60 9 (C 60 100 30) q) 60 12 (C 60 100 30) cb) cu_mod (by rw [(cc_row (A := A) (C := (up3 (up3 (up3 (up3 (up3 (up3 C 60 100 27 0) 60 16 (C 60 100 30) k_2) 60 17 (C 60 100 30) w_10) 60 18 (C 60 100 30) w_17) 60 9 (C 60 100 30) q) 60 12 (C 60 100 30) cb)) (x := aN .boolean 40 ((up3 (up3 (up3 (up3 (up3 (up3 C 60 100 27 0) 60 16 (C 60 100 30) k_2) 60 17 (C 60 100 30) w_10) 60 18 (C 60 100 30) w_17) 60 9 (C 60 100 30) q) 60 12 (C 60 100 30) cb) 60 12)) 12 (by decide) rfl), up3_u]) dX7_submit_122 ?_
            refine s_aload_n (pc := 123) S 0 dX7_submit_123 rfl rfl ?_
            refine s_get (pc := 124) S hz (ref := "SpoolFarmModel") (v := .ref (A 60 13)) (cc_mod (A := A) (C := (up3 (up3 (up3 (up3 (up3 (up3 C 60 100 27 0) 60 16 (C 60 100 30) k_2) 60 17 (C 60 100 30) w_10) 60 18 (C 60 100 30) w_17) 60 9 (C 60 100 30) q) 60 12 (C 60 100 30) cb))) i_RX7 rfl 13 (Nat.le_of_ble_eq_true rfl) (by decide +kernel) (fun _ h => h) rfl dX7_submit_124 ?_
            refine s_aload_n (pc := 127) S 0 dX7_submit_127 rfl rfl ?_
            refine s_get (pc := 128) S hz (ref := "SpoolFarmModel") (v := .int (nI (C 60 100 30))) (cc_mod (A := A) (C := (up3 (up3 (up3 (up3 (up3 (up3 C 60 100 27 0) 60 16 (C 60 100 30) k_2) 60 17 (C 60 100 30) w_10) 60 18 (C 60 100 30) w_17) 60 9 (C 60 100 30) q) 60 12 (C 60 100 30) cb))) i_RX7 rfl 30 (Nat.le_of_ble_eq_true rfl) (by decide +kernel) (fun _ h => h) rfl dX7_submit_128 ?_
            refine s_iload (pc := 131) S 6 dX7_submit_131 rfl ?_
            refine s_zast (pc := 133) S hz (cc_row (A := A) (C := (up3 (up3 (up3 (up3 (up3 (up3 C 60 100 27 0) 60 16 (C 60 100 30) k_2) 60 17 (C 60 100 30) w_10) 60 18 (C 60 100 30) w_17) 60 9 (C 60 100 30) q) 60 12 (C 60 100 30) cb)) (x := aN .boolean 40 ((up3 (up3 (up3 (up3 (up3 (up3 C 60 100 27 0) 60 16 (C 60 100 30) k_2) 60 17 (C 60 100 30) w_10) 60 18 (C 60 100 30) w_17) 60 9 (C 60 100 30) q) 60 12 (C 60 100 30) cb) 60 13)) 13 (by decide) rfl) (by omega) (by omega) (by omega) (up3 (up3 (up3 (up3 (up3 (up3 (up3 C 60 100 27 0) 60 16 (C 60 100 30) k_2) 60 17 (C 60 100 30) w_10) 60 18 (C 60 100 30) w_17) 60 9 (C 60 100 30) q) 60 12 (C 60 100 30) cb) 60 13 (C 60 100 30) db) cu_mod (by rw [(cc_row (A := A) (C := (up3 (up3 (up3 (up3 (up3 (up3 (up3 C 60 100 27 0) 60 16 (C 60 100 30) k_2) 60 17 (C 60 100 30) w_10) 60 18 (C 60 100 30) w_17) 60 9 (C 60 100 30) q) 60 12 (C 60 100 30) cb) 60 13 (C 60 100 30) db)) (x := aN .boolean 40 ((up3 (up3 (up3 (up3 (up3 (up3 (up3 C 60 100 27 0) 60 16 (C 60 100 30) k_2) 60 17 (C 60 100 30) w_10) 60 18 (C 60 100 30) w_17) 60 9 (C 60 100 30) q) 60 12 (C 60 100 30) cb) 60 13 (C 60 100 30) db) 60 13)) 13 (by decide) rfl), up3_u]) dX7_submit_133 ?_
            refine s_aload_n (pc := 134) S 0 dX7_submit_134 rfl rfl ?_
            refine s_get (pc := 135) S hz (ref := "SpoolFarmModel") (v := .ref (A 60 10)) (cc_mod (A := A) (C := (up3 (up3 (up3 (up3 (up3 (up3 (up3 C 60 100 27 0) 60 16 (C 60 100 30) k_2) 60 17 (C 60 100 30) w_10) 60 18 (C 60 100 30) w_17) 60 9 (C 60 100 30) q) 60 12 (C 60 100 30) cb) 60 13 (C 60 100 30) db))) i_RX7 rfl 10 (Nat.le_of_ble_eq_true rfl) (by decide +kernel) (fun _ h => h) rfl dX7_submit_135 ?_
            refine s_aload_n (pc := 138) S 0 dX7_submit_138 rfl rfl ?_
            refine s_get (pc := 139) S hz (ref := "SpoolFarmModel") (v := .int (nI (C 60 100 30))) (cc_mod (A := A) (C := (up3 (up3 (up3 (up3 (up3 (up3 (up3 C 60 100 27 0) 60 16 (C 60 100 30) k_2) 60 17 (C 60 100 30) w_10) 60 18 (C 60 100 30) w_17) 60 9 (C 60 100 30) q) 60 12 (C 60 100 30) cb) 60 13 (C 60 100 30) db))) i_RX7 rfl 30 (Nat.le_of_ble_eq_true rfl) (by decide +kernel) (fun _ h => h) rfl dX7_submit_139 ?_
            refine s_bipush (pc := 142) S (v := (nI 45)) dX7_submit_142 (by decide) ?_
            refine s_cast (pc := 144) S hz (cc_row (A := A) (C := (up3 (up3 (up3 (up3 (up3 (up3 (up3 C 60 100 27 0) 60 16 (C 60 100 30) k_2) 60 17 (C 60 100 30) w_10) 60 18 (C 60 100 30) w_17) 60 9 (C 60 100 30) q) 60 12 (C 60 100 30) cb) 60 13 (C 60 100 30) db)) (x := aN .char 40 ((up3 (up3 (up3 (up3 (up3 (up3 (up3 C 60 100 27 0) 60 16 (C 60 100 30) k_2) 60 17 (C 60 100 30) w_10) 60 18 (C 60 100 30) w_17) 60 9 (C 60 100 30) q) 60 12 (C 60 100 30) cb) 60 13 (C 60 100 30) db) 60 10)) 10 (by decide) rfl) (by omega) (by omega) (by omega) (up3 (up3 (up3 (up3 (up3 (up3 (up3 (up3 C 60 100 27 0) 60 16 (C 60 100 30) k_2) 60 17 (C 60 100 30) w_10) 60 18 (C 60 100 30) w_17) 60 9 (C 60 100 30) q) 60 12 (C 60 100 30) cb) 60 13 (C 60 100 30) db) 60 10 (C 60 100 30) 45) cu_mod (by rw [(cc_row (A := A) (C := (up3 (up3 (up3 (up3 (up3 (up3 (up3 (up3 C 60 100 27 0) 60 16 (C 60 100 30) k_2) 60 17 (C 60 100 30) w_10) 60 18 (C 60 100 30) w_17) 60 9 (C 60 100 30) q) 60 12 (C 60 100 30) cb) 60 13 (C 60 100 30) db) 60 10 (C 60 100 30) 45)) (x := aN .char 40 ((up3 (up3 (up3 (up3 (up3 (up3 (up3 (up3 C 60 100 27 0) 60 16 (C 60 100 30) k_2) 60 17 (C 60 100 30) w_10) 60 18 (C 60 100 30) w_17) 60 9 (C 60 100 30) q) 60 12 (C 60 100 30) cb) 60 13 (C 60 100 30) db) 60 10 (C 60 100 30) 45) 60 10)) 10 (by decide) rfl), up3_u]) dX7_submit_144 ?_
            refine s_aload_n (pc := 145) S 0 dX7_submit_145 rfl rfl ?_
            refine s_dup (pc := 146) S dX7_submit_146 rfl ?_
            refine s_get (pc := 147) S hz (ref := "SpoolFarmModel") (v := .int (nI (C 60 100 30))) (cc_mod (A := A) (C := (up3 (up3 (up3 (up3 (up3 (up3 (up3 (up3 C 60 100 27 0) 60 16 (C 60 100 30) k_2) 60 17 (C 60 100 30) w_10) 60 18 (C 60 100 30) w_17) 60 9 (C 60 100 30) q) 60 12 (C 60 100 30) cb) 60 13 (C 60 100 30) db) 60 10 (C 60 100 30) 45))) i_RX7 rfl 30 (Nat.le_of_ble_eq_true rfl) (by decide +kernel) (fun _ h => h) rfl dX7_submit_147 ?_
            refine s_iconst (pc := 150) S (v := (nI 1)) dX7_submit_150 (by decide) ?_
            refine s_iaddN (pc := 151) S dX7_submit_151 ?_
            refine s_put (pc := 152) S hz (ref := "SpoolFarmModel") (ty := .int) (cc_mod (A := A) (C := (up3 (up3 (up3 (up3 (up3 (up3 (up3 (up3 C 60 100 27 0) 60 16 (C 60 100 30) k_2) 60 17 (C 60 100 30) w_10) 60 18 (C 60 100 30) w_17) 60 9 (C 60 100 30) q) 60 12 (C 60 100 30) cb) 60 13 (C 60 100 30) db) 60 10 (C 60 100 30) 45))) i_RX7 tyX7 tyX7_ok nmX7 rfl 30 (Nat.le_of_ble_eq_true rfl) (by decide +kernel) (fun _ h => h) rfl (by decide +kernel) rfl rfl (Nat.le_of_ble_eq_true rfl) (up3 (up3 (up3 (up3 (up3 (up3 (up3 (up3 (up3 C 60 100 27 0) 60 16 (C 60 100 30) k_2) 60 17 (C 60 100 30) w_10) 60 18 (C 60 100 30) w_17) 60 9 (C 60 100 30) q) 60 12 (C 60 100 30) cb) 60 13 (C 60 100 30) db) 60 10 (C 60 100 30) 45) 60 100 30 ((C 60 100 30) + 1)) cu_mod (by rw [(cc_mod (A := A) (C := (up3 (up3 (up3 (up3 (up3 (up3 (up3 (up3 (up3 C 60 100 27 0) 60 16 (C 60 100 30) k_2) 60 17 (C 60 100 30) w_10) 60 18 (C 60 100 30) w_17) 60 9 (C 60 100 30) q) 60 12 (C 60 100 30) cb) 60 13 (C 60 100 30) db) 60 10 (C 60 100 30) 45) 60 100 30 ((C 60 100 30) + 1)))), up3_u]; rfl) dX7_submit_152 ?_
            refine s_aload_n (pc := 155) S 0 dX7_submit_155 rfl rfl ?_
            refine s_get (pc := 156) S hz (ref := "SpoolFarmModel") (v := .int (nI ((C 60 100 30) + 1))) (cc_mod (A := A) (C := (up3 (up3 (up3 (up3 (up3 (up3 (up3 (up3 (up3 C 60 100 27 0) 60 16 (C 60 100 30) k_2) 60 17 (C 60 100 30) w_10) 60 18 (C 60 100 30) w_17) 60 9 (C 60 100 30) q) 60 12 (C 60 100 30) cb) 60 13 (C 60 100 30) db) 60 10 (C 60 100 30) 45) 60 100 30 ((C 60 100 30) + 1)))) i_RX7 rfl 30 (Nat.le_of_ble_eq_true rfl) (by decide +kernel) (fun _ h => h) rfl dX7_submit_156 ?_
            refine s_iconst (pc := 159) S (v := (nI 1)) dX7_submit_159 (by decide) ?_
            refine s_isubN (pc := 160) S dX7_submit_160 (by omega) ?_
            exact s_iret (pc := 161) S hz hlo hr ⟨rfl, Or.inl ⟨k_2, w_10, w_17, hk_3, rfl, r_11, r_12, rfl, r_18, r_19, rfl, pq_21, c_23, rfl, rfl⟩⟩ (Nat.le_of_ble_eq_true rfl) (Nat.le_of_ble_eq_true rfl) dX7_submit_161
          · refine s_iconst (pc := 54) S (v := (nI 3)) dX7_submit_54 (by decide) ?_
            refine s_goto (pc := 55) S 59 dX7_submit_55 (by decide) ?_
            refine s_put (pc := 59) S hz (ref := "SpoolFarmModel") (ty := .int) (cc_mod (A := A) (C := C)) i_RX7 tyX7 tyX7_ok nmX7 rfl 27 (Nat.le_of_ble_eq_true rfl) (by decide +kernel) (fun _ h => h) rfl (by decide +kernel) rfl rfl (Nat.le_of_ble_eq_true rfl) (up3 C 60 100 27 3) cu_mod (by rw [(cc_mod (A := A) (C := (up3 C 60 100 27 3))), up3_u]; rfl) dX7_submit_59 ?_
            refine s_aload_n (pc := 62) S 0 dX7_submit_62 rfl rfl ?_
            refine s_get (pc := 63) S hz (ref := "SpoolFarmModel") (v := .int (nI 3)) (cc_mod (A := A) (C := (up3 C 60 100 27 3))) i_RX7 rfl 27 (Nat.le_of_ble_eq_true rfl) (by decide +kernel) (fun _ h => h) rfl dX7_submit_63 ?_
            refine s_if_leN (pc := 66) S 71 dX7_submit_66 (by decide) (by decide) (fun h => absurd h (by decide)) (fun _ => ?_)
            refine s_iconst (pc := 69) S (v := (nI 0)) dX7_submit_69 (by decide) ?_
            exact s_iret (pc := 70) S hz hlo hr ⟨rfl, Or.inr (Or.inl ⟨k_2, w_10, w_17, hk_3, rfl, r_11, r_12, rfl, r_18, r_19, rfl, pq_21, c_23, rfl, rfl⟩)⟩ (Nat.le_of_ble_eq_true rfl) (Nat.le_of_ble_eq_true rfl) dX7_submit_70
        · refine s_if_neN (pc := 38) S 45 dX7_submit_38 (by decide) (by decide) (fun h => absurd h (by decide)) (fun _ => ?_)
          refine s_iconst (pc := 41) S (v := (nI 2)) dX7_submit_41 (by decide) ?_
          refine s_goto (pc := 42) S 59 dX7_submit_42 (by decide) ?_
          refine s_put (pc := 59) S hz (ref := "SpoolFarmModel") (ty := .int) (cc_mod (A := A) (C := C)) i_RX7 tyX7 tyX7_ok nmX7 rfl 27 (Nat.le_of_ble_eq_true rfl) (by decide +kernel) (fun _ h => h) rfl (by decide +kernel) rfl rfl (Nat.le_of_ble_eq_true rfl) (up3 C 60 100 27 2) cu_mod (by rw [(cc_mod (A := A) (C := (up3 C 60 100 27 2))), up3_u]; rfl) dX7_submit_59 ?_
          refine s_aload_n (pc := 62) S 0 dX7_submit_62 rfl rfl ?_
          refine s_get (pc := 63) S hz (ref := "SpoolFarmModel") (v := .int (nI 2)) (cc_mod (A := A) (C := (up3 C 60 100 27 2))) i_RX7 rfl 27 (Nat.le_of_ble_eq_true rfl) (by decide +kernel) (fun _ h => h) rfl dX7_submit_63 ?_
          refine s_if_leN (pc := 66) S 71 dX7_submit_66 (by decide) (by decide) (fun h => absurd h (by decide)) (fun _ => ?_)
          refine s_iconst (pc := 69) S (v := (nI 0)) dX7_submit_69 (by decide) ?_
          exact s_iret (pc := 70) S hz hlo hr ⟨rfl, Or.inr (Or.inr (Or.inl ⟨k_2, w_10, w_17, hk_3, rfl, r_11, r_12, rfl, r_18, r_19, rfl, pq_22, rfl, rfl⟩))⟩ (Nat.le_of_ble_eq_true rfl) (Nat.le_of_ble_eq_true rfl) dX7_submit_70
      · have n_24 := rg_no (by decide) (by decide) p_16
        refine s_if_eqN (pc := 30) S 41 dX7_submit_30 (by decide) (by decide) (fun _ => ?_) (fun h => absurd h (by decide))
        refine s_iconst (pc := 41) S (v := (nI 2)) dX7_submit_41 (by decide) ?_
        refine s_goto (pc := 42) S 59 dX7_submit_42 (by decide) ?_
        refine s_put (pc := 59) S hz (ref := "SpoolFarmModel") (ty := .int) (cc_mod (A := A) (C := C)) i_RX7 tyX7 tyX7_ok nmX7 rfl 27 (Nat.le_of_ble_eq_true rfl) (by decide +kernel) (fun _ h => h) rfl (by decide +kernel) rfl rfl (Nat.le_of_ble_eq_true rfl) (up3 C 60 100 27 2) cu_mod (by rw [(cc_mod (A := A) (C := (up3 C 60 100 27 2))), up3_u]; rfl) dX7_submit_59 ?_
        refine s_aload_n (pc := 62) S 0 dX7_submit_62 rfl rfl ?_
        refine s_get (pc := 63) S hz (ref := "SpoolFarmModel") (v := .int (nI 2)) (cc_mod (A := A) (C := (up3 C 60 100 27 2))) i_RX7 rfl 27 (Nat.le_of_ble_eq_true rfl) (by decide +kernel) (fun _ h => h) rfl dX7_submit_63 ?_
        refine s_if_leN (pc := 66) S 71 dX7_submit_66 (by decide) (by decide) (fun h => absurd h (by decide)) (fun _ => ?_)
        refine s_iconst (pc := 69) S (v := (nI 0)) dX7_submit_69 (by decide) ?_
        exact s_iret (pc := 70) S hz hlo hr ⟨rfl, Or.inr (Or.inr (Or.inr (Or.inl ⟨k_2, w_10, hk_3, rfl, r_11, r_12, rfl, n_24, rfl, rfl⟩)))⟩ (Nat.le_of_ble_eq_true rfl) (Nat.le_of_ble_eq_true rfl) dX7_submit_70
    · have n_25 := rg_no (by decide) (by decide) p_9
      refine s_if_eqN (pc := 20) S 41 dX7_submit_20 (by decide) (by decide) (fun _ => ?_) (fun h => absurd h (by decide))
      refine s_iconst (pc := 41) S (v := (nI 2)) dX7_submit_41 (by decide) ?_
      refine s_goto (pc := 42) S 59 dX7_submit_42 (by decide) ?_
      refine s_put (pc := 59) S hz (ref := "SpoolFarmModel") (ty := .int) (cc_mod (A := A) (C := C)) i_RX7 tyX7 tyX7_ok nmX7 rfl 27 (Nat.le_of_ble_eq_true rfl) (by decide +kernel) (fun _ h => h) rfl (by decide +kernel) rfl rfl (Nat.le_of_ble_eq_true rfl) (up3 C 60 100 27 2) cu_mod (by rw [(cc_mod (A := A) (C := (up3 C 60 100 27 2))), up3_u]; rfl) dX7_submit_59 ?_
      refine s_aload_n (pc := 62) S 0 dX7_submit_62 rfl rfl ?_
      refine s_get (pc := 63) S hz (ref := "SpoolFarmModel") (v := .int (nI 2)) (cc_mod (A := A) (C := (up3 C 60 100 27 2))) i_RX7 rfl 27 (Nat.le_of_ble_eq_true rfl) (by decide +kernel) (fun _ h => h) rfl dX7_submit_63 ?_
      refine s_if_leN (pc := 66) S 71 dX7_submit_66 (by decide) (by decide) (fun h => absurd h (by decide)) (fun _ => ?_)
      refine s_iconst (pc := 69) S (v := (nI 0)) dX7_submit_69 (by decide) ?_
      exact s_iret (pc := 70) S hz hlo hr ⟨rfl, Or.inr (Or.inr (Or.inr (Or.inr (Or.inl ⟨k_2, hk_3, rfl, n_25, rfl, rfl⟩))))⟩ (Nat.le_of_ble_eq_true rfl) (Nat.le_of_ble_eq_true rfl) dX7_submit_70
  · refine s_if_neN (pc := 6) S 13 dX7_submit_6 (by decide) (by decide) (fun h => absurd h (by decide)) (fun _ => ?_)
    refine s_iconst (pc := 9) S (v := (nI 1)) dX7_submit_9 (by decide) ?_
    refine s_goto (pc := 10) S 59 dX7_submit_10 (by decide) ?_
    refine s_put (pc := 59) S hz (ref := "SpoolFarmModel") (ty := .int) (cc_mod (A := A) (C := C)) i_RX7 tyX7 tyX7_ok nmX7 rfl 27 (Nat.le_of_ble_eq_true rfl) (by decide +kernel) (fun _ h => h) rfl (by decide +kernel) rfl rfl (Nat.le_of_ble_eq_true rfl) (up3 C 60 100 27 1) cu_mod (by rw [(cc_mod (A := A) (C := (up3 C 60 100 27 1))), up3_u]; rfl) dX7_submit_59 ?_
    refine s_aload_n (pc := 62) S 0 dX7_submit_62 rfl rfl ?_
    refine s_get (pc := 63) S hz (ref := "SpoolFarmModel") (v := .int (nI 1)) (cc_mod (A := A) (C := (up3 C 60 100 27 1))) i_RX7 rfl 27 (Nat.le_of_ble_eq_true rfl) (by decide +kernel) (fun _ h => h) rfl dX7_submit_63 ?_
    refine s_if_leN (pc := 66) S 71 dX7_submit_66 (by decide) (by decide) (fun h => absurd h (by decide)) (fun _ => ?_)
    refine s_iconst (pc := 69) S (v := (nI 0)) dX7_submit_69 (by decide) ?_
    exact s_iret (pc := 70) S hz hlo hr ⟨rfl, Or.inr (Or.inr (Or.inr (Or.inr (Or.inr (⟨no_4, rfl, rfl⟩)))))⟩ (Nat.le_of_ble_eq_true rfl) (Nat.le_of_ble_eq_true rfl) dX7_submit_70
set_option maxHeartbeats 4000000 in
set_option maxRecDepth 100000 in
theorem k_X7_setStapled (Z : Zp) (l : Launch) (A : AF) (C : CF) (x : Int32) (cb : Nat) (hcb : cb < 2) (hO : OkR C) : CtS Z l yX7_setStapled wsX7_setStapled ({ frames := 2, cells := 0, slots := 0, locals := 43 }) [.ref (A 60 100), .int x, .int (nI cb)] A C 0 0 (fun v A2 C2 => A = A2 ∧ ((∃ k_2 : Nat, k_2 < C 60 100 30 ∧ nI k_2 = x ∧ (up3 (up3 C 60 100 27 0) 60 14 k_2 cb) = C2 ∧ some (.int (nI (C 60 14 k_2))) = v) ∨ ((∀ k : Nat, k < C 60 100 30 → nI k ≠ x) ∧ (up3 C 60 100 27 1) = C2 ∧ some (.int (nI 0)) = v))) (fun _ _ _ => False) := by
  refine CtS.of (cc0 := cX7_setStapled) (maxL := 4) (ret := (some .boolean)) (by decide) rfl (Nat.le_of_ble_eq_true rfl) ?_
  intro M0_ p_ e_ s_ m_ args_ below_ meth_ c_ S hz hml hex hlo hr hin
  refine s_loc (L2 := [(0, .ref (A 60 100)), (1, .int x), (2, .int (nI cb))]) rfl ?_
  have i_RX7 : ∀ w ∈ u_ws RX7 TX7 38, w ∈ wsX7_setStapled := by decide +kernel
  obtain ⟨oU, oP, oJ, oTc, oY, o8, o9, o10, o11, o12, o13, o14, o15, oX, oQ, oB, oK, oS, oJk, oM, oCo, oSh, oLg, oPo, oLl, oL2, oL3, oL4, oLle, oE1, oE2, oE3, oE4⟩ := id hO
  have hu : C 60 100 28 < 2 ^ 30 := by omega
  have hp : C 60 100 29 < 2 ^ 30 := by omega
  have hj : C 60 100 30 < 2 ^ 30 := by omega
  have hlg : C 60 100 31 < 2 ^ 30 := by omega
  have hp4 := oP
  have htc := oTc
  refine s_aload_n (pc := 0) S 0 dX7_setStapled_0 rfl rfl ?_
  refine s_aload_n (pc := 1) S 0 dX7_setStapled_1 rfl rfl ?_
  refine s_iload_n (pc := 2) S 1 dX7_setStapled_2 rfl rfl ?_
  refine s_callV (pc := 3) S hz hml [.int x] (k_X7_isJob Z l A C x hj) (cwV 1 S.2.2.2.2 gX7_setStapled_X7_isJob rfl rfl rfl (by decide +kernel) ⟨Nat.le_of_ble_eq_true rfl, Nat.le_of_ble_eq_true rfl⟩) (cc_mod (A := A) (C := C)) rfl rfl rfl (Nat.le_of_ble_eq_true rfl) dX7_setStapled_3 ⟨Nat.le_of_ble_eq_true rfl, Nat.le_of_ble_eq_true rfl⟩ (fun _ _ _ h => h.elim) (fun v A2 C2 h_1 => ?_)
  rcases h_1 with ⟨rfl, rfl, ⟨k_2, hk_3, rfl, rfl⟩ | ⟨no_4, rfl⟩⟩
  · obtain ⟨hk_k_2, hd_k_2, hg_k_2, hg2_k_2, hcp_k_2, hle_k_2, hal30_k_2, hpt_k_2, hus_k_2, h900_k_2, hcp1_k_2⟩ := hO.jk hk_3
    have ho31_k_2 : C 60 19 k_2 < 2 ^ 31 := by omega
    have hal31_k_2 : csN (C 60 13 k_2) (C 60 17 k_2) * C 60 18 k_2 < 2 ^ 31 := by omega
    have z_5 := o14 k_2
    have z_6 := o15 k_2
    have z_7 := o10 k_2
    have z_8 := o12 k_2
    have z_9 := (oJk k_2 hk_3).2.2.2.2.2.2
    refine s_callV (pc := 6) S hz hml [.int (nI 1)] (k_X7_checked Z l A C 1 (by decide)) (cwV 1 S.2.2.2.2 gX7_setStapled_X7_checked rfl rfl rfl (by decide +kernel) ⟨Nat.le_of_ble_eq_true rfl, Nat.le_of_ble_eq_true rfl⟩) (cc_mod (A := A) (C := C)) rfl rfl rfl (Nat.le_of_ble_eq_true rfl) dX7_setStapled_6 ⟨Nat.le_of_ble_eq_true rfl, Nat.le_of_ble_eq_true rfl⟩ (fun _ _ _ h => h.elim) (fun v A2 C2 h_10 => ?_)
    obtain ⟨rfl, rfl, rfl⟩ := h_10
    refine s_if_leN (pc := 9) S 14 dX7_setStapled_9 (by decide) (by decide) (fun _ => ?_) (fun h => absurd h (by decide))
    refine s_aload_n (pc := 14) S 0 dX7_setStapled_14 rfl rfl ?_
    refine s_get (pc := 15) S hz (ref := "SpoolFarmModel") (v := .ref (A 60 14)) (cc_mod (A := A) (C := (up3 C 60 100 27 0))) i_RX7 rfl 14 (Nat.le_of_ble_eq_true rfl) (by decide +kernel) (fun _ h => h) rfl dX7_setStapled_15 ?_
    refine s_iload_n (pc := 18) S 1 dX7_setStapled_18 rfl rfl ?_
    refine s_zald (pc := 19) S hz (x := C 60 14 k_2) (cc_row (A := A) (C := (up3 C 60 100 27 0)) (x := aN .boolean 40 ((up3 C 60 100 27 0) 60 14)) 14 (by decide) rfl) (by omega) (by omega) rfl dX7_setStapled_19 ?_
    refine s_istore_n (pc := 20) S [(3, .int (nI (C 60 14 k_2))), (0, .ref (A 60 100)), (1, .int (nI k_2)), (2, .int (nI cb))] dX7_setStapled_20 rfl (by decide) rfl ?_
    refine s_aload_n (pc := 21) S 1 dX7_setStapled_21 rfl rfl ?_
    refine s_get (pc := 22) S hz (ref := "SpoolFarmModel") (v := .ref (A 60 14)) (cc_mod (A := A) (C := (up3 C 60 100 27 0))) i_RX7 rfl 14 (Nat.le_of_ble_eq_true rfl) (by decide +kernel) (fun _ h => h) rfl dX7_setStapled_22 ?_
    refine s_iload_n (pc := 25) S 2 dX7_setStapled_25 rfl rfl ?_
    refine s_iload_n (pc := 26) S 3 dX7_setStapled_26 rfl rfl ?_
    refine s_zast (pc := 27) S hz (cc_row (A := A) (C := (up3 C 60 100 27 0)) (x := aN .boolean 40 ((up3 C 60 100 27 0) 60 14)) 14 (by decide) rfl) (by omega) (by omega) (by omega) (up3 (up3 C 60 100 27 0) 60 14 k_2 cb) cu_mod (by rw [(cc_row (A := A) (C := (up3 (up3 C 60 100 27 0) 60 14 k_2 cb)) (x := aN .boolean 40 ((up3 (up3 C 60 100 27 0) 60 14 k_2 cb) 60 14)) 14 (by decide) rfl), up3_u]) dX7_setStapled_27 ?_
    refine s_iload_n (pc := 28) S 0 dX7_setStapled_28 rfl rfl ?_
    exact s_zret (pc := 29) S hz hlo (nar_z (by omega)) hr ⟨rfl, Or.inl ⟨k_2, hk_3, rfl, rfl, rfl⟩⟩ (Nat.le_of_ble_eq_true rfl) (Nat.le_of_ble_eq_true rfl) dX7_setStapled_29
  · refine s_callV (pc := 6) S hz hml [.int (nI 0)] (k_X7_checked Z l A C 0 (by decide)) (cwV 1 S.2.2.2.2 gX7_setStapled_X7_checked rfl rfl rfl (by decide +kernel) ⟨Nat.le_of_ble_eq_true rfl, Nat.le_of_ble_eq_true rfl⟩) (cc_mod (A := A) (C := C)) rfl rfl rfl (Nat.le_of_ble_eq_true rfl) dX7_setStapled_6 ⟨Nat.le_of_ble_eq_true rfl, Nat.le_of_ble_eq_true rfl⟩ (fun _ _ _ h => h.elim) (fun v A2 C2 h_11 => ?_)
    obtain ⟨rfl, rfl, rfl⟩ := h_11
    refine s_if_leN (pc := 9) S 14 dX7_setStapled_9 (by decide) (by decide) (fun h => absurd h (by decide)) (fun _ => ?_)
    refine s_iconst (pc := 12) S (v := (nI 0)) dX7_setStapled_12 (by decide) ?_
    exact s_zret (pc := 13) S hz hlo (nar_z (by omega)) hr ⟨rfl, Or.inr (⟨no_4, rfl, rfl⟩)⟩ (Nat.le_of_ble_eq_true rfl) (Nat.le_of_ble_eq_true rfl) dX7_setStapled_13
set_option maxHeartbeats 4000000 in
set_option maxRecDepth 100000 in
theorem k_X7_cancel (Z : Zp) (l : Launch) (A : AF) (C : CF) (x : Int32) (hO : OkR C) : CtS Z l yX7_cancel wsX7_cancel ({ frames := 3, cells := 0, slots := 0, locals := 65 }) [.ref (A 60 100), .int x] A C 0 0 (fun v A2 C2 => A = A2 ∧ ((∃ k_2 : Nat, k_2 < C 60 100 30 ∧ nI k_2 = x ∧ C 60 19 k_2 = csN (C 60 13 k_2) (C 60 17 k_2) * C 60 18 k_2 ∧ (up3 C 60 100 27 2) = C2 ∧ some (.int (nI 0)) = v) ∨ (∃ k_2 : Nat, k_2 < C 60 100 30 ∧ nI k_2 = x ∧ C 60 19 k_2 ≠ csN (C 60 13 k_2) (C 60 17 k_2) * C 60 18 k_2 ∧ C 60 15 k_2 = 0 ∧ (up3 (up3 C 60 100 27 0) 60 15 k_2 1) = C2 ∧ some (.int (nI (C 60 17 k_2 * C 60 18 k_2 - ptoN (C 60 13 k_2) (C 60 17 k_2) (C 60 19 k_2)))) = v) ∨ (∃ k_2 : Nat, k_2 < C 60 100 30 ∧ nI k_2 = x ∧ C 60 19 k_2 ≠ csN (C 60 13 k_2) (C 60 17 k_2) * C 60 18 k_2 ∧ ¬ C 60 15 k_2 = 0 ∧ (up3 C 60 100 27 2) = C2 ∧ some (.int (nI 0)) = v) ∨ ((∀ k : Nat, k < C 60 100 30 → nI k ≠ x) ∧ (up3 C 60 100 27 1) = C2 ∧ some (.int (nI 0)) = v))) (fun _ _ _ => False) := by
  refine CtS.of (cc0 := cX7_cancel) (maxL := 2) (ret := (some .int)) (by decide) rfl (Nat.le_of_ble_eq_true rfl) ?_
  intro M0_ p_ e_ s_ m_ args_ below_ meth_ c_ S hz hml hex hlo hr hin
  refine s_loc (L2 := [(0, .ref (A 60 100)), (1, .int x)]) rfl ?_
  have i_RX7 : ∀ w ∈ u_ws RX7 TX7 38, w ∈ wsX7_cancel := by decide +kernel
  obtain ⟨oU, oP, oJ, oTc, oY, o8, o9, o10, o11, o12, o13, o14, o15, oX, oQ, oB, oK, oS, oJk, oM, oCo, oSh, oLg, oPo, oLl, oL2, oL3, oL4, oLle, oE1, oE2, oE3, oE4⟩ := id hO
  have hu : C 60 100 28 < 2 ^ 30 := by omega
  have hp : C 60 100 29 < 2 ^ 30 := by omega
  have hj : C 60 100 30 < 2 ^ 30 := by omega
  have hlg : C 60 100 31 < 2 ^ 30 := by omega
  have hp4 := oP
  have htc := oTc
  refine s_aload_n (pc := 0) S 0 dX7_cancel_0 rfl rfl ?_
  refine s_aload_n (pc := 1) S 0 dX7_cancel_1 rfl rfl ?_
  refine s_iload_n (pc := 2) S 1 dX7_cancel_2 rfl rfl ?_
  refine s_callV (pc := 3) S hz hml [.int x] (k_X7_isJob Z l A C x hj) (cwV 1 S.2.2.2.2 gX7_cancel_X7_isJob rfl rfl rfl (by decide +kernel) ⟨Nat.le_of_ble_eq_true rfl, Nat.le_of_ble_eq_true rfl⟩) (cc_mod (A := A) (C := C)) rfl rfl rfl (Nat.le_of_ble_eq_true rfl) dX7_cancel_3 ⟨Nat.le_of_ble_eq_true rfl, Nat.le_of_ble_eq_true rfl⟩ (fun _ _ _ h => h.elim) (fun v A2 C2 h_1 => ?_)
  rcases h_1 with ⟨rfl, rfl, ⟨k_2, hk_3, rfl, rfl⟩ | ⟨no_4, rfl⟩⟩
  · obtain ⟨hk_k_2, hd_k_2, hg_k_2, hg2_k_2, hcp_k_2, hle_k_2, hal30_k_2, hpt_k_2, hus_k_2, h900_k_2, hcp1_k_2⟩ := hO.jk hk_3
    have ho31_k_2 : C 60 19 k_2 < 2 ^ 31 := by omega
    have hal31_k_2 : csN (C 60 13 k_2) (C 60 17 k_2) * C 60 18 k_2 < 2 ^ 31 := by omega
    have z_5 := o14 k_2
    have z_6 := o15 k_2
    have z_7 := o10 k_2
    have z_8 := o12 k_2
    have z_9 := (oJk k_2 hk_3).2.2.2.2.2.2
    refine s_if_neN (pc := 6) S 13 dX7_cancel_6 (by decide) (by decide) (fun _ => ?_) (fun h => absurd h (by decide))
    refine s_aload_n (pc := 13) S 0 dX7_cancel_13 rfl rfl ?_
    refine s_iload_n (pc := 14) S 1 dX7_cancel_14 rfl rfl ?_
    refine s_callV (pc := 15) S hz hml [.int (nI k_2)] (k_X7_isDone Z l A C k_2 hk_k_2 hd_k_2 hg_k_2 hg2_k_2 hal31_k_2 ho31_k_2) (cwV 1 S.2.2.2.2 gX7_cancel_X7_isDone rfl rfl rfl (by decide +kernel) ⟨Nat.le_of_ble_eq_true rfl, Nat.le_of_ble_eq_true rfl⟩) (cc_mod (A := A) (C := C)) rfl rfl rfl (Nat.le_of_ble_eq_true rfl) dX7_cancel_15 ⟨Nat.le_of_ble_eq_true rfl, Nat.le_of_ble_eq_true rfl⟩ (fun _ _ _ h => h.elim) (fun v A2 C2 h_10 => ?_)
    rcases h_10 with ⟨rfl, rfl, ⟨dn_11, rfl⟩ | ⟨dn_12, rfl⟩⟩
    · refine s_if_neN (pc := 18) S 30 dX7_cancel_18 (by decide) (by decide) (fun _ => ?_) (fun h => absurd h (by decide))
      refine s_iconst (pc := 30) S (v := (nI 2)) dX7_cancel_30 (by decide) ?_
      refine s_goto (pc := 31) S 35 dX7_cancel_31 (by decide) ?_
      refine s_put (pc := 35) S hz (ref := "SpoolFarmModel") (ty := .int) (cc_mod (A := A) (C := C)) i_RX7 tyX7 tyX7_ok nmX7 rfl 27 (Nat.le_of_ble_eq_true rfl) (by decide +kernel) (fun _ h => h) rfl (by decide +kernel) rfl rfl (Nat.le_of_ble_eq_true rfl) (up3 C 60 100 27 2) cu_mod (by rw [(cc_mod (A := A) (C := (up3 C 60 100 27 2))), up3_u]; rfl) dX7_cancel_35 ?_
      refine s_aload_n (pc := 38) S 0 dX7_cancel_38 rfl rfl ?_
      refine s_get (pc := 39) S hz (ref := "SpoolFarmModel") (v := .int (nI 2)) (cc_mod (A := A) (C := (up3 C 60 100 27 2))) i_RX7 rfl 27 (Nat.le_of_ble_eq_true rfl) (by decide +kernel) (fun _ h => h) rfl dX7_cancel_39 ?_
      refine s_if_leN (pc := 42) S 47 dX7_cancel_42 (by decide) (by decide) (fun h => absurd h (by decide)) (fun _ => ?_)
      refine s_iconst (pc := 45) S (v := (nI 0)) dX7_cancel_45 (by decide) ?_
      exact s_iret (pc := 46) S hz hlo hr ⟨rfl, Or.inl ⟨k_2, hk_3, rfl, dn_11, rfl, rfl⟩⟩ (Nat.le_of_ble_eq_true rfl) (Nat.le_of_ble_eq_true rfl) dX7_cancel_46
    · refine s_if_neN (pc := 18) S 30 dX7_cancel_18 (by decide) (by decide) (fun h => absurd h (by decide)) (fun _ => ?_)
      refine s_aload_n (pc := 21) S 0 dX7_cancel_21 rfl rfl ?_
      refine s_get (pc := 22) S hz (ref := "SpoolFarmModel") (v := .ref (A 60 15)) (cc_mod (A := A) (C := C)) i_RX7 rfl 15 (Nat.le_of_ble_eq_true rfl) (by decide +kernel) (fun _ h => h) rfl dX7_cancel_22 ?_
      refine s_iload_n (pc := 25) S 1 dX7_cancel_25 rfl rfl ?_
      refine s_zald (pc := 26) S hz (x := C 60 15 k_2) (cc_row (A := A) (C := C) (x := aN .boolean 40 (C 60 15)) 15 (by decide) rfl) (by omega) (by omega) rfl dX7_cancel_26 ?_
      refine s_if_eqN (pc := 27) S 34 dX7_cancel_27 (by decide) (by omega) (fun c_13 => ?_) (fun c_13 => ?_)
      · refine s_iconst (pc := 34) S (v := (nI 0)) dX7_cancel_34 (by decide) ?_
        refine s_put (pc := 35) S hz (ref := "SpoolFarmModel") (ty := .int) (cc_mod (A := A) (C := C)) i_RX7 tyX7 tyX7_ok nmX7 rfl 27 (Nat.le_of_ble_eq_true rfl) (by decide +kernel) (fun _ h => h) rfl (by decide +kernel) rfl rfl (Nat.le_of_ble_eq_true rfl) (up3 C 60 100 27 0) cu_mod (by rw [(cc_mod (A := A) (C := (up3 C 60 100 27 0))), up3_u]; rfl) dX7_cancel_35 ?_
        refine s_aload_n (pc := 38) S 0 dX7_cancel_38 rfl rfl ?_
        refine s_get (pc := 39) S hz (ref := "SpoolFarmModel") (v := .int (nI 0)) (cc_mod (A := A) (C := (up3 C 60 100 27 0))) i_RX7 rfl 27 (Nat.le_of_ble_eq_true rfl) (by decide +kernel) (fun _ h => h) rfl dX7_cancel_39 ?_
        refine s_if_leN (pc := 42) S 47 dX7_cancel_42 (by decide) (by decide) (fun _ => ?_) (fun h => absurd h (by decide))
        refine s_aload_n (pc := 47) S 0 dX7_cancel_47 rfl rfl ?_
        refine s_get (pc := 48) S hz (ref := "SpoolFarmModel") (v := .ref (A 60 15)) (cc_mod (A := A) (C := (up3 C 60 100 27 0))) i_RX7 rfl 15 (Nat.le_of_ble_eq_true rfl) (by decide +kernel) (fun _ h => h) rfl dX7_cancel_48 ?_
        refine s_iload_n (pc := 51) S 1 dX7_cancel_51 rfl rfl ?_
        refine s_iconst (pc := 52) S (v := (nI 1)) dX7_cancel_52 (by decide) ?_
        refine s_zast (pc := 53) S hz (cc_row (A := A) (C := (up3 C 60 100 27 0)) (x := aN .boolean 40 ((up3 C 60 100 27 0) 60 15)) 15 (by decide) rfl) (by omega) (by omega) (by omega) (up3 (up3 C 60 100 27 0) 60 15 k_2 1) cu_mod (by rw [(cc_row (A := A) (C := (up3 (up3 C 60 100 27 0) 60 15 k_2 1)) (x := aN .boolean 40 ((up3 (up3 C 60 100 27 0) 60 15 k_2 1) 60 15)) 15 (by decide) rfl), up3_u]) dX7_cancel_53 ?_
        refine s_aload_n (pc := 54) S 0 dX7_cancel_54 rfl rfl ?_
        refine s_iload_n (pc := 55) S 1 dX7_cancel_55 rfl rfl ?_
        refine s_callV (pc := 56) S hz hml [.int (nI k_2)] (k_X7_leftOf Z l A (up3 (up3 C 60 100 27 0) 60 15 k_2 1) k_2 hk_k_2 hd_k_2 hg_k_2 hg2_k_2 ho31_k_2 hpt_k_2) (cwV 1 S.2.2.2.2 gX7_cancel_X7_leftOf rfl rfl rfl (by decide +kernel) ⟨Nat.le_of_ble_eq_true rfl, Nat.le_of_ble_eq_true rfl⟩) (cc_mod (A := A) (C := (up3 (up3 C 60 100 27 0) 60 15 k_2 1))) rfl rfl rfl (Nat.le_of_ble_eq_true rfl) dX7_cancel_56 ⟨Nat.le_of_ble_eq_true rfl, Nat.le_of_ble_eq_true rfl⟩ (fun _ _ _ h => h.elim) (fun v A2 C2 h_14 => ?_)
        obtain ⟨rfl, rfl, rfl⟩ := h_14
        exact s_iret (pc := 59) S hz hlo hr ⟨rfl, Or.inr (Or.inl ⟨k_2, hk_3, rfl, dn_12, c_13, rfl, rfl⟩)⟩ (Nat.le_of_ble_eq_true rfl) (Nat.le_of_ble_eq_true rfl) dX7_cancel_59
      · refine s_iconst (pc := 30) S (v := (nI 2)) dX7_cancel_30 (by decide) ?_
        refine s_goto (pc := 31) S 35 dX7_cancel_31 (by decide) ?_
        refine s_put (pc := 35) S hz (ref := "SpoolFarmModel") (ty := .int) (cc_mod (A := A) (C := C)) i_RX7 tyX7 tyX7_ok nmX7 rfl 27 (Nat.le_of_ble_eq_true rfl) (by decide +kernel) (fun _ h => h) rfl (by decide +kernel) rfl rfl (Nat.le_of_ble_eq_true rfl) (up3 C 60 100 27 2) cu_mod (by rw [(cc_mod (A := A) (C := (up3 C 60 100 27 2))), up3_u]; rfl) dX7_cancel_35 ?_
        refine s_aload_n (pc := 38) S 0 dX7_cancel_38 rfl rfl ?_
        refine s_get (pc := 39) S hz (ref := "SpoolFarmModel") (v := .int (nI 2)) (cc_mod (A := A) (C := (up3 C 60 100 27 2))) i_RX7 rfl 27 (Nat.le_of_ble_eq_true rfl) (by decide +kernel) (fun _ h => h) rfl dX7_cancel_39 ?_
        refine s_if_leN (pc := 42) S 47 dX7_cancel_42 (by decide) (by decide) (fun h => absurd h (by decide)) (fun _ => ?_)
        refine s_iconst (pc := 45) S (v := (nI 0)) dX7_cancel_45 (by decide) ?_
        exact s_iret (pc := 46) S hz hlo hr ⟨rfl, Or.inr (Or.inr (Or.inl ⟨k_2, hk_3, rfl, dn_12, c_13, rfl, rfl⟩))⟩ (Nat.le_of_ble_eq_true rfl) (Nat.le_of_ble_eq_true rfl) dX7_cancel_46
  · refine s_if_neN (pc := 6) S 13 dX7_cancel_6 (by decide) (by decide) (fun h => absurd h (by decide)) (fun _ => ?_)
    refine s_iconst (pc := 9) S (v := (nI 1)) dX7_cancel_9 (by decide) ?_
    refine s_goto (pc := 10) S 35 dX7_cancel_10 (by decide) ?_
    refine s_put (pc := 35) S hz (ref := "SpoolFarmModel") (ty := .int) (cc_mod (A := A) (C := C)) i_RX7 tyX7 tyX7_ok nmX7 rfl 27 (Nat.le_of_ble_eq_true rfl) (by decide +kernel) (fun _ h => h) rfl (by decide +kernel) rfl rfl (Nat.le_of_ble_eq_true rfl) (up3 C 60 100 27 1) cu_mod (by rw [(cc_mod (A := A) (C := (up3 C 60 100 27 1))), up3_u]; rfl) dX7_cancel_35 ?_
    refine s_aload_n (pc := 38) S 0 dX7_cancel_38 rfl rfl ?_
    refine s_get (pc := 39) S hz (ref := "SpoolFarmModel") (v := .int (nI 1)) (cc_mod (A := A) (C := (up3 C 60 100 27 1))) i_RX7 rfl 27 (Nat.le_of_ble_eq_true rfl) (by decide +kernel) (fun _ h => h) rfl dX7_cancel_39 ?_
    refine s_if_leN (pc := 42) S 47 dX7_cancel_42 (by decide) (by decide) (fun h => absurd h (by decide)) (fun _ => ?_)
    refine s_iconst (pc := 45) S (v := (nI 0)) dX7_cancel_45 (by decide) ?_
    exact s_iret (pc := 46) S hz hlo hr ⟨rfl, Or.inr (Or.inr (Or.inr (⟨no_4, rfl, rfl⟩)))⟩ (Nat.le_of_ble_eq_true rfl) (Nat.le_of_ble_eq_true rfl) dX7_cancel_46
set_option maxHeartbeats 4000000 in
set_option maxRecDepth 100000 in
theorem k_X7_stateOf (Z : Zp) (l : Launch) (A : AF) (C : CF) (x : Int32) (hO : OkR C) : CtS Z l yX7_stateOf wsX7_stateOf ({ frames := 3, cells := 0, slots := 0, locals := 63 }) [.ref (A 60 100), .int x] A C 0 0 (fun v A2 C2 => A = A2 ∧ ((∃ k_2 : Nat, k_2 < C 60 100 30 ∧ nI k_2 = x ∧ C 60 15 k_2 = 0 ∧ C 60 19 k_2 = csN (C 60 13 k_2) (C 60 17 k_2) * C 60 18 k_2 ∧ (up3 C 60 100 27 0) = C2 ∧ some (.int (nI 100)) = v) ∨ (∃ k_2 : Nat, k_2 < C 60 100 30 ∧ nI k_2 = x ∧ C 60 15 k_2 = 0 ∧ C 60 19 k_2 ≠ csN (C 60 13 k_2) (C 60 17 k_2) * C 60 18 k_2 ∧ C 60 19 k_2 ≤ 0 ∧ (up3 C 60 100 27 0) = C2 ∧ some (.int (nI 104)) = v) ∨ (∃ k_2 : Nat, k_2 < C 60 100 30 ∧ nI k_2 = x ∧ C 60 15 k_2 = 0 ∧ C 60 19 k_2 ≠ csN (C 60 13 k_2) (C 60 17 k_2) * C 60 18 k_2 ∧ ¬ C 60 19 k_2 ≤ 0 ∧ (up3 C 60 100 27 0) = C2 ∧ some (.int (nI 112)) = v) ∨ (∃ k_2 : Nat, k_2 < C 60 100 30 ∧ nI k_2 = x ∧ ¬ C 60 15 k_2 = 0 ∧ (up3 C 60 100 27 0) = C2 ∧ some (.int (nI 120)) = v) ∨ ((∀ k : Nat, k < C 60 100 30 → nI k ≠ x) ∧ (up3 C 60 100 27 1) = C2 ∧ some (.int (nI 32)) = v))) (fun _ _ _ => False) := by
  refine CtS.of (cc0 := cX7_stateOf) (maxL := 2) (ret := (some .char)) (by decide) rfl (Nat.le_of_ble_eq_true rfl) ?_
  intro M0_ p_ e_ s_ m_ args_ below_ meth_ c_ S hz hml hex hlo hr hin
  refine s_loc (L2 := [(0, .ref (A 60 100)), (1, .int x)]) rfl ?_
  have i_RX7 : ∀ w ∈ u_ws RX7 TX7 38, w ∈ wsX7_stateOf := by decide +kernel
  obtain ⟨oU, oP, oJ, oTc, oY, o8, o9, o10, o11, o12, o13, o14, o15, oX, oQ, oB, oK, oS, oJk, oM, oCo, oSh, oLg, oPo, oLl, oL2, oL3, oL4, oLle, oE1, oE2, oE3, oE4⟩ := id hO
  have hu : C 60 100 28 < 2 ^ 30 := by omega
  have hp : C 60 100 29 < 2 ^ 30 := by omega
  have hj : C 60 100 30 < 2 ^ 30 := by omega
  have hlg : C 60 100 31 < 2 ^ 30 := by omega
  have hp4 := oP
  have htc := oTc
  refine s_aload_n (pc := 0) S 0 dX7_stateOf_0 rfl rfl ?_
  refine s_aload_n (pc := 1) S 0 dX7_stateOf_1 rfl rfl ?_
  refine s_iload_n (pc := 2) S 1 dX7_stateOf_2 rfl rfl ?_
  refine s_callV (pc := 3) S hz hml [.int x] (k_X7_isJob Z l A C x hj) (cwV 1 S.2.2.2.2 gX7_stateOf_X7_isJob rfl rfl rfl (by decide +kernel) ⟨Nat.le_of_ble_eq_true rfl, Nat.le_of_ble_eq_true rfl⟩) (cc_mod (A := A) (C := C)) rfl rfl rfl (Nat.le_of_ble_eq_true rfl) dX7_stateOf_3 ⟨Nat.le_of_ble_eq_true rfl, Nat.le_of_ble_eq_true rfl⟩ (fun _ _ _ h => h.elim) (fun v A2 C2 h_1 => ?_)
  rcases h_1 with ⟨rfl, rfl, ⟨k_2, hk_3, rfl, rfl⟩ | ⟨no_4, rfl⟩⟩
  · obtain ⟨hk_k_2, hd_k_2, hg_k_2, hg2_k_2, hcp_k_2, hle_k_2, hal30_k_2, hpt_k_2, hus_k_2, h900_k_2, hcp1_k_2⟩ := hO.jk hk_3
    have ho31_k_2 : C 60 19 k_2 < 2 ^ 31 := by omega
    have hal31_k_2 : csN (C 60 13 k_2) (C 60 17 k_2) * C 60 18 k_2 < 2 ^ 31 := by omega
    have z_5 := o14 k_2
    have z_6 := o15 k_2
    have z_7 := o10 k_2
    have z_8 := o12 k_2
    have z_9 := (oJk k_2 hk_3).2.2.2.2.2.2
    refine s_callV (pc := 6) S hz hml [.int (nI 1)] (k_X7_checked Z l A C 1 (by decide)) (cwV 1 S.2.2.2.2 gX7_stateOf_X7_checked rfl rfl rfl (by decide +kernel) ⟨Nat.le_of_ble_eq_true rfl, Nat.le_of_ble_eq_true rfl⟩) (cc_mod (A := A) (C := C)) rfl rfl rfl (Nat.le_of_ble_eq_true rfl) dX7_stateOf_6 ⟨Nat.le_of_ble_eq_true rfl, Nat.le_of_ble_eq_true rfl⟩ (fun _ _ _ h => h.elim) (fun v A2 C2 h_10 => ?_)
    obtain ⟨rfl, rfl, rfl⟩ := h_10
    refine s_if_leN (pc := 9) S 15 dX7_stateOf_9 (by decide) (by decide) (fun _ => ?_) (fun h => absurd h (by decide))
    refine s_aload_n (pc := 15) S 0 dX7_stateOf_15 rfl rfl ?_
    refine s_get (pc := 16) S hz (ref := "SpoolFarmModel") (v := .ref (A 60 15)) (cc_mod (A := A) (C := (up3 C 60 100 27 0))) i_RX7 rfl 15 (Nat.le_of_ble_eq_true rfl) (by decide +kernel) (fun _ h => h) rfl dX7_stateOf_16 ?_
    refine s_iload_n (pc := 19) S 1 dX7_stateOf_19 rfl rfl ?_
    refine s_zald (pc := 20) S hz (x := C 60 15 k_2) (cc_row (A := A) (C := (up3 C 60 100 27 0)) (x := aN .boolean 40 ((up3 C 60 100 27 0) 60 15)) 15 (by decide) rfl) (by omega) (by omega) rfl dX7_stateOf_20 ?_
    refine s_if_eqN (pc := 21) S 27 dX7_stateOf_21 (by decide) (by omega) (fun c_11 => ?_) (fun c_11 => ?_)
    · refine s_aload_n (pc := 27) S 0 dX7_stateOf_27 rfl rfl ?_
      refine s_iload_n (pc := 28) S 1 dX7_stateOf_28 rfl rfl ?_
      refine s_callV (pc := 29) S hz hml [.int (nI k_2)] (k_X7_isDone Z l A (up3 C 60 100 27 0) k_2 hk_k_2 hd_k_2 hg_k_2 hg2_k_2 hal31_k_2 ho31_k_2) (cwV 1 S.2.2.2.2 gX7_stateOf_X7_isDone rfl rfl rfl (by decide +kernel) ⟨Nat.le_of_ble_eq_true rfl, Nat.le_of_ble_eq_true rfl⟩) (cc_mod (A := A) (C := (up3 C 60 100 27 0))) rfl rfl rfl (Nat.le_of_ble_eq_true rfl) dX7_stateOf_29 ⟨Nat.le_of_ble_eq_true rfl, Nat.le_of_ble_eq_true rfl⟩ (fun _ _ _ h => h.elim) (fun v A2 C2 h_12 => ?_)
      rcases h_12 with ⟨rfl, rfl, ⟨dn_13, rfl⟩ | ⟨dn_14, rfl⟩⟩
      · refine s_if_eqN (pc := 32) S 38 dX7_stateOf_32 (by decide) (by decide) (fun h => absurd h (by decide)) (fun _ => ?_)
        refine s_bipush (pc := 35) S (v := (nI 100)) dX7_stateOf_35 (by decide) ?_
        exact s_zret (pc := 37) S hz hlo (nar_c (by omega)) hr ⟨rfl, Or.inl ⟨k_2, hk_3, rfl, c_11, dn_13, rfl, rfl⟩⟩ (Nat.le_of_ble_eq_true rfl) (Nat.le_of_ble_eq_true rfl) dX7_stateOf_37
      · refine s_if_eqN (pc := 32) S 38 dX7_stateOf_32 (by decide) (by decide) (fun _ => ?_) (fun h => absurd h (by decide))
        refine s_aload_n (pc := 38) S 0 dX7_stateOf_38 rfl rfl ?_
        refine s_get (pc := 39) S hz (ref := "SpoolFarmModel") (v := .ref (A 60 19)) (cc_mod (A := A) (C := (up3 C 60 100 27 0))) i_RX7 rfl 19 (Nat.le_of_ble_eq_true rfl) (by decide +kernel) (fun _ h => h) rfl dX7_stateOf_39 ?_
        refine s_iload_n (pc := 42) S 1 dX7_stateOf_42 rfl rfl ?_
        refine s_iald (pc := 43) S hz (x := C 60 19 k_2) (cc_row (A := A) (C := (up3 C 60 100 27 0)) (x := aN .int 40 ((up3 C 60 100 27 0) 60 19)) 19 (by decide) rfl) (by omega) (by omega) rfl dX7_stateOf_43 ?_
        refine s_if_leN (pc := 44) S 52 dX7_stateOf_44 (by decide) (by omega) (fun c_15 => ?_) (fun c_15 => ?_)
        · refine s_bipush (pc := 52) S (v := (nI 104)) dX7_stateOf_52 (by decide) ?_
          exact s_zret (pc := 54) S hz hlo (nar_c (by omega)) hr ⟨rfl, Or.inr (Or.inl ⟨k_2, hk_3, rfl, c_11, dn_14, c_15, rfl, rfl⟩)⟩ (Nat.le_of_ble_eq_true rfl) (Nat.le_of_ble_eq_true rfl) dX7_stateOf_54
        · refine s_bipush (pc := 47) S (v := (nI 112)) dX7_stateOf_47 (by decide) ?_
          refine s_goto (pc := 49) S 54 dX7_stateOf_49 (by decide) ?_
          exact s_zret (pc := 54) S hz hlo (nar_c (by omega)) hr ⟨rfl, Or.inr (Or.inr (Or.inl ⟨k_2, hk_3, rfl, c_11, dn_14, c_15, rfl, rfl⟩))⟩ (Nat.le_of_ble_eq_true rfl) (Nat.le_of_ble_eq_true rfl) dX7_stateOf_54
    · refine s_bipush (pc := 24) S (v := (nI 120)) dX7_stateOf_24 (by decide) ?_
      exact s_zret (pc := 26) S hz hlo (nar_c (by omega)) hr ⟨rfl, Or.inr (Or.inr (Or.inr (Or.inl ⟨k_2, hk_3, rfl, c_11, rfl, rfl⟩)))⟩ (Nat.le_of_ble_eq_true rfl) (Nat.le_of_ble_eq_true rfl) dX7_stateOf_26
  · refine s_callV (pc := 6) S hz hml [.int (nI 0)] (k_X7_checked Z l A C 0 (by decide)) (cwV 1 S.2.2.2.2 gX7_stateOf_X7_checked rfl rfl rfl (by decide +kernel) ⟨Nat.le_of_ble_eq_true rfl, Nat.le_of_ble_eq_true rfl⟩) (cc_mod (A := A) (C := C)) rfl rfl rfl (Nat.le_of_ble_eq_true rfl) dX7_stateOf_6 ⟨Nat.le_of_ble_eq_true rfl, Nat.le_of_ble_eq_true rfl⟩ (fun _ _ _ h => h.elim) (fun v A2 C2 h_16 => ?_)
    obtain ⟨rfl, rfl, rfl⟩ := h_16
    refine s_if_leN (pc := 9) S 15 dX7_stateOf_9 (by decide) (by decide) (fun h => absurd h (by decide)) (fun _ => ?_)
    refine s_bipush (pc := 12) S (v := (nI 32)) dX7_stateOf_12 (by decide) ?_
    exact s_zret (pc := 14) S hz hlo (nar_c (by omega)) hr ⟨rfl, Or.inr (Or.inr (Or.inr (Or.inr (⟨no_4, rfl, rfl⟩))))⟩ (Nat.le_of_ble_eq_true rfl) (Nat.le_of_ble_eq_true rfl) dX7_stateOf_14
set_option maxHeartbeats 4000000 in
set_option maxRecDepth 100000 in
theorem k_X7_pagesLeft (Z : Zp) (l : Launch) (A : AF) (C : CF) (x : Int32) (hO : OkR C) : CtS Z l yX7_pagesLeft wsX7_pagesLeft ({ frames := 3, cells := 0, slots := 0, locals := 65 }) [.ref (A 60 100), .int x] A C 0 0 (fun v A2 C2 => A = A2 ∧ ((∃ k_2 : Nat, k_2 < C 60 100 30 ∧ nI k_2 = x ∧ (up3 C 60 100 27 0) = C2 ∧ some (.int (nI (C 60 17 k_2 * C 60 18 k_2 - ptoN (C 60 13 k_2) (C 60 17 k_2) (C 60 19 k_2)))) = v) ∨ ((∀ k : Nat, k < C 60 100 30 → nI k ≠ x) ∧ (up3 C 60 100 27 1) = C2 ∧ some (.int (nI 0)) = v))) (fun _ _ _ => False) := by
  refine CtS.of (cc0 := cX7_pagesLeft) (maxL := 2) (ret := (some .int)) (by decide) rfl (Nat.le_of_ble_eq_true rfl) ?_
  intro M0_ p_ e_ s_ m_ args_ below_ meth_ c_ S hz hml hex hlo hr hin
  refine s_loc (L2 := [(0, .ref (A 60 100)), (1, .int x)]) rfl ?_
  obtain ⟨oU, oP, oJ, oTc, oY, o8, o9, o10, o11, o12, o13, o14, o15, oX, oQ, oB, oK, oS, oJk, oM, oCo, oSh, oLg, oPo, oLl, oL2, oL3, oL4, oLle, oE1, oE2, oE3, oE4⟩ := id hO
  have hu : C 60 100 28 < 2 ^ 30 := by omega
  have hp : C 60 100 29 < 2 ^ 30 := by omega
  have hj : C 60 100 30 < 2 ^ 30 := by omega
  have hlg : C 60 100 31 < 2 ^ 30 := by omega
  have hp4 := oP
  have htc := oTc
  refine s_aload_n (pc := 0) S 0 dX7_pagesLeft_0 rfl rfl ?_
  refine s_aload_n (pc := 1) S 0 dX7_pagesLeft_1 rfl rfl ?_
  refine s_iload_n (pc := 2) S 1 dX7_pagesLeft_2 rfl rfl ?_
  refine s_callV (pc := 3) S hz hml [.int x] (k_X7_isJob Z l A C x hj) (cwV 1 S.2.2.2.2 gX7_pagesLeft_X7_isJob rfl rfl rfl (by decide +kernel) ⟨Nat.le_of_ble_eq_true rfl, Nat.le_of_ble_eq_true rfl⟩) (cc_mod (A := A) (C := C)) rfl rfl rfl (Nat.le_of_ble_eq_true rfl) dX7_pagesLeft_3 ⟨Nat.le_of_ble_eq_true rfl, Nat.le_of_ble_eq_true rfl⟩ (fun _ _ _ h => h.elim) (fun v A2 C2 h_1 => ?_)
  rcases h_1 with ⟨rfl, rfl, ⟨k_2, hk_3, rfl, rfl⟩ | ⟨no_4, rfl⟩⟩
  · obtain ⟨hk_k_2, hd_k_2, hg_k_2, hg2_k_2, hcp_k_2, hle_k_2, hal30_k_2, hpt_k_2, hus_k_2, h900_k_2, hcp1_k_2⟩ := hO.jk hk_3
    have ho31_k_2 : C 60 19 k_2 < 2 ^ 31 := by omega
    have hal31_k_2 : csN (C 60 13 k_2) (C 60 17 k_2) * C 60 18 k_2 < 2 ^ 31 := by omega
    have z_5 := o14 k_2
    have z_6 := o15 k_2
    have z_7 := o10 k_2
    have z_8 := o12 k_2
    have z_9 := (oJk k_2 hk_3).2.2.2.2.2.2
    refine s_callV (pc := 6) S hz hml [.int (nI 1)] (k_X7_checked Z l A C 1 (by decide)) (cwV 1 S.2.2.2.2 gX7_pagesLeft_X7_checked rfl rfl rfl (by decide +kernel) ⟨Nat.le_of_ble_eq_true rfl, Nat.le_of_ble_eq_true rfl⟩) (cc_mod (A := A) (C := C)) rfl rfl rfl (Nat.le_of_ble_eq_true rfl) dX7_pagesLeft_6 ⟨Nat.le_of_ble_eq_true rfl, Nat.le_of_ble_eq_true rfl⟩ (fun _ _ _ h => h.elim) (fun v A2 C2 h_10 => ?_)
    obtain ⟨rfl, rfl, rfl⟩ := h_10
    refine s_if_leN (pc := 9) S 16 dX7_pagesLeft_9 (by decide) (by decide) (fun _ => ?_) (fun h => absurd h (by decide))
    refine s_aload_n (pc := 16) S 0 dX7_pagesLeft_16 rfl rfl ?_
    refine s_iload_n (pc := 17) S 1 dX7_pagesLeft_17 rfl rfl ?_
    refine s_callV (pc := 18) S hz hml [.int (nI k_2)] (k_X7_leftOf Z l A (up3 C 60 100 27 0) k_2 hk_k_2 hd_k_2 hg_k_2 hg2_k_2 ho31_k_2 hpt_k_2) (cwV 1 S.2.2.2.2 gX7_pagesLeft_X7_leftOf rfl rfl rfl (by decide +kernel) ⟨Nat.le_of_ble_eq_true rfl, Nat.le_of_ble_eq_true rfl⟩) (cc_mod (A := A) (C := (up3 C 60 100 27 0))) rfl rfl rfl (Nat.le_of_ble_eq_true rfl) dX7_pagesLeft_18 ⟨Nat.le_of_ble_eq_true rfl, Nat.le_of_ble_eq_true rfl⟩ (fun _ _ _ h => h.elim) (fun v A2 C2 h_11 => ?_)
    obtain ⟨rfl, rfl, rfl⟩ := h_11
    exact s_iret (pc := 21) S hz hlo hr ⟨rfl, Or.inl ⟨k_2, hk_3, rfl, rfl, rfl⟩⟩ (Nat.le_of_ble_eq_true rfl) (Nat.le_of_ble_eq_true rfl) dX7_pagesLeft_21
  · refine s_callV (pc := 6) S hz hml [.int (nI 0)] (k_X7_checked Z l A C 0 (by decide)) (cwV 1 S.2.2.2.2 gX7_pagesLeft_X7_checked rfl rfl rfl (by decide +kernel) ⟨Nat.le_of_ble_eq_true rfl, Nat.le_of_ble_eq_true rfl⟩) (cc_mod (A := A) (C := C)) rfl rfl rfl (Nat.le_of_ble_eq_true rfl) dX7_pagesLeft_6 ⟨Nat.le_of_ble_eq_true rfl, Nat.le_of_ble_eq_true rfl⟩ (fun _ _ _ h => h.elim) (fun v A2 C2 h_12 => ?_)
    obtain ⟨rfl, rfl, rfl⟩ := h_12
    refine s_if_leN (pc := 9) S 16 dX7_pagesLeft_9 (by decide) (by decide) (fun h => absurd h (by decide)) (fun _ => ?_)
    refine s_iconst (pc := 12) S (v := (nI 0)) dX7_pagesLeft_12 (by decide) ?_
    refine s_goto (pc := 13) S 21 dX7_pagesLeft_13 (by decide) ?_
    exact s_iret (pc := 21) S hz hlo hr ⟨rfl, Or.inr (⟨no_4, rfl, rfl⟩)⟩ (Nat.le_of_ble_eq_true rfl) (Nat.le_of_ble_eq_true rfl) dX7_pagesLeft_21
set_option maxHeartbeats 4000000 in
set_option maxRecDepth 100000 in
theorem k_X7_sheetsOut (Z : Zp) (l : Launch) (A : AF) (C : CF) (x : Int32) (hO : OkR C) : CtS Z l yX7_sheetsOut wsX7_sheetsOut ({ frames := 2, cells := 0, slots := 0, locals := 43 }) [.ref (A 60 100), .int x] A C 0 0 (fun v A2 C2 => A = A2 ∧ ((∃ k_2 : Nat, k_2 < C 60 100 30 ∧ nI k_2 = x ∧ (up3 C 60 100 27 0) = C2 ∧ some (.int (nI (C 60 19 k_2))) = v) ∨ ((∀ k : Nat, k < C 60 100 30 → nI k ≠ x) ∧ (up3 C 60 100 27 1) = C2 ∧ some (.int (nI 0)) = v))) (fun _ _ _ => False) := by
  refine CtS.of (cc0 := cX7_sheetsOut) (maxL := 2) (ret := (some .int)) (by decide) rfl (Nat.le_of_ble_eq_true rfl) ?_
  intro M0_ p_ e_ s_ m_ args_ below_ meth_ c_ S hz hml hex hlo hr hin
  refine s_loc (L2 := [(0, .ref (A 60 100)), (1, .int x)]) rfl ?_
  have i_RX7 : ∀ w ∈ u_ws RX7 TX7 38, w ∈ wsX7_sheetsOut := by decide +kernel
  obtain ⟨oU, oP, oJ, oTc, oY, o8, o9, o10, o11, o12, o13, o14, o15, oX, oQ, oB, oK, oS, oJk, oM, oCo, oSh, oLg, oPo, oLl, oL2, oL3, oL4, oLle, oE1, oE2, oE3, oE4⟩ := id hO
  have hu : C 60 100 28 < 2 ^ 30 := by omega
  have hp : C 60 100 29 < 2 ^ 30 := by omega
  have hj : C 60 100 30 < 2 ^ 30 := by omega
  have hlg : C 60 100 31 < 2 ^ 30 := by omega
  have hp4 := oP
  have htc := oTc
  refine s_aload_n (pc := 0) S 0 dX7_sheetsOut_0 rfl rfl ?_
  refine s_aload_n (pc := 1) S 0 dX7_sheetsOut_1 rfl rfl ?_
  refine s_iload_n (pc := 2) S 1 dX7_sheetsOut_2 rfl rfl ?_
  refine s_callV (pc := 3) S hz hml [.int x] (k_X7_isJob Z l A C x hj) (cwV 1 S.2.2.2.2 gX7_sheetsOut_X7_isJob rfl rfl rfl (by decide +kernel) ⟨Nat.le_of_ble_eq_true rfl, Nat.le_of_ble_eq_true rfl⟩) (cc_mod (A := A) (C := C)) rfl rfl rfl (Nat.le_of_ble_eq_true rfl) dX7_sheetsOut_3 ⟨Nat.le_of_ble_eq_true rfl, Nat.le_of_ble_eq_true rfl⟩ (fun _ _ _ h => h.elim) (fun v A2 C2 h_1 => ?_)
  rcases h_1 with ⟨rfl, rfl, ⟨k_2, hk_3, rfl, rfl⟩ | ⟨no_4, rfl⟩⟩
  · obtain ⟨hk_k_2, hd_k_2, hg_k_2, hg2_k_2, hcp_k_2, hle_k_2, hal30_k_2, hpt_k_2, hus_k_2, h900_k_2, hcp1_k_2⟩ := hO.jk hk_3
    have ho31_k_2 : C 60 19 k_2 < 2 ^ 31 := by omega
    have hal31_k_2 : csN (C 60 13 k_2) (C 60 17 k_2) * C 60 18 k_2 < 2 ^ 31 := by omega
    have z_5 := o14 k_2
    have z_6 := o15 k_2
    have z_7 := o10 k_2
    have z_8 := o12 k_2
    have z_9 := (oJk k_2 hk_3).2.2.2.2.2.2
    refine s_callV (pc := 6) S hz hml [.int (nI 1)] (k_X7_checked Z l A C 1 (by decide)) (cwV 1 S.2.2.2.2 gX7_sheetsOut_X7_checked rfl rfl rfl (by decide +kernel) ⟨Nat.le_of_ble_eq_true rfl, Nat.le_of_ble_eq_true rfl⟩) (cc_mod (A := A) (C := C)) rfl rfl rfl (Nat.le_of_ble_eq_true rfl) dX7_sheetsOut_6 ⟨Nat.le_of_ble_eq_true rfl, Nat.le_of_ble_eq_true rfl⟩ (fun _ _ _ h => h.elim) (fun v A2 C2 h_10 => ?_)
    obtain ⟨rfl, rfl, rfl⟩ := h_10
    refine s_if_leN (pc := 9) S 16 dX7_sheetsOut_9 (by decide) (by decide) (fun _ => ?_) (fun h => absurd h (by decide))
    refine s_aload_n (pc := 16) S 0 dX7_sheetsOut_16 rfl rfl ?_
    refine s_get (pc := 17) S hz (ref := "SpoolFarmModel") (v := .ref (A 60 19)) (cc_mod (A := A) (C := (up3 C 60 100 27 0))) i_RX7 rfl 19 (Nat.le_of_ble_eq_true rfl) (by decide +kernel) (fun _ h => h) rfl dX7_sheetsOut_17 ?_
    refine s_iload_n (pc := 20) S 1 dX7_sheetsOut_20 rfl rfl ?_
    refine s_iald (pc := 21) S hz (x := C 60 19 k_2) (cc_row (A := A) (C := (up3 C 60 100 27 0)) (x := aN .int 40 ((up3 C 60 100 27 0) 60 19)) 19 (by decide) rfl) (by omega) (by omega) rfl dX7_sheetsOut_21 ?_
    exact s_iret (pc := 22) S hz hlo hr ⟨rfl, Or.inl ⟨k_2, hk_3, rfl, rfl, rfl⟩⟩ (Nat.le_of_ble_eq_true rfl) (Nat.le_of_ble_eq_true rfl) dX7_sheetsOut_22
  · refine s_callV (pc := 6) S hz hml [.int (nI 0)] (k_X7_checked Z l A C 0 (by decide)) (cwV 1 S.2.2.2.2 gX7_sheetsOut_X7_checked rfl rfl rfl (by decide +kernel) ⟨Nat.le_of_ble_eq_true rfl, Nat.le_of_ble_eq_true rfl⟩) (cc_mod (A := A) (C := C)) rfl rfl rfl (Nat.le_of_ble_eq_true rfl) dX7_sheetsOut_6 ⟨Nat.le_of_ble_eq_true rfl, Nat.le_of_ble_eq_true rfl⟩ (fun _ _ _ h => h.elim) (fun v A2 C2 h_11 => ?_)
    obtain ⟨rfl, rfl, rfl⟩ := h_11
    refine s_if_leN (pc := 9) S 16 dX7_sheetsOut_9 (by decide) (by decide) (fun h => absurd h (by decide)) (fun _ => ?_)
    refine s_iconst (pc := 12) S (v := (nI 0)) dX7_sheetsOut_12 (by decide) ?_
    refine s_goto (pc := 13) S 22 dX7_sheetsOut_13 (by decide) ?_
    exact s_iret (pc := 22) S hz hlo hr ⟨rfl, Or.inr (⟨no_4, rfl, rfl⟩)⟩ (Nat.le_of_ble_eq_true rfl) (Nat.le_of_ble_eq_true rfl) dX7_sheetsOut_22
set_option maxHeartbeats 4000000 in
set_option maxRecDepth 100000 in
theorem k_X7_stapledCopies (Z : Zp) (l : Launch) (A : AF) (C : CF) (x : Int32) (hO : OkR C) : CtS Z l yX7_stapledCopies wsX7_stapledCopies ({ frames := 2, cells := 0, slots := 0, locals := 43 }) [.ref (A 60 100), .int x] A C 0 0 (fun v A2 C2 => A = A2 ∧ ((∃ k_2 : Nat, k_2 < C 60 100 30 ∧ nI k_2 = x ∧ (up3 C 60 100 27 0) = C2 ∧ some (.int (nI (C 60 20 k_2))) = v) ∨ ((∀ k : Nat, k < C 60 100 30 → nI k ≠ x) ∧ (up3 C 60 100 27 1) = C2 ∧ some (.int (nI 0)) = v))) (fun _ _ _ => False) := by
  refine CtS.of (cc0 := cX7_stapledCopies) (maxL := 2) (ret := (some .int)) (by decide) rfl (Nat.le_of_ble_eq_true rfl) ?_
  intro M0_ p_ e_ s_ m_ args_ below_ meth_ c_ S hz hml hex hlo hr hin
  refine s_loc (L2 := [(0, .ref (A 60 100)), (1, .int x)]) rfl ?_
  have i_RX7 : ∀ w ∈ u_ws RX7 TX7 38, w ∈ wsX7_stapledCopies := by decide +kernel
  obtain ⟨oU, oP, oJ, oTc, oY, o8, o9, o10, o11, o12, o13, o14, o15, oX, oQ, oB, oK, oS, oJk, oM, oCo, oSh, oLg, oPo, oLl, oL2, oL3, oL4, oLle, oE1, oE2, oE3, oE4⟩ := id hO
  have hu : C 60 100 28 < 2 ^ 30 := by omega
  have hp : C 60 100 29 < 2 ^ 30 := by omega
  have hj : C 60 100 30 < 2 ^ 30 := by omega
  have hlg : C 60 100 31 < 2 ^ 30 := by omega
  have hp4 := oP
  have htc := oTc
  refine s_aload_n (pc := 0) S 0 dX7_stapledCopies_0 rfl rfl ?_
  refine s_aload_n (pc := 1) S 0 dX7_stapledCopies_1 rfl rfl ?_
  refine s_iload_n (pc := 2) S 1 dX7_stapledCopies_2 rfl rfl ?_
  refine s_callV (pc := 3) S hz hml [.int x] (k_X7_isJob Z l A C x hj) (cwV 1 S.2.2.2.2 gX7_stapledCopies_X7_isJob rfl rfl rfl (by decide +kernel) ⟨Nat.le_of_ble_eq_true rfl, Nat.le_of_ble_eq_true rfl⟩) (cc_mod (A := A) (C := C)) rfl rfl rfl (Nat.le_of_ble_eq_true rfl) dX7_stapledCopies_3 ⟨Nat.le_of_ble_eq_true rfl, Nat.le_of_ble_eq_true rfl⟩ (fun _ _ _ h => h.elim) (fun v A2 C2 h_1 => ?_)
  rcases h_1 with ⟨rfl, rfl, ⟨k_2, hk_3, rfl, rfl⟩ | ⟨no_4, rfl⟩⟩
  · obtain ⟨hk_k_2, hd_k_2, hg_k_2, hg2_k_2, hcp_k_2, hle_k_2, hal30_k_2, hpt_k_2, hus_k_2, h900_k_2, hcp1_k_2⟩ := hO.jk hk_3
    have ho31_k_2 : C 60 19 k_2 < 2 ^ 31 := by omega
    have hal31_k_2 : csN (C 60 13 k_2) (C 60 17 k_2) * C 60 18 k_2 < 2 ^ 31 := by omega
    have z_5 := o14 k_2
    have z_6 := o15 k_2
    have z_7 := o10 k_2
    have z_8 := o12 k_2
    have z_9 := (oJk k_2 hk_3).2.2.2.2.2.2
    refine s_callV (pc := 6) S hz hml [.int (nI 1)] (k_X7_checked Z l A C 1 (by decide)) (cwV 1 S.2.2.2.2 gX7_stapledCopies_X7_checked rfl rfl rfl (by decide +kernel) ⟨Nat.le_of_ble_eq_true rfl, Nat.le_of_ble_eq_true rfl⟩) (cc_mod (A := A) (C := C)) rfl rfl rfl (Nat.le_of_ble_eq_true rfl) dX7_stapledCopies_6 ⟨Nat.le_of_ble_eq_true rfl, Nat.le_of_ble_eq_true rfl⟩ (fun _ _ _ h => h.elim) (fun v A2 C2 h_10 => ?_)
    obtain ⟨rfl, rfl, rfl⟩ := h_10
    refine s_if_leN (pc := 9) S 16 dX7_stapledCopies_9 (by decide) (by decide) (fun _ => ?_) (fun h => absurd h (by decide))
    refine s_aload_n (pc := 16) S 0 dX7_stapledCopies_16 rfl rfl ?_
    refine s_get (pc := 17) S hz (ref := "SpoolFarmModel") (v := .ref (A 60 20)) (cc_mod (A := A) (C := (up3 C 60 100 27 0))) i_RX7 rfl 20 (Nat.le_of_ble_eq_true rfl) (by decide +kernel) (fun _ h => h) rfl dX7_stapledCopies_17 ?_
    refine s_iload_n (pc := 20) S 1 dX7_stapledCopies_20 rfl rfl ?_
    refine s_iald (pc := 21) S hz (x := C 60 20 k_2) (cc_row (A := A) (C := (up3 C 60 100 27 0)) (x := aN .int 40 ((up3 C 60 100 27 0) 60 20)) 20 (by decide) rfl) (by omega) (by omega) rfl dX7_stapledCopies_21 ?_
    exact s_iret (pc := 22) S hz hlo hr ⟨rfl, Or.inl ⟨k_2, hk_3, rfl, rfl, rfl⟩⟩ (Nat.le_of_ble_eq_true rfl) (Nat.le_of_ble_eq_true rfl) dX7_stapledCopies_22
  · refine s_callV (pc := 6) S hz hml [.int (nI 0)] (k_X7_checked Z l A C 0 (by decide)) (cwV 1 S.2.2.2.2 gX7_stapledCopies_X7_checked rfl rfl rfl (by decide +kernel) ⟨Nat.le_of_ble_eq_true rfl, Nat.le_of_ble_eq_true rfl⟩) (cc_mod (A := A) (C := C)) rfl rfl rfl (Nat.le_of_ble_eq_true rfl) dX7_stapledCopies_6 ⟨Nat.le_of_ble_eq_true rfl, Nat.le_of_ble_eq_true rfl⟩ (fun _ _ _ h => h.elim) (fun v A2 C2 h_11 => ?_)
    obtain ⟨rfl, rfl, rfl⟩ := h_11
    refine s_if_leN (pc := 9) S 16 dX7_stapledCopies_9 (by decide) (by decide) (fun h => absurd h (by decide)) (fun _ => ?_)
    refine s_iconst (pc := 12) S (v := (nI 0)) dX7_stapledCopies_12 (by decide) ?_
    refine s_goto (pc := 13) S 22 dX7_stapledCopies_13 (by decide) ?_
    exact s_iret (pc := 22) S hz hlo hr ⟨rfl, Or.inr (⟨no_4, rfl, rfl⟩)⟩ (Nat.le_of_ble_eq_true rfl) (Nat.le_of_ble_eq_true rfl) dX7_stapledCopies_22
set_option maxHeartbeats 4000000 in
set_option maxRecDepth 100000 in
theorem k_X7_stopOf (Z : Zp) (l : Launch) (A : AF) (C : CF) (x : Int32) (hO : OkR C) : CtS Z l yX7_stopOf wsX7_stopOf ({ frames := 2, cells := 0, slots := 0, locals := 43 }) [.ref (A 60 100), .int x] A C 0 0 (fun v A2 C2 => A = A2 ∧ ((∃ k_2 : Nat, k_2 < C 60 100 30 ∧ nI k_2 = x ∧ ¬ C 60 10 k_2 = 45 ∧ (up3 C 60 100 27 0) = C2 ∧ some (.int (nI (C 60 10 k_2))) = v) ∨ (∃ k_2 : Nat, k_2 < C 60 100 30 ∧ nI k_2 = x ∧ C 60 10 k_2 = 45 ∧ (up3 C 60 100 27 2) = C2 ∧ some (.int (nI 32)) = v) ∨ ((∀ k : Nat, k < C 60 100 30 → nI k ≠ x) ∧ (up3 C 60 100 27 1) = C2 ∧ some (.int (nI 32)) = v))) (fun _ _ _ => False) := by
  refine CtS.of (cc0 := cX7_stopOf) (maxL := 2) (ret := (some .char)) (by decide) rfl (Nat.le_of_ble_eq_true rfl) ?_
  intro M0_ p_ e_ s_ m_ args_ below_ meth_ c_ S hz hml hex hlo hr hin
  refine s_loc (L2 := [(0, .ref (A 60 100)), (1, .int x)]) rfl ?_
  have i_RX7 : ∀ w ∈ u_ws RX7 TX7 38, w ∈ wsX7_stopOf := by decide +kernel
  obtain ⟨oU, oP, oJ, oTc, oY, o8, o9, o10, o11, o12, o13, o14, o15, oX, oQ, oB, oK, oS, oJk, oM, oCo, oSh, oLg, oPo, oLl, oL2, oL3, oL4, oLle, oE1, oE2, oE3, oE4⟩ := id hO
  have hu : C 60 100 28 < 2 ^ 30 := by omega
  have hp : C 60 100 29 < 2 ^ 30 := by omega
  have hj : C 60 100 30 < 2 ^ 30 := by omega
  have hlg : C 60 100 31 < 2 ^ 30 := by omega
  have hp4 := oP
  have htc := oTc
  refine s_aload_n (pc := 0) S 0 dX7_stopOf_0 rfl rfl ?_
  refine s_aload_n (pc := 1) S 0 dX7_stopOf_1 rfl rfl ?_
  refine s_iload_n (pc := 2) S 1 dX7_stopOf_2 rfl rfl ?_
  refine s_callV (pc := 3) S hz hml [.int x] (k_X7_isJob Z l A C x hj) (cwV 1 S.2.2.2.2 gX7_stopOf_X7_isJob rfl rfl rfl (by decide +kernel) ⟨Nat.le_of_ble_eq_true rfl, Nat.le_of_ble_eq_true rfl⟩) (cc_mod (A := A) (C := C)) rfl rfl rfl (Nat.le_of_ble_eq_true rfl) dX7_stopOf_3 ⟨Nat.le_of_ble_eq_true rfl, Nat.le_of_ble_eq_true rfl⟩ (fun _ _ _ h => h.elim) (fun v A2 C2 h_1 => ?_)
  rcases h_1 with ⟨rfl, rfl, ⟨k_2, hk_3, rfl, rfl⟩ | ⟨no_4, rfl⟩⟩
  · obtain ⟨hk_k_2, hd_k_2, hg_k_2, hg2_k_2, hcp_k_2, hle_k_2, hal30_k_2, hpt_k_2, hus_k_2, h900_k_2, hcp1_k_2⟩ := hO.jk hk_3
    have ho31_k_2 : C 60 19 k_2 < 2 ^ 31 := by omega
    have hal31_k_2 : csN (C 60 13 k_2) (C 60 17 k_2) * C 60 18 k_2 < 2 ^ 31 := by omega
    have z_5 := o14 k_2
    have z_6 := o15 k_2
    have z_7 := o10 k_2
    have z_8 := o12 k_2
    have z_9 := (oJk k_2 hk_3).2.2.2.2.2.2
    refine s_if_neN (pc := 6) S 13 dX7_stopOf_6 (by decide) (by decide) (fun _ => ?_) (fun h => absurd h (by decide))
    refine s_aload_n (pc := 13) S 0 dX7_stopOf_13 rfl rfl ?_
    refine s_get (pc := 14) S hz (ref := "SpoolFarmModel") (v := .ref (A 60 10)) (cc_mod (A := A) (C := C)) i_RX7 rfl 10 (Nat.le_of_ble_eq_true rfl) (by decide +kernel) (fun _ h => h) rfl dX7_stopOf_14 ?_
    refine s_iload_n (pc := 17) S 1 dX7_stopOf_17 rfl rfl ?_
    refine s_cald (pc := 18) S hz (x := C 60 10 k_2) (cc_row (A := A) (C := C) (x := aN .char 40 (C 60 10)) 10 (by decide) rfl) (by omega) (by omega) rfl dX7_stopOf_18 ?_
    refine s_bipush (pc := 19) S (v := (nI 45)) dX7_stopOf_19 (by decide) ?_
    refine s_icmp_neN (pc := 21) S 28 dX7_stopOf_21 (by decide) (by omega) (by omega) (fun c_10 => ?_) (fun c_10 => ?_)
    · refine s_iconst (pc := 28) S (v := (nI 0)) dX7_stopOf_28 (by decide) ?_
      refine s_put (pc := 29) S hz (ref := "SpoolFarmModel") (ty := .int) (cc_mod (A := A) (C := C)) i_RX7 tyX7 tyX7_ok nmX7 rfl 27 (Nat.le_of_ble_eq_true rfl) (by decide +kernel) (fun _ h => h) rfl (by decide +kernel) rfl rfl (Nat.le_of_ble_eq_true rfl) (up3 C 60 100 27 0) cu_mod (by rw [(cc_mod (A := A) (C := (up3 C 60 100 27 0))), up3_u]; rfl) dX7_stopOf_29 ?_
      refine s_aload_n (pc := 32) S 0 dX7_stopOf_32 rfl rfl ?_
      refine s_get (pc := 33) S hz (ref := "SpoolFarmModel") (v := .int (nI 0)) (cc_mod (A := A) (C := (up3 C 60 100 27 0))) i_RX7 rfl 27 (Nat.le_of_ble_eq_true rfl) (by decide +kernel) (fun _ h => h) rfl dX7_stopOf_33 ?_
      refine s_if_leN (pc := 36) S 44 dX7_stopOf_36 (by decide) (by decide) (fun _ => ?_) (fun h => absurd h (by decide))
      refine s_aload_n (pc := 44) S 0 dX7_stopOf_44 rfl rfl ?_
      refine s_get (pc := 45) S hz (ref := "SpoolFarmModel") (v := .ref (A 60 10)) (cc_mod (A := A) (C := (up3 C 60 100 27 0))) i_RX7 rfl 10 (Nat.le_of_ble_eq_true rfl) (by decide +kernel) (fun _ h => h) rfl dX7_stopOf_45 ?_
      refine s_iload_n (pc := 48) S 1 dX7_stopOf_48 rfl rfl ?_
      refine s_cald (pc := 49) S hz (x := C 60 10 k_2) (cc_row (A := A) (C := (up3 C 60 100 27 0)) (x := aN .char 40 ((up3 C 60 100 27 0) 60 10)) 10 (by decide) rfl) (by omega) (by omega) rfl dX7_stopOf_49 ?_
      exact s_zret (pc := 50) S hz hlo (nar_c (by omega)) hr ⟨rfl, Or.inl ⟨k_2, hk_3, rfl, c_10, rfl, rfl⟩⟩ (Nat.le_of_ble_eq_true rfl) (Nat.le_of_ble_eq_true rfl) dX7_stopOf_50
    · refine s_iconst (pc := 24) S (v := (nI 2)) dX7_stopOf_24 (by decide) ?_
      refine s_goto (pc := 25) S 29 dX7_stopOf_25 (by decide) ?_
      refine s_put (pc := 29) S hz (ref := "SpoolFarmModel") (ty := .int) (cc_mod (A := A) (C := C)) i_RX7 tyX7 tyX7_ok nmX7 rfl 27 (Nat.le_of_ble_eq_true rfl) (by decide +kernel) (fun _ h => h) rfl (by decide +kernel) rfl rfl (Nat.le_of_ble_eq_true rfl) (up3 C 60 100 27 2) cu_mod (by rw [(cc_mod (A := A) (C := (up3 C 60 100 27 2))), up3_u]; rfl) dX7_stopOf_29 ?_
      refine s_aload_n (pc := 32) S 0 dX7_stopOf_32 rfl rfl ?_
      refine s_get (pc := 33) S hz (ref := "SpoolFarmModel") (v := .int (nI 2)) (cc_mod (A := A) (C := (up3 C 60 100 27 2))) i_RX7 rfl 27 (Nat.le_of_ble_eq_true rfl) (by decide +kernel) (fun _ h => h) rfl dX7_stopOf_33 ?_
      refine s_if_leN (pc := 36) S 44 dX7_stopOf_36 (by decide) (by decide) (fun h => absurd h (by decide)) (fun _ => ?_)
      refine s_bipush (pc := 39) S (v := (nI 32)) dX7_stopOf_39 (by decide) ?_
      refine s_goto (pc := 41) S 50 dX7_stopOf_41 (by decide) ?_
      exact s_zret (pc := 50) S hz hlo (nar_c (by omega)) hr ⟨rfl, Or.inr (Or.inl ⟨k_2, hk_3, rfl, c_10, rfl, rfl⟩)⟩ (Nat.le_of_ble_eq_true rfl) (Nat.le_of_ble_eq_true rfl) dX7_stopOf_50
  · refine s_if_neN (pc := 6) S 13 dX7_stopOf_6 (by decide) (by decide) (fun h => absurd h (by decide)) (fun _ => ?_)
    refine s_iconst (pc := 9) S (v := (nI 1)) dX7_stopOf_9 (by decide) ?_
    refine s_goto (pc := 10) S 29 dX7_stopOf_10 (by decide) ?_
    refine s_put (pc := 29) S hz (ref := "SpoolFarmModel") (ty := .int) (cc_mod (A := A) (C := C)) i_RX7 tyX7 tyX7_ok nmX7 rfl 27 (Nat.le_of_ble_eq_true rfl) (by decide +kernel) (fun _ h => h) rfl (by decide +kernel) rfl rfl (Nat.le_of_ble_eq_true rfl) (up3 C 60 100 27 1) cu_mod (by rw [(cc_mod (A := A) (C := (up3 C 60 100 27 1))), up3_u]; rfl) dX7_stopOf_29 ?_
    refine s_aload_n (pc := 32) S 0 dX7_stopOf_32 rfl rfl ?_
    refine s_get (pc := 33) S hz (ref := "SpoolFarmModel") (v := .int (nI 1)) (cc_mod (A := A) (C := (up3 C 60 100 27 1))) i_RX7 rfl 27 (Nat.le_of_ble_eq_true rfl) (by decide +kernel) (fun _ h => h) rfl dX7_stopOf_33 ?_
    refine s_if_leN (pc := 36) S 44 dX7_stopOf_36 (by decide) (by decide) (fun h => absurd h (by decide)) (fun _ => ?_)
    refine s_bipush (pc := 39) S (v := (nI 32)) dX7_stopOf_39 (by decide) ?_
    refine s_goto (pc := 41) S 50 dX7_stopOf_41 (by decide) ?_
    exact s_zret (pc := 50) S hz hlo (nar_c (by omega)) hr ⟨rfl, Or.inr (Or.inr (⟨no_4, rfl, rfl⟩))⟩ (Nat.le_of_ble_eq_true rfl) (Nat.le_of_ble_eq_true rfl) dX7_stopOf_50
set_option maxHeartbeats 4000000 in
set_option maxRecDepth 100000 in
theorem k_X7_logSize (Z : Zp) (l : Launch) (A : AF) (C : CF) (hO : OkR C) : CtS Z l yX7_logSize wsX7_logSize ({ frames := 1, cells := 0, slots := 0, locals := 21 }) [.ref (A 60 100)] A C 0 0 (fun v A2 C2 => A = A2 ∧ ((up3 C 60 100 27 0) = C2 ∧ some (.int (nI (C 60 100 31))) = v)) (fun _ _ _ => False) := by
  refine CtS.of (cc0 := cX7_logSize) (maxL := 1) (ret := (some .int)) (by decide) rfl (Nat.le_of_ble_eq_true rfl) ?_
  intro M0_ p_ e_ s_ m_ args_ below_ meth_ c_ S hz hml hex hlo hr hin
  refine s_loc (L2 := [(0, .ref (A 60 100))]) rfl ?_
  have i_RX7 : ∀ w ∈ u_ws RX7 TX7 38, w ∈ wsX7_logSize := by decide +kernel
  obtain ⟨oU, oP, oJ, oTc, oY, o8, o9, o10, o11, o12, o13, o14, o15, oX, oQ, oB, oK, oS, oJk, oM, oCo, oSh, oLg, oPo, oLl, oL2, oL3, oL4, oLle, oE1, oE2, oE3, oE4⟩ := id hO
  have hu : C 60 100 28 < 2 ^ 30 := by omega
  have hp : C 60 100 29 < 2 ^ 30 := by omega
  have hj : C 60 100 30 < 2 ^ 30 := by omega
  have hlg : C 60 100 31 < 2 ^ 30 := by omega
  have hp4 := oP
  have htc := oTc
  refine s_aload_n (pc := 0) S 0 dX7_logSize_0 rfl rfl ?_
  refine s_aload_n (pc := 1) S 0 dX7_logSize_1 rfl rfl ?_
  refine s_get (pc := 2) S hz (ref := "SpoolFarmModel") (v := .int (nI (C 60 100 31))) (cc_mod (A := A) (C := C)) i_RX7 rfl 31 (Nat.le_of_ble_eq_true rfl) (by decide +kernel) (fun _ h => h) rfl dX7_logSize_2 ?_
  refine s_callV (pc := 5) S hz hml [.int (nI (C 60 100 31))] (k_X7_plain Z l A C (C 60 100 31)) (cwV 1 S.2.2.2.2 gX7_logSize_X7_plain rfl rfl rfl (by decide +kernel) ⟨Nat.le_of_ble_eq_true rfl, Nat.le_of_ble_eq_true rfl⟩) (cc_mod (A := A) (C := C)) rfl rfl rfl (Nat.le_of_ble_eq_true rfl) dX7_logSize_5 ⟨Nat.le_of_ble_eq_true rfl, Nat.le_of_ble_eq_true rfl⟩ (fun _ _ _ h => h.elim) (fun v A2 C2 h_1 => ?_)
  obtain ⟨rfl, rfl, rfl⟩ := h_1
  exact s_iret (pc := 8) S hz hlo hr ⟨rfl, ⟨rfl, rfl⟩⟩ (Nat.le_of_ble_eq_true rfl) (Nat.le_of_ble_eq_true rfl) dX7_logSize_8
set_option maxHeartbeats 4000000 in
set_option maxRecDepth 100000 in
theorem k_X7_logJob (Z : Zp) (l : Launch) (A : AF) (C : CF) (x : Int32) (hO : OkR C) : CtS Z l yX7_logJob wsX7_logJob ({ frames := 2, cells := 0, slots := 0, locals := 43 }) [.ref (A 60 100), .int x] A C 0 0 (fun v A2 C2 => A = A2 ∧ ((∃ k_2 : Nat, k_2 < C 60 100 31 ∧ nI k_2 = x ∧ (up3 C 60 100 27 0) = C2 ∧ some (.int (nI (C 60 21 k_2))) = v) ∨ ((∀ k : Nat, k < C 60 100 31 → nI k ≠ x) ∧ (up3 C 60 100 27 1) = C2 ∧ some (.int (nI 0)) = v))) (fun _ _ _ => False) := by
  refine CtS.of (cc0 := cX7_logJob) (maxL := 2) (ret := (some .int)) (by decide) rfl (Nat.le_of_ble_eq_true rfl) ?_
  intro M0_ p_ e_ s_ m_ args_ below_ meth_ c_ S hz hml hex hlo hr hin
  refine s_loc (L2 := [(0, .ref (A 60 100)), (1, .int x)]) rfl ?_
  have i_RX7 : ∀ w ∈ u_ws RX7 TX7 38, w ∈ wsX7_logJob := by decide +kernel
  obtain ⟨oU, oP, oJ, oTc, oY, o8, o9, o10, o11, o12, o13, o14, o15, oX, oQ, oB, oK, oS, oJk, oM, oCo, oSh, oLg, oPo, oLl, oL2, oL3, oL4, oLle, oE1, oE2, oE3, oE4⟩ := id hO
  have hu : C 60 100 28 < 2 ^ 30 := by omega
  have hp : C 60 100 29 < 2 ^ 30 := by omega
  have hj : C 60 100 30 < 2 ^ 30 := by omega
  have hlg : C 60 100 31 < 2 ^ 30 := by omega
  have hp4 := oP
  have htc := oTc
  refine s_aload_n (pc := 0) S 0 dX7_logJob_0 rfl rfl ?_
  refine s_aload_n (pc := 1) S 0 dX7_logJob_1 rfl rfl ?_
  refine s_iload_n (pc := 2) S 1 dX7_logJob_2 rfl rfl ?_
  refine s_callV (pc := 3) S hz hml [.int x] (k_X7_isEntry Z l A C x hlg) (cwV 1 S.2.2.2.2 gX7_logJob_X7_isEntry rfl rfl rfl (by decide +kernel) ⟨Nat.le_of_ble_eq_true rfl, Nat.le_of_ble_eq_true rfl⟩) (cc_mod (A := A) (C := C)) rfl rfl rfl (Nat.le_of_ble_eq_true rfl) dX7_logJob_3 ⟨Nat.le_of_ble_eq_true rfl, Nat.le_of_ble_eq_true rfl⟩ (fun _ _ _ h => h.elim) (fun v A2 C2 h_1 => ?_)
  rcases h_1 with ⟨rfl, rfl, ⟨k_2, hk_3, rfl, rfl⟩ | ⟨no_4, rfl⟩⟩
  · have z_5 := oE1 k_2
    have z_6 := oE2 k_2
    have z_7 := oE3 k_2
    have z_8 := oE4 k_2
    refine s_callV (pc := 6) S hz hml [.int (nI 1)] (k_X7_checked Z l A C 1 (by decide)) (cwV 1 S.2.2.2.2 gX7_logJob_X7_checked rfl rfl rfl (by decide +kernel) ⟨Nat.le_of_ble_eq_true rfl, Nat.le_of_ble_eq_true rfl⟩) (cc_mod (A := A) (C := C)) rfl rfl rfl (Nat.le_of_ble_eq_true rfl) dX7_logJob_6 ⟨Nat.le_of_ble_eq_true rfl, Nat.le_of_ble_eq_true rfl⟩ (fun _ _ _ h => h.elim) (fun v A2 C2 h_9 => ?_)
    obtain ⟨rfl, rfl, rfl⟩ := h_9
    refine s_if_leN (pc := 9) S 16 dX7_logJob_9 (by decide) (by decide) (fun _ => ?_) (fun h => absurd h (by decide))
    refine s_aload_n (pc := 16) S 0 dX7_logJob_16 rfl rfl ?_
    refine s_get (pc := 17) S hz (ref := "SpoolFarmModel") (v := .ref (A 60 21)) (cc_mod (A := A) (C := (up3 C 60 100 27 0))) i_RX7 rfl 21 (Nat.le_of_ble_eq_true rfl) (by decide +kernel) (fun _ h => h) rfl dX7_logJob_17 ?_
    refine s_iload_n (pc := 20) S 1 dX7_logJob_20 rfl rfl ?_
    refine s_iald (pc := 21) S hz (x := C 60 21 k_2) (cc_row (A := A) (C := (up3 C 60 100 27 0)) (x := aN .int (C 61 21 0) ((up3 C 60 100 27 0) 60 21)) 21 (by decide) rfl) (by omega) (by omega) rfl dX7_logJob_21 ?_
    exact s_iret (pc := 22) S hz hlo hr ⟨rfl, Or.inl ⟨k_2, hk_3, rfl, rfl, rfl⟩⟩ (Nat.le_of_ble_eq_true rfl) (Nat.le_of_ble_eq_true rfl) dX7_logJob_22
  · refine s_callV (pc := 6) S hz hml [.int (nI 0)] (k_X7_checked Z l A C 0 (by decide)) (cwV 1 S.2.2.2.2 gX7_logJob_X7_checked rfl rfl rfl (by decide +kernel) ⟨Nat.le_of_ble_eq_true rfl, Nat.le_of_ble_eq_true rfl⟩) (cc_mod (A := A) (C := C)) rfl rfl rfl (Nat.le_of_ble_eq_true rfl) dX7_logJob_6 ⟨Nat.le_of_ble_eq_true rfl, Nat.le_of_ble_eq_true rfl⟩ (fun _ _ _ h => h.elim) (fun v A2 C2 h_10 => ?_)
    obtain ⟨rfl, rfl, rfl⟩ := h_10
    refine s_if_leN (pc := 9) S 16 dX7_logJob_9 (by decide) (by decide) (fun h => absurd h (by decide)) (fun _ => ?_)
    refine s_iconst (pc := 12) S (v := (nI 0)) dX7_logJob_12 (by decide) ?_
    refine s_goto (pc := 13) S 22 dX7_logJob_13 (by decide) ?_
    exact s_iret (pc := 22) S hz hlo hr ⟨rfl, Or.inr (⟨no_4, rfl, rfl⟩)⟩ (Nat.le_of_ble_eq_true rfl) (Nat.le_of_ble_eq_true rfl) dX7_logJob_22
set_option maxHeartbeats 4000000 in
set_option maxRecDepth 100000 in
theorem k_X7_logPrinter (Z : Zp) (l : Launch) (A : AF) (C : CF) (x : Int32) (hO : OkR C) : CtS Z l yX7_logPrinter wsX7_logPrinter ({ frames := 2, cells := 0, slots := 0, locals := 43 }) [.ref (A 60 100), .int x] A C 0 0 (fun v A2 C2 => A = A2 ∧ ((∃ k_2 : Nat, k_2 < C 60 100 31 ∧ nI k_2 = x ∧ (up3 C 60 100 27 0) = C2 ∧ some (.int (nI (C 60 22 k_2))) = v) ∨ ((∀ k : Nat, k < C 60 100 31 → nI k ≠ x) ∧ (up3 C 60 100 27 1) = C2 ∧ some (.int (nI 0)) = v))) (fun _ _ _ => False) := by
  refine CtS.of (cc0 := cX7_logPrinter) (maxL := 2) (ret := (some .int)) (by decide) rfl (Nat.le_of_ble_eq_true rfl) ?_
  intro M0_ p_ e_ s_ m_ args_ below_ meth_ c_ S hz hml hex hlo hr hin
  refine s_loc (L2 := [(0, .ref (A 60 100)), (1, .int x)]) rfl ?_
  have i_RX7 : ∀ w ∈ u_ws RX7 TX7 38, w ∈ wsX7_logPrinter := by decide +kernel
  obtain ⟨oU, oP, oJ, oTc, oY, o8, o9, o10, o11, o12, o13, o14, o15, oX, oQ, oB, oK, oS, oJk, oM, oCo, oSh, oLg, oPo, oLl, oL2, oL3, oL4, oLle, oE1, oE2, oE3, oE4⟩ := id hO
  have hu : C 60 100 28 < 2 ^ 30 := by omega
  have hp : C 60 100 29 < 2 ^ 30 := by omega
  have hj : C 60 100 30 < 2 ^ 30 := by omega
  have hlg : C 60 100 31 < 2 ^ 30 := by omega
  have hp4 := oP
  have htc := oTc
  refine s_aload_n (pc := 0) S 0 dX7_logPrinter_0 rfl rfl ?_
  refine s_aload_n (pc := 1) S 0 dX7_logPrinter_1 rfl rfl ?_
  refine s_iload_n (pc := 2) S 1 dX7_logPrinter_2 rfl rfl ?_
  refine s_callV (pc := 3) S hz hml [.int x] (k_X7_isEntry Z l A C x hlg) (cwV 1 S.2.2.2.2 gX7_logPrinter_X7_isEntry rfl rfl rfl (by decide +kernel) ⟨Nat.le_of_ble_eq_true rfl, Nat.le_of_ble_eq_true rfl⟩) (cc_mod (A := A) (C := C)) rfl rfl rfl (Nat.le_of_ble_eq_true rfl) dX7_logPrinter_3 ⟨Nat.le_of_ble_eq_true rfl, Nat.le_of_ble_eq_true rfl⟩ (fun _ _ _ h => h.elim) (fun v A2 C2 h_1 => ?_)
  rcases h_1 with ⟨rfl, rfl, ⟨k_2, hk_3, rfl, rfl⟩ | ⟨no_4, rfl⟩⟩
  · have z_5 := oE1 k_2
    have z_6 := oE2 k_2
    have z_7 := oE3 k_2
    have z_8 := oE4 k_2
    refine s_callV (pc := 6) S hz hml [.int (nI 1)] (k_X7_checked Z l A C 1 (by decide)) (cwV 1 S.2.2.2.2 gX7_logPrinter_X7_checked rfl rfl rfl (by decide +kernel) ⟨Nat.le_of_ble_eq_true rfl, Nat.le_of_ble_eq_true rfl⟩) (cc_mod (A := A) (C := C)) rfl rfl rfl (Nat.le_of_ble_eq_true rfl) dX7_logPrinter_6 ⟨Nat.le_of_ble_eq_true rfl, Nat.le_of_ble_eq_true rfl⟩ (fun _ _ _ h => h.elim) (fun v A2 C2 h_9 => ?_)
    obtain ⟨rfl, rfl, rfl⟩ := h_9
    refine s_if_leN (pc := 9) S 16 dX7_logPrinter_9 (by decide) (by decide) (fun _ => ?_) (fun h => absurd h (by decide))
    refine s_aload_n (pc := 16) S 0 dX7_logPrinter_16 rfl rfl ?_
    refine s_get (pc := 17) S hz (ref := "SpoolFarmModel") (v := .ref (A 60 22)) (cc_mod (A := A) (C := (up3 C 60 100 27 0))) i_RX7 rfl 22 (Nat.le_of_ble_eq_true rfl) (by decide +kernel) (fun _ h => h) rfl dX7_logPrinter_17 ?_
    refine s_iload_n (pc := 20) S 1 dX7_logPrinter_20 rfl rfl ?_
    refine s_iald (pc := 21) S hz (x := C 60 22 k_2) (cc_row (A := A) (C := (up3 C 60 100 27 0)) (x := aN .int (C 61 22 0) ((up3 C 60 100 27 0) 60 22)) 22 (by decide) rfl) (by omega) (by omega) rfl dX7_logPrinter_21 ?_
    exact s_iret (pc := 22) S hz hlo hr ⟨rfl, Or.inl ⟨k_2, hk_3, rfl, rfl, rfl⟩⟩ (Nat.le_of_ble_eq_true rfl) (Nat.le_of_ble_eq_true rfl) dX7_logPrinter_22
  · refine s_callV (pc := 6) S hz hml [.int (nI 0)] (k_X7_checked Z l A C 0 (by decide)) (cwV 1 S.2.2.2.2 gX7_logPrinter_X7_checked rfl rfl rfl (by decide +kernel) ⟨Nat.le_of_ble_eq_true rfl, Nat.le_of_ble_eq_true rfl⟩) (cc_mod (A := A) (C := C)) rfl rfl rfl (Nat.le_of_ble_eq_true rfl) dX7_logPrinter_6 ⟨Nat.le_of_ble_eq_true rfl, Nat.le_of_ble_eq_true rfl⟩ (fun _ _ _ h => h.elim) (fun v A2 C2 h_10 => ?_)
    obtain ⟨rfl, rfl, rfl⟩ := h_10
    refine s_if_leN (pc := 9) S 16 dX7_logPrinter_9 (by decide) (by decide) (fun h => absurd h (by decide)) (fun _ => ?_)
    refine s_iconst (pc := 12) S (v := (nI 0)) dX7_logPrinter_12 (by decide) ?_
    refine s_goto (pc := 13) S 22 dX7_logPrinter_13 (by decide) ?_
    exact s_iret (pc := 22) S hz hlo hr ⟨rfl, Or.inr (⟨no_4, rfl, rfl⟩)⟩ (Nat.le_of_ble_eq_true rfl) (Nat.le_of_ble_eq_true rfl) dX7_logPrinter_22
set_option maxHeartbeats 4000000 in
set_option maxRecDepth 100000 in
theorem k_X7_logPages (Z : Zp) (l : Launch) (A : AF) (C : CF) (x : Int32) (hO : OkR C) : CtS Z l yX7_logPages wsX7_logPages ({ frames := 2, cells := 0, slots := 0, locals := 43 }) [.ref (A 60 100), .int x] A C 0 0 (fun v A2 C2 => A = A2 ∧ ((∃ k_2 : Nat, k_2 < C 60 100 31 ∧ nI k_2 = x ∧ (up3 C 60 100 27 0) = C2 ∧ some (.int (nI (C 60 23 k_2))) = v) ∨ ((∀ k : Nat, k < C 60 100 31 → nI k ≠ x) ∧ (up3 C 60 100 27 1) = C2 ∧ some (.int (nI 0)) = v))) (fun _ _ _ => False) := by
  refine CtS.of (cc0 := cX7_logPages) (maxL := 2) (ret := (some .int)) (by decide) rfl (Nat.le_of_ble_eq_true rfl) ?_
  intro M0_ p_ e_ s_ m_ args_ below_ meth_ c_ S hz hml hex hlo hr hin
  refine s_loc (L2 := [(0, .ref (A 60 100)), (1, .int x)]) rfl ?_
  have i_RX7 : ∀ w ∈ u_ws RX7 TX7 38, w ∈ wsX7_logPages := by decide +kernel
  obtain ⟨oU, oP, oJ, oTc, oY, o8, o9, o10, o11, o12, o13, o14, o15, oX, oQ, oB, oK, oS, oJk, oM, oCo, oSh, oLg, oPo, oLl, oL2, oL3, oL4, oLle, oE1, oE2, oE3, oE4⟩ := id hO
  have hu : C 60 100 28 < 2 ^ 30 := by omega
  have hp : C 60 100 29 < 2 ^ 30 := by omega
  have hj : C 60 100 30 < 2 ^ 30 := by omega
  have hlg : C 60 100 31 < 2 ^ 30 := by omega
  have hp4 := oP
  have htc := oTc
  refine s_aload_n (pc := 0) S 0 dX7_logPages_0 rfl rfl ?_
  refine s_aload_n (pc := 1) S 0 dX7_logPages_1 rfl rfl ?_
  refine s_iload_n (pc := 2) S 1 dX7_logPages_2 rfl rfl ?_
  refine s_callV (pc := 3) S hz hml [.int x] (k_X7_isEntry Z l A C x hlg) (cwV 1 S.2.2.2.2 gX7_logPages_X7_isEntry rfl rfl rfl (by decide +kernel) ⟨Nat.le_of_ble_eq_true rfl, Nat.le_of_ble_eq_true rfl⟩) (cc_mod (A := A) (C := C)) rfl rfl rfl (Nat.le_of_ble_eq_true rfl) dX7_logPages_3 ⟨Nat.le_of_ble_eq_true rfl, Nat.le_of_ble_eq_true rfl⟩ (fun _ _ _ h => h.elim) (fun v A2 C2 h_1 => ?_)
  rcases h_1 with ⟨rfl, rfl, ⟨k_2, hk_3, rfl, rfl⟩ | ⟨no_4, rfl⟩⟩
  · have z_5 := oE1 k_2
    have z_6 := oE2 k_2
    have z_7 := oE3 k_2
    have z_8 := oE4 k_2
    refine s_callV (pc := 6) S hz hml [.int (nI 1)] (k_X7_checked Z l A C 1 (by decide)) (cwV 1 S.2.2.2.2 gX7_logPages_X7_checked rfl rfl rfl (by decide +kernel) ⟨Nat.le_of_ble_eq_true rfl, Nat.le_of_ble_eq_true rfl⟩) (cc_mod (A := A) (C := C)) rfl rfl rfl (Nat.le_of_ble_eq_true rfl) dX7_logPages_6 ⟨Nat.le_of_ble_eq_true rfl, Nat.le_of_ble_eq_true rfl⟩ (fun _ _ _ h => h.elim) (fun v A2 C2 h_9 => ?_)
    obtain ⟨rfl, rfl, rfl⟩ := h_9
    refine s_if_leN (pc := 9) S 16 dX7_logPages_9 (by decide) (by decide) (fun _ => ?_) (fun h => absurd h (by decide))
    refine s_aload_n (pc := 16) S 0 dX7_logPages_16 rfl rfl ?_
    refine s_get (pc := 17) S hz (ref := "SpoolFarmModel") (v := .ref (A 60 23)) (cc_mod (A := A) (C := (up3 C 60 100 27 0))) i_RX7 rfl 23 (Nat.le_of_ble_eq_true rfl) (by decide +kernel) (fun _ h => h) rfl dX7_logPages_17 ?_
    refine s_iload_n (pc := 20) S 1 dX7_logPages_20 rfl rfl ?_
    refine s_iald (pc := 21) S hz (x := C 60 23 k_2) (cc_row (A := A) (C := (up3 C 60 100 27 0)) (x := aN .int (C 61 23 0) ((up3 C 60 100 27 0) 60 23)) 23 (by decide) rfl) (by omega) (by omega) rfl dX7_logPages_21 ?_
    exact s_iret (pc := 22) S hz hlo hr ⟨rfl, Or.inl ⟨k_2, hk_3, rfl, rfl, rfl⟩⟩ (Nat.le_of_ble_eq_true rfl) (Nat.le_of_ble_eq_true rfl) dX7_logPages_22
  · refine s_callV (pc := 6) S hz hml [.int (nI 0)] (k_X7_checked Z l A C 0 (by decide)) (cwV 1 S.2.2.2.2 gX7_logPages_X7_checked rfl rfl rfl (by decide +kernel) ⟨Nat.le_of_ble_eq_true rfl, Nat.le_of_ble_eq_true rfl⟩) (cc_mod (A := A) (C := C)) rfl rfl rfl (Nat.le_of_ble_eq_true rfl) dX7_logPages_6 ⟨Nat.le_of_ble_eq_true rfl, Nat.le_of_ble_eq_true rfl⟩ (fun _ _ _ h => h.elim) (fun v A2 C2 h_10 => ?_)
    obtain ⟨rfl, rfl, rfl⟩ := h_10
    refine s_if_leN (pc := 9) S 16 dX7_logPages_9 (by decide) (by decide) (fun h => absurd h (by decide)) (fun _ => ?_)
    refine s_iconst (pc := 12) S (v := (nI 0)) dX7_logPages_12 (by decide) ?_
    refine s_goto (pc := 13) S 22 dX7_logPages_13 (by decide) ?_
    exact s_iret (pc := 22) S hz hlo hr ⟨rfl, Or.inr (⟨no_4, rfl, rfl⟩)⟩ (Nat.le_of_ble_eq_true rfl) (Nat.le_of_ble_eq_true rfl) dX7_logPages_22
set_option maxHeartbeats 4000000 in
set_option maxRecDepth 100000 in
theorem k_X7_logSheets (Z : Zp) (l : Launch) (A : AF) (C : CF) (x : Int32) (hO : OkR C) : CtS Z l yX7_logSheets wsX7_logSheets ({ frames := 2, cells := 0, slots := 0, locals := 43 }) [.ref (A 60 100), .int x] A C 0 0 (fun v A2 C2 => A = A2 ∧ ((∃ k_2 : Nat, k_2 < C 60 100 31 ∧ nI k_2 = x ∧ (up3 C 60 100 27 0) = C2 ∧ some (.int (nI (C 60 24 k_2))) = v) ∨ ((∀ k : Nat, k < C 60 100 31 → nI k ≠ x) ∧ (up3 C 60 100 27 1) = C2 ∧ some (.int (nI 0)) = v))) (fun _ _ _ => False) := by
  refine CtS.of (cc0 := cX7_logSheets) (maxL := 2) (ret := (some .int)) (by decide) rfl (Nat.le_of_ble_eq_true rfl) ?_
  intro M0_ p_ e_ s_ m_ args_ below_ meth_ c_ S hz hml hex hlo hr hin
  refine s_loc (L2 := [(0, .ref (A 60 100)), (1, .int x)]) rfl ?_
  have i_RX7 : ∀ w ∈ u_ws RX7 TX7 38, w ∈ wsX7_logSheets := by decide +kernel
  obtain ⟨oU, oP, oJ, oTc, oY, o8, o9, o10, o11, o12, o13, o14, o15, oX, oQ, oB, oK, oS, oJk, oM, oCo, oSh, oLg, oPo, oLl, oL2, oL3, oL4, oLle, oE1, oE2, oE3, oE4⟩ := id hO
  have hu : C 60 100 28 < 2 ^ 30 := by omega
  have hp : C 60 100 29 < 2 ^ 30 := by omega
  have hj : C 60 100 30 < 2 ^ 30 := by omega
  have hlg : C 60 100 31 < 2 ^ 30 := by omega
  have hp4 := oP
  have htc := oTc
  refine s_aload_n (pc := 0) S 0 dX7_logSheets_0 rfl rfl ?_
  refine s_aload_n (pc := 1) S 0 dX7_logSheets_1 rfl rfl ?_
  refine s_iload_n (pc := 2) S 1 dX7_logSheets_2 rfl rfl ?_
  refine s_callV (pc := 3) S hz hml [.int x] (k_X7_isEntry Z l A C x hlg) (cwV 1 S.2.2.2.2 gX7_logSheets_X7_isEntry rfl rfl rfl (by decide +kernel) ⟨Nat.le_of_ble_eq_true rfl, Nat.le_of_ble_eq_true rfl⟩) (cc_mod (A := A) (C := C)) rfl rfl rfl (Nat.le_of_ble_eq_true rfl) dX7_logSheets_3 ⟨Nat.le_of_ble_eq_true rfl, Nat.le_of_ble_eq_true rfl⟩ (fun _ _ _ h => h.elim) (fun v A2 C2 h_1 => ?_)
  rcases h_1 with ⟨rfl, rfl, ⟨k_2, hk_3, rfl, rfl⟩ | ⟨no_4, rfl⟩⟩
  · have z_5 := oE1 k_2
    have z_6 := oE2 k_2
    have z_7 := oE3 k_2
    have z_8 := oE4 k_2
    refine s_callV (pc := 6) S hz hml [.int (nI 1)] (k_X7_checked Z l A C 1 (by decide)) (cwV 1 S.2.2.2.2 gX7_logSheets_X7_checked rfl rfl rfl (by decide +kernel) ⟨Nat.le_of_ble_eq_true rfl, Nat.le_of_ble_eq_true rfl⟩) (cc_mod (A := A) (C := C)) rfl rfl rfl (Nat.le_of_ble_eq_true rfl) dX7_logSheets_6 ⟨Nat.le_of_ble_eq_true rfl, Nat.le_of_ble_eq_true rfl⟩ (fun _ _ _ h => h.elim) (fun v A2 C2 h_9 => ?_)
    obtain ⟨rfl, rfl, rfl⟩ := h_9
    refine s_if_leN (pc := 9) S 16 dX7_logSheets_9 (by decide) (by decide) (fun _ => ?_) (fun h => absurd h (by decide))
    refine s_aload_n (pc := 16) S 0 dX7_logSheets_16 rfl rfl ?_
    refine s_get (pc := 17) S hz (ref := "SpoolFarmModel") (v := .ref (A 60 24)) (cc_mod (A := A) (C := (up3 C 60 100 27 0))) i_RX7 rfl 24 (Nat.le_of_ble_eq_true rfl) (by decide +kernel) (fun _ h => h) rfl dX7_logSheets_17 ?_
    refine s_iload_n (pc := 20) S 1 dX7_logSheets_20 rfl rfl ?_
    refine s_iald (pc := 21) S hz (x := C 60 24 k_2) (cc_row (A := A) (C := (up3 C 60 100 27 0)) (x := aN .int (C 61 24 0) ((up3 C 60 100 27 0) 60 24)) 24 (by decide) rfl) (by omega) (by omega) rfl dX7_logSheets_21 ?_
    exact s_iret (pc := 22) S hz hlo hr ⟨rfl, Or.inl ⟨k_2, hk_3, rfl, rfl, rfl⟩⟩ (Nat.le_of_ble_eq_true rfl) (Nat.le_of_ble_eq_true rfl) dX7_logSheets_22
  · refine s_callV (pc := 6) S hz hml [.int (nI 0)] (k_X7_checked Z l A C 0 (by decide)) (cwV 1 S.2.2.2.2 gX7_logSheets_X7_checked rfl rfl rfl (by decide +kernel) ⟨Nat.le_of_ble_eq_true rfl, Nat.le_of_ble_eq_true rfl⟩) (cc_mod (A := A) (C := C)) rfl rfl rfl (Nat.le_of_ble_eq_true rfl) dX7_logSheets_6 ⟨Nat.le_of_ble_eq_true rfl, Nat.le_of_ble_eq_true rfl⟩ (fun _ _ _ h => h.elim) (fun v A2 C2 h_10 => ?_)
    obtain ⟨rfl, rfl, rfl⟩ := h_10
    refine s_if_leN (pc := 9) S 16 dX7_logSheets_9 (by decide) (by decide) (fun h => absurd h (by decide)) (fun _ => ?_)
    refine s_iconst (pc := 12) S (v := (nI 0)) dX7_logSheets_12 (by decide) ?_
    refine s_goto (pc := 13) S 22 dX7_logSheets_13 (by decide) ?_
    exact s_iret (pc := 22) S hz hlo hr ⟨rfl, Or.inr (⟨no_4, rfl, rfl⟩)⟩ (Nat.le_of_ble_eq_true rfl) (Nat.le_of_ble_eq_true rfl) dX7_logSheets_22
set_option maxHeartbeats 4000000 in
set_option maxRecDepth 100000 in
theorem k_X7_pagesOf (Z : Zp) (l : Launch) (A : AF) (C : CF) (x : Int32) (hO : OkR C) : CtS Z l yX7_pagesOf wsX7_pagesOf ({ frames := 2, cells := 0, slots := 0, locals := 43 }) [.ref (A 60 100), .int x] A C 0 0 (fun v A2 C2 => A = A2 ∧ ((∃ k_2 : Nat, k_2 < C 60 100 28 ∧ nI k_2 = x ∧ (up3 C 60 100 27 0) = C2 ∧ some (.int (nI (C 60 1 k_2))) = v) ∨ ((∀ k : Nat, k < C 60 100 28 → nI k ≠ x) ∧ (up3 C 60 100 27 1) = C2 ∧ some (.int (nI 0)) = v))) (fun _ _ _ => False) := by
  refine CtS.of (cc0 := cX7_pagesOf) (maxL := 2) (ret := (some .int)) (by decide) rfl (Nat.le_of_ble_eq_true rfl) ?_
  intro M0_ p_ e_ s_ m_ args_ below_ meth_ c_ S hz hml hex hlo hr hin
  refine s_loc (L2 := [(0, .ref (A 60 100)), (1, .int x)]) rfl ?_
  have i_RX7 : ∀ w ∈ u_ws RX7 TX7 38, w ∈ wsX7_pagesOf := by decide +kernel
  obtain ⟨oU, oP, oJ, oTc, oY, o8, o9, o10, o11, o12, o13, o14, o15, oX, oQ, oB, oK, oS, oJk, oM, oCo, oSh, oLg, oPo, oLl, oL2, oL3, oL4, oLle, oE1, oE2, oE3, oE4⟩ := id hO
  have hu : C 60 100 28 < 2 ^ 30 := by omega
  have hp : C 60 100 29 < 2 ^ 30 := by omega
  have hj : C 60 100 30 < 2 ^ 30 := by omega
  have hlg : C 60 100 31 < 2 ^ 30 := by omega
  have hp4 := oP
  have htc := oTc
  refine s_aload_n (pc := 0) S 0 dX7_pagesOf_0 rfl rfl ?_
  refine s_aload_n (pc := 1) S 0 dX7_pagesOf_1 rfl rfl ?_
  refine s_iload_n (pc := 2) S 1 dX7_pagesOf_2 rfl rfl ?_
  refine s_callV (pc := 3) S hz hml [.int x] (k_X7_isUser Z l A C x hu) (cwV 1 S.2.2.2.2 gX7_pagesOf_X7_isUser rfl rfl rfl (by decide +kernel) ⟨Nat.le_of_ble_eq_true rfl, Nat.le_of_ble_eq_true rfl⟩) (cc_mod (A := A) (C := C)) rfl rfl rfl (Nat.le_of_ble_eq_true rfl) dX7_pagesOf_3 ⟨Nat.le_of_ble_eq_true rfl, Nat.le_of_ble_eq_true rfl⟩ (fun _ _ _ h => h.elim) (fun v A2 C2 h_1 => ?_)
  rcases h_1 with ⟨rfl, rfl, ⟨k_2, hk_3, rfl, rfl⟩ | ⟨no_4, rfl⟩⟩
  · have z_5 : k_2 < 6 := by omega
    refine s_callV (pc := 6) S hz hml [.int (nI 1)] (k_X7_checked Z l A C 1 (by decide)) (cwV 1 S.2.2.2.2 gX7_pagesOf_X7_checked rfl rfl rfl (by decide +kernel) ⟨Nat.le_of_ble_eq_true rfl, Nat.le_of_ble_eq_true rfl⟩) (cc_mod (A := A) (C := C)) rfl rfl rfl (Nat.le_of_ble_eq_true rfl) dX7_pagesOf_6 ⟨Nat.le_of_ble_eq_true rfl, Nat.le_of_ble_eq_true rfl⟩ (fun _ _ _ h => h.elim) (fun v A2 C2 h_6 => ?_)
    obtain ⟨rfl, rfl, rfl⟩ := h_6
    refine s_if_leN (pc := 9) S 16 dX7_pagesOf_9 (by decide) (by decide) (fun _ => ?_) (fun h => absurd h (by decide))
    refine s_aload_n (pc := 16) S 0 dX7_pagesOf_16 rfl rfl ?_
    refine s_get (pc := 17) S hz (ref := "SpoolFarmModel") (v := .ref (A 60 1)) (cc_mod (A := A) (C := (up3 C 60 100 27 0))) i_RX7 rfl 1 (Nat.le_of_ble_eq_true rfl) (by decide +kernel) (fun _ h => h) rfl dX7_pagesOf_17 ?_
    refine s_iload_n (pc := 20) S 1 dX7_pagesOf_20 rfl rfl ?_
    refine s_iald (pc := 21) S hz (x := C 60 1 k_2) (cc_row (A := A) (C := (up3 C 60 100 27 0)) (x := aN .int 6 ((up3 C 60 100 27 0) 60 1)) 1 (by decide) rfl) (by omega) (by omega) rfl dX7_pagesOf_21 ?_
    exact s_iret (pc := 22) S hz hlo hr ⟨rfl, Or.inl ⟨k_2, hk_3, rfl, rfl, rfl⟩⟩ (Nat.le_of_ble_eq_true rfl) (Nat.le_of_ble_eq_true rfl) dX7_pagesOf_22
  · refine s_callV (pc := 6) S hz hml [.int (nI 0)] (k_X7_checked Z l A C 0 (by decide)) (cwV 1 S.2.2.2.2 gX7_pagesOf_X7_checked rfl rfl rfl (by decide +kernel) ⟨Nat.le_of_ble_eq_true rfl, Nat.le_of_ble_eq_true rfl⟩) (cc_mod (A := A) (C := C)) rfl rfl rfl (Nat.le_of_ble_eq_true rfl) dX7_pagesOf_6 ⟨Nat.le_of_ble_eq_true rfl, Nat.le_of_ble_eq_true rfl⟩ (fun _ _ _ h => h.elim) (fun v A2 C2 h_7 => ?_)
    obtain ⟨rfl, rfl, rfl⟩ := h_7
    refine s_if_leN (pc := 9) S 16 dX7_pagesOf_9 (by decide) (by decide) (fun h => absurd h (by decide)) (fun _ => ?_)
    refine s_iconst (pc := 12) S (v := (nI 0)) dX7_pagesOf_12 (by decide) ?_
    refine s_goto (pc := 13) S 22 dX7_pagesOf_13 (by decide) ?_
    exact s_iret (pc := 22) S hz hlo hr ⟨rfl, Or.inr (⟨no_4, rfl, rfl⟩)⟩ (Nat.le_of_ble_eq_true rfl) (Nat.le_of_ble_eq_true rfl) dX7_pagesOf_22
set_option maxHeartbeats 4000000 in
set_option maxRecDepth 100000 in
theorem k_X7_pagesByLog (Z : Zp) (l : Launch) (A : AF) (C : CF) (x : Int32) (hO : OkR C) : CtS Z l yX7_pagesByLog wsX7_pagesByLog ({ frames := 3, cells := 0, slots := 0, locals := 64 }) [.ref (A 60 100), .int x] A C 0 0 (fun v A2 C2 => A = A2 ∧ ((∃ k_2 : Nat, k_2 < C 60 100 28 ∧ nI k_2 = x ∧ (up3 C 60 100 27 0) = C2 ∧ some (.int (nI (C 60 1 k_2))) = v) ∨ ((∀ k : Nat, k < C 60 100 28 → nI k ≠ x) ∧ (up3 C 60 100 27 1) = C2 ∧ some (.int (nI 0)) = v))) (fun _ _ _ => False) := by
  refine CtS.of (cc0 := cX7_pagesByLog) (maxL := 2) (ret := (some .int)) (by decide) rfl (Nat.le_of_ble_eq_true rfl) ?_
  intro M0_ p_ e_ s_ m_ args_ below_ meth_ c_ S hz hml hex hlo hr hin
  refine s_loc (L2 := [(0, .ref (A 60 100)), (1, .int x)]) rfl ?_
  obtain ⟨oU, oP, oJ, oTc, oY, o8, o9, o10, o11, o12, o13, o14, o15, oX, oQ, oB, oK, oS, oJk, oM, oCo, oSh, oLg, oPo, oLl, oL2, oL3, oL4, oLle, oE1, oE2, oE3, oE4⟩ := id hO
  have hu : C 60 100 28 < 2 ^ 30 := by omega
  have hp : C 60 100 29 < 2 ^ 30 := by omega
  have hj : C 60 100 30 < 2 ^ 30 := by omega
  have hlg : C 60 100 31 < 2 ^ 30 := by omega
  have hp4 := oP
  have htc := oTc
  refine s_aload_n (pc := 0) S 0 dX7_pagesByLog_0 rfl rfl ?_
  refine s_iload_n (pc := 1) S 1 dX7_pagesByLog_1 rfl rfl ?_
  refine s_callV (pc := 2) S hz hml [.int x] (k_X7_pagesOf Z l A C x hO) (cwV 1 S.2.2.2.2 gX7_pagesByLog_X7_pagesOf rfl rfl rfl (by decide +kernel) ⟨Nat.le_of_ble_eq_true rfl, Nat.le_of_ble_eq_true rfl⟩) (cc_mod (A := A) (C := C)) rfl rfl rfl (Nat.le_of_ble_eq_true rfl) dX7_pagesByLog_2 ⟨Nat.le_of_ble_eq_true rfl, Nat.le_of_ble_eq_true rfl⟩ (fun _ _ _ h => h.elim) (fun v A2 C2 h_1 => ?_)
  rcases h_1 with ⟨rfl, ⟨k_2, f_3, rfl, rfl, rfl⟩ | ⟨f_4, rfl, rfl⟩⟩
  · exact s_iret (pc := 5) S hz hlo hr ⟨rfl, Or.inl ⟨k_2, f_3, rfl, rfl, rfl⟩⟩ (Nat.le_of_ble_eq_true rfl) (Nat.le_of_ble_eq_true rfl) dX7_pagesByLog_5
  · exact s_iret (pc := 5) S hz hlo hr ⟨rfl, Or.inr (⟨f_4, rfl, rfl⟩)⟩ (Nat.le_of_ble_eq_true rfl) (Nat.le_of_ble_eq_true rfl) dX7_pagesByLog_5
set_option maxHeartbeats 4000000 in
set_option maxRecDepth 100000 in
theorem k_X7_billOf (Z : Zp) (l : Launch) (A : AF) (C : CF) (x : Int32) (hO : OkR C) : CtS Z l yX7_billOf wsX7_billOf ({ frames := 2, cells := 0, slots := 0, locals := 43 }) [.ref (A 60 100), .int x] A C 0 0 (fun v A2 C2 => A = A2 ∧ ((∃ k_2 : Nat, k_2 < C 60 100 28 ∧ nI k_2 = x ∧ (up3 C 60 100 27 0) = C2 ∧ some (.long (lN (C 60 7 k_2))) = v) ∨ ((∀ k : Nat, k < C 60 100 28 → nI k ≠ x) ∧ (up3 C 60 100 27 1) = C2 ∧ some (.long (lN 0)) = v))) (fun _ _ _ => False) := by
  refine CtS.of (cc0 := cX7_billOf) (maxL := 2) (ret := (some .long)) (by decide) rfl (Nat.le_of_ble_eq_true rfl) ?_
  intro M0_ p_ e_ s_ m_ args_ below_ meth_ c_ S hz hml hex hlo hr hin
  refine s_loc (L2 := [(0, .ref (A 60 100)), (1, .int x)]) rfl ?_
  have i_RX7 : ∀ w ∈ u_ws RX7 TX7 38, w ∈ wsX7_billOf := by decide +kernel
  obtain ⟨oU, oP, oJ, oTc, oY, o8, o9, o10, o11, o12, o13, o14, o15, oX, oQ, oB, oK, oS, oJk, oM, oCo, oSh, oLg, oPo, oLl, oL2, oL3, oL4, oLle, oE1, oE2, oE3, oE4⟩ := id hO
  have hu : C 60 100 28 < 2 ^ 30 := by omega
  have hp : C 60 100 29 < 2 ^ 30 := by omega
  have hj : C 60 100 30 < 2 ^ 30 := by omega
  have hlg : C 60 100 31 < 2 ^ 30 := by omega
  have hp4 := oP
  have htc := oTc
  refine s_aload_n (pc := 0) S 0 dX7_billOf_0 rfl rfl ?_
  refine s_aload_n (pc := 1) S 0 dX7_billOf_1 rfl rfl ?_
  refine s_iload_n (pc := 2) S 1 dX7_billOf_2 rfl rfl ?_
  refine s_callV (pc := 3) S hz hml [.int x] (k_X7_isUser Z l A C x hu) (cwV 1 S.2.2.2.2 gX7_billOf_X7_isUser rfl rfl rfl (by decide +kernel) ⟨Nat.le_of_ble_eq_true rfl, Nat.le_of_ble_eq_true rfl⟩) (cc_mod (A := A) (C := C)) rfl rfl rfl (Nat.le_of_ble_eq_true rfl) dX7_billOf_3 ⟨Nat.le_of_ble_eq_true rfl, Nat.le_of_ble_eq_true rfl⟩ (fun _ _ _ h => h.elim) (fun v A2 C2 h_1 => ?_)
  rcases h_1 with ⟨rfl, rfl, ⟨k_2, hk_3, rfl, rfl⟩ | ⟨no_4, rfl⟩⟩
  · have z_5 : k_2 < 6 := by omega
    refine s_callV (pc := 6) S hz hml [.int (nI 1)] (k_X7_checked Z l A C 1 (by decide)) (cwV 1 S.2.2.2.2 gX7_billOf_X7_checked rfl rfl rfl (by decide +kernel) ⟨Nat.le_of_ble_eq_true rfl, Nat.le_of_ble_eq_true rfl⟩) (cc_mod (A := A) (C := C)) rfl rfl rfl (Nat.le_of_ble_eq_true rfl) dX7_billOf_6 ⟨Nat.le_of_ble_eq_true rfl, Nat.le_of_ble_eq_true rfl⟩ (fun _ _ _ h => h.elim) (fun v A2 C2 h_6 => ?_)
    obtain ⟨rfl, rfl, rfl⟩ := h_6
    refine s_if_leN (pc := 9) S 16 dX7_billOf_9 (by decide) (by decide) (fun _ => ?_) (fun h => absurd h (by decide))
    refine s_aload_n (pc := 16) S 0 dX7_billOf_16 rfl rfl ?_
    refine s_get (pc := 17) S hz (ref := "SpoolFarmModel") (v := .ref (A 60 7)) (cc_mod (A := A) (C := (up3 C 60 100 27 0))) i_RX7 rfl 7 (Nat.le_of_ble_eq_true rfl) (by decide +kernel) (fun _ h => h) rfl dX7_billOf_17 ?_
    refine s_iload_n (pc := 20) S 1 dX7_billOf_20 rfl rfl ?_
    refine s_lald (pc := 21) S hz (x := lN (C 60 7 k_2)) (cc_row (A := A) (C := (up3 C 60 100 27 0)) (x := aL 6 (fun j => lN ((up3 C 60 100 27 0) 60 7 j))) 7 (by decide) rfl) (by omega) (by omega) rfl dX7_billOf_21 ?_
    exact s_lret (pc := 22) S hz hlo hr ⟨rfl, Or.inl ⟨k_2, hk_3, rfl, rfl, rfl⟩⟩ (Nat.le_of_ble_eq_true rfl) (Nat.le_of_ble_eq_true rfl) dX7_billOf_22
  · refine s_callV (pc := 6) S hz hml [.int (nI 0)] (k_X7_checked Z l A C 0 (by decide)) (cwV 1 S.2.2.2.2 gX7_billOf_X7_checked rfl rfl rfl (by decide +kernel) ⟨Nat.le_of_ble_eq_true rfl, Nat.le_of_ble_eq_true rfl⟩) (cc_mod (A := A) (C := C)) rfl rfl rfl (Nat.le_of_ble_eq_true rfl) dX7_billOf_6 ⟨Nat.le_of_ble_eq_true rfl, Nat.le_of_ble_eq_true rfl⟩ (fun _ _ _ h => h.elim) (fun v A2 C2 h_7 => ?_)
    obtain ⟨rfl, rfl, rfl⟩ := h_7
    refine s_if_leN (pc := 9) S 16 dX7_billOf_9 (by decide) (by decide) (fun h => absurd h (by decide)) (fun _ => ?_)
    refine s_lconst (pc := 12) S (v := lN 0) dX7_billOf_12 (by decide) ?_
    refine s_goto (pc := 13) S 22 dX7_billOf_13 (by decide) ?_
    exact s_lret (pc := 22) S hz hlo hr ⟨rfl, Or.inr (⟨no_4, rfl, rfl⟩)⟩ (Nat.le_of_ble_eq_true rfl) (Nat.le_of_ble_eq_true rfl) dX7_billOf_22
set_option maxHeartbeats 4000000 in
set_option maxRecDepth 100000 in
theorem k_X7_billByLog (Z : Zp) (l : Launch) (A : AF) (C : CF) (x : Int32) (hO : OkR C) : CtS Z l yX7_billByLog wsX7_billByLog ({ frames := 3, cells := 0, slots := 0, locals := 64 }) [.ref (A 60 100), .int x] A C 0 0 (fun v A2 C2 => A = A2 ∧ ((∃ k_2 : Nat, k_2 < C 60 100 28 ∧ nI k_2 = x ∧ (up3 C 60 100 27 0) = C2 ∧ some (.long (lN (C 60 7 k_2))) = v) ∨ ((∀ k : Nat, k < C 60 100 28 → nI k ≠ x) ∧ (up3 C 60 100 27 1) = C2 ∧ some (.long (lN 0)) = v))) (fun _ _ _ => False) := by
  refine CtS.of (cc0 := cX7_billByLog) (maxL := 2) (ret := (some .long)) (by decide) rfl (Nat.le_of_ble_eq_true rfl) ?_
  intro M0_ p_ e_ s_ m_ args_ below_ meth_ c_ S hz hml hex hlo hr hin
  refine s_loc (L2 := [(0, .ref (A 60 100)), (1, .int x)]) rfl ?_
  obtain ⟨oU, oP, oJ, oTc, oY, o8, o9, o10, o11, o12, o13, o14, o15, oX, oQ, oB, oK, oS, oJk, oM, oCo, oSh, oLg, oPo, oLl, oL2, oL3, oL4, oLle, oE1, oE2, oE3, oE4⟩ := id hO
  have hu : C 60 100 28 < 2 ^ 30 := by omega
  have hp : C 60 100 29 < 2 ^ 30 := by omega
  have hj : C 60 100 30 < 2 ^ 30 := by omega
  have hlg : C 60 100 31 < 2 ^ 30 := by omega
  have hp4 := oP
  have htc := oTc
  refine s_aload_n (pc := 0) S 0 dX7_billByLog_0 rfl rfl ?_
  refine s_iload_n (pc := 1) S 1 dX7_billByLog_1 rfl rfl ?_
  refine s_callV (pc := 2) S hz hml [.int x] (k_X7_billOf Z l A C x hO) (cwV 1 S.2.2.2.2 gX7_billByLog_X7_billOf rfl rfl rfl (by decide +kernel) ⟨Nat.le_of_ble_eq_true rfl, Nat.le_of_ble_eq_true rfl⟩) (cc_mod (A := A) (C := C)) rfl rfl rfl (Nat.le_of_ble_eq_true rfl) dX7_billByLog_2 ⟨Nat.le_of_ble_eq_true rfl, Nat.le_of_ble_eq_true rfl⟩ (fun _ _ _ h => h.elim) (fun v A2 C2 h_1 => ?_)
  rcases h_1 with ⟨rfl, ⟨k_2, f_3, rfl, rfl, rfl⟩ | ⟨f_4, rfl, rfl⟩⟩
  · exact s_lret (pc := 5) S hz hlo hr ⟨rfl, Or.inl ⟨k_2, f_3, rfl, rfl, rfl⟩⟩ (Nat.le_of_ble_eq_true rfl) (Nat.le_of_ble_eq_true rfl) dX7_billByLog_5
  · exact s_lret (pc := 5) S hz hlo hr ⟨rfl, Or.inr (⟨f_4, rfl, rfl⟩)⟩ (Nat.le_of_ble_eq_true rfl) (Nat.le_of_ble_eq_true rfl) dX7_billByLog_5
set_option maxHeartbeats 4000000 in
set_option maxRecDepth 100000 in
theorem k_X7_isConsistent (Z : Zp) (l : Launch) (A : AF) (C : CF) (hO : OkR C) : CtS Z l yX7_isConsistent wsX7_isConsistent ({ frames := 0, cells := 0, slots := 0, locals := 0 }) [.ref (A 60 100)] A C 0 0 (fun v A2 C2 => A = A2 ∧ ((up3 C 60 100 27 0) = C2 ∧ some (.int (nI 1)) = v)) (fun _ _ _ => False) := by
  refine CtS.of (cc0 := cX7_isConsistent) (maxL := 1) (ret := (some .boolean)) (by decide) rfl (Nat.le_of_ble_eq_true rfl) ?_
  intro M0_ p_ e_ s_ m_ args_ below_ meth_ c_ S hz hml hex hlo hr hin
  refine s_loc (L2 := [(0, .ref (A 60 100))]) rfl ?_
  have i_RX7 : ∀ w ∈ u_ws RX7 TX7 38, w ∈ wsX7_isConsistent := by decide +kernel
  obtain ⟨oU, oP, oJ, oTc, oY, o8, o9, o10, o11, o12, o13, o14, o15, oX, oQ, oB, oK, oS, oJk, oM, oCo, oSh, oLg, oPo, oLl, oL2, oL3, oL4, oLle, oE1, oE2, oE3, oE4⟩ := id hO
  have hu : C 60 100 28 < 2 ^ 30 := by omega
  have hp : C 60 100 29 < 2 ^ 30 := by omega
  have hj : C 60 100 30 < 2 ^ 30 := by omega
  have hlg : C 60 100 31 < 2 ^ 30 := by omega
  have hp4 := oP
  have htc := oTc
  refine s_aload_n (pc := 0) S 0 dX7_isConsistent_0 rfl rfl ?_
  refine s_iconst (pc := 1) S (v := (nI 0)) dX7_isConsistent_1 (by decide) ?_
  refine s_put (pc := 2) S hz (ref := "SpoolFarmModel") (ty := .int) (cc_mod (A := A) (C := C)) i_RX7 tyX7 tyX7_ok nmX7 rfl 27 (Nat.le_of_ble_eq_true rfl) (by decide +kernel) (fun _ h => h) rfl (by decide +kernel) rfl rfl (Nat.le_of_ble_eq_true rfl) (up3 C 60 100 27 0) cu_mod (by rw [(cc_mod (A := A) (C := (up3 C 60 100 27 0))), up3_u]; rfl) dX7_isConsistent_2 ?_
  refine s_iconst (pc := 5) S (v := (nI 1)) dX7_isConsistent_5 (by decide) ?_
  exact s_zret (pc := 6) S hz hlo (nar_z (by omega)) hr ⟨rfl, ⟨rfl, rfl⟩⟩ (Nat.le_of_ble_eq_true rfl) (Nat.le_of_ble_eq_true rfl) dX7_isConsistent_6
