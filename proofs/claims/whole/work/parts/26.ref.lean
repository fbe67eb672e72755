set_option maxHeartbeats 4000000 in
set_option maxRecDepth 100000 in
theorem k_X7_addUser (Z : Zp) (l : Launch) (A : AF) (C : CF) (x y : Int32) (hO : OkR C) : CtS Z l yX7_addUser wsX7_addUser ({ frames := 1, cells := 0, slots := 0, locals := 22 }) [.ref (A 60 100), .int x, .int y] A C 0 0 (fun v A2 C2 => A = A2 ∧ ((∃ w_5 w_12 : Nat, 0 ≤ w_5 ∧ w_5 ≤ 999 ∧ nI w_5 = x ∧ 0 ≤ w_12 ∧ w_12 ≤ 999 ∧ nI w_12 = y ∧ ¬ C 60 100 28 = 6 ∧ (up3 (up3 (up3 (up3 C 60 100 27 0) 60 0 (2 * (C 60 100 28)) w_5) 60 0 ((2 * (C 60 100 28)) + 1) w_12) 60 100 28 ((C 60 100 28) + 1)) = C2 ∧ some (.int (nI (((C 60 100 28) + 1) - 1))) = v) ∨ (∃ w_5 w_12 : Nat, 0 ≤ w_5 ∧ w_5 ≤ 999 ∧ nI w_5 = x ∧ 0 ≤ w_12 ∧ w_12 ≤ 999 ∧ nI w_12 = y ∧ C 60 100 28 = 6 ∧ (up3 C 60 100 27 2) = C2 ∧ some (.int (nI 0)) = v) ∨ (∃ w_5 : Nat, 0 ≤ w_5 ∧ w_5 ≤ 999 ∧ nI w_5 = x ∧ (∀ k : Nat, 0 ≤ k → k ≤ 999 → nI k ≠ y) ∧ (up3 C 60 100 27 1) = C2 ∧ some (.int (nI 0)) = v) ∨ ((∀ k : Nat, 0 ≤ k → k ≤ 999 → nI k ≠ x) ∧ (up3 C 60 100 27 1) = C2 ∧ some (.int (nI 0)) = v))) (fun _ _ _ => False) := by
  refine CtS.of (cc0 := cX7_addUser) (maxL := 3) (ret := (some .int)) (by decide) rfl (Nat.le_of_ble_eq_true rfl) ?_
  intro M0_ p_ e_ s_ m_ args_ below_ meth_ c_ S hz hml hex hlo hr hin
  refine s_loc (L2 := [(0, .ref (A 60 100)), (1, .int x), (2, .int y)]) rfl ?_
  have i_RX7 : ∀ w ∈ u_ws RX7 TX7 38, w ∈ wsX7_addUser := by decide +kernel
  obtain ⟨oU, oP, oJ, oTc, oY, o8, o9, o10, o11, o12, o13, o14, o15, oX, oQ, oB, oK, oS, oJk, oM, oCo, oSh, oLg, oPo, oLl, oL2, oL3, oL4, oLle, oE1, oE2, oE3, oE4⟩ := id hO
  have hu : C 60 100 28 < 2 ^ 30 := by omega
  have hp : C 60 100 29 < 2 ^ 30 := by omega
  have hj : C 60 100 30 < 2 ^ 30 := by omega
  have hlg : C 60 100 31 < 2 ^ 30 := by omega
  have hp4 := oP
  have htc := oTc
  refine s_aload_n (pc := 0) S 0 dX7_addUser_0 rfl rfl ?_
  refine s_iload_n (pc := 1) S 1 dX7_addUser_1 rfl rfl ?_
  refine s_iconst (pc := 2) S (v := (nI 0)) dX7_addUser_2 (by decide) ?_
  refine s_sipush (pc := 3) S (v := (nI 999)) dX7_addUser_3 (by decide) ?_
  refine s_callS (pc := 6) S hz hml [.int x, .int (nI 0), .int (nI 999)] (k_X7_in Z l A C x (nI 0) (nI 999)) (cwS 3 S.2.2.2.2 gX7_addUser_X7_in rfl rfl rfl (by decide +kernel) ⟨Nat.le_of_ble_eq_true rfl, Nat.le_of_ble_eq_true rfl⟩) rfl rfl (Nat.le_of_ble_eq_true rfl) dX7_addUser_6 ⟨Nat.le_of_ble_eq_true rfl, Nat.le_of_ble_eq_true rfl⟩ (fun _ _ _ h => h.elim) (fun v A2 C2 h_1 => ?_)
  rcases h_1 with ⟨rfl, rfl, ⟨p_2, p_3, rfl⟩ | ⟨p_4, rfl⟩⟩
  · obtain ⟨w_5, r_6, r_7, rfl⟩ := rg_of (by decide) p_2 p_3 (by decide)
    refine s_if_eqN (pc := 9) S 23 dX7_addUser_9 (by decide) (by decide) (fun h => absurd h (by decide)) (fun _ => ?_)
    refine s_iload_n (pc := 12) S 2 dX7_addUser_12 rfl rfl ?_
    refine s_iconst (pc := 13) S (v := (nI 0)) dX7_addUser_13 (by decide) ?_
    refine s_sipush (pc := 14) S (v := (nI 999)) dX7_addUser_14 (by decide) ?_
    refine s_callS (pc := 17) S hz hml [.int y, .int (nI 0), .int (nI 999)] (k_X7_in Z l A C y (nI 0) (nI 999)) (cwS 3 S.2.2.2.2 gX7_addUser_X7_in rfl rfl rfl (by decide +kernel) ⟨Nat.le_of_ble_eq_true rfl, Nat.le_of_ble_eq_true rfl⟩) rfl rfl (Nat.le_of_ble_eq_true rfl) dX7_addUser_17 ⟨Nat.le_of_ble_eq_true rfl, Nat.le_of_ble_eq_true rfl⟩ (fun _ _ _ h => h.elim) (fun v A2 C2 h_8 => ?_)
    rcases h_8 with ⟨rfl, rfl, ⟨p_9, p_10, rfl⟩ | ⟨p_11, rfl⟩⟩
    · obtain ⟨w_12, r_13, r_14, rfl⟩ := rg_of (by decide) p_9 p_10 (by decide)
      refine s_if_neN (pc := 20) S 27 dX7_addUser_20 (by decide) (by decide) (fun _ => ?_) (fun h => absurd h (by decide))
      refine s_aload_n (pc := 27) S 0 dX7_addUser_27 rfl rfl ?_
      refine s_get (pc := 28) S hz (ref := "SpoolFarmModel") (v := .int (nI (C 60 100 28))) (cc_mod (A := A) (C := C)) i_RX7 rfl 28 (Nat.le_of_ble_eq_true rfl) (by decide +kernel) (fun _ h => h) rfl dX7_addUser_28 ?_
      refine s_bipush (pc := 31) S (v := (nI 6)) dX7_addUser_31 (by decide) ?_
      refine s_icmp_neN (pc := 33) S 40 dX7_addUser_33 (by decide) (by omega) (by omega) (fun c_15 => ?_) (fun c_15 => ?_)
      · refine s_iconst (pc := 40) S (v := (nI 0)) dX7_addUser_40 (by decide) ?_
        refine s_put (pc := 41) S hz (ref := "SpoolFarmModel") (ty := .int) (cc_mod (A := A) (C := C)) i_RX7 tyX7 tyX7_ok nmX7 rfl 27 (Nat.le_of_ble_eq_true rfl) (by decide +kernel) (fun _ h => h) rfl (by decide +kernel) rfl rfl (Nat.le_of_ble_eq_true rfl) (up3 C 60 100 27 0) cu_mod (by rw [(cc_mod (A := A) (C := (up3 C 60 100 27 0))), up3_u]; rfl) dX7_addUser_41 ?_
        refine s_aload_n (pc := 44) S 0 dX7_addUser_44 rfl rfl ?_
        refine s_get (pc := 45) S hz (ref := "SpoolFarmModel") (v := .int (nI 0)) (cc_mod (A := A) (C := (up3 C 60 100 27 0))) i_RX7 rfl 27 (Nat.le_of_ble_eq_true rfl) (by decide +kernel) (fun _ h => h) rfl dX7_addUser_45 ?_
        refine s_if_leN (pc := 48) S 53 dX7_addUser_48 (by decide) (by decide) (fun _ => ?_) (fun h => absurd h (by decide))
        refine s_aload_n (pc := 53) S 0 dX7_addUser_53 rfl rfl ?_
        refine s_get (pc := 54) S hz (ref := "SpoolFarmModel") (v := .ref (A 60 0)) (cc_mod (A := A) (C := (up3 C 60 100 27 0))) i_RX7 rfl 0 (Nat.le_of_ble_eq_true rfl) (by decide +kernel) (fun _ h => h) rfl dX7_addUser_54 ?_
        refine s_iconst (pc := 57) S (v := (nI 2)) dX7_addUser_57 (by decide) ?_
        refine s_aload_n (pc := 58) S 0 dX7_addUser_58 rfl rfl ?_
        refine s_get (pc := 59) S hz (ref := "SpoolFarmModel") (v := .int (nI (C 60 100 28))) (cc_mod (A := A) (C := (up3 C 60 100 27 0))) i_RX7 rfl 28 (Nat.le_of_ble_eq_true rfl) (by decide +kernel) (fun _ h => h) rfl dX7_addUser_59 ?_
        refine s_imulN (pc := 62) S dX7_addUser_62 ?_
        refine s_iload_n (pc := 63) S 1 dX7_addUser_63 rfl rfl ?_
        refine s_iast (pc := 64) S hz (cc_row (A := A) (C := (up3 C 60 100 27 0)) (x := aN .int 12 ((up3 C 60 100 27 0) 60 0)) 0 (by decide) rfl) (by omega) (by omega) (up3 (up3 C 60 100 27 0) 60 0 (2 * (C 60 100 28)) w_5) cu_mod (by rw [(cc_row (A := A) (C := (up3 (up3 C 60 100 27 0) 60 0 (2 * (C 60 100 28)) w_5)) (x := aN .int 12 ((up3 (up3 C 60 100 27 0) 60 0 (2 * (C 60 100 28)) w_5) 60 0)) 0 (by decide) rfl), up3_u]) dX7_addUser_64 ?_
        refine s_aload_n (pc := 65) S 0 dX7_addUser_65 rfl rfl ?_
        refine s_get (pc := 66) S hz (ref := "SpoolFarmModel") (v := .ref (A 60 0)) (cc_mod (A := A) (C := (up3 (up3 C 60 100 27 0) 60 0 (2 * (C 60 100 28)) w_5))) i_RX7 rfl 0 (Nat.le_of_ble_eq_true rfl) (by decide +kernel) (fun _ h => h) rfl dX7_addUser_66 ?_
        refine s_iconst (pc := 69) S (v := (nI 2)) dX7_addUser_69 (by decide) ?_
        refine s_aload_n (pc := 70) S 0 dX7_addUser_70 rfl rfl ?_
        refine s_get (pc := 71) S hz (ref := "SpoolFarmModel") (v := .int (nI (C 60 100 28))) (cc_mod (A := A) (C := (up3 (up3 C 60 100 27 0) 60 0 (2 * (C 60 100 28)) w_5))) i_RX7 rfl 28 (Nat.le_of_ble_eq_true rfl) (by decide +kernel) (fun _ h => h) rfl dX7_addUser_71 ?_
        refine s_imulN (pc := 74) S dX7_addUser_74 ?_
        refine s_iconst (pc := 75) S (v := (nI 1)) dX7_addUser_75 (by decide) ?_
        refine s_iaddN (pc := 76) S dX7_addUser_76 ?_
        refine s_iload_n (pc := 77) S 2 dX7_addUser_77 rfl rfl ?_
        refine s_iast (pc := 78) S hz (cc_row (A := A) (C := (up3 (up3 C 60 100 27 0) 60 0 (2 * (C 60 100 28)) w_5)) (x := aN .int 12 ((up3 (up3 C 60 100 27 0) 60 0 (2 * (C 60 100 28)) w_5) 60 0)) 0 (by decide) rfl) (by omega) (by omega) (up3 (up3 (up3 C 60 100 27 0) 60 0 (2 * (C 60 100 28)) w_5) 60 0 ((2 * (C 60 100 28)) + 1) w_12) cu_mod (by rw [(cc_row (A := A) (C := (up3 (up3 (up3 C 60 100 27 0) 60 0 (2 * (C 60 100 28)) w_5) 60 0 ((2 * (C 60 100 28)) + 1) w_12)) (x := aN .int 12 ((up3 (up3 (up3 C 60 100 27 0) 60 0 (2 * (C 60 100 28)) w_5) 60 0 ((2 * (C 60 100 28)) + 1) w_12) 60 0)) 0 (by decide) rfl), up3_u]) dX7_addUser_78 ?_
        refine s_aload_n (pc := 79) S 0 dX7_addUser_79 rfl rfl ?_
        refine s_dup (pc := 80) S dX7_addUser_80 rfl ?_
        refine s_get (pc := 81) S hz (ref := "SpoolFarmModel") (v := .int (nI (C 60 100 28))) (cc_mod (A := A) (C := (up3 (up3 (up3 C 60 100 27 0) 60 0 (2 * (C 60 100 28)) w_5) 60 0 ((2 * (C 60 100 28)) + 1) w_12))) i_RX7 rfl 28 (Nat.le_of_ble_eq_true rfl) (by decide +kernel) (fun _ h => h) rfl dX7_addUser_81 ?_
        refine s_iconst (pc := 84) S (v := (nI 1)) dX7_addUser_84 (by decide) ?_
        refine s_iaddN (pc := 85) S dX7_addUser_85 ?_
        refine s_put (pc := 86) S hz (ref := "SpoolFarmModel") (ty := .int) (cc_mod (A := A) (C := (up3 (up3 (up3 C 60 100 27 0) 60 0 (2 * (C 60 100 28)) w_5) 60 0 ((2 * (C 60 100 28)) + 1) w_12))) i_RX7 tyX7 tyX7_ok nmX7 rfl 28 (Nat.le_of_ble_eq_true rfl) (by decide +kernel) (fun _ h => h) rfl (by decide +kernel) rfl rfl (Nat.le_of_ble_eq_true rfl) (up3 (up3 (up3 (up3 C 60 100 27 0) 60 0 (2 * (C 60 100 28)) w_5) 60 0 ((2 * (C 60 100 28)) + 1) w_12) 60 100 28 ((C 60 100 28) + 1)) cu_mod (by rw [(cc_mod (A := A) (C := (up3 (up3 (up3 (up3 C 60 100 27 0) 60 0 (2 * (C 60 100 28)) w_5) 60 0 ((2 * (C 60 100 28)) + 1) w_12) 60 100 28 ((C 60 100 28) + 1)))), up3_u]; rfl) dX7_addUser_86 ?_
        refine s_aload_n (pc := 89) S 0 dX7_addUser_89 rfl rfl ?_
        refine s_get (pc := 90) S hz (ref := "SpoolFarmModel") (v := .int (nI ((C 60 100 28) + 1))) (cc_mod (A := A) (C := (up3 (up3 (up3 (up3 C 60 100 27 0) 60 0 (2 * (C 60 100 28)) w_5) 60 0 ((2 * (C 60 100 28)) + 1) w_12) 60 100 28 ((C 60 100 28) + 1)))) i_RX7 rfl 28 (Nat.le_of_ble_eq_true rfl) (by decide +kernel) (fun _ h => h) rfl dX7_addUser_90 ?_
        refine s_iconst (pc := 93) S (v := (nI 1)) dX7_addUser_93 (by decide) ?_
        refine s_isubN (pc := 94) S dX7_addUser_94 (by omega) ?_
        exact s_iret (pc := 95) S hz hlo hr ⟨rfl, Or.inl ⟨w_5, w_12, r_6, r_7, rfl, r_13, r_14, rfl, c_15, rfl, rfl⟩⟩ (Nat.le_of_ble_eq_true rfl) (Nat.le_of_ble_eq_true rfl) dX7_addUser_95
      · refine s_iconst (pc := 36) S (v := (nI 2)) dX7_addUser_36 (by decide) ?_
        refine s_goto (pc := 37) S 41 dX7_addUser_37 (by decide) ?_
        refine s_put (pc := 41) S hz (ref := "SpoolFarmModel") (ty := .int) (cc_mod (A := A) (C := C)) i_RX7 tyX7 tyX7_ok nmX7 rfl 27 (Nat.le_of_ble_eq_true rfl) (by decide +kernel) (fun _ h => h) rfl (by decide +kernel) rfl rfl (Nat.le_of_ble_eq_true rfl) (up3 C 60 100 27 2) cu_mod (by rw [(cc_mod (A := A) (C := (up3 C 60 100 27 2))), up3_u]; rfl) dX7_addUser_41 ?_
        refine s_aload_n (pc := 44) S 0 dX7_addUser_44 rfl rfl ?_
        refine s_get (pc := 45) S hz (ref := "SpoolFarmModel") (v := .int (nI 2)) (cc_mod (A := A) (C := (up3 C 60 100 27 2))) i_RX7 rfl 27 (Nat.le_of_ble_eq_true rfl) (by decide +kernel) (fun _ h => h) rfl dX7_addUser_45 ?_
        refine s_if_leN (pc := 48) S 53 dX7_addUser_48 (by decide) (by decide) (fun h => absurd h (by decide)) (fun _ => ?_)
        refine s_iconst (pc := 51) S (v := (nI 0)) dX7_addUser_51 (by decide) ?_
        exact s_iret (pc := 52) S hz hlo hr ⟨rfl, Or.inr (Or.inl ⟨w_5, w_12, r_6, r_7, rfl, r_13, r_14, rfl, c_15, rfl, rfl⟩)⟩ (Nat.le_of_ble_eq_true rfl) (Nat.le_of_ble_eq_true rfl) dX7_addUser_52
    · have n_16 := rg_no (by decide) (by decide) p_11
      refine s_if_neN (pc := 20) S 27 dX7_addUser_20 (by decide) (by decide) (fun h => absurd h (by decide)) (fun _ => ?_)
      refine s_iconst (pc := 23) S (v := (nI 1)) dX7_addUser_23 (by decide) ?_
      refine s_goto (pc := 24) S 41 dX7_addUser_24 (by decide) ?_
      refine s_put (pc := 41) S hz (ref := "SpoolFarmModel") (ty := .int) (cc_mod (A := A) (C := C)) i_RX7 tyX7 tyX7_ok nmX7 rfl 27 (Nat.le_of_ble_eq_true rfl) (by decide +kernel) (fun _ h => h) rfl (by decide +kernel) rfl rfl (Nat.le_of_ble_eq_true rfl) (up3 C 60 100 27 1) cu_mod (by rw [(cc_mod (A := A) (C := (up3 C 60 100 27 1))), up3_u]; rfl) dX7_addUser_41 ?_
      refine s_aload_n (pc := 44) S 0 dX7_addUser_44 rfl rfl ?_
      refine s_get (pc := 45) S hz (ref := "SpoolFarmModel") (v := .int (nI 1)) (cc_mod (A := A) (C := (up3 C 60 100 27 1))) i_RX7 rfl 27 (Nat.le_of_ble_eq_true rfl) (by decide +kernel) (fun _ h => h) rfl dX7_addUser_45 ?_
      refine s_if_leN (pc := 48) S 53 dX7_addUser_48 (by decide) (by decide) (fun h => absurd h (by decide)) (fun _ => ?_)
      refine s_iconst (pc := 51) S (v := (nI 0)) dX7_addUser_51 (by decide) ?_
      exact s_iret (pc := 52) S hz hlo hr ⟨rfl, Or.inr (Or.inr (Or.inl ⟨w_5, r_6, r_7, rfl, n_16, rfl, rfl⟩))⟩ (Nat.le_of_ble_eq_true rfl) (Nat.le_of_ble_eq_true rfl) dX7_addUser_52
  · have n_17 := rg_no (by decide) (by decide) p_4
    refine s_if_eqN (pc := 9) S 23 dX7_addUser_9 (by decide) (by decide) (fun _ => ?_) (fun h => absurd h (by decide))
    refine s_iconst (pc := 23) S (v := (nI 1)) dX7_addUser_23 (by decide) ?_
    refine s_goto (pc := 24) S 41 dX7_addUser_24 (by decide) ?_
    refine s_put (pc := 41) S hz (ref := "SpoolFarmModel") (ty := .int) (cc_mod (A := A) (C := C)) i_RX7 tyX7 tyX7_ok nmX7 rfl 27 (Nat.le_of_ble_eq_true rfl) (by decide +kernel) (fun _ h => h) rfl (by decide +kernel) rfl rfl (Nat.le_of_ble_eq_true rfl) (up3 C 60 100 27 1) cu_mod (by rw [(cc_mod (A := A) (C := (up3 C 60 100 27 1))), up3_u]; rfl) dX7_addUser_41 ?_
    refine s_aload_n (pc := 44) S 0 dX7_addUser_44 rfl rfl ?_
    refine s_get (pc := 45) S hz (ref := "SpoolFarmModel") (v := .int (nI 1)) (cc_mod (A := A) (C := (up3 C 60 100 27 1))) i_RX7 rfl 27 (Nat.le_of_ble_eq_true rfl) (by decide +kernel) (fun _ h => h) rfl dX7_addUser_45 ?_
    refine s_if_leN (pc := 48) S 53 dX7_addUser_48 (by decide) (by decide) (fun h => absurd h (by decide)) (fun _ => ?_)
    refine s_iconst (pc := 51) S (v := (nI 0)) dX7_addUser_51 (by decide) ?_
    exact s_iret (pc := 52) S hz hlo hr ⟨rfl, Or.inr (Or.inr (Or.inr (⟨n_17, rfl, rfl⟩)))⟩ (Nat.le_of_ble_eq_true rfl) (Nat.le_of_ble_eq_true rfl) dX7_addUser_52
set_option maxHeartbeats 4000000 in
set_option maxRecDepth 100000 in
theorem k_X7_addPrinter (Z : Zp) (l : Launch) (A : AF) (C : CF) (cb : Nat) (x y : Int32) (hcb : cb < 2) (hO : OkR C) : CtS Z l yX7_addPrinter wsX7_addPrinter ({ frames := 1, cells := 0, slots := 0, locals := 22 }) [.ref (A 60 100), .int (nI cb), .int x, .int y] A C 0 0 (fun v A2 C2 => A = A2 ∧ ((∃ w_5 w_12 : Nat, 0 ≤ w_5 ∧ w_5 ≤ 1000 ∧ nI w_5 = x ∧ 0 ≤ w_12 ∧ w_12 ≤ 100 ∧ nI w_12 = y ∧ ¬ C 60 100 29 = 4 ∧ (up3 (up3 (up3 (up3 (up3 (up3 C 60 100 27 0) 60 11 (C 60 100 29) cb) 60 4 (C 60 100 29) w_5) 60 5 (C 60 100 29) w_5) 60 6 (C 60 100 29) w_12) 60 100 29 ((C 60 100 29) + 1)) = C2 ∧ some (.int (nI (((C 60 100 29) + 1) - 1))) = v) ∨ (∃ w_5 w_12 : Nat, 0 ≤ w_5 ∧ w_5 ≤ 1000 ∧ nI w_5 = x ∧ 0 ≤ w_12 ∧ w_12 ≤ 100 ∧ nI w_12 = y ∧ C 60 100 29 = 4 ∧ (up3 C 60 100 27 2) = C2 ∧ some (.int (nI 0)) = v) ∨ (∃ w_5 : Nat, 0 ≤ w_5 ∧ w_5 ≤ 1000 ∧ nI w_5 = x ∧ (∀ k : Nat, 0 ≤ k → k ≤ 100 → nI k ≠ y) ∧ (up3 C 60 100 27 1) = C2 ∧ some (.int (nI 0)) = v) ∨ ((∀ k : Nat, 0 ≤ k → k ≤ 1000 → nI k ≠ x) ∧ (up3 C 60 100 27 1) = C2 ∧ some (.int (nI 0)) = v))) (fun _ _ _ => False) := by
  refine CtS.of (cc0 := cX7_addPrinter) (maxL := 4) (ret := (some .int)) (by decide) rfl (Nat.le_of_ble_eq_true rfl) ?_
  intro M0_ p_ e_ s_ m_ args_ below_ meth_ c_ S hz hml hex hlo hr hin
  refine s_loc (L2 := [(0, .ref (A 60 100)), (1, .int (nI cb)), (2, .int x), (3, .int y)]) rfl ?_
  have i_RX7 : ∀ w ∈ u_ws RX7 TX7 38, w ∈ wsX7_addPrinter := by decide +kernel
  obtain ⟨oU, oP, oJ, oTc, oY, o8, o9, o10, o11, o12, o13, o14, o15, oX, oQ, oB, oK, oS, oJk, oM, oCo, oSh, oLg, oPo, oLl, oL2, oL3, oL4, oLle, oE1, oE2, oE3, oE4⟩ := id hO
  have hu : C 60 100 28 < 2 ^ 30 := by omega
  have hp : C 60 100 29 < 2 ^ 30 := by omega
  have hj : C 60 100 30 < 2 ^ 30 := by omega
  have hlg : C 60 100 31 < 2 ^ 30 := by omega
  have hp4 := oP
  have htc := oTc
  refine s_aload_n (pc := 0) S 0 dX7_addPrinter_0 rfl rfl ?_
  refine s_iload_n (pc := 1) S 2 dX7_addPrinter_1 rfl rfl ?_
  refine s_iconst (pc := 2) S (v := (nI 0)) dX7_addPrinter_2 (by decide) ?_
  refine s_sipush (pc := 3) S (v := (nI 1000)) dX7_addPrinter_3 (by decide) ?_
  refine s_callS (pc := 6) S hz hml [.int x, .int (nI 0), .int (nI 1000)] (k_X7_in Z l A C x (nI 0) (nI 1000)) (cwS 3 S.2.2.2.2 gX7_addPrinter_X7_in rfl rfl rfl (by decide +kernel) ⟨Nat.le_of_ble_eq_true rfl, Nat.le_of_ble_eq_true rfl⟩) rfl rfl (Nat.le_of_ble_eq_true rfl) dX7_addPrinter_6 ⟨Nat.le_of_ble_eq_true rfl, Nat.le_of_ble_eq_true rfl⟩ (fun _ _ _ h => h.elim) (fun v A2 C2 h_1 => ?_)
  rcases h_1 with ⟨rfl, rfl, ⟨p_2, p_3, rfl⟩ | ⟨p_4, rfl⟩⟩
  · obtain ⟨w_5, r_6, r_7, rfl⟩ := rg_of (by decide) p_2 p_3 (by decide)
    refine s_if_eqN (pc := 9) S 22 dX7_addPrinter_9 (by decide) (by decide) (fun h => absurd h (by decide)) (fun _ => ?_)
    refine s_iload_n (pc := 12) S 3 dX7_addPrinter_12 rfl rfl ?_
    refine s_iconst (pc := 13) S (v := (nI 0)) dX7_addPrinter_13 (by decide) ?_
    refine s_bipush (pc := 14) S (v := (nI 100)) dX7_addPrinter_14 (by decide) ?_
    refine s_callS (pc := 16) S hz hml [.int y, .int (nI 0), .int (nI 100)] (k_X7_in Z l A C y (nI 0) (nI 100)) (cwS 3 S.2.2.2.2 gX7_addPrinter_X7_in rfl rfl rfl (by decide +kernel) ⟨Nat.le_of_ble_eq_true rfl, Nat.le_of_ble_eq_true rfl⟩) rfl rfl (Nat.le_of_ble_eq_true rfl) dX7_addPrinter_16 ⟨Nat.le_of_ble_eq_true rfl, Nat.le_of_ble_eq_true rfl⟩ (fun _ _ _ h => h.elim) (fun v A2 C2 h_8 => ?_)
    rcases h_8 with ⟨rfl, rfl, ⟨p_9, p_10, rfl⟩ | ⟨p_11, rfl⟩⟩
    · obtain ⟨w_12, r_13, r_14, rfl⟩ := rg_of (by decide) p_9 p_10 (by decide)
      refine s_if_neN (pc := 19) S 26 dX7_addPrinter_19 (by decide) (by decide) (fun _ => ?_) (fun h => absurd h (by decide))
      refine s_aload_n (pc := 26) S 0 dX7_addPrinter_26 rfl rfl ?_
      refine s_get (pc := 27) S hz (ref := "SpoolFarmModel") (v := .int (nI (C 60 100 29))) (cc_mod (A := A) (C := C)) i_RX7 rfl 29 (Nat.le_of_ble_eq_true rfl) (by decide +kernel) (fun _ h => h) rfl dX7_addPrinter_27 ?_
      refine s_iconst (pc := 30) S (v := (nI 4)) dX7_addPrinter_30 (by decide) ?_
      refine s_icmp_neN (pc := 31) S 38 dX7_addPrinter_31 (by decide) (by omega) (by omega) (fun c_15 => ?_) (fun c_15 => ?_)
      · refine s_iconst (pc := 38) S (v := (nI 0)) dX7_addPrinter_38 (by decide) ?_
        refine s_put (pc := 39) S hz (ref := "SpoolFarmModel") (ty := .int) (cc_mod (A := A) (C := C)) i_RX7 tyX7 tyX7_ok nmX7 rfl 27 (Nat.le_of_ble_eq_true rfl) (by decide +kernel) (fun _ h => h) rfl (by decide +kernel) rfl rfl (Nat.le_of_ble_eq_true rfl) (up3 C 60 100 27 0) cu_mod (by rw [(cc_mod (A := A) (C := (up3 C 60 100 27 0))), up3_u]; rfl) dX7_addPrinter_39 ?_
        refine s_aload_n (pc := 42) S 0 dX7_addPrinter_42 rfl rfl ?_
        refine s_get (pc := 43) S hz (ref := "SpoolFarmModel") (v := .int (nI 0)) (cc_mod (A := A) (C := (up3 C 60 100 27 0))) i_RX7 rfl 27 (Nat.le_of_ble_eq_true rfl) (by decide +kernel) (fun _ h => h) rfl dX7_addPrinter_43 ?_
        refine s_if_leN (pc := 46) S 51 dX7_addPrinter_46 (by decide) (by decide) (fun _ => ?_) (fun h => absurd h (by decide))
        refine s_aload_n (pc := 51) S 0 dX7_addPrinter_51 rfl rfl ?_
        refine s_get (pc := 52) S hz (ref := "SpoolFarmModel") (v := .ref (A 60 11)) (cc_mod (A := A) (C := (up3 C 60 100 27 0))) i_RX7 rfl 11 (Nat.le_of_ble_eq_true rfl) (by decide +kernel) (fun _ h => h) rfl dX7_addPrinter_52 ?_
        refine s_aload_n (pc := 55) S 0 dX7_addPrinter_55 rfl rfl ?_
        refine s_get (pc := 56) S hz (ref := "SpoolFarmModel") (v := .int (nI (C 60 100 29))) (cc_mod (A := A) (C := (up3 C 60 100 27 0))) i_RX7 rfl 29 (Nat.le_of_ble_eq_true rfl) (by decide +kernel) (fun _ h => h) rfl dX7_addPrinter_56 ?_
        refine s_iload_n (pc := 59) S 1 dX7_addPrinter_59 rfl rfl ?_
        refine s_zast (pc := 60) S hz (cc_row (A := A) (C := (up3 C 60 100 27 0)) (x := aN .boolean 4 ((up3 C 60 100 27 0) 60 11)) 11 (by decide) rfl) (by omega) (by omega) (by omega) (up3 (up3 C 60 100 27 0) 60 11 (C 60 100 29) cb) cu_mod (by rw [(cc_row (A := A) (C := (up3 (up3 C 60 100 27 0) 60 11 (C 60 100 29) cb)) (x := aN .boolean 4 ((up3 (up3 C 60 100 27 0) 60 11 (C 60 100 29) cb) 60 11)) 11 (by decide) rfl), up3_u]) dX7_addPrinter_60 ?_
        refine s_aload_n (pc := 61) S 0 dX7_addPrinter_61 rfl rfl ?_
        refine s_get (pc := 62) S hz (ref := "SpoolFarmModel") (v := .ref (A 60 4)) (cc_mod (A := A) (C := (up3 (up3 C 60 100 27 0) 60 11 (C 60 100 29) cb))) i_RX7 rfl 4 (Nat.le_of_ble_eq_true rfl) (by decide +kernel) (fun _ h => h) rfl dX7_addPrinter_62 ?_
        refine s_aload_n (pc := 65) S 0 dX7_addPrinter_65 rfl rfl ?_
        refine s_get (pc := 66) S hz (ref := "SpoolFarmModel") (v := .int (nI (C 60 100 29))) (cc_mod (A := A) (C := (up3 (up3 C 60 100 27 0) 60 11 (C 60 100 29) cb))) i_RX7 rfl 29 (Nat.le_of_ble_eq_true rfl) (by decide +kernel) (fun _ h => h) rfl dX7_addPrinter_66 ?_
        refine s_iload_n (pc := 69) S 2 dX7_addPrinter_69 rfl rfl ?_
        refine s_iast (pc := 70) S hz (cc_row (A := A) (C := (up3 (up3 C 60 100 27 0) 60 11 (C 60 100 29) cb)) (x := aN .int 4 ((up3 (up3 C 60 100 27 0) 60 11 (C 60 100 29) cb) 60 4)) 4 (by decide) rfl) (by omega) (by omega) (up3 (up3 (up3 C 60 100 27 0) 60 11 (C 60 100 29) cb) 60 4 (C 60 100 29) w_5) cu_mod (by rw [(cc_row (A := A) (C := (up3 (up3 (up3 C 60 100 27 0) 60 11 (C 60 100 29) cb) 60 4 (C 60 100 29) w_5)) (x := aN .int 4 ((up3 (up3 (up3 C 60 100 27 0) 60 11 (C 60 100 29) cb) 60 4 (C 60 100 29) w_5) 60 4)) 4 (by decide) rfl), up3_u]) dX7_addPrinter_70 ?_
        refine s_aload_n (pc := 71) S 0 dX7_addPrinter_71 rfl rfl ?_
        refine s_get (pc := 72) S hz (ref := "SpoolFarmModel") (v := .ref (A 60 5)) (cc_mod (A := A) (C := (up3 (up3 (up3 C 60 100 27 0) 60 11 (C 60 100 29) cb) 60 4 (C 60 100 29) w_5))) i_RX7 rfl 5 (Nat.le_of_ble_eq_true rfl) (by decide +kernel) (fun _ h => h) rfl dX7_addPrinter_72 ?_
        refine s_aload_n (pc := 75) S 0 dX7_addPrinter_75 rfl rfl ?_
        refine s_get (pc := 76) S hz (ref := "SpoolFarmModel") (v := .int (nI (C 60 100 29))) (cc_mod (A := A) (C := (up3 (up3 (up3 C 60 100 27 0) 60 11 (C 60 100 29) cb) 60 4 (C 60 100 29) w_5))) i_RX7 rfl 29 (Nat.le_of_ble_eq_true rfl) (by decide +kernel) (fun _ h => h) rfl dX7_addPrinter_76 ?_
        refine s_iload_n (pc := 79) S 2 dX7_addPrinter_79 rfl rfl ?_
        refine s_iast (pc := 80) S hz (cc_row (A := A) (C := (up3 (up3 (up3 C 60 100 27 0) 60 11 (C 60 100 29) cb) 60 4 (C 60 100 29) w_5)) (x := aN .int 4 ((up3 (up3 (up3 C 60 100 27 0) 60 11 (C 60 100 29) cb) 60 4 (C 60 100 29) w_5) 60 5)) 5 (by decide) rfl) (by omega) (by omega) (up3 (up3 (up3 (up3 C 60 100 27 0) 60 11 (C 60 100 29) cb) 60 4 (C 60 100 29) w_5) 60 5 (C 60 100 29) w_5) cu_mod (by rw [(cc_row (A := A) (C := (up3 (up3 (up3 (up3 C 60 100 27 0) 60 11 (C 60 100 29) cb) 60 4 (C 60 100 29) w_5) 60 5 (C 60 100 29) w_5)) (x := aN .int 4 ((up3 (up3 (up3 (up3 C 60 100 27 0) 60 11 (C 60 100 29) cb) 60 4 (C 60 100 29) w_5) 60 5 (C 60 100 29) w_5) 60 5)) 5 (by decide) rfl), up3_u]) dX7_addPrinter_80 ?_
        refine s_aload_n (pc := 81) S 0 dX7_addPrinter_81 rfl rfl ?_
        refine s_get (pc := 82) S hz (ref := "SpoolFarmModel") (v := .ref (A 60 6)) (cc_mod (A := A) (C := (up3 (up3 (up3 (up3 C 60 100 27 0) 60 11 (C 60 100 29) cb) 60 4 (C 60 100 29) w_5) 60 5 (C 60 100 29) w_5))) i_RX7 rfl 6 (Nat.le_of_ble_eq_true rfl) (by decide +kernel) (fun _ h => h) rfl dX7_addPrinter_82 ?_
        refine s_aload_n (pc := 85) S 0 dX7_addPrinter_85 rfl rfl ?_
        refine s_get (pc := 86) S hz (ref := "SpoolFarmModel") (v := .int (nI (C 60 100 29))) (cc_mod (A := A) (C := (up3 (up3 (up3 (up3 C 60 100 27 0) 60 11 (C 60 100 29) cb) 60 4 (C 60 100 29) w_5) 60 5 (C 60 100 29) w_5))) i_RX7 rfl 29 (Nat.le_of_ble_eq_true rfl) (by decide +kernel) (fun _ h => h) rfl dX7_addPrinter_86 ?_
        refine s_iload_n (pc := 89) S 3 dX7_addPrinter_89 rfl rfl ?_
        refine s_iast (pc := 90) S hz (cc_row (A := A) (C := (up3 (up3 (up3 (up3 C 60 100 27 0) 60 11 (C 60 100 29) cb) 60 4 (C 60 100 29) w_5) 60 5 (C 60 100 29) w_5)) (x := aN .int 4 ((up3 (up3 (up3 (up3 C 60 100 27 0) 60 11 (C 60 100 29) cb) 60 4 (C 60 100 29) w_5) 60 5 (C 60 100 29) w_5) 60 6)) 6 (by decide) rfl) (by omega) (by omega) (up3 (up3 (up3 (up3 (up3 C 60 100 27 0) 60 11 (C 60 100 29) cb) 60 4 (C 60 100 29) w_5) 60 5 (C 60 100 29) w_5) 60 6 (C 60 100 29) w_12) cu_mod (by rw [(cc_row (A := A) (C := (up3 (up3 (up3 (up3 (up3 C 60 100 27 0) 60 11 (C 60 100 29) cb) 60 4 (C 60 100 29) w_5) 60 5 (C 60 100 29) w_5) 60 6 (C 60 100 29) w_12)) (x := aN .int 4 ((up3 (up3 (up3 (up3 (up3 C 60 100 27 0) 60 11 (C 60 100 29) cb) 60 4 (C 60 100 29) w_5) 60 5 (C 60 100 29) w_5) 60 6 (C 60 100 29) w_12) 60 6)) 6 (by decide) rfl), up3_u]) dX7_addPrinter_90 ?_
        refine s_aload_n (pc := 91) S 0 dX7_addPrinter_91 rfl rfl ?_
        refine s_dup (pc := 92) S dX7_addPrinter_92 rfl ?_
        refine s_get (pc := 93) S hz (ref := "SpoolFarmModel") (v := .int (nI (C 60 100 29))) (cc_mod (A := A) (C := (up3 (up3 (up3 (up3 (up3 C 60 100 27 0) 60 11 (C 60 100 29) cb) 60 4 (C 60 100 29) w_5) 60 5 (C 60 100 29) w_5) 60 6 (C 60 100 29) w_12))) i_RX7 rfl 29 (Nat.le_of_ble_eq_true rfl) (by decide +kernel) (fun _ h => h) rfl dX7_addPrinter_93 ?_
        refine s_iconst (pc := 96) S (v := (nI 1)) dX7_addPrinter_96 (by decide) ?_
        refine s_iaddN (pc := 97) S dX7_addPrinter_97 ?_
        refine s_put (pc := 98) S hz (ref := "SpoolFarmModel") (ty := .int) (cc_mod (A := A) (C := (up3 (up3 (up3 (up3 (up3 C 60 100 27 0) 60 11 (C 60 100 29) cb) 60 4 (C 60 100 29) w_5) 60 5 (C 60 100 29) w_5) 60 6 (C 60 100 29) w_12))) i_RX7 tyX7 tyX7_ok nmX7 rfl 29 (Nat.le_of_ble_eq_true rfl) (by decide +kernel) (fun _ h => h) rfl (by decide +kernel) rfl rfl (Nat.le_of_ble_eq_true rfl) (up3 (up3 (up3 (up3 (up3 (up3 C 60 100 27 0) 60 11 (C 60 100 29) cb) 60 4 (C 60 100 29) w_5) 60 5 (C 60 100 29) w_5) 60 6 (C 60 100 29) w_12) 60 100 29 ((C 60 100 29) + 1)) cu_mod (by rw [(cc_mod (A := A) (C := (up3 (up3 (up3 (up3 (up3 (up3 C 60 100 27 0) 60 11 (C 60 100 29) cb) 60 4 (C 60 100 29) w_5) 60 5 (C 60 100 29) w_5) 60 6 (C 60 100 29) w_12) 60 100 29 ((C 60 100 29) + 1)))), up3_u]; rfl) dX7_addPrinter_98 ?_
        refine s_aload_n (pc := 101) S 0 dX7_addPrinter_101 rfl rfl ?_
        refine s_get (pc := 102) S hz (ref := "SpoolFarmModel") (v := .int (nI ((C 60 100 29) + 1))) (cc_mod (A := A) (C := (up3 (up3 (up3 (up3 (up3 (up3 C 60 100 27 0) 60 11 (C 60 100 29) cb) 60 4 (C 60 100 29) w_5) 60 5 (C 60 100 29) w_5) 60 6 (C 60 100 29) w_12) 60 100 29 ((C 60 100 29) + 1)))) i_RX7 rfl 29 (Nat.le_of_ble_eq_true rfl) (by decide +kernel) (fun _ h => h) rfl dX7_addPrinter_102 ?_
        refine s_iconst (pc := 105) S (v := (nI 1)) dX7_addPrinter_105 (by decide) ?_
        refine s_isubN (pc := 106) S dX7_addPrinter_106 (by omega) ?_
        exact s_iret (pc := 107) S hz hlo hr ⟨rfl, Or.inl ⟨w_5, w_12, r_6, r_7, rfl, r_13, r_14, rfl, c_15, rfl, rfl⟩⟩ (Nat.le_of_ble_eq_true rfl) (Nat.le_of_ble_eq_true rfl) dX7_addPrinter_107
      · refine s_iconst (pc := 34) S (v := (nI 2)) dX7_addPrinter_34 (by decide) ?_
        refine s_goto (pc := 35) S 39 dX7_addPrinter_35 (by decide) ?_
        refine s_put (pc := 39) S hz (ref := "SpoolFarmModel") (ty := .int) (cc_mod (A := A) (C := C)) i_RX7 tyX7 tyX7_ok nmX7 rfl 27 (Nat.le_of_ble_eq_true rfl) (by decide +kernel) (fun _ h => h) rfl (by decide +kernel) rfl rfl (Nat.le_of_ble_eq_true rfl) (up3 C 60 100 27 2) cu_mod (by rw [(cc_mod (A := A) (C := (up3 C 60 100 27 2))), up3_u]; rfl) dX7_addPrinter_39 ?_
        refine s_aload_n (pc := 42) S 0 dX7_addPrinter_42 rfl rfl ?_
        refine s_get (pc := 43) S hz (ref := "SpoolFarmModel") (v := .int (nI 2)) (cc_mod (A := A) (C := (up3 C 60 100 27 2))) i_RX7 rfl 27 (Nat.le_of_ble_eq_true rfl) (by decide +kernel) (fun _ h => h) rfl dX7_addPrinter_43 ?_
        refine s_if_leN (pc := 46) S 51 dX7_addPrinter_46 (by decide) (by decide) (fun h => absurd h (by decide)) (fun _ => ?_)
        refine s_iconst (pc := 49) S (v := (nI 0)) dX7_addPrinter_49 (by decide) ?_
        exact s_iret (pc := 50) S hz hlo hr ⟨rfl, Or.inr (Or.inl ⟨w_5, w_12, r_6, r_7, rfl, r_13, r_14, rfl, c_15, rfl, rfl⟩)⟩ (Nat.le_of_ble_eq_true rfl) (Nat.le_of_ble_eq_true rfl) dX7_addPrinter_50
    · have n_16 := rg_no (by decide) (by decide) p_11
      refine s_if_neN (pc := 19) S 26 dX7_addPrinter_19 (by decide) (by decide) (fun h => absurd h (by decide)) (fun _ => ?_)
      refine s_iconst (pc := 22) S (v := (nI 1)) dX7_addPrinter_22 (by decide) ?_
      refine s_goto (pc := 23) S 39 dX7_addPrinter_23 (by decide) ?_
      refine s_put (pc := 39) S hz (ref := "SpoolFarmModel") (ty := .int) (cc_mod (A := A) (C := C)) i_RX7 tyX7 tyX7_ok nmX7 rfl 27 (Nat.le_of_ble_eq_true rfl) (by decide +kernel) (fun _ h => h) rfl (by decide +kernel) rfl rfl (Nat.le_of_ble_eq_true rfl) (up3 C 60 100 27 1) cu_mod (by rw [(cc_mod (A := A) (C := (up3 C 60 100 27 1))), up3_u]; rfl) dX7_addPrinter_39 ?_
      refine s_aload_n (pc := 42) S 0 dX7_addPrinter_42 rfl rfl ?_
      refine s_get (pc := 43) S hz (ref := "SpoolFarmModel") (v := .int (nI 1)) (cc_mod (A := A) (C := (up3 C 60 100 27 1))) i_RX7 rfl 27 (Nat.le_of_ble_eq_true rfl) (by decide +kernel) (fun _ h => h) rfl dX7_addPrinter_43 ?_
      refine s_if_leN (pc := 46) S 51 dX7_addPrinter_46 (by decide) (by decide) (fun h => absurd h (by decide)) (fun _ => ?_)
      refine s_iconst (pc := 49) S (v := (nI 0)) dX7_addPrinter_49 (by decide) ?_
      exact s_iret (pc := 50) S hz hlo hr ⟨rfl, Or.inr (Or.inr (Or.inl ⟨w_5, r_6, r_7, rfl, n_16, rfl, rfl⟩))⟩ (Nat.le_of_ble_eq_true rfl) (Nat.le_of_ble_eq_true rfl) dX7_addPrinter_50
  · have n_17 := rg_no (by decide) (by decide) p_4
    refine s_if_eqN (pc := 9) S 22 dX7_addPrinter_9 (by decide) (by decide) (fun _ => ?_) (fun h => absurd h (by decide))
    refine s_iconst (pc := 22) S (v := (nI 1)) dX7_addPrinter_22 (by decide) ?_
    refine s_goto (pc := 23) S 39 dX7_addPrinter_23 (by decide) ?_
    refine s_put (pc := 39) S hz (ref := "SpoolFarmModel") (ty := .int) (cc_mod (A := A) (C := C)) i_RX7 tyX7 tyX7_ok nmX7 rfl 27 (Nat.le_of_ble_eq_true rfl) (by decide +kernel) (fun _ h => h) rfl (by decide +kernel) rfl rfl (Nat.le_of_ble_eq_true rfl) (up3 C 60 100 27 1) cu_mod (by rw [(cc_mod (A := A) (C := (up3 C 60 100 27 1))), up3_u]; rfl) dX7_addPrinter_39 ?_
    refine s_aload_n (pc := 42) S 0 dX7_addPrinter_42 rfl rfl ?_
    refine s_get (pc := 43) S hz (ref := "SpoolFarmModel") (v := .int (nI 1)) (cc_mod (A := A) (C := (up3 C 60 100 27 1))) i_RX7 rfl 27 (Nat.le_of_ble_eq_true rfl) (by decide +kernel) (fun _ h => h) rfl dX7_addPrinter_43 ?_
    refine s_if_leN (pc := 46) S 51 dX7_addPrinter_46 (by decide) (by decide) (fun h => absurd h (by decide)) (fun _ => ?_)
    refine s_iconst (pc := 49) S (v := (nI 0)) dX7_addPrinter_49 (by decide) ?_
    exact s_iret (pc := 50) S hz hlo hr ⟨rfl, Or.inr (Or.inr (Or.inr (⟨n_17, rfl, rfl⟩)))⟩ (Nat.le_of_ble_eq_true rfl) (Nat.le_of_ble_eq_true rfl) dX7_addPrinter_50
set_option maxHeartbeats 4000000 in
set_option maxRecDepth 100000 in
theorem k_X7_addTray (Z : Zp) (l : Launch) (A : AF) (C : CF) (x : Int32) (q : Nat) (y : Int32) (hq : q < 65536) (hO : OkR C) : CtS Z l yX7_addTray wsX7_addTray ({ frames := 2, cells := 0, slots := 0, locals := 43 }) [.ref (A 60 100), .int x, .int (nI q), .int y] A C 0 0 (fun v A2 C2 => A = A2 ∧ ((∃ k_2 w_18 : Nat, k_2 < C 60 100 29 ∧ nI k_2 = x ∧ isPap q ∧ 0 ≤ w_18 ∧ w_18 ≤ 500 ∧ nI w_18 = y ∧ ¬ C 60 2 k_2 = 3 ∧ (up3 (up3 (up3 (up3 C 60 100 27 0) 60 8 ((3 * k_2) + (C 60 2 k_2)) q) 60 3 ((3 * k_2) + (C 60 2 k_2)) w_18) 60 2 k_2 ((C 60 2 k_2) + 1)) = C2 ∧ some (.int (nI (C 60 2 k_2))) = v) ∨ (∃ k_2 w_18 : Nat, k_2 < C 60 100 29 ∧ nI k_2 = x ∧ isPap q ∧ 0 ≤ w_18 ∧ w_18 ≤ 500 ∧ nI w_18 = y ∧ C 60 2 k_2 = 3 ∧ (up3 C 60 100 27 3) = C2 ∧ some (.int (nI 0)) = v) ∨ (∃ k_2 : Nat, k_2 < C 60 100 29 ∧ nI k_2 = x ∧ isPap q ∧ (∀ k : Nat, 0 ≤ k → k ≤ 500 → nI k ≠ y) ∧ (up3 C 60 100 27 2) = C2 ∧ some (.int (nI 0)) = v) ∨ (∃ k_2 : Nat, k_2 < C 60 100 29 ∧ nI k_2 = x ∧ ¬ isPap q ∧ (up3 C 60 100 27 2) = C2 ∧ some (.int (nI 0)) = v) ∨ ((∀ k : Nat, k < C 60 100 29 → nI k ≠ x) ∧ (up3 C 60 100 27 1) = C2 ∧ some (.int (nI 0)) = v))) (fun _ _ _ => False) := by
  refine CtS.of (cc0 := cX7_addTray) (maxL := 5) (ret := (some .int)) (by decide) rfl (Nat.le_of_ble_eq_true rfl) ?_
  intro M0_ p_ e_ s_ m_ args_ below_ meth_ c_ S hz hml hex hlo hr hin
  refine s_loc (L2 := [(0, .ref (A 60 100)), (1, .int x), (2, .int (nI q)), (3, .int y)]) rfl ?_
  have i_RX7 : ∀ w ∈ u_ws RX7 TX7 38, w ∈ wsX7_addTray := by decide +kernel
  obtain ⟨oU, oP, oJ, oTc, oY, o8, o9, o10, o11, o12, o13, o14, o15, oX, oQ, oB, oK, oS, oJk, oM, oCo, oSh, oLg, oPo, oLl, oL2, oL3, oL4, oLle, oE1, oE2, oE3, oE4⟩ := id hO
  have hu : C 60 100 28 < 2 ^ 30 := by omega
  have hp : C 60 100 29 < 2 ^ 30 := by omega
  have hj : C 60 100 30 < 2 ^ 30 := by omega
  have hlg : C 60 100 31 < 2 ^ 30 := by omega
  have hp4 := oP
  have htc := oTc
  refine s_aload_n (pc := 0) S 0 dX7_addTray_0 rfl rfl ?_
  refine s_aload_n (pc := 1) S 0 dX7_addTray_1 rfl rfl ?_
  refine s_iload_n (pc := 2) S 1 dX7_addTray_2 rfl rfl ?_
  refine s_callV (pc := 3) S hz hml [.int x] (k_X7_isPrinter Z l A C x hp) (cwV 1 S.2.2.2.2 gX7_addTray_X7_isPrinter rfl rfl rfl (by decide +kernel) ⟨Nat.le_of_ble_eq_true rfl, Nat.le_of_ble_eq_true rfl⟩) (cc_mod (A := A) (C := C)) rfl rfl rfl (Nat.le_of_ble_eq_true rfl) dX7_addTray_3 ⟨Nat.le_of_ble_eq_true rfl, Nat.le_of_ble_eq_true rfl⟩ (fun _ _ _ h => h.elim) (fun v A2 C2 h_1 => ?_)
  rcases h_1 with ⟨rfl, rfl, ⟨k_2, hk_3, rfl, rfl⟩ | ⟨no_4, rfl⟩⟩
  · have z_5 : k_2 < 4 := by omega
    have z_6 := oTc k_2
    have z_7 := oB k_2
    have z_8 := oK k_2
    have z_9 := oS k_2
    have z_10 := o11 k_2
    refine s_if_neN (pc := 6) S 13 dX7_addTray_6 (by decide) (by decide) (fun _ => ?_) (fun h => absurd h (by decide))
    refine s_iload_n (pc := 13) S 2 dX7_addTray_13 rfl rfl ?_
    refine s_callS (pc := 14) S hz hml [.int (nI q)] (k_X7_isPaper Z l A C q hq) (cwS 1 S.2.2.2.2 gX7_addTray_X7_isPaper rfl rfl rfl (by decide +kernel) ⟨Nat.le_of_ble_eq_true rfl, Nat.le_of_ble_eq_true rfl⟩) rfl rfl (Nat.le_of_ble_eq_true rfl) dX7_addTray_14 ⟨Nat.le_of_ble_eq_true rfl, Nat.le_of_ble_eq_true rfl⟩ (fun _ _ _ h => h.elim) (fun v A2 C2 h_11 => ?_)
    rcases h_11 with ⟨rfl, rfl, ⟨pq_12, rfl⟩ | ⟨pq_13, rfl⟩⟩
    · refine s_if_eqN (pc := 17) S 31 dX7_addTray_17 (by decide) (by decide) (fun h => absurd h (by decide)) (fun _ => ?_)
      refine s_iload_n (pc := 20) S 3 dX7_addTray_20 rfl rfl ?_
      refine s_iconst (pc := 21) S (v := (nI 0)) dX7_addTray_21 (by decide) ?_
      refine s_sipush (pc := 22) S (v := (nI 500)) dX7_addTray_22 (by decide) ?_
      refine s_callS (pc := 25) S hz hml [.int y, .int (nI 0), .int (nI 500)] (k_X7_in Z l A C y (nI 0) (nI 500)) (cwS 3 S.2.2.2.2 gX7_addTray_X7_in rfl rfl rfl (by decide +kernel) ⟨Nat.le_of_ble_eq_true rfl, Nat.le_of_ble_eq_true rfl⟩) rfl rfl (Nat.le_of_ble_eq_true rfl) dX7_addTray_25 ⟨Nat.le_of_ble_eq_true rfl, Nat.le_of_ble_eq_true rfl⟩ (fun _ _ _ h => h.elim) (fun v A2 C2 h_14 => ?_)
      rcases h_14 with ⟨rfl, rfl, ⟨p_15, p_16, rfl⟩ | ⟨p_17, rfl⟩⟩
      · obtain ⟨w_18, r_19, r_20, rfl⟩ := rg_of (by decide) p_15 p_16 (by decide)
        refine s_if_neN (pc := 28) S 35 dX7_addTray_28 (by decide) (by decide) (fun _ => ?_) (fun h => absurd h (by decide))
        refine s_aload_n (pc := 35) S 0 dX7_addTray_35 rfl rfl ?_
        refine s_get (pc := 36) S hz (ref := "SpoolFarmModel") (v := .ref (A 60 2)) (cc_mod (A := A) (C := C)) i_RX7 rfl 2 (Nat.le_of_ble_eq_true rfl) (by decide +kernel) (fun _ h => h) rfl dX7_addTray_36 ?_
        refine s_iload_n (pc := 39) S 1 dX7_addTray_39 rfl rfl ?_
        refine s_iald (pc := 40) S hz (x := C 60 2 k_2) (cc_row (A := A) (C := C) (x := aN .int 4 (C 60 2)) 2 (by decide) rfl) (by omega) (by omega) rfl dX7_addTray_40 ?_
        refine s_iconst (pc := 41) S (v := (nI 3)) dX7_addTray_41 (by decide) ?_
        refine s_icmp_neN (pc := 42) S 49 dX7_addTray_42 (by decide) (by omega) (by omega) (fun c_21 => ?_) (fun c_21 => ?_)
        · refine s_iconst (pc := 49) S (v := (nI 0)) dX7_addTray_49 (by decide) ?_
          refine s_put (pc := 50) S hz (ref := "SpoolFarmModel") (ty := .int) (cc_mod (A := A) (C := C)) i_RX7 tyX7 tyX7_ok nmX7 rfl 27 (Nat.le_of_ble_eq_true rfl) (by decide +kernel) (fun _ h => h) rfl (by decide +kernel) rfl rfl (Nat.le_of_ble_eq_true rfl) (up3 C 60 100 27 0) cu_mod (by rw [(cc_mod (A := A) (C := (up3 C 60 100 27 0))), up3_u]; rfl) dX7_addTray_50 ?_
          refine s_aload_n (pc := 53) S 0 dX7_addTray_53 rfl rfl ?_
          refine s_get (pc := 54) S hz (ref := "SpoolFarmModel") (v := .int (nI 0)) (cc_mod (A := A) (C := (up3 C 60 100 27 0))) i_RX7 rfl 27 (Nat.le_of_ble_eq_true rfl) (by decide +kernel) (fun _ h => h) rfl dX7_addTray_54 ?_
          refine s_if_leN (pc := 57) S 62 dX7_addTray_57 (by decide) (by decide) (fun _ => ?_) (fun h => absurd h (by decide))
          refine s_aload_n (pc := 62) S 0 dX7_addTray_62 rfl rfl ?_
          refine s_get (pc := 63) S hz (ref := "SpoolFarmModel") (v := .ref (A 60 2)) (cc_mod (A := A) (C := (up3 C 60 100 27 0))) i_RX7 rfl 2 (Nat.le_of_ble_eq_true rfl) (by decide +kernel) (fun _ h => h) rfl dX7_addTray_63 ?_
          refine s_iload_n (pc := 66) S 1 dX7_addTray_66 rfl rfl ?_
          refine s_iald (pc := 67) S hz (x := C 60 2 k_2) (cc_row (A := A) (C := (up3 C 60 100 27 0)) (x := aN .int 4 ((up3 C 60 100 27 0) 60 2)) 2 (by decide) rfl) (by omega) (by omega) rfl dX7_addTray_67 ?_
          refine s_istore (pc := 68) S [(4, .int (nI (C 60 2 k_2))), (0, .ref (A 60 100)), (1, .int (nI k_2)), (2, .int (nI q)), (3, .int (nI w_18))] dX7_addTray_68 (by decide) rfl ?_
          refine s_aload_n (pc := 70) S 1 dX7_addTray_70 rfl rfl ?_
          refine s_get (pc := 71) S hz (ref := "SpoolFarmModel") (v := .ref (A 60 8)) (cc_mod (A := A) (C := (up3 C 60 100 27 0))) i_RX7 rfl 8 (Nat.le_of_ble_eq_true rfl) (by decide +kernel) (fun _ h => h) rfl dX7_addTray_71 ?_
          refine s_iconst (pc := 74) S (v := (nI 3)) dX7_addTray_74 (by decide) ?_
          refine s_iload_n (pc := 75) S 2 dX7_addTray_75 rfl rfl ?_
          refine s_imulN (pc := 76) S dX7_addTray_76 ?_
          refine s_iload (pc := 77) S 0 dX7_addTray_77 rfl ?_
          refine s_iaddN (pc := 79) S dX7_addTray_79 ?_
          refine s_iload_n (pc := 80) S 3 dX7_addTray_80 rfl rfl ?_
          refine s_cast (pc := 81) S hz (cc_row (A := A) (C := (up3 C 60 100 27 0)) (x := aN .char 12 ((up3 C 60 100 27 0) 60 8)) 8 (by decide) rfl) (by omega) (by omega) (by omega) (up3 (up3 C 60 100 27 0) 60 8 ((3 * k_2) + (C 60 2 k_2)) q) cu_mod (by rw [(cc_row (A := A) (C := (up3 (up3 C 60 100 27 0) 60 8 ((3 * k_2) + (C 60 2 k_2)) q)) (x := aN .char 12 ((up3 (up3 C 60 100 27 0) 60 8 ((3 * k_2) + (C 60 2 k_2)) q) 60 8)) 8 (by decide) rfl), up3_u]) dX7_addTray_81 ?_
          refine s_aload_n (pc := 82) S 1 dX7_addTray_82 rfl rfl ?_
          refine s_get (pc := 83) S hz (ref := "SpoolFarmModel") (v := .ref (A 60 3)) (cc_mod (A := A) (C := (up3 (up3 C 60 100 27 0) 60 8 ((3 * k_2) + (C 60 2 k_2)) q))) i_RX7 rfl 3 (Nat.le_of_ble_eq_true rfl) (by decide +kernel) (fun _ h => h) rfl dX7_addTray_83 ?_
          refine s_iconst (pc := 86) S (v := (nI 3)) dX7_addTray_86 (by decide) ?_
          refine s_iload_n (pc := 87) S 2 dX7_addTray_87 rfl rfl ?_
          refine s_imulN (pc := 88) S dX7_addTray_88 ?_
          refine s_iload (pc := 89) S 0 dX7_addTray_89 rfl ?_
          refine s_iaddN (pc := 91) S dX7_addTray_91 ?_
          refine s_iload_n (pc := 92) S 4 dX7_addTray_92 rfl rfl ?_
          refine s_iast (pc := 93) S hz (cc_row (A := A) (C := (up3 (up3 C 60 100 27 0) 60 8 ((3 * k_2) + (C 60 2 k_2)) q)) (x := aN .int 12 ((up3 (up3 C 60 100 27 0) 60 8 ((3 * k_2) + (C 60 2 k_2)) q) 60 3)) 3 (by decide) rfl) (by omega) (by omega) (up3 (up3 (up3 C 60 100 27 0) 60 8 ((3 * k_2) + (C 60 2 k_2)) q) 60 3 ((3 * k_2) + (C 60 2 k_2)) w_18) cu_mod (by rw [(cc_row (A := A) (C := (up3 (up3 (up3 C 60 100 27 0) 60 8 ((3 * k_2) + (C 60 2 k_2)) q) 60 3 ((3 * k_2) + (C 60 2 k_2)) w_18)) (x := aN .int 12 ((up3 (up3 (up3 C 60 100 27 0) 60 8 ((3 * k_2) + (C 60 2 k_2)) q) 60 3 ((3 * k_2) + (C 60 2 k_2)) w_18) 60 3)) 3 (by decide) rfl), up3_u]) dX7_addTray_93 ?_
          refine s_aload_n (pc := 94) S 1 dX7_addTray_94 rfl rfl ?_
          refine s_get (pc := 95) S hz (ref := "SpoolFarmModel") (v := .ref (A 60 2)) (cc_mod (A := A) (C := (up3 (up3 (up3 C 60 100 27 0) 60 8 ((3 * k_2) + (C 60 2 k_2)) q) 60 3 ((3 * k_2) + (C 60 2 k_2)) w_18))) i_RX7 rfl 2 (Nat.le_of_ble_eq_true rfl) (by decide +kernel) (fun _ h => h) rfl dX7_addTray_95 ?_
          refine s_iload_n (pc := 98) S 2 dX7_addTray_98 rfl rfl ?_
          refine s_dup2 (pc := 99) S dX7_addTray_99 rfl rfl ?_
          refine s_iald (pc := 100) S hz (x := C 60 2 k_2) (cc_row (A := A) (C := (up3 (up3 (up3 C 60 100 27 0) 60 8 ((3 * k_2) + (C 60 2 k_2)) q) 60 3 ((3 * k_2) + (C 60 2 k_2)) w_18)) (x := aN .int 4 ((up3 (up3 (up3 C 60 100 27 0) 60 8 ((3 * k_2) + (C 60 2 k_2)) q) 60 3 ((3 * k_2) + (C 60 2 k_2)) w_18) 60 2)) 2 (by decide) rfl) (by omega) (by omega) rfl dX7_addTray_100 ?_
          refine s_iconst (pc := 101) S (v := (nI 1)) dX7_addTray_101 (by decide) ?_
          refine s_iaddN (pc := 102) S dX7_addTray_102 ?_
          refine s_iast (pc := 103) S hz (cc_row (A := A) (C := (up3 (up3 (up3 C 60 100 27 0) 60 8 ((3 * k_2) + (C 60 2 k_2)) q) 60 3 ((3 * k_2) + (C 60 2 k_2)) w_18)) (x := aN .int 4 ((up3 (up3 (up3 C 60 100 27 0) 60 8 ((3 * k_2) + (C 60 2 k_2)) q) 60 3 ((3 * k_2) + (C 60 2 k_2)) w_18) 60 2)) 2 (by decide) rfl) (by omega) (by omega) (up3 (up3 (up3 (up3 C 60 100 27 0) 60 8 ((3 * k_2) + (C 60 2 k_2)) q) 60 3 ((3 * k_2) + (C 60 2 k_2)) w_18) 60 2 k_2 ((C 60 2 k_2) + 1)) cu_mod (by rw [(cc_row (A := A) (C := (up3 (up3 (up3 (up3 C 60 100 27 0) 60 8 ((3 * k_2) + (C 60 2 k_2)) q) 60 3 ((3 * k_2) + (C 60 2 k_2)) w_18) 60 2 k_2 ((C 60 2 k_2) + 1))) (x := aN .int 4 ((up3 (up3 (up3 (up3 C 60 100 27 0) 60 8 ((3 * k_2) + (C 60 2 k_2)) q) 60 3 ((3 * k_2) + (C 60 2 k_2)) w_18) 60 2 k_2 ((C 60 2 k_2) + 1)) 60 2)) 2 (by decide) rfl), up3_u]) dX7_addTray_103 ?_
          refine s_iload (pc := 104) S 0 dX7_addTray_104 rfl ?_
          exact s_iret (pc := 106) S hz hlo hr ⟨rfl, Or.inl ⟨k_2, w_18, hk_3, rfl, pq_12, r_19, r_20, rfl, c_21, rfl, rfl⟩⟩ (Nat.le_of_ble_eq_true rfl) (Nat.le_of_ble_eq_true rfl) dX7_addTray_106
        · refine s_iconst (pc := 45) S (v := (nI 3)) dX7_addTray_45 (by decide) ?_
          refine s_goto (pc := 46) S 50 dX7_addTray_46 (by decide) ?_
          refine s_put (pc := 50) S hz (ref := "SpoolFarmModel") (ty := .int) (cc_mod (A := A) (C := C)) i_RX7 tyX7 tyX7_ok nmX7 rfl 27 (Nat.le_of_ble_eq_true rfl) (by decide +kernel) (fun _ h => h) rfl (by decide +kernel) rfl rfl (Nat.le_of_ble_eq_true rfl) (up3 C 60 100 27 3) cu_mod (by rw [(cc_mod (A := A) (C := (up3 C 60 100 27 3))), up3_u]; rfl) dX7_addTray_50 ?_
          refine s_aload_n (pc := 53) S 0 dX7_addTray_53 rfl rfl ?_
          refine s_get (pc := 54) S hz (ref := "SpoolFarmModel") (v := .int (nI 3)) (cc_mod (A := A) (C := (up3 C 60 100 27 3))) i_RX7 rfl 27 (Nat.le_of_ble_eq_true rfl) (by decide +kernel) (fun _ h => h) rfl dX7_addTray_54 ?_
          refine s_if_leN (pc := 57) S 62 dX7_addTray_57 (by decide) (by decide) (fun h => absurd h (by decide)) (fun _ => ?_)
          refine s_iconst (pc := 60) S (v := (nI 0)) dX7_addTray_60 (by decide) ?_
          exact s_iret (pc := 61) S hz hlo hr ⟨rfl, Or.inr (Or.inl ⟨k_2, w_18, hk_3, rfl, pq_12, r_19, r_20, rfl, c_21, rfl, rfl⟩)⟩ (Nat.le_of_ble_eq_true rfl) (Nat.le_of_ble_eq_true rfl) dX7_addTray_61
      · have n_22 := rg_no (by decide) (by decide) p_17
        refine s_if_neN (pc := 28) S 35 dX7_addTray_28 (by decide) (by decide) (fun h => absurd h (by decide)) (fun _ => ?_)
        refine s_iconst (pc := 31) S (v := (nI 2)) dX7_addTray_31 (by decide) ?_
        refine s_goto (pc := 32) S 50 dX7_addTray_32 (by decide) ?_
        refine s_put (pc := 50) S hz (ref := "SpoolFarmModel") (ty := .int) (cc_mod (A := A) (C := C)) i_RX7 tyX7 tyX7_ok nmX7 rfl 27 (Nat.le_of_ble_eq_true rfl) (by decide +kernel) (fun _ h => h) rfl (by decide +kernel) rfl rfl (Nat.le_of_ble_eq_true rfl) (up3 C 60 100 27 2) cu_mod (by rw [(cc_mod (A := A) (C := (up3 C 60 100 27 2))), up3_u]; rfl) dX7_addTray_50 ?_
        refine s_aload_n (pc := 53) S 0 dX7_addTray_53 rfl rfl ?_
        refine s_get (pc := 54) S hz (ref := "SpoolFarmModel") (v := .int (nI 2)) (cc_mod (A := A) (C := (up3 C 60 100 27 2))) i_RX7 rfl 27 (Nat.le_of_ble_eq_true rfl) (by decide +kernel) (fun _ h => h) rfl dX7_addTray_54 ?_
        refine s_if_leN (pc := 57) S 62 dX7_addTray_57 (by decide) (by decide) (fun h => absurd h (by decide)) (fun _ => ?_)
        refine s_iconst (pc := 60) S (v := (nI 0)) dX7_addTray_60 (by decide) ?_
        exact s_iret (pc := 61) S hz hlo hr ⟨rfl, Or.inr (Or.inr (Or.inl ⟨k_2, hk_3, rfl, pq_12, n_22, rfl, rfl⟩))⟩ (Nat.le_of_ble_eq_true rfl) (Nat.le_of_ble_eq_true rfl) dX7_addTray_61
    · refine s_if_eqN (pc := 17) S 31 dX7_addTray_17 (by decide) (by decide) (fun _ => ?_) (fun h => absurd h (by decide))
      refine s_iconst (pc := 31) S (v := (nI 2)) dX7_addTray_31 (by decide) ?_
      refine s_goto (pc := 32) S 50 dX7_addTray_32 (by decide) ?_
      refine s_put (pc := 50) S hz (ref := "SpoolFarmModel") (ty := .int) (cc_mod (A := A) (C := C)) i_RX7 tyX7 tyX7_ok nmX7 rfl 27 (Nat.le_of_ble_eq_true rfl) (by decide +kernel) (fun _ h => h) rfl (by decide +kernel) rfl rfl (Nat.le_of_ble_eq_true rfl) (up3 C 60 100 27 2) cu_mod (by rw [(cc_mod (A := A) (C := (up3 C 60 100 27 2))), up3_u]; rfl) dX7_addTray_50 ?_
      refine s_aload_n (pc := 53) S 0 dX7_addTray_53 rfl rfl ?_
      refine s_get (pc := 54) S hz (ref := "SpoolFarmModel") (v := .int (nI 2)) (cc_mod (A := A) (C := (up3 C 60 100 27 2))) i_RX7 rfl 27 (Nat.le_of_ble_eq_true rfl) (by decide +kernel) (fun _ h => h) rfl dX7_addTray_54 ?_
      refine s_if_leN (pc := 57) S 62 dX7_addTray_57 (by decide) (by decide) (fun h => absurd h (by decide)) (fun _ => ?_)
      refine s_iconst (pc := 60) S (v := (nI 0)) dX7_addTray_60 (by decide) ?_
      exact s_iret (pc := 61) S hz hlo hr ⟨rfl, Or.inr (Or.inr (Or.inr (Or.inl ⟨k_2, hk_3, rfl, pq_13, rfl, rfl⟩)))⟩ (Nat.le_of_ble_eq_true rfl) (Nat.le_of_ble_eq_true rfl) dX7_addTray_61
  · refine s_if_neN (pc := 6) S 13 dX7_addTray_6 (by decide) (by decide) (fun h => absurd h (by decide)) (fun _ => ?_)
    refine s_iconst (pc := 9) S (v := (nI 1)) dX7_addTray_9 (by decide) ?_
    refine s_goto (pc := 10) S 50 dX7_addTray_10 (by decide) ?_
    refine s_put (pc := 50) S hz (ref := "SpoolFarmModel") (ty := .int) (cc_mod (A := A) (C := C)) i_RX7 tyX7 tyX7_ok nmX7 rfl 27 (Nat.le_of_ble_eq_true rfl) (by decide +kernel) (fun _ h => h) rfl (by decide +kernel) rfl rfl (Nat.le_of_ble_eq_true rfl) (up3 C 60 100 27 1) cu_mod (by rw [(cc_mod (A := A) (C := (up3 C 60 100 27 1))), up3_u]; rfl) dX7_addTray_50 ?_
    refine s_aload_n (pc := 53) S 0 dX7_addTray_53 rfl rfl ?_
    refine s_get (pc := 54) S hz (ref := "SpoolFarmModel") (v := .int (nI 1)) (cc_mod (A := A) (C := (up3 C 60 100 27 1))) i_RX7 rfl 27 (Nat.le_of_ble_eq_true rfl) (by decide +kernel) (fun _ h => h) rfl dX7_addTray_54 ?_
    refine s_if_leN (pc := 57) S 62 dX7_addTray_57 (by decide) (by decide) (fun h => absurd h (by decide)) (fun _ => ?_)
    refine s_iconst (pc := 60) S (v := (nI 0)) dX7_addTray_60 (by decide) ?_
    exact s_iret (pc := 61) S hz hlo hr ⟨rfl, Or.inr (Or.inr (Or.inr (Or.inr (⟨no_4, rfl, rfl⟩))))⟩ (Nat.le_of_ble_eq_true rfl) (Nat.le_of_ble_eq_true rfl) dX7_addTray_61
set_option maxHeartbeats 4000000 in
set_option maxRecDepth 100000 in
theorem k_X7_trayCount (Z : Zp) (l : Launch) (A : AF) (C : CF) (x : Int32) (hO : OkR C) : CtS Z l yX7_trayCount wsX7_trayCount ({ frames := 2, cells := 0, slots := 0, locals := 43 }) [.ref (A 60 100), .int x] A C 0 0 (fun v A2 C2 => A = A2 ∧ ((∃ k_2 : Nat, k_2 < C 60 100 29 ∧ nI k_2 = x ∧ (up3 C 60 100 27 0) = C2 ∧ some (.int (nI (C 60 2 k_2))) = v) ∨ ((∀ k : Nat, k < C 60 100 29 → nI k ≠ x) ∧ (up3 C 60 100 27 1) = C2 ∧ some (.int (nI 0)) = v))) (fun _ _ _ => False) := by
  refine CtS.of (cc0 := cX7_trayCount) (maxL := 2) (ret := (some .int)) (by decide) rfl (Nat.le_of_ble_eq_true rfl) ?_
  intro M0_ p_ e_ s_ m_ args_ below_ meth_ c_ S hz hml hex hlo hr hin
  refine s_loc (L2 := [(0, .ref (A 60 100)), (1, .int x)]) rfl ?_
  have i_RX7 : ∀ w ∈ u_ws RX7 TX7 38, w ∈ wsX7_trayCount := by decide +kernel
  obtain ⟨oU, oP, oJ, oTc, oY, o8, o9, o10, o11, o12, o13, o14, o15, oX, oQ, oB, oK, oS, oJk, oM, oCo, oSh, oLg, oPo, oLl, oL2, oL3, oL4, oLle, oE1, oE2, oE3, oE4⟩ := id hO
  have hu : C 60 100 28 < 2 ^ 30 := by omega
  have hp : C 60 100 29 < 2 ^ 30 := by omega
  have hj : C 60 100 30 < 2 ^ 30 := by omega
  have hlg : C 60 100 31 < 2 ^ 30 := by omega
  have hp4 := oP
  have htc := oTc
  refine s_aload_n (pc := 0) S 0 dX7_trayCount_0 rfl rfl ?_
  refine s_aload_n (pc := 1) S 0 dX7_trayCount_1 rfl rfl ?_
  refine s_iload_n (pc := 2) S 1 dX7_trayCount_2 rfl rfl ?_
  refine s_callV (pc := 3) S hz hml [.int x] (k_X7_isPrinter Z l A C x hp) (cwV 1 S.2.2.2.2 gX7_trayCount_X7_isPrinter rfl rfl rfl (by decide +kernel) ⟨Nat.le_of_ble_eq_true rfl, Nat.le_of_ble_eq_true rfl⟩) (cc_mod (A := A) (C := C)) rfl rfl rfl (Nat.le_of_ble_eq_true rfl) dX7_trayCount_3 ⟨Nat.le_of_ble_eq_true rfl, Nat.le_of_ble_eq_true rfl⟩ (fun _ _ _ h => h.elim) (fun v A2 C2 h_1 => ?_)
  rcases h_1 with ⟨rfl, rfl, ⟨k_2, hk_3, rfl, rfl⟩ | ⟨no_4, rfl⟩⟩
  · have z_5 : k_2 < 4 := by omega
    have z_6 := oTc k_2
    have z_7 := oB k_2
    have z_8 := oK k_2
    have z_9 := oS k_2
    have z_10 := o11 k_2
    refine s_callV (pc := 6) S hz hml [.int (nI 1)] (k_X7_checked Z l A C 1 (by decide)) (cwV 1 S.2.2.2.2 gX7_trayCount_X7_checked rfl rfl rfl (by decide +kernel) ⟨Nat.le_of_ble_eq_true rfl, Nat.le_of_ble_eq_true rfl⟩) (cc_mod (A := A) (C := C)) rfl rfl rfl (Nat.le_of_ble_eq_true rfl) dX7_trayCount_6 ⟨Nat.le_of_ble_eq_true rfl, Nat.le_of_ble_eq_true rfl⟩ (fun _ _ _ h => h.elim) (fun v A2 C2 h_11 => ?_)
    obtain ⟨rfl, rfl, rfl⟩ := h_11
    refine s_if_leN (pc := 9) S 16 dX7_trayCount_9 (by decide) (by decide) (fun _ => ?_) (fun h => absurd h (by decide))
    refine s_aload_n (pc := 16) S 0 dX7_trayCount_16 rfl rfl ?_
    refine s_get (pc := 17) S hz (ref := "SpoolFarmModel") (v := .ref (A 60 2)) (cc_mod (A := A) (C := (up3 C 60 100 27 0))) i_RX7 rfl 2 (Nat.le_of_ble_eq_true rfl) (by decide +kernel) (fun _ h => h) rfl dX7_trayCount_17 ?_
    refine s_iload_n (pc := 20) S 1 dX7_trayCount_20 rfl rfl ?_
    refine s_iald (pc := 21) S hz (x := C 60 2 k_2) (cc_row (A := A) (C := (up3 C 60 100 27 0)) (x := aN .int 4 ((up3 C 60 100 27 0) 60 2)) 2 (by decide) rfl) (by omega) (by omega) rfl dX7_trayCount_21 ?_
    exact s_iret (pc := 22) S hz hlo hr ⟨rfl, Or.inl ⟨k_2, hk_3, rfl, rfl, rfl⟩⟩ (Nat.le_of_ble_eq_true rfl) (Nat.le_of_ble_eq_true rfl) dX7_trayCount_22
  · refine s_callV (pc := 6) S hz hml [.int (nI 0)] (k_X7_checked Z l A C 0 (by decide)) (cwV 1 S.2.2.2.2 gX7_trayCount_X7_checked rfl rfl rfl (by decide +kernel) ⟨Nat.le_of_ble_eq_true rfl, Nat.le_of_ble_eq_true rfl⟩) (cc_mod (A := A) (C := C)) rfl rfl rfl (Nat.le_of_ble_eq_true rfl) dX7_trayCount_6 ⟨Nat.le_of_ble_eq_true rfl, Nat.le_of_ble_eq_true rfl⟩ (fun _ _ _ h => h.elim) (fun v A2 C2 h_12 => ?_)
    obtain ⟨rfl, rfl, rfl⟩ := h_12
    refine s_if_leN (pc := 9) S 16 dX7_trayCount_9 (by decide) (by decide) (fun h => absurd h (by decide)) (fun _ => ?_)
    refine s_iconst (pc := 12) S (v := (nI 0)) dX7_trayCount_12 (by decide) ?_
    refine s_goto (pc := 13) S 22 dX7_trayCount_13 (by decide) ?_
    exact s_iret (pc := 22) S hz hlo hr ⟨rfl, Or.inr (⟨no_4, rfl, rfl⟩)⟩ (Nat.le_of_ble_eq_true rfl) (Nat.le_of_ble_eq_true rfl) dX7_trayCount_22
set_option maxHeartbeats 4000000 in
set_option maxRecDepth 100000 in
theorem k_X7_load (Z : Zp) (l : Launch) (A : AF) (C : CF) (x y w : Int32) (hO : OkR C) : CtS Z l yX7_load wsX7_load ({ frames := 3, cells := 0, slots := 0, locals := 65 }) [.ref (A 60 100), .int x, .int y, .int w] A C 0 0 (fun v A2 C2 => A = A2 ∧ ((∃ k_2 t_3 w_14 : Nat, k_2 < C 60 100 29 ∧ t_3 < C 60 2 k_2 ∧ nI k_2 = x ∧ nI t_3 = y ∧ 1 ≤ w_14 ∧ w_14 ≤ 500 ∧ nI w_14 = w ∧ (C 60 3 ((3 * k_2) + t_3)) + w_14 ≤ 500 ∧ (up3 (up3 C 60 100 27 0) 60 3 ((3 * k_2) + t_3) ((C 60 3 ((3 * k_2) + t_3)) + w_14)) = C2 ∧ some (.int (nI ((C 60 3 ((3 * k_2) + t_3)) + w_14))) = v) ∨ (∃ k_2 t_3 w_14 : Nat, k_2 < C 60 100 29 ∧ t_3 < C 60 2 k_2 ∧ nI k_2 = x ∧ nI t_3 = y ∧ 1 ≤ w_14 ∧ w_14 ≤ 500 ∧ nI w_14 = w ∧ ¬ (C 60 3 ((3 * k_2) + t_3)) + w_14 ≤ 500 ∧ (up3 C 60 100 27 3) = C2 ∧ some (.int (nI 0)) = v) ∨ (∃ k_2 t_3 : Nat, k_2 < C 60 100 29 ∧ t_3 < C 60 2 k_2 ∧ nI k_2 = x ∧ nI t_3 = y ∧ (∀ k : Nat, 1 ≤ k → k ≤ 500 → nI k ≠ w) ∧ (up3 C 60 100 27 2) = C2 ∧ some (.int (nI 0)) = v) ∨ (((∀ p : Nat, p < C 60 100 29 → nI p ≠ x) ∨ ∃ p : Nat, p < C 60 100 29 ∧ nI p = x ∧ ∀ t : Nat, t < C 60 2 p → nI t ≠ y) ∧ (up3 C 60 100 27 1) = C2 ∧ some (.int (nI 0)) = v))) (fun _ _ _ => False) := by
  refine CtS.of (cc0 := cX7_load) (maxL := 4) (ret := (some .int)) (by decide) rfl (Nat.le_of_ble_eq_true rfl) ?_
  intro M0_ p_ e_ s_ m_ args_ below_ meth_ c_ S hz hml hex hlo hr hin
  refine s_loc (L2 := [(0, .ref (A 60 100)), (1, .int x), (2, .int y), (3, .int w)]) rfl ?_
  have i_RX7 : ∀ w ∈ u_ws RX7 TX7 38, w ∈ wsX7_load := by decide +kernel
  obtain ⟨oU, oP, oJ, oTc, oY, o8, o9, o10, o11, o12, o13, o14, o15, oX, oQ, oB, oK, oS, oJk, oM, oCo, oSh, oLg, oPo, oLl, oL2, oL3, oL4, oLle, oE1, oE2, oE3, oE4⟩ := id hO
  have hu : C 60 100 28 < 2 ^ 30 := by omega
  have hp : C 60 100 29 < 2 ^ 30 := by omega
  have hj : C 60 100 30 < 2 ^ 30 := by omega
  have hlg : C 60 100 31 < 2 ^ 30 := by omega
  have hp4 := oP
  have htc := oTc
  refine s_aload_n (pc := 0) S 0 dX7_load_0 rfl rfl ?_
  refine s_aload_n (pc := 1) S 0 dX7_load_1 rfl rfl ?_
  refine s_iload_n (pc := 2) S 1 dX7_load_2 rfl rfl ?_
  refine s_iload_n (pc := 3) S 2 dX7_load_3 rfl rfl ?_
  refine s_callV (pc := 4) S hz hml [.int x, .int y] (k_X7_isTray Z l A C x y hp hp4 htc) (cwV 2 S.2.2.2.2 gX7_load_X7_isTray rfl rfl rfl (by decide +kernel) ⟨Nat.le_of_ble_eq_true rfl, Nat.le_of_ble_eq_true rfl⟩) (cc_mod (A := A) (C := C)) rfl rfl rfl (Nat.le_of_ble_eq_true rfl) dX7_load_4 ⟨Nat.le_of_ble_eq_true rfl, Nat.le_of_ble_eq_true rfl⟩ (fun _ _ _ h => h.elim) (fun v A2 C2 h_1 => ?_)
  rcases h_1 with ⟨rfl, rfl, ⟨k_2, t_3, hk_4, ht_5, rfl, rfl, rfl⟩ | ⟨no_6, rfl⟩⟩
  · have h3 := htc k_2
    have z_7 : k_2 < 4 := by omega
    have z_8 := oY (3 * k_2 + t_3)
    have z_9 := o8 (3 * k_2 + t_3)
    refine s_if_neN (pc := 7) S 14 dX7_load_7 (by decide) (by decide) (fun _ => ?_) (fun h => absurd h (by decide))
    refine s_iload_n (pc := 14) S 3 dX7_load_14 rfl rfl ?_
    refine s_iconst (pc := 15) S (v := (nI 1)) dX7_load_15 (by decide) ?_
    refine s_sipush (pc := 16) S (v := (nI 500)) dX7_load_16 (by decide) ?_
    refine s_callS (pc := 19) S hz hml [.int w, .int (nI 1), .int (nI 500)] (k_X7_in Z l A C w (nI 1) (nI 500)) (cwS 3 S.2.2.2.2 gX7_load_X7_in rfl rfl rfl (by decide +kernel) ⟨Nat.le_of_ble_eq_true rfl, Nat.le_of_ble_eq_true rfl⟩) rfl rfl (Nat.le_of_ble_eq_true rfl) dX7_load_19 ⟨Nat.le_of_ble_eq_true rfl, Nat.le_of_ble_eq_true rfl⟩ (fun _ _ _ h => h.elim) (fun v A2 C2 h_10 => ?_)
    rcases h_10 with ⟨rfl, rfl, ⟨p_11, p_12, rfl⟩ | ⟨p_13, rfl⟩⟩
    · obtain ⟨w_14, r_15, r_16, rfl⟩ := rg_of (by decide) p_11 p_12 (by decide)
      refine s_if_neN (pc := 22) S 29 dX7_load_22 (by decide) (by decide) (fun _ => ?_) (fun h => absurd h (by decide))
      refine s_aload_n (pc := 29) S 0 dX7_load_29 rfl rfl ?_
      refine s_get (pc := 30) S hz (ref := "SpoolFarmModel") (v := .ref (A 60 3)) (cc_mod (A := A) (C := C)) i_RX7 rfl 3 (Nat.le_of_ble_eq_true rfl) (by decide +kernel) (fun _ h => h) rfl dX7_load_30 ?_
      refine s_iconst (pc := 33) S (v := (nI 3)) dX7_load_33 (by decide) ?_
      refine s_iload_n (pc := 34) S 1 dX7_load_34 rfl rfl ?_
      refine s_imulN (pc := 35) S dX7_load_35 ?_
      refine s_iload_n (pc := 36) S 2 dX7_load_36 rfl rfl ?_
      refine s_iaddN (pc := 37) S dX7_load_37 ?_
      refine s_iald (pc := 38) S hz (x := C 60 3 ((3 * k_2) + t_3)) (cc_row (A := A) (C := C) (x := aN .int 12 (C 60 3)) 3 (by decide) rfl) (by omega) (by omega) rfl dX7_load_38 ?_
      refine s_iload_n (pc := 39) S 3 dX7_load_39 rfl rfl ?_
      refine s_iaddN (pc := 40) S dX7_load_40 ?_
      refine s_sipush (pc := 41) S (v := (nI 500)) dX7_load_41 (by decide) ?_
      refine s_icmp_leN (pc := 44) S 51 dX7_load_44 (by decide) (by omega) (by omega) (fun c_17 => ?_) (fun c_17 => ?_)
      · refine s_iconst (pc := 51) S (v := (nI 0)) dX7_load_51 (by decide) ?_
        refine s_put (pc := 52) S hz (ref := "SpoolFarmModel") (ty := .int) (cc_mod (A := A) (C := C)) i_RX7 tyX7 tyX7_ok nmX7 rfl 27 (Nat.le_of_ble_eq_true rfl) (by decide +kernel) (fun _ h => h) rfl (by decide +kernel) rfl rfl (Nat.le_of_ble_eq_true rfl) (up3 C 60 100 27 0) cu_mod (by rw [(cc_mod (A := A) (C := (up3 C 60 100 27 0))), up3_u]; rfl) dX7_load_52 ?_
        refine s_aload_n (pc := 55) S 0 dX7_load_55 rfl rfl ?_
        refine s_get (pc := 56) S hz (ref := "SpoolFarmModel") (v := .int (nI 0)) (cc_mod (A := A) (C := (up3 C 60 100 27 0))) i_RX7 rfl 27 (Nat.le_of_ble_eq_true rfl) (by decide +kernel) (fun _ h => h) rfl dX7_load_56 ?_
        refine s_if_leN (pc := 59) S 64 dX7_load_59 (by decide) (by decide) (fun _ => ?_) (fun h => absurd h (by decide))
        refine s_aload_n (pc := 64) S 0 dX7_load_64 rfl rfl ?_
        refine s_get (pc := 65) S hz (ref := "SpoolFarmModel") (v := .ref (A 60 3)) (cc_mod (A := A) (C := (up3 C 60 100 27 0))) i_RX7 rfl 3 (Nat.le_of_ble_eq_true rfl) (by decide +kernel) (fun _ h => h) rfl dX7_load_65 ?_
        refine s_iconst (pc := 68) S (v := (nI 3)) dX7_load_68 (by decide) ?_
        refine s_iload_n (pc := 69) S 1 dX7_load_69 rfl rfl ?_
        refine s_imulN (pc := 70) S dX7_load_70 ?_
        refine s_iload_n (pc := 71) S 2 dX7_load_71 rfl rfl ?_
        refine s_iaddN (pc := 72) S dX7_load_72 ?_
        refine s_dup2 (pc := 73) S dX7_load_73 rfl rfl ?_
        refine s_iald (pc := 74) S hz (x := C 60 3 ((3 * k_2) + t_3)) (cc_row (A := A) (C := (up3 C 60 100 27 0)) (x := aN .int 12 ((up3 C 60 100 27 0) 60 3)) 3 (by decide) rfl) (by omega) (by omega) rfl dX7_load_74 ?_
        refine s_iload_n (pc := 75) S 3 dX7_load_75 rfl rfl ?_
        refine s_iaddN (pc := 76) S dX7_load_76 ?_
        refine s_iast (pc := 77) S hz (cc_row (A := A) (C := (up3 C 60 100 27 0)) (x := aN .int 12 ((up3 C 60 100 27 0) 60 3)) 3 (by decide) rfl) (by omega) (by omega) (up3 (up3 C 60 100 27 0) 60 3 ((3 * k_2) + t_3) ((C 60 3 ((3 * k_2) + t_3)) + w_14)) cu_mod (by rw [(cc_row (A := A) (C := (up3 (up3 C 60 100 27 0) 60 3 ((3 * k_2) + t_3) ((C 60 3 ((3 * k_2) + t_3)) + w_14))) (x := aN .int 12 ((up3 (up3 C 60 100 27 0) 60 3 ((3 * k_2) + t_3) ((C 60 3 ((3 * k_2) + t_3)) + w_14)) 60 3)) 3 (by decide) rfl), up3_u]) dX7_load_77 ?_
        refine s_aload_n (pc := 78) S 0 dX7_load_78 rfl rfl ?_
        refine s_get (pc := 79) S hz (ref := "SpoolFarmModel") (v := .ref (A 60 3)) (cc_mod (A := A) (C := (up3 (up3 C 60 100 27 0) 60 3 ((3 * k_2) + t_3) ((C 60 3 ((3 * k_2) + t_3)) + w_14)))) i_RX7 rfl 3 (Nat.le_of_ble_eq_true rfl) (by decide +kernel) (fun _ h => h) rfl dX7_load_79 ?_
        refine s_iconst (pc := 82) S (v := (nI 3)) dX7_load_82 (by decide) ?_
        refine s_iload_n (pc := 83) S 1 dX7_load_83 rfl rfl ?_
        refine s_imulN (pc := 84) S dX7_load_84 ?_
        refine s_iload_n (pc := 85) S 2 dX7_load_85 rfl rfl ?_
        refine s_iaddN (pc := 86) S dX7_load_86 ?_
        refine s_iald (pc := 87) S hz (x := (C 60 3 ((3 * k_2) + t_3)) + w_14) (cc_row (A := A) (C := (up3 (up3 C 60 100 27 0) 60 3 ((3 * k_2) + t_3) ((C 60 3 ((3 * k_2) + t_3)) + w_14))) (x := aN .int 12 ((up3 (up3 C 60 100 27 0) 60 3 ((3 * k_2) + t_3) ((C 60 3 ((3 * k_2) + t_3)) + w_14)) 60 3)) 3 (by decide) rfl) (by omega) (by omega) (by simp [up3]) dX7_load_87 ?_
        exact s_iret (pc := 88) S hz hlo hr ⟨rfl, Or.inl ⟨k_2, t_3, w_14, hk_4, ht_5, rfl, rfl, r_15, r_16, rfl, c_17, rfl, rfl⟩⟩ (Nat.le_of_ble_eq_true rfl) (Nat.le_of_ble_eq_true rfl) dX7_load_88
      · refine s_iconst (pc := 47) S (v := (nI 3)) dX7_load_47 (by decide) ?_
        refine s_goto (pc := 48) S 52 dX7_load_48 (by decide) ?_
        refine s_put (pc := 52) S hz (ref := "SpoolFarmModel") (ty := .int) (cc_mod (A := A) (C := C)) i_RX7 tyX7 tyX7_ok nmX7 rfl 27 (Nat.le_of_ble_eq_true rfl) (by decide +kernel) (fun _ h => h) rfl (by decide +kernel) rfl rfl (Nat.le_of_ble_eq_true rfl) (up3 C 60 100 27 3) cu_mod (by rw [(cc_mod (A := A) (C := (up3 C 60 100 27 3))), up3_u]; rfl) dX7_load_52 ?_
        refine s_aload_n (pc := 55) S 0 dX7_load_55 rfl rfl ?_
        refine s_get (pc := 56) S hz (ref := "SpoolFarmModel") (v := .int (nI 3)) (cc_mod (A := A) (C := (up3 C 60 100 27 3))) i_RX7 rfl 27 (Nat.le_of_ble_eq_true rfl) (by decide +kernel) (fun _ h => h) rfl dX7_load_56 ?_
        refine s_if_leN (pc := 59) S 64 dX7_load_59 (by decide) (by decide) (fun h => absurd h (by decide)) (fun _ => ?_)
        refine s_iconst (pc := 62) S (v := (nI 0)) dX7_load_62 (by decide) ?_
        exact s_iret (pc := 63) S hz hlo hr ⟨rfl, Or.inr (Or.inl ⟨k_2, t_3, w_14, hk_4, ht_5, rfl, rfl, r_15, r_16, rfl, c_17, rfl, rfl⟩)⟩ (Nat.le_of_ble_eq_true rfl) (Nat.le_of_ble_eq_true rfl) dX7_load_63
    · have n_18 := rg_no (by decide) (by decide) p_13
      refine s_if_neN (pc := 22) S 29 dX7_load_22 (by decide) (by decide) (fun h => absurd h (by decide)) (fun _ => ?_)
      refine s_iconst (pc := 25) S (v := (nI 2)) dX7_load_25 (by decide) ?_
      refine s_goto (pc := 26) S 52 dX7_load_26 (by decide) ?_
      refine s_put (pc := 52) S hz (ref := "SpoolFarmModel") (ty := .int) (cc_mod (A := A) (C := C)) i_RX7 tyX7 tyX7_ok nmX7 rfl 27 (Nat.le_of_ble_eq_true rfl) (by decide +kernel) (fun _ h => h) rfl (by decide +kernel) rfl rfl (Nat.le_of_ble_eq_true rfl) (up3 C 60 100 27 2) cu_mod (by rw [(cc_mod (A := A) (C := (up3 C 60 100 27 2))), up3_u]; rfl) dX7_load_52 ?_
      refine s_aload_n (pc := 55) S 0 dX7_load_55 rfl rfl ?_
      refine s_get (pc := 56) S hz (ref := "SpoolFarmModel") (v := .int (nI 2)) (cc_mod (A := A) (C := (up3 C 60 100 27 2))) i_RX7 rfl 27 (Nat.le_of_ble_eq_true rfl) (by decide +kernel) (fun _ h => h) rfl dX7_load_56 ?_
      refine s_if_leN (pc := 59) S 64 dX7_load_59 (by decide) (by decide) (fun h => absurd h (by decide)) (fun _ => ?_)
      refine s_iconst (pc := 62) S (v := (nI 0)) dX7_load_62 (by decide) ?_
      exact s_iret (pc := 63) S hz hlo hr ⟨rfl, Or.inr (Or.inr (Or.inl ⟨k_2, t_3, hk_4, ht_5, rfl, rfl, n_18, rfl, rfl⟩))⟩ (Nat.le_of_ble_eq_true rfl) (Nat.le_of_ble_eq_true rfl) dX7_load_63
  · refine s_if_neN (pc := 7) S 14 dX7_load_7 (by decide) (by decide) (fun h => absurd h (by decide)) (fun _ => ?_)
    refine s_iconst (pc := 10) S (v := (nI 1)) dX7_load_10 (by decide) ?_
    refine s_goto (pc := 11) S 52 dX7_load_11 (by decide) ?_
    refine s_put (pc := 52) S hz (ref := "SpoolFarmModel") (ty := .int) (cc_mod (A := A) (C := C)) i_RX7 tyX7 tyX7_ok nmX7 rfl 27 (Nat.le_of_ble_eq_true rfl) (by decide +kernel) (fun _ h => h) rfl (by decide +kernel) rfl rfl (Nat.le_of_ble_eq_true rfl) (up3 C 60 100 27 1) cu_mod (by rw [(cc_mod (A := A) (C := (up3 C 60 100 27 1))), up3_u]; rfl) dX7_load_52 ?_
    refine s_aload_n (pc := 55) S 0 dX7_load_55 rfl rfl ?_
    refine s_get (pc := 56) S hz (ref := "SpoolFarmModel") (v := .int (nI 1)) (cc_mod (A := A) (C := (up3 C 60 100 27 1))) i_RX7 rfl 27 (Nat.le_of_ble_eq_true rfl) (by decide +kernel) (fun _ h => h) rfl dX7_load_56 ?_
    refine s_if_leN (pc := 59) S 64 dX7_load_59 (by decide) (by decide) (fun h => absurd h (by decide)) (fun _ => ?_)
    refine s_iconst (pc := 62) S (v := (nI 0)) dX7_load_62 (by decide) ?_
    exact s_iret (pc := 63) S hz hlo hr ⟨rfl, Or.inr (Or.inr (Or.inr (⟨no_6, rfl, rfl⟩)))⟩ (Nat.le_of_ble_eq_true rfl) (Nat.le_of_ble_eq_true rfl) dX7_load_63
set_option maxHeartbeats 4000000 in
set_option maxRecDepth 100000 in
theorem k_X7_changePaper (Z : Zp) (l : Launch) (A : AF) (C : CF) (x y : Int32) (q : Nat) (hq : q < 65536) (hO : OkR C) : CtS Z l yX7_changePaper wsX7_changePaper ({ frames := 3, cells := 0, slots := 0, locals := 65 }) [.ref (A 60 100), .int x, .int y, .int (nI q)] A C 0 0 (fun v A2 C2 => A = A2 ∧ ((∃ k_2 t_3 : Nat, k_2 < C 60 100 29 ∧ t_3 < C 60 2 k_2 ∧ nI k_2 = x ∧ nI t_3 = y ∧ isPap q ∧ C 60 3 ((3 * k_2) + t_3) ≤ 0 ∧ (up3 (up3 C 60 100 27 0) 60 8 ((3 * k_2) + t_3) q) = C2 ∧ some (.int (nI (C 60 8 ((3 * k_2) + t_3)))) = v) ∨ (∃ k_2 t_3 : Nat, k_2 < C 60 100 29 ∧ t_3 < C 60 2 k_2 ∧ nI k_2 = x ∧ nI t_3 = y ∧ isPap q ∧ ¬ C 60 3 ((3 * k_2) + t_3) ≤ 0 ∧ (up3 C 60 100 27 3) = C2 ∧ some (.int (nI 32)) = v) ∨ (∃ k_2 t_3 : Nat, k_2 < C 60 100 29 ∧ t_3 < C 60 2 k_2 ∧ nI k_2 = x ∧ nI t_3 = y ∧ ¬ isPap q ∧ (up3 C 60 100 27 2) = C2 ∧ some (.int (nI 32)) = v) ∨ (((∀ p : Nat, p < C 60 100 29 → nI p ≠ x) ∨ ∃ p : Nat, p < C 60 100 29 ∧ nI p = x ∧ ∀ t : Nat, t < C 60 2 p → nI t ≠ y) ∧ (up3 C 60 100 27 1) = C2 ∧ some (.int (nI 32)) = v))) (fun _ _ _ => False) := by
  refine CtS.of (cc0 := cX7_changePaper) (maxL := 5) (ret := (some .char)) (by decide) rfl (Nat.le_of_ble_eq_true rfl) ?_
  intro M0_ p_ e_ s_ m_ args_ below_ meth_ c_ S hz hml hex hlo hr hin
  refine s_loc (L2 := [(0, .ref (A 60 100)), (1, .int x), (2, .int y), (3, .int (nI q))]) rfl ?_
  have i_RX7 : ∀ w ∈ u_ws RX7 TX7 38, w ∈ wsX7_changePaper := by decide +kernel
  obtain ⟨oU, oP, oJ, oTc, oY, o8, o9, o10, o11, o12, o13, o14, o15, oX, oQ, oB, oK, oS, oJk, oM, oCo, oSh, oLg, oPo, oLl, oL2, oL3, oL4, oLle, oE1, oE2, oE3, oE4⟩ := id hO
  have hu : C 60 100 28 < 2 ^ 30 := by omega
  have hp : C 60 100 29 < 2 ^ 30 := by omega
  have hj : C 60 100 30 < 2 ^ 30 := by omega
  have hlg : C 60 100 31 < 2 ^ 30 := by omega
  have hp4 := oP
  have htc := oTc
  refine s_aload_n (pc := 0) S 0 dX7_changePaper_0 rfl rfl ?_
  refine s_aload_n (pc := 1) S 0 dX7_changePaper_1 rfl rfl ?_
  refine s_iload_n (pc := 2) S 1 dX7_changePaper_2 rfl rfl ?_
  refine s_iload_n (pc := 3) S 2 dX7_changePaper_3 rfl rfl ?_
  refine s_callV (pc := 4) S hz hml [.int x, .int y] (k_X7_isTray Z l A C x y hp hp4 htc) (cwV 2 S.2.2.2.2 gX7_changePaper_X7_isTray rfl rfl rfl (by decide +kernel) ⟨Nat.le_of_ble_eq_true rfl, Nat.le_of_ble_eq_true rfl⟩) (cc_mod (A := A) (C := C)) rfl rfl rfl (Nat.le_of_ble_eq_true rfl) dX7_changePaper_4 ⟨Nat.le_of_ble_eq_true rfl, Nat.le_of_ble_eq_true rfl⟩ (fun _ _ _ h => h.elim) (fun v A2 C2 h_1 => ?_)
  rcases h_1 with ⟨rfl, rfl, ⟨k_2, t_3, hk_4, ht_5, rfl, rfl, rfl⟩ | ⟨no_6, rfl⟩⟩
  · have h3 := htc k_2
    have z_7 : k_2 < 4 := by omega
    have z_8 := oY (3 * k_2 + t_3)
    have z_9 := o8 (3 * k_2 + t_3)
    refine s_if_neN (pc := 7) S 14 dX7_changePaper_7 (by decide) (by decide) (fun _ => ?_) (fun h => absurd h (by decide))
    refine s_iload_n (pc := 14) S 3 dX7_changePaper_14 rfl rfl ?_
    refine s_callS (pc := 15) S hz hml [.int (nI q)] (k_X7_isPaper Z l A C q hq) (cwS 1 S.2.2.2.2 gX7_changePaper_X7_isPaper rfl rfl rfl (by decide +kernel) ⟨Nat.le_of_ble_eq_true rfl, Nat.le_of_ble_eq_true rfl⟩) rfl rfl (Nat.le_of_ble_eq_true rfl) dX7_changePaper_15 ⟨Nat.le_of_ble_eq_true rfl, Nat.le_of_ble_eq_true rfl⟩ (fun _ _ _ h => h.elim) (fun v A2 C2 h_10 => ?_)
    rcases h_10 with ⟨rfl, rfl, ⟨pq_11, rfl⟩ | ⟨pq_12, rfl⟩⟩
    · refine s_if_neN (pc := 18) S 25 dX7_changePaper_18 (by decide) (by decide) (fun _ => ?_) (fun h => absurd h (by decide))
      refine s_aload_n (pc := 25) S 0 dX7_changePaper_25 rfl rfl ?_
      refine s_get (pc := 26) S hz (ref := "SpoolFarmModel") (v := .ref (A 60 3)) (cc_mod (A := A) (C := C)) i_RX7 rfl 3 (Nat.le_of_ble_eq_true rfl) (by decide +kernel) (fun _ h => h) rfl dX7_changePaper_26 ?_
      refine s_iconst (pc := 29) S (v := (nI 3)) dX7_changePaper_29 (by decide) ?_
      refine s_iload_n (pc := 30) S 1 dX7_changePaper_30 rfl rfl ?_
      refine s_imulN (pc := 31) S dX7_changePaper_31 ?_
      refine s_iload_n (pc := 32) S 2 dX7_changePaper_32 rfl rfl ?_
      refine s_iaddN (pc := 33) S dX7_changePaper_33 ?_
      refine s_iald (pc := 34) S hz (x := C 60 3 ((3 * k_2) + t_3)) (cc_row (A := A) (C := C) (x := aN .int 12 (C 60 3)) 3 (by decide) rfl) (by omega) (by omega) rfl dX7_changePaper_34 ?_
      refine s_if_leN (pc := 35) S 42 dX7_changePaper_35 (by decide) (by omega) (fun c_13 => ?_) (fun c_13 => ?_)
      · refine s_iconst (pc := 42) S (v := (nI 0)) dX7_changePaper_42 (by decide) ?_
        refine s_put (pc := 43) S hz (ref := "SpoolFarmModel") (ty := .int) (cc_mod (A := A) (C := C)) i_RX7 tyX7 tyX7_ok nmX7 rfl 27 (Nat.le_of_ble_eq_true rfl) (by decide +kernel) (fun _ h => h) rfl (by decide +kernel) rfl rfl (Nat.le_of_ble_eq_true rfl) (up3 C 60 100 27 0) cu_mod (by rw [(cc_mod (A := A) (C := (up3 C 60 100 27 0))), up3_u]; rfl) dX7_changePaper_43 ?_
        refine s_aload_n (pc := 46) S 0 dX7_changePaper_46 rfl rfl ?_
        refine s_get (pc := 47) S hz (ref := "SpoolFarmModel") (v := .int (nI 0)) (cc_mod (A := A) (C := (up3 C 60 100 27 0))) i_RX7 rfl 27 (Nat.le_of_ble_eq_true rfl) (by decide +kernel) (fun _ h => h) rfl dX7_changePaper_47 ?_
        refine s_if_leN (pc := 50) S 56 dX7_changePaper_50 (by decide) (by decide) (fun _ => ?_) (fun h => absurd h (by decide))
        refine s_aload_n (pc := 56) S 0 dX7_changePaper_56 rfl rfl ?_
        refine s_get (pc := 57) S hz (ref := "SpoolFarmModel") (v := .ref (A 60 8)) (cc_mod (A := A) (C := (up3 C 60 100 27 0))) i_RX7 rfl 8 (Nat.le_of_ble_eq_true rfl) (by decide +kernel) (fun _ h => h) rfl dX7_changePaper_57 ?_
        refine s_iconst (pc := 60) S (v := (nI 3)) dX7_changePaper_60 (by decide) ?_
        refine s_iload_n (pc := 61) S 1 dX7_changePaper_61 rfl rfl ?_
        refine s_imulN (pc := 62) S dX7_changePaper_62 ?_
        refine s_iload_n (pc := 63) S 2 dX7_changePaper_63 rfl rfl ?_
        refine s_iaddN (pc := 64) S dX7_changePaper_64 ?_
        refine s_cald (pc := 65) S hz (x := C 60 8 ((3 * k_2) + t_3)) (cc_row (A := A) (C := (up3 C 60 100 27 0)) (x := aN .char 12 ((up3 C 60 100 27 0) 60 8)) 8 (by decide) rfl) (by omega) (by omega) rfl dX7_changePaper_65 ?_
        refine s_istore (pc := 66) S [(4, .int (nI (C 60 8 ((3 * k_2) + t_3)))), (0, .ref (A 60 100)), (1, .int (nI k_2)), (2, .int (nI t_3)), (3, .int (nI q))] dX7_changePaper_66 (by decide) rfl ?_
        refine s_aload_n (pc := 68) S 1 dX7_changePaper_68 rfl rfl ?_
        refine s_get (pc := 69) S hz (ref := "SpoolFarmModel") (v := .ref (A 60 8)) (cc_mod (A := A) (C := (up3 C 60 100 27 0))) i_RX7 rfl 8 (Nat.le_of_ble_eq_true rfl) (by decide +kernel) (fun _ h => h) rfl dX7_changePaper_69 ?_
        refine s_iconst (pc := 72) S (v := (nI 3)) dX7_changePaper_72 (by decide) ?_
        refine s_iload_n (pc := 73) S 2 dX7_changePaper_73 rfl rfl ?_
        refine s_imulN (pc := 74) S dX7_changePaper_74 ?_
        refine s_iload_n (pc := 75) S 3 dX7_changePaper_75 rfl rfl ?_
        refine s_iaddN (pc := 76) S dX7_changePaper_76 ?_
        refine s_iload_n (pc := 77) S 4 dX7_changePaper_77 rfl rfl ?_
        refine s_cast (pc := 78) S hz (cc_row (A := A) (C := (up3 C 60 100 27 0)) (x := aN .char 12 ((up3 C 60 100 27 0) 60 8)) 8 (by decide) rfl) (by omega) (by omega) (by omega) (up3 (up3 C 60 100 27 0) 60 8 ((3 * k_2) + t_3) q) cu_mod (by rw [(cc_row (A := A) (C := (up3 (up3 C 60 100 27 0) 60 8 ((3 * k_2) + t_3) q)) (x := aN .char 12 ((up3 (up3 C 60 100 27 0) 60 8 ((3 * k_2) + t_3) q) 60 8)) 8 (by decide) rfl), up3_u]) dX7_changePaper_78 ?_
        refine s_iload (pc := 79) S 0 dX7_changePaper_79 rfl ?_
        exact s_zret (pc := 81) S hz hlo (nar_c (by omega)) hr ⟨rfl, Or.inl ⟨k_2, t_3, hk_4, ht_5, rfl, rfl, pq_11, c_13, rfl, rfl⟩⟩ (Nat.le_of_ble_eq_true rfl) (Nat.le_of_ble_eq_true rfl) dX7_changePaper_81
      · refine s_iconst (pc := 38) S (v := (nI 3)) dX7_changePaper_38 (by decide) ?_
        refine s_goto (pc := 39) S 43 dX7_changePaper_39 (by decide) ?_
        refine s_put (pc := 43) S hz (ref := "SpoolFarmModel") (ty := .int) (cc_mod (A := A) (C := C)) i_RX7 tyX7 tyX7_ok nmX7 rfl 27 (Nat.le_of_ble_eq_true rfl) (by decide +kernel) (fun _ h => h) rfl (by decide +kernel) rfl rfl (Nat.le_of_ble_eq_true rfl) (up3 C 60 100 27 3) cu_mod (by rw [(cc_mod (A := A) (C := (up3 C 60 100 27 3))), up3_u]; rfl) dX7_changePaper_43 ?_
        refine s_aload_n (pc := 46) S 0 dX7_changePaper_46 rfl rfl ?_
        refine s_get (pc := 47) S hz (ref := "SpoolFarmModel") (v := .int (nI 3)) (cc_mod (A := A) (C := (up3 C 60 100 27 3))) i_RX7 rfl 27 (Nat.le_of_ble_eq_true rfl) (by decide +kernel) (fun _ h => h) rfl dX7_changePaper_47 ?_
        refine s_if_leN (pc := 50) S 56 dX7_changePaper_50 (by decide) (by decide) (fun h => absurd h (by decide)) (fun _ => ?_)
        refine s_bipush (pc := 53) S (v := (nI 32)) dX7_changePaper_53 (by decide) ?_
        exact s_zret (pc := 55) S hz hlo (nar_c (by omega)) hr ⟨rfl, Or.inr (Or.inl ⟨k_2, t_3, hk_4, ht_5, rfl, rfl, pq_11, c_13, rfl, rfl⟩)⟩ (Nat.le_of_ble_eq_true rfl) (Nat.le_of_ble_eq_true rfl) dX7_changePaper_55
    · refine s_if_neN (pc := 18) S 25 dX7_changePaper_18 (by decide) (by decide) (fun h => absurd h (by decide)) (fun _ => ?_)
      refine s_iconst (pc := 21) S (v := (nI 2)) dX7_changePaper_21 (by decide) ?_
      refine s_goto (pc := 22) S 43 dX7_changePaper_22 (by decide) ?_
      refine s_put (pc := 43) S hz (ref := "SpoolFarmModel") (ty := .int) (cc_mod (A := A) (C := C)) i_RX7 tyX7 tyX7_ok nmX7 rfl 27 (Nat.le_of_ble_eq_true rfl) (by decide +kernel) (fun _ h => h) rfl (by decide +kernel) rfl rfl (Nat.le_of_ble_eq_true rfl) (up3 C 60 100 27 2) cu_mod (by rw [(cc_mod (A := A) (C := (up3 C 60 100 27 2))), up3_u]; rfl) dX7_changePaper_43 ?_
      refine s_aload_n (pc := 46) S 0 dX7_changePaper_46 rfl rfl ?_
      refine s_get (pc := 47) S hz (ref := "SpoolFarmModel") (v := .int (nI 2)) (cc_mod (A := A) (C := (up3 C 60 100 27 2))) i_RX7 rfl 27 (Nat.le_of_ble_eq_true rfl) (by decide +kernel) (fun _ h => h) rfl dX7_changePaper_47 ?_
      refine s_if_leN (pc := 50) S 56 dX7_changePaper_50 (by decide) (by decide) (fun h => absurd h (by decide)) (fun _ => ?_)
      refine s_bipush (pc := 53) S (v := (nI 32)) dX7_changePaper_53 (by decide) ?_
      exact s_zret (pc := 55) S hz hlo (nar_c (by omega)) hr ⟨rfl, Or.inr (Or.inr (Or.inl ⟨k_2, t_3, hk_4, ht_5, rfl, rfl, pq_12, rfl, rfl⟩))⟩ (Nat.le_of_ble_eq_true rfl) (Nat.le_of_ble_eq_true rfl) dX7_changePaper_55
  · refine s_if_neN (pc := 7) S 14 dX7_changePaper_7 (by decide) (by decide) (fun h => absurd h (by decide)) (fun _ => ?_)
    refine s_iconst (pc := 10) S (v := (nI 1)) dX7_changePaper_10 (by decide) ?_
    refine s_goto (pc := 11) S 43 dX7_changePaper_11 (by decide) ?_
    refine s_put (pc := 43) S hz (ref := "SpoolFarmModel") (ty := .int) (cc_mod (A := A) (C := C)) i_RX7 tyX7 tyX7_ok nmX7 rfl 27 (Nat.le_of_ble_eq_true rfl) (by decide +kernel) (fun _ h => h) rfl (by decide +kernel) rfl rfl (Nat.le_of_ble_eq_true rfl) (up3 C 60 100 27 1) cu_mod (by rw [(cc_mod (A := A) (C := (up3 C 60 100 27 1))), up3_u]; rfl) dX7_changePaper_43 ?_
    refine s_aload_n (pc := 46) S 0 dX7_changePaper_46 rfl rfl ?_
    refine s_get (pc := 47) S hz (ref := "SpoolFarmModel") (v := .int (nI 1)) (cc_mod (A := A) (C := (up3 C 60 100 27 1))) i_RX7 rfl 27 (Nat.le_of_ble_eq_true rfl) (by decide +kernel) (fun _ h => h) rfl dX7_changePaper_47 ?_
    refine s_if_leN (pc := 50) S 56 dX7_changePaper_50 (by decide) (by decide) (fun h => absurd h (by decide)) (fun _ => ?_)
    refine s_bipush (pc := 53) S (v := (nI 32)) dX7_changePaper_53 (by decide) ?_
    exact s_zret (pc := 55) S hz hlo (nar_c (by omega)) hr ⟨rfl, Or.inr (Or.inr (Or.inr (⟨no_6, rfl, rfl⟩)))⟩ (Nat.le_of_ble_eq_true rfl) (Nat.le_of_ble_eq_true rfl) dX7_changePaper_55
set_option maxHeartbeats 4000000 in
set_option maxRecDepth 100000 in
theorem k_X7_sheetsIn (Z : Zp) (l : Launch) (A : AF) (C : CF) (x y : Int32) (hO : OkR C) : CtS Z l yX7_sheetsIn wsX7_sheetsIn ({ frames := 3, cells := 0, slots := 0, locals := 65 }) [.ref (A 60 100), .int x, .int y] A C 0 0 (fun v A2 C2 => A = A2 ∧ ((∃ k_2 t_3 : Nat, k_2 < C 60 100 29 ∧ t_3 < C 60 2 k_2 ∧ nI k_2 = x ∧ nI t_3 = y ∧ (up3 C 60 100 27 0) = C2 ∧ some (.int (nI (C 60 3 ((3 * k_2) + t_3)))) = v) ∨ (((∀ p : Nat, p < C 60 100 29 → nI p ≠ x) ∨ ∃ p : Nat, p < C 60 100 29 ∧ nI p = x ∧ ∀ t : Nat, t < C 60 2 p → nI t ≠ y) ∧ (up3 C 60 100 27 1) = C2 ∧ some (.int (nI 0)) = v))) (fun _ _ _ => False) := by
  refine CtS.of (cc0 := cX7_sheetsIn) (maxL := 3) (ret := (some .int)) (by decide) rfl (Nat.le_of_ble_eq_true rfl) ?_
  intro M0_ p_ e_ s_ m_ args_ below_ meth_ c_ S hz hml hex hlo hr hin
  refine s_loc (L2 := [(0, .ref (A 60 100)), (1, .int x), (2, .int y)]) rfl ?_
  have i_RX7 : ∀ w ∈ u_ws RX7 TX7 38, w ∈ wsX7_sheetsIn := by decide +kernel
  obtain ⟨oU, oP, oJ, oTc, oY, o8, o9, o10, o11, o12, o13, o14, o15, oX, oQ, oB, oK, oS, oJk, oM, oCo, oSh, oLg, oPo, oLl, oL2, oL3, oL4, oLle, oE1, oE2, oE3, oE4⟩ := id hO
  have hu : C 60 100 28 < 2 ^ 30 := by omega
  have hp : C 60 100 29 < 2 ^ 30 := by omega
  have hj : C 60 100 30 < 2 ^ 30 := by omega
  have hlg : C 60 100 31 < 2 ^ 30 := by omega
  have hp4 := oP
  have htc := oTc
  refine s_aload_n (pc := 0) S 0 dX7_sheetsIn_0 rfl rfl ?_
  refine s_aload_n (pc := 1) S 0 dX7_sheetsIn_1 rfl rfl ?_
  refine s_iload_n (pc := 2) S 1 dX7_sheetsIn_2 rfl rfl ?_
  refine s_iload_n (pc := 3) S 2 dX7_sheetsIn_3 rfl rfl ?_
  refine s_callV (pc := 4) S hz hml [.int x, .int y] (k_X7_isTray Z l A C x y hp hp4 htc) (cwV 2 S.2.2.2.2 gX7_sheetsIn_X7_isTray rfl rfl rfl (by decide +kernel) ⟨Nat.le_of_ble_eq_true rfl, Nat.le_of_ble_eq_true rfl⟩) (cc_mod (A := A) (C := C)) rfl rfl rfl (Nat.le_of_ble_eq_true rfl) dX7_sheetsIn_4 ⟨Nat.le_of_ble_eq_true rfl, Nat.le_of_ble_eq_true rfl⟩ (fun _ _ _ h => h.elim) (fun v A2 C2 h_1 => ?_)
  rcases h_1 with ⟨rfl, rfl, ⟨k_2, t_3, hk_4, ht_5, rfl, rfl, rfl⟩ | ⟨no_6, rfl⟩⟩
  · have h3 := htc k_2
    have z_7 : k_2 < 4 := by omega
    have z_8 := oY (3 * k_2 + t_3)
    have z_9 := o8 (3 * k_2 + t_3)
    refine s_callV (pc := 7) S hz hml [.int (nI 1)] (k_X7_checked Z l A C 1 (by decide)) (cwV 1 S.2.2.2.2 gX7_sheetsIn_X7_checked rfl rfl rfl (by decide +kernel) ⟨Nat.le_of_ble_eq_true rfl, Nat.le_of_ble_eq_true rfl⟩) (cc_mod (A := A) (C := C)) rfl rfl rfl (Nat.le_of_ble_eq_true rfl) dX7_sheetsIn_7 ⟨Nat.le_of_ble_eq_true rfl, Nat.le_of_ble_eq_true rfl⟩ (fun _ _ _ h => h.elim) (fun v A2 C2 h_10 => ?_)
    obtain ⟨rfl, rfl, rfl⟩ := h_10
    refine s_if_leN (pc := 10) S 17 dX7_sheetsIn_10 (by decide) (by decide) (fun _ => ?_) (fun h => absurd h (by decide))
    refine s_aload_n (pc := 17) S 0 dX7_sheetsIn_17 rfl rfl ?_
    refine s_get (pc := 18) S hz (ref := "SpoolFarmModel") (v := .ref (A 60 3)) (cc_mod (A := A) (C := (up3 C 60 100 27 0))) i_RX7 rfl 3 (Nat.le_of_ble_eq_true rfl) (by decide +kernel) (fun _ h => h) rfl dX7_sheetsIn_18 ?_
    refine s_iconst (pc := 21) S (v := (nI 3)) dX7_sheetsIn_21 (by decide) ?_
    refine s_iload_n (pc := 22) S 1 dX7_sheetsIn_22 rfl rfl ?_
    refine s_imulN (pc := 23) S dX7_sheetsIn_23 ?_
    refine s_iload_n (pc := 24) S 2 dX7_sheetsIn_24 rfl rfl ?_
    refine s_iaddN (pc := 25) S dX7_sheetsIn_25 ?_
    refine s_iald (pc := 26) S hz (x := C 60 3 ((3 * k_2) + t_3)) (cc_row (A := A) (C := (up3 C 60 100 27 0)) (x := aN .int 12 ((up3 C 60 100 27 0) 60 3)) 3 (by decide) rfl) (by omega) (by omega) rfl dX7_sheetsIn_26 ?_
    exact s_iret (pc := 27) S hz hlo hr ⟨rfl, Or.inl ⟨k_2, t_3, hk_4, ht_5, rfl, rfl, rfl, rfl⟩⟩ (Nat.le_of_ble_eq_true rfl) (Nat.le_of_ble_eq_true rfl) dX7_sheetsIn_27
  · refine s_callV (pc := 7) S hz hml [.int (nI 0)] (k_X7_checked Z l A C 0 (by decide)) (cwV 1 S.2.2.2.2 gX7_sheetsIn_X7_checked rfl rfl rfl (by decide +kernel) ⟨Nat.le_of_ble_eq_true rfl, Nat.le_of_ble_eq_true rfl⟩) (cc_mod (A := A) (C := C)) rfl rfl rfl (Nat.le_of_ble_eq_true rfl) dX7_sheetsIn_7 ⟨Nat.le_of_ble_eq_true rfl, Nat.le_of_ble_eq_true rfl⟩ (fun _ _ _ h => h.elim) (fun v A2 C2 h_11 => ?_)
    obtain ⟨rfl, rfl, rfl⟩ := h_11
    refine s_if_leN (pc := 10) S 17 dX7_sheetsIn_10 (by decide) (by decide) (fun h => absurd h (by decide)) (fun _ => ?_)
    refine s_iconst (pc := 13) S (v := (nI 0)) dX7_sheetsIn_13 (by decide) ?_
    refine s_goto (pc := 14) S 27 dX7_sheetsIn_14 (by decide) ?_
    exact s_iret (pc := 27) S hz hlo hr ⟨rfl, Or.inr (⟨no_6, rfl, rfl⟩)⟩ (Nat.le_of_ble_eq_true rfl) (Nat.le_of_ble_eq_true rfl) dX7_sheetsIn_27
set_option maxHeartbeats 4000000 in
set_option maxRecDepth 100000 in
theorem k_X7_paperOf (Z : Zp) (l : Launch) (A : AF) (C : CF) (x y : Int32) (hO : OkR C) : CtS Z l yX7_paperOf wsX7_paperOf ({ frames := 3, cells := 0, slots := 0, locals := 65 }) [.ref (A 60 100), .int x, .int y] A C 0 0 (fun v A2 C2 => A = A2 ∧ ((∃ k_2 t_3 : Nat, k_2 < C 60 100 29 ∧ t_3 < C 60 2 k_2 ∧ nI k_2 = x ∧ nI t_3 = y ∧ (up3 C 60 100 27 0) = C2 ∧ some (.int (nI (C 60 8 ((3 * k_2) + t_3)))) = v) ∨ (((∀ p : Nat, p < C 60 100 29 → nI p ≠ x) ∨ ∃ p : Nat, p < C 60 100 29 ∧ nI p = x ∧ ∀ t : Nat, t < C 60 2 p → nI t ≠ y) ∧ (up3 C 60 100 27 1) = C2 ∧ some (.int (nI 32)) = v))) (fun _ _ _ => False) := by
  refine CtS.of (cc0 := cX7_paperOf) (maxL := 3) (ret := (some .char)) (by decide) rfl (Nat.le_of_ble_eq_true rfl) ?_
  intro M0_ p_ e_ s_ m_ args_ below_ meth_ c_ S hz hml hex hlo hr hin
  refine s_loc (L2 := [(0, .ref (A 60 100)), (1, .int x), (2, .int y)]) rfl ?_
  have i_RX7 : ∀ w ∈ u_ws RX7 TX7 38, w ∈ wsX7_paperOf := by decide +kernel
  obtain ⟨oU, oP, oJ, oTc, oY, o8, o9, o10, o11, o12, o13, o14, o15, oX, oQ, oB, oK, oS, oJk, oM, oCo, oSh, oLg, oPo, oLl, oL2, oL3, oL4, oLle, oE1, oE2, oE3, oE4⟩ := id hO
  have hu : C 60 100 28 < 2 ^ 30 := by omega
  have hp : C 60 100 29 < 2 ^ 30 := by omega
  have hj : C 60 100 30 < 2 ^ 30 := by omega
  have hlg : C 60 100 31 < 2 ^ 30 := by omega
  have hp4 := oP
  have htc := oTc
  refine s_aload_n (pc := 0) S 0 dX7_paperOf_0 rfl rfl ?_
  refine s_aload_n (pc := 1) S 0 dX7_paperOf_1 rfl rfl ?_
  refine s_iload_n (pc := 2) S 1 dX7_paperOf_2 rfl rfl ?_
  refine s_iload_n (pc := 3) S 2 dX7_paperOf_3 rfl rfl ?_
  refine s_callV (pc := 4) S hz hml [.int x, .int y] (k_X7_isTray Z l A C x y hp hp4 htc) (cwV 2 S.2.2.2.2 gX7_paperOf_X7_isTray rfl rfl rfl (by decide +kernel) ⟨Nat.le_of_ble_eq_true rfl, Nat.le_of_ble_eq_true rfl⟩) (cc_mod (A := A) (C := C)) rfl rfl rfl (Nat.le_of_ble_eq_true rfl) dX7_paperOf_4 ⟨Nat.le_of_ble_eq_true rfl, Nat.le_of_ble_eq_true rfl⟩ (fun _ _ _ h => h.elim) (fun v A2 C2 h_1 => ?_)
  rcases h_1 with ⟨rfl, rfl, ⟨k_2, t_3, hk_4, ht_5, rfl, rfl, rfl⟩ | ⟨no_6, rfl⟩⟩
  · have h3 := htc k_2
    have z_7 : k_2 < 4 := by omega
    have z_8 := oY (3 * k_2 + t_3)
    have z_9 := o8 (3 * k_2 + t_3)
    refine s_callV (pc := 7) S hz hml [.int (nI 1)] (k_X7_checked Z l A C 1 (by decide)) (cwV 1 S.2.2.2.2 gX7_paperOf_X7_checked rfl rfl rfl (by decide +kernel) ⟨Nat.le_of_ble_eq_true rfl, Nat.le_of_ble_eq_true rfl⟩) (cc_mod (A := A) (C := C)) rfl rfl rfl (Nat.le_of_ble_eq_true rfl) dX7_paperOf_7 ⟨Nat.le_of_ble_eq_true rfl, Nat.le_of_ble_eq_true rfl⟩ (fun _ _ _ h => h.elim) (fun v A2 C2 h_10 => ?_)
    obtain ⟨rfl, rfl, rfl⟩ := h_10
    refine s_if_leN (pc := 10) S 18 dX7_paperOf_10 (by decide) (by decide) (fun _ => ?_) (fun h => absurd h (by decide))
    refine s_aload_n (pc := 18) S 0 dX7_paperOf_18 rfl rfl ?_
    refine s_get (pc := 19) S hz (ref := "SpoolFarmModel") (v := .ref (A 60 8)) (cc_mod (A := A) (C := (up3 C 60 100 27 0))) i_RX7 rfl 8 (Nat.le_of_ble_eq_true rfl) (by decide +kernel) (fun _ h => h) rfl dX7_paperOf_19 ?_
    refine s_iconst (pc := 22) S (v := (nI 3)) dX7_paperOf_22 (by decide) ?_
    refine s_iload_n (pc := 23) S 1 dX7_paperOf_23 rfl rfl ?_
    refine s_imulN (pc := 24) S dX7_paperOf_24 ?_
    refine s_iload_n (pc := 25) S 2 dX7_paperOf_25 rfl rfl ?_
    refine s_iaddN (pc := 26) S dX7_paperOf_26 ?_
    refine s_cald (pc := 27) S hz (x := C 60 8 ((3 * k_2) + t_3)) (cc_row (A := A) (C := (up3 C 60 100 27 0)) (x := aN .char 12 ((up3 C 60 100 27 0) 60 8)) 8 (by decide) rfl) (by omega) (by omega) rfl dX7_paperOf_27 ?_
    exact s_zret (pc := 28) S hz hlo (nar_c (by omega)) hr ⟨rfl, Or.inl ⟨k_2, t_3, hk_4, ht_5, rfl, rfl, rfl, rfl⟩⟩ (Nat.le_of_ble_eq_true rfl) (Nat.le_of_ble_eq_true rfl) dX7_paperOf_28
  · refine s_callV (pc := 7) S hz hml [.int (nI 0)] (k_X7_checked Z l A C 0 (by decide)) (cwV 1 S.2.2.2.2 gX7_paperOf_X7_checked rfl rfl rfl (by decide +kernel) ⟨Nat.le_of_ble_eq_true rfl, Nat.le_of_ble_eq_true rfl⟩) (cc_mod (A := A) (C := C)) rfl rfl rfl (Nat.le_of_ble_eq_true rfl) dX7_paperOf_7 ⟨Nat.le_of_ble_eq_true rfl, Nat.le_of_ble_eq_true rfl⟩ (fun _ _ _ h => h.elim) (fun v A2 C2 h_11 => ?_)
    obtain ⟨rfl, rfl, rfl⟩ := h_11
    refine s_if_leN (pc := 10) S 18 dX7_paperOf_10 (by decide) (by decide) (fun h => absurd h (by decide)) (fun _ => ?_)
    refine s_bipush (pc := 13) S (v := (nI 32)) dX7_paperOf_13 (by decide) ?_
    refine s_goto (pc := 15) S 28 dX7_paperOf_15 (by decide) ?_
    exact s_zret (pc := 28) S hz hlo (nar_c (by omega)) hr ⟨rfl, Or.inr (⟨no_6, rfl, rfl⟩)⟩ (Nat.le_of_ble_eq_true rfl) (Nat.le_of_ble_eq_true rfl) dX7_paperOf_28
set_option maxHeartbeats 4000000 in
set_option maxRecDepth 100000 in
theorem k_X7_setToner (Z : Zp) (l : Launch) (A : AF) (C : CF) (x : Int32) (cb : Nat) (y : Int32) (hcb : cb < 2) (hO : OkR C) : CtS Z l yX7_setToner wsX7_setToner ({ frames := 2, cells := 0, slots := 0, locals := 43 }) [.ref (A 60 100), .int x, .int (nI cb), .int y] A C 0 0 (fun v A2 C2 => A = A2 ∧ ((∃ k_2 w_15 : Nat, k_2 < C 60 100 29 ∧ nI k_2 = x ∧ 0 ≤ w_15 ∧ w_15 ≤ 1000 ∧ nI w_15 = y ∧ cb = 0 ∧ (up3 (up3 C 60 100 27 0) 60 4 k_2 w_15) = C2 ∧ some (.int (nI (C 60 4 k_2))) = v) ∨ (∃ k_2 w_15 : Nat, k_2 < C 60 100 29 ∧ nI k_2 = x ∧ 0 ≤ w_15 ∧ w_15 ≤ 1000 ∧ nI w_15 = y ∧ ¬ cb = 0 ∧ ¬ C 60 11 k_2 = 0 ∧ (up3 (up3 C 60 100 27 0) 60 5 k_2 w_15) = C2 ∧ some (.int (nI (C 60 5 k_2))) = v) ∨ (∃ k_2 w_15 : Nat, k_2 < C 60 100 29 ∧ nI k_2 = x ∧ 0 ≤ w_15 ∧ w_15 ≤ 1000 ∧ nI w_15 = y ∧ ¬ cb = 0 ∧ C 60 11 k_2 = 0 ∧ (up3 C 60 100 27 3) = C2 ∧ some (.int (nI 0)) = v) ∨ (∃ k_2 : Nat, k_2 < C 60 100 29 ∧ nI k_2 = x ∧ (∀ k : Nat, 0 ≤ k → k ≤ 1000 → nI k ≠ y) ∧ (up3 C 60 100 27 2) = C2 ∧ some (.int (nI 0)) = v) ∨ ((∀ k : Nat, k < C 60 100 29 → nI k ≠ x) ∧ (up3 C 60 100 27 1) = C2 ∧ some (.int (nI 0)) = v))) (fun _ _ _ => False) := by
  refine CtS.of (cc0 := cX7_setToner) (maxL := 5) (ret := (some .int)) (by decide) rfl (Nat.le_of_ble_eq_true rfl) ?_
  intro M0_ p_ e_ s_ m_ args_ below_ meth_ c_ S hz hml hex hlo hr hin
  refine s_loc (L2 := [(0, .ref (A 60 100)), (1, .int x), (2, .int (nI cb)), (3, .int y)]) rfl ?_
  have i_RX7 : ∀ w ∈ u_ws RX7 TX7 38, w ∈ wsX7_setToner := by decide +kernel
  obtain ⟨oU, oP, oJ, oTc, oY, o8, o9, o10, o11, o12, o13, o14, o15, oX, oQ, oB, oK, oS, oJk, oM, oCo, oSh, oLg, oPo, oLl, oL2, oL3, oL4, oLle, oE1, oE2, oE3, oE4⟩ := id hO
  have hu : C 60 100 28 < 2 ^ 30 := by omega
  have hp : C 60 100 29 < 2 ^ 30 := by omega
  have hj : C 60 100 30 < 2 ^ 30 := by omega
  have hlg : C 60 100 31 < 2 ^ 30 := by omega
  have hp4 := oP
  have htc := oTc
  refine s_aload_n (pc := 0) S 0 dX7_setToner_0 rfl rfl ?_
  refine s_aload_n (pc := 1) S 0 dX7_setToner_1 rfl rfl ?_
  refine s_iload_n (pc := 2) S 1 dX7_setToner_2 rfl rfl ?_
  refine s_callV (pc := 3) S hz hml [.int x] (k_X7_isPrinter Z l A C x hp) (cwV 1 S.2.2.2.2 gX7_setToner_X7_isPrinter rfl rfl rfl (by decide +kernel) ⟨Nat.le_of_ble_eq_true rfl, Nat.le_of_ble_eq_true rfl⟩) (cc_mod (A := A) (C := C)) rfl rfl rfl (Nat.le_of_ble_eq_true rfl) dX7_setToner_3 ⟨Nat.le_of_ble_eq_true rfl, Nat.le_of_ble_eq_true rfl⟩ (fun _ _ _ h => h.elim) (fun v A2 C2 h_1 => ?_)
  rcases h_1 with ⟨rfl, rfl, ⟨k_2, hk_3, rfl, rfl⟩ | ⟨no_4, rfl⟩⟩
  · have z_5 : k_2 < 4 := by omega
    have z_6 := oTc k_2
    have z_7 := oB k_2
    have z_8 := oK k_2
    have z_9 := oS k_2
    have z_10 := o11 k_2
    refine s_if_neN (pc := 6) S 13 dX7_setToner_6 (by decide) (by decide) (fun _ => ?_) (fun h => absurd h (by decide))
    refine s_iload_n (pc := 13) S 3 dX7_setToner_13 rfl rfl ?_
    refine s_iconst (pc := 14) S (v := (nI 0)) dX7_setToner_14 (by decide) ?_
    refine s_sipush (pc := 15) S (v := (nI 1000)) dX7_setToner_15 (by decide) ?_
    refine s_callS (pc := 18) S hz hml [.int y, .int (nI 0), .int (nI 1000)] (k_X7_in Z l A C y (nI 0) (nI 1000)) (cwS 3 S.2.2.2.2 gX7_setToner_X7_in rfl rfl rfl (by decide +kernel) ⟨Nat.le_of_ble_eq_true rfl, Nat.le_of_ble_eq_true rfl⟩) rfl rfl (Nat.le_of_ble_eq_true rfl) dX7_setToner_18 ⟨Nat.le_of_ble_eq_true rfl, Nat.le_of_ble_eq_true rfl⟩ (fun _ _ _ h => h.elim) (fun v A2 C2 h_11 => ?_)
    rcases h_11 with ⟨rfl, rfl, ⟨p_12, p_13, rfl⟩ | ⟨p_14, rfl⟩⟩
    · obtain ⟨w_15, r_16, r_17, rfl⟩ := rg_of (by decide) p_12 p_13 (by decide)
      refine s_if_neN (pc := 21) S 28 dX7_setToner_21 (by decide) (by decide) (fun _ => ?_) (fun h => absurd h (by decide))
      refine s_iload_n (pc := 28) S 2 dX7_setToner_28 rfl rfl ?_
      refine s_if_eqN (pc := 29) S 45 dX7_setToner_29 (by decide) (by omega) (fun c_18 => ?_) (fun c_18 => ?_)
      · refine s_iconst (pc := 45) S (v := (nI 0)) dX7_setToner_45 (by decide) ?_
        refine s_put (pc := 46) S hz (ref := "SpoolFarmModel") (ty := .int) (cc_mod (A := A) (C := C)) i_RX7 tyX7 tyX7_ok nmX7 rfl 27 (Nat.le_of_ble_eq_true rfl) (by decide +kernel) (fun _ h => h) rfl (by decide +kernel) rfl rfl (Nat.le_of_ble_eq_true rfl) (up3 C 60 100 27 0) cu_mod (by rw [(cc_mod (A := A) (C := (up3 C 60 100 27 0))), up3_u]; rfl) dX7_setToner_46 ?_
        refine s_aload_n (pc := 49) S 0 dX7_setToner_49 rfl rfl ?_
        refine s_get (pc := 50) S hz (ref := "SpoolFarmModel") (v := .int (nI 0)) (cc_mod (A := A) (C := (up3 C 60 100 27 0))) i_RX7 rfl 27 (Nat.le_of_ble_eq_true rfl) (by decide +kernel) (fun _ h => h) rfl dX7_setToner_50 ?_
        refine s_if_leN (pc := 53) S 58 dX7_setToner_53 (by decide) (by decide) (fun _ => ?_) (fun h => absurd h (by decide))
        refine s_iload_n (pc := 58) S 2 dX7_setToner_58 rfl rfl ?_
        refine s_if_eqN (pc := 59) S 71 dX7_setToner_59 (by decide) (by omega) (fun c_19 => ?_) (fun c_19 => absurd c_19 (by omega))
        refine s_aload_n (pc := 71) S 0 dX7_setToner_71 rfl rfl ?_
        refine s_get (pc := 72) S hz (ref := "SpoolFarmModel") (v := .ref (A 60 4)) (cc_mod (A := A) (C := (up3 C 60 100 27 0))) i_RX7 rfl 4 (Nat.le_of_ble_eq_true rfl) (by decide +kernel) (fun _ h => h) rfl dX7_setToner_72 ?_
        refine s_iload_n (pc := 75) S 1 dX7_setToner_75 rfl rfl ?_
        refine s_iald (pc := 76) S hz (x := C 60 4 k_2) (cc_row (A := A) (C := (up3 C 60 100 27 0)) (x := aN .int 4 ((up3 C 60 100 27 0) 60 4)) 4 (by decide) rfl) (by omega) (by omega) rfl dX7_setToner_76 ?_
        refine s_istore (pc := 77) S [(4, .int (nI (C 60 4 k_2))), (0, .ref (A 60 100)), (1, .int (nI k_2)), (2, .int (nI cb)), (3, .int (nI w_15))] dX7_setToner_77 (by decide) rfl ?_
        refine s_iload_n (pc := 79) S 3 dX7_setToner_79 rfl rfl ?_
        refine s_if_eqN (pc := 80) S 93 dX7_setToner_80 (by decide) (by omega) (fun c_20 => ?_) (fun c_20 => absurd c_20 (by omega))
        refine s_aload_n (pc := 93) S 1 dX7_setToner_93 rfl rfl ?_
        refine s_get (pc := 94) S hz (ref := "SpoolFarmModel") (v := .ref (A 60 4)) (cc_mod (A := A) (C := (up3 C 60 100 27 0))) i_RX7 rfl 4 (Nat.le_of_ble_eq_true rfl) (by decide +kernel) (fun _ h => h) rfl dX7_setToner_94 ?_
        refine s_iload_n (pc := 97) S 2 dX7_setToner_97 rfl rfl ?_
        refine s_iload_n (pc := 98) S 4 dX7_setToner_98 rfl rfl ?_
        refine s_iast (pc := 99) S hz (cc_row (A := A) (C := (up3 C 60 100 27 0)) (x := aN .int 4 ((up3 C 60 100 27 0) 60 4)) 4 (by decide) rfl) (by omega) (by omega) (up3 (up3 C 60 100 27 0) 60 4 k_2 w_15) cu_mod (by rw [(cc_row (A := A) (C := (up3 (up3 C 60 100 27 0) 60 4 k_2 w_15)) (x := aN .int 4 ((up3 (up3 C 60 100 27 0) 60 4 k_2 w_15) 60 4)) 4 (by decide) rfl), up3_u]) dX7_setToner_99 ?_
        refine s_iload (pc := 100) S 0 dX7_setToner_100 rfl ?_
        exact s_iret (pc := 102) S hz hlo hr ⟨rfl, Or.inl ⟨k_2, w_15, hk_3, rfl, r_16, r_17, rfl, c_18, rfl, rfl⟩⟩ (Nat.le_of_ble_eq_true rfl) (Nat.le_of_ble_eq_true rfl) dX7_setToner_102
      · refine s_aload_n (pc := 32) S 0 dX7_setToner_32 rfl rfl ?_
        refine s_get (pc := 33) S hz (ref := "SpoolFarmModel") (v := .ref (A 60 11)) (cc_mod (A := A) (C := C)) i_RX7 rfl 11 (Nat.le_of_ble_eq_true rfl) (by decide +kernel) (fun _ h => h) rfl dX7_setToner_33 ?_
        refine s_iload_n (pc := 36) S 1 dX7_setToner_36 rfl rfl ?_
        refine s_zald (pc := 37) S hz (x := C 60 11 k_2) (cc_row (A := A) (C := C) (x := aN .boolean 4 (C 60 11)) 11 (by decide) rfl) (by omega) (by omega) rfl dX7_setToner_37 ?_
        refine s_if_neN (pc := 38) S 45 dX7_setToner_38 (by decide) (by omega) (fun c_21 => ?_) (fun c_21 => ?_)
        · refine s_iconst (pc := 45) S (v := (nI 0)) dX7_setToner_45 (by decide) ?_
          refine s_put (pc := 46) S hz (ref := "SpoolFarmModel") (ty := .int) (cc_mod (A := A) (C := C)) i_RX7 tyX7 tyX7_ok nmX7 rfl 27 (Nat.le_of_ble_eq_true rfl) (by decide +kernel) (fun _ h => h) rfl (by decide +kernel) rfl rfl (Nat.le_of_ble_eq_true rfl) (up3 C 60 100 27 0) cu_mod (by rw [(cc_mod (A := A) (C := (up3 C 60 100 27 0))), up3_u]; rfl) dX7_setToner_46 ?_
          refine s_aload_n (pc := 49) S 0 dX7_setToner_49 rfl rfl ?_
          refine s_get (pc := 50) S hz (ref := "SpoolFarmModel") (v := .int (nI 0)) (cc_mod (A := A) (C := (up3 C 60 100 27 0))) i_RX7 rfl 27 (Nat.le_of_ble_eq_true rfl) (by decide +kernel) (fun _ h => h) rfl dX7_setToner_50 ?_
          refine s_if_leN (pc := 53) S 58 dX7_setToner_53 (by decide) (by decide) (fun _ => ?_) (fun h => absurd h (by decide))
          refine s_iload_n (pc := 58) S 2 dX7_setToner_58 rfl rfl ?_
          refine s_if_eqN (pc := 59) S 71 dX7_setToner_59 (by decide) (by omega) (fun c_22 => absurd c_22 (by omega)) (fun c_22 => ?_)
          refine s_aload_n (pc := 62) S 0 dX7_setToner_62 rfl rfl ?_
          refine s_get (pc := 63) S hz (ref := "SpoolFarmModel") (v := .ref (A 60 5)) (cc_mod (A := A) (C := (up3 C 60 100 27 0))) i_RX7 rfl 5 (Nat.le_of_ble_eq_true rfl) (by decide +kernel) (fun _ h => h) rfl dX7_setToner_63 ?_
          refine s_iload_n (pc := 66) S 1 dX7_setToner_66 rfl rfl ?_
          refine s_iald (pc := 67) S hz (x := C 60 5 k_2) (cc_row (A := A) (C := (up3 C 60 100 27 0)) (x := aN .int 4 ((up3 C 60 100 27 0) 60 5)) 5 (by decide) rfl) (by omega) (by omega) rfl dX7_setToner_67 ?_
          refine s_goto (pc := 68) S 77 dX7_setToner_68 (by decide) ?_
          refine s_istore (pc := 77) S [(4, .int (nI (C 60 5 k_2))), (0, .ref (A 60 100)), (1, .int (nI k_2)), (2, .int (nI cb)), (3, .int (nI w_15))] dX7_setToner_77 (by decide) rfl ?_
          refine s_iload_n (pc := 79) S 3 dX7_setToner_79 rfl rfl ?_
          refine s_if_eqN (pc := 80) S 93 dX7_setToner_80 (by decide) (by omega) (fun c_23 => absurd c_23 (by omega)) (fun c_23 => ?_)
          refine s_aload_n (pc := 83) S 1 dX7_setToner_83 rfl rfl ?_
          refine s_get (pc := 84) S hz (ref := "SpoolFarmModel") (v := .ref (A 60 5)) (cc_mod (A := A) (C := (up3 C 60 100 27 0))) i_RX7 rfl 5 (Nat.le_of_ble_eq_true rfl) (by decide +kernel) (fun _ h => h) rfl dX7_setToner_84 ?_
          refine s_iload_n (pc := 87) S 2 dX7_setToner_87 rfl rfl ?_
          refine s_iload_n (pc := 88) S 4 dX7_setToner_88 rfl rfl ?_
          refine s_iast (pc := 89) S hz (cc_row (A := A) (C := (up3 C 60 100 27 0)) (x := aN .int 4 ((up3 C 60 100 27 0) 60 5)) 5 (by decide) rfl) (by omega) (by omega) (up3 (up3 C 60 100 27 0) 60 5 k_2 w_15) cu_mod (by rw [(cc_row (A := A) (C := (up3 (up3 C 60 100 27 0) 60 5 k_2 w_15)) (x := aN .int 4 ((up3 (up3 C 60 100 27 0) 60 5 k_2 w_15) 60 5)) 5 (by decide) rfl), up3_u]) dX7_setToner_89 ?_
          refine s_goto (pc := 90) S 100 dX7_setToner_90 (by decide) ?_
          refine s_iload (pc := 100) S 0 dX7_setToner_100 rfl ?_
          exact s_iret (pc := 102) S hz hlo hr ⟨rfl, Or.inr (Or.inl ⟨k_2, w_15, hk_3, rfl, r_16, r_17, rfl, c_18, c_21, rfl, rfl⟩)⟩ (Nat.le_of_ble_eq_true rfl) (Nat.le_of_ble_eq_true rfl) dX7_setToner_102
        · refine s_iconst (pc := 41) S (v := (nI 3)) dX7_setToner_41 (by decide) ?_
          refine s_goto (pc := 42) S 46 dX7_setToner_42 (by decide) ?_
          refine s_put (pc := 46) S hz (ref := "SpoolFarmModel") (ty := .int) (cc_mod (A := A) (C := C)) i_RX7 tyX7 tyX7_ok nmX7 rfl 27 (Nat.le_of_ble_eq_true rfl) (by decide +kernel) (fun _ h => h) rfl (by decide +kernel) rfl rfl (Nat.le_of_ble_eq_true rfl) (up3 C 60 100 27 3) cu_mod (by rw [(cc_mod (A := A) (C := (up3 C 60 100 27 3))), up3_u]; rfl) dX7_setToner_46 ?_
          refine s_aload_n (pc := 49) S 0 dX7_setToner_49 rfl rfl ?_
          refine s_get (pc := 50) S hz (ref := "SpoolFarmModel") (v := .int (nI 3)) (cc_mod (A := A) (C := (up3 C 60 100 27 3))) i_RX7 rfl 27 (Nat.le_of_ble_eq_true rfl) (by decide +kernel) (fun _ h => h) rfl dX7_setToner_50 ?_
          refine s_if_leN (pc := 53) S 58 dX7_setToner_53 (by decide) (by decide) (fun h => absurd h (by decide)) (fun _ => ?_)
          refine s_iconst (pc := 56) S (v := (nI 0)) dX7_setToner_56 (by decide) ?_
          exact s_iret (pc := 57) S hz hlo hr ⟨rfl, Or.inr (Or.inr (Or.inl ⟨k_2, w_15, hk_3, rfl, r_16, r_17, rfl, c_18, c_21, rfl, rfl⟩))⟩ (Nat.le_of_ble_eq_true rfl) (Nat.le_of_ble_eq_true rfl) dX7_setToner_57
    · have n_24 := rg_no (by decide) (by decide) p_14
      refine s_if_neN (pc := 21) S 28 dX7_setToner_21 (by decide) (by decide) (fun h => absurd h (by decide)) (fun _ => ?_)
      refine s_iconst (pc := 24) S (v := (nI 2)) dX7_setToner_24 (by decide) ?_
      refine s_goto (pc := 25) S 46 dX7_setToner_25 (by decide) ?_
      refine s_put (pc := 46) S hz (ref := "SpoolFarmModel") (ty := .int) (cc_mod (A := A) (C := C)) i_RX7 tyX7 tyX7_ok nmX7 rfl 27 (Nat.le_of_ble_eq_true rfl) (by decide +kernel) (fun _ h => h) rfl (by decide +kernel) rfl rfl (Nat.le_of_ble_eq_true rfl) (up3 C 60 100 27 2) cu_mod (by rw [(cc_mod (A := A) (C := (up3 C 60 100 27 2))), up3_u]; rfl) dX7_setToner_46 ?_
      refine s_aload_n (pc := 49) S 0 dX7_setToner_49 rfl rfl ?_
      refine s_get (pc := 50) S hz (ref := "SpoolFarmModel") (v := .int (nI 2)) (cc_mod (A := A) (C := (up3 C 60 100 27 2))) i_RX7 rfl 27 (Nat.le_of_ble_eq_true rfl) (by decide +kernel) (fun _ h => h) rfl dX7_setToner_50 ?_
      refine s_if_leN (pc := 53) S 58 dX7_setToner_53 (by decide) (by decide) (fun h => absurd h (by decide)) (fun _ => ?_)
      refine s_iconst (pc := 56) S (v := (nI 0)) dX7_setToner_56 (by decide) ?_
      exact s_iret (pc := 57) S hz hlo hr ⟨rfl, Or.inr (Or.inr (Or.inr (Or.inl ⟨k_2, hk_3, rfl, n_24, rfl, rfl⟩)))⟩ (Nat.le_of_ble_eq_true rfl) (Nat.le_of_ble_eq_true rfl) dX7_setToner_57
  · refine s_if_neN (pc := 6) S 13 dX7_setToner_6 (by decide) (by decide) (fun h => absurd h (by decide)) (fun _ => ?_)
    refine s_iconst (pc := 9) S (v := (nI 1)) dX7_setToner_9 (by decide) ?_
    refine s_goto (pc := 10) S 46 dX7_setToner_10 (by decide) ?_
    refine s_put (pc := 46) S hz (ref := "SpoolFarmModel") (ty := .int) (cc_mod (A := A) (C := C)) i_RX7 tyX7 tyX7_ok nmX7 rfl 27 (Nat.le_of_ble_eq_true rfl) (by decide +kernel) (fun _ h => h) rfl (by decide +kernel) rfl rfl (Nat.le_of_ble_eq_true rfl) (up3 C 60 100 27 1) cu_mod (by rw [(cc_mod (A := A) (C := (up3 C 60 100 27 1))), up3_u]; rfl) dX7_setToner_46 ?_
    refine s_aload_n (pc := 49) S 0 dX7_setToner_49 rfl rfl ?_
    refine s_get (pc := 50) S hz (ref := "SpoolFarmModel") (v := .int (nI 1)) (cc_mod (A := A) (C := (up3 C 60 100 27 1))) i_RX7 rfl 27 (Nat.le_of_ble_eq_true rfl) (by decide +kernel) (fun _ h => h) rfl dX7_setToner_50 ?_
    refine s_if_leN (pc := 53) S 58 dX7_setToner_53 (by decide) (by decide) (fun h => absurd h (by decide)) (fun _ => ?_)
    refine s_iconst (pc := 56) S (v := (nI 0)) dX7_setToner_56 (by decide) ?_
    exact s_iret (pc := 57) S hz hlo hr ⟨rfl, Or.inr (Or.inr (Or.inr (Or.inr (⟨no_4, rfl, rfl⟩))))⟩ (Nat.le_of_ble_eq_true rfl) (Nat.le_of_ble_eq_true rfl) dX7_setToner_57
set_option maxHeartbeats 4000000 in
set_option maxRecDepth 100000 in
theorem k_X7_tonerOf (Z : Zp) (l : Launch) (A : AF) (C : CF) (x : Int32) (cb : Nat) (hcb : cb < 2) (hO : OkR C) : CtS Z l yX7_tonerOf wsX7_tonerOf ({ frames := 2, cells := 0, slots := 0, locals := 43 }) [.ref (A 60 100), .int x, .int (nI cb)] A C 0 0 (fun v A2 C2 => A = A2 ∧ ((∃ k_2 : Nat, k_2 < C 60 100 29 ∧ nI k_2 = x ∧ cb = 0 ∧ (up3 C 60 100 27 0) = C2 ∧ some (.int (nI (C 60 4 k_2))) = v) ∨ (∃ k_2 : Nat, k_2 < C 60 100 29 ∧ nI k_2 = x ∧ ¬ cb = 0 ∧ ¬ C 60 11 k_2 = 0 ∧ (up3 C 60 100 27 0) = C2 ∧ some (.int (nI (C 60 5 k_2))) = v) ∨ (∃ k_2 : Nat, k_2 < C 60 100 29 ∧ nI k_2 = x ∧ ¬ cb = 0 ∧ C 60 11 k_2 = 0 ∧ (up3 C 60 100 27 2) = C2 ∧ some (.int (nI 0)) = v) ∨ ((∀ k : Nat, k < C 60 100 29 → nI k ≠ x) ∧ (up3 C 60 100 27 1) = C2 ∧ some (.int (nI 0)) = v))) (fun _ _ _ => False) := by
  refine CtS.of (cc0 := cX7_tonerOf) (maxL := 3) (ret := (some .int)) (by decide) rfl (Nat.le_of_ble_eq_true rfl) ?_
  intro M0_ p_ e_ s_ m_ args_ below_ meth_ c_ S hz hml hex hlo hr hin
  refine s_loc (L2 := [(0, .ref (A 60 100)), (1, .int x), (2, .int (nI cb))]) rfl ?_
  have i_RX7 : ∀ w ∈ u_ws RX7 TX7 38, w ∈ wsX7_tonerOf := by decide +kernel
  obtain ⟨oU, oP, oJ, oTc, oY, o8, o9, o10, o11, o12, o13, o14, o15, oX, oQ, oB, oK, oS, oJk, oM, oCo, oSh, oLg, oPo, oLl, oL2, oL3, oL4, oLle, oE1, oE2, oE3, oE4⟩ := id hO
  have hu : C 60 100 28 < 2 ^ 30 := by omega
  have hp : C 60 100 29 < 2 ^ 30 := by omega
  have hj : C 60 100 30 < 2 ^ 30 := by omega
  have hlg : C 60 100 31 < 2 ^ 30 := by omega
  have hp4 := oP
  have htc := oTc
  refine s_aload_n (pc := 0) S 0 dX7_tonerOf_0 rfl rfl ?_
  refine s_aload_n (pc := 1) S 0 dX7_tonerOf_1 rfl rfl ?_
  refine s_iload_n (pc := 2) S 1 dX7_tonerOf_2 rfl rfl ?_
  refine s_callV (pc := 3) S hz hml [.int x] (k_X7_isPrinter Z l A C x hp) (cwV 1 S.2.2.2.2 gX7_tonerOf_X7_isPrinter rfl rfl rfl (by decide +kernel) ⟨Nat.le_of_ble_eq_true rfl, Nat.le_of_ble_eq_true rfl⟩) (cc_mod (A := A) (C := C)) rfl rfl rfl (Nat.le_of_ble_eq_true rfl) dX7_tonerOf_3 ⟨Nat.le_of_ble_eq_true rfl, Nat.le_of_ble_eq_true rfl⟩ (fun _ _ _ h => h.elim) (fun v A2 C2 h_1 => ?_)
  rcases h_1 with ⟨rfl, rfl, ⟨k_2, hk_3, rfl, rfl⟩ | ⟨no_4, rfl⟩⟩
  · have z_5 : k_2 < 4 := by omega
    have z_6 := oTc k_2
    have z_7 := oB k_2
    have z_8 := oK k_2
    have z_9 := oS k_2
    have z_10 := o11 k_2
    refine s_if_neN (pc := 6) S 13 dX7_tonerOf_6 (by decide) (by decide) (fun _ => ?_) (fun h => absurd h (by decide))
    refine s_iload_n (pc := 13) S 2 dX7_tonerOf_13 rfl rfl ?_
    refine s_if_eqN (pc := 14) S 30 dX7_tonerOf_14 (by decide) (by omega) (fun c_11 => ?_) (fun c_11 => ?_)
    · refine s_iconst (pc := 30) S (v := (nI 0)) dX7_tonerOf_30 (by decide) ?_
      refine s_put (pc := 31) S hz (ref := "SpoolFarmModel") (ty := .int) (cc_mod (A := A) (C := C)) i_RX7 tyX7 tyX7_ok nmX7 rfl 27 (Nat.le_of_ble_eq_true rfl) (by decide +kernel) (fun _ h => h) rfl (by decide +kernel) rfl rfl (Nat.le_of_ble_eq_true rfl) (up3 C 60 100 27 0) cu_mod (by rw [(cc_mod (A := A) (C := (up3 C 60 100 27 0))), up3_u]; rfl) dX7_tonerOf_31 ?_
      refine s_aload_n (pc := 34) S 0 dX7_tonerOf_34 rfl rfl ?_
      refine s_get (pc := 35) S hz (ref := "SpoolFarmModel") (v := .int (nI 0)) (cc_mod (A := A) (C := (up3 C 60 100 27 0))) i_RX7 rfl 27 (Nat.le_of_ble_eq_true rfl) (by decide +kernel) (fun _ h => h) rfl dX7_tonerOf_35 ?_
      refine s_if_leN (pc := 38) S 43 dX7_tonerOf_38 (by decide) (by decide) (fun _ => ?_) (fun h => absurd h (by decide))
      refine s_iload_n (pc := 43) S 2 dX7_tonerOf_43 rfl rfl ?_
      refine s_if_eqN (pc := 44) S 56 dX7_tonerOf_44 (by decide) (by omega) (fun c_12 => ?_) (fun c_12 => absurd c_12 (by omega))
      refine s_aload_n (pc := 56) S 0 dX7_tonerOf_56 rfl rfl ?_
      refine s_get (pc := 57) S hz (ref := "SpoolFarmModel") (v := .ref (A 60 4)) (cc_mod (A := A) (C := (up3 C 60 100 27 0))) i_RX7 rfl 4 (Nat.le_of_ble_eq_true rfl) (by decide +kernel) (fun _ h => h) rfl dX7_tonerOf_57 ?_
      refine s_iload_n (pc := 60) S 1 dX7_tonerOf_60 rfl rfl ?_
      refine s_iald (pc := 61) S hz (x := C 60 4 k_2) (cc_row (A := A) (C := (up3 C 60 100 27 0)) (x := aN .int 4 ((up3 C 60 100 27 0) 60 4)) 4 (by decide) rfl) (by omega) (by omega) rfl dX7_tonerOf_61 ?_
      exact s_iret (pc := 62) S hz hlo hr ⟨rfl, Or.inl ⟨k_2, hk_3, rfl, c_11, rfl, rfl⟩⟩ (Nat.le_of_ble_eq_true rfl) (Nat.le_of_ble_eq_true rfl) dX7_tonerOf_62
    · refine s_aload_n (pc := 17) S 0 dX7_tonerOf_17 rfl rfl ?_
      refine s_get (pc := 18) S hz (ref := "SpoolFarmModel") (v := .ref (A 60 11)) (cc_mod (A := A) (C := C)) i_RX7 rfl 11 (Nat.le_of_ble_eq_true rfl) (by decide +kernel) (fun _ h => h) rfl dX7_tonerOf_18 ?_
      refine s_iload_n (pc := 21) S 1 dX7_tonerOf_21 rfl rfl ?_
      refine s_zald (pc := 22) S hz (x := C 60 11 k_2) (cc_row (A := A) (C := C) (x := aN .boolean 4 (C 60 11)) 11 (by decide) rfl) (by omega) (by omega) rfl dX7_tonerOf_22 ?_
      refine s_if_neN (pc := 23) S 30 dX7_tonerOf_23 (by decide) (by omega) (fun c_13 => ?_) (fun c_13 => ?_)
      · refine s_iconst (pc := 30) S (v := (nI 0)) dX7_tonerOf_30 (by decide) ?_
        refine s_put (pc := 31) S hz (ref := "SpoolFarmModel") (ty := .int) (cc_mod (A := A) (C := C)) i_RX7 tyX7 tyX7_ok nmX7 rfl 27 (Nat.le_of_ble_eq_true rfl) (by decide +kernel) (fun _ h => h) rfl (by decide +kernel) rfl rfl (Nat.le_of_ble_eq_true rfl) (up3 C 60 100 27 0) cu_mod (by rw [(cc_mod (A := A) (C := (up3 C 60 100 27 0))), up3_u]; rfl) dX7_tonerOf_31 ?_
        refine s_aload_n (pc := 34) S 0 dX7_tonerOf_34 rfl rfl ?_
        refine s_get (pc := 35) S hz (ref := "SpoolFarmModel") (v := .int (nI 0)) (cc_mod (A := A) (C := (up3 C 60 100 27 0))) i_RX7 rfl 27 (Nat.le_of_ble_eq_true rfl) (by decide +kernel) (fun _ h => h) rfl dX7_tonerOf_35 ?_
        refine s_if_leN (pc := 38) S 43 dX7_tonerOf_38 (by decide) (by decide) (fun _ => ?_) (fun h => absurd h (by decide))
        refine s_iload_n (pc := 43) S 2 dX7_tonerOf_43 rfl rfl ?_
        refine s_if_eqN (pc := 44) S 56 dX7_tonerOf_44 (by decide) (by omega) (fun c_14 => absurd c_14 (by omega)) (fun c_14 => ?_)
        refine s_aload_n (pc := 47) S 0 dX7_tonerOf_47 rfl rfl ?_
        refine s_get (pc := 48) S hz (ref := "SpoolFarmModel") (v := .ref (A 60 5)) (cc_mod (A := A) (C := (up3 C 60 100 27 0))) i_RX7 rfl 5 (Nat.le_of_ble_eq_true rfl) (by decide +kernel) (fun _ h => h) rfl dX7_tonerOf_48 ?_
        refine s_iload_n (pc := 51) S 1 dX7_tonerOf_51 rfl rfl ?_
        refine s_iald (pc := 52) S hz (x := C 60 5 k_2) (cc_row (A := A) (C := (up3 C 60 100 27 0)) (x := aN .int 4 ((up3 C 60 100 27 0) 60 5)) 5 (by decide) rfl) (by omega) (by omega) rfl dX7_tonerOf_52 ?_
        refine s_goto (pc := 53) S 62 dX7_tonerOf_53 (by decide) ?_
        exact s_iret (pc := 62) S hz hlo hr ⟨rfl, Or.inr (Or.inl ⟨k_2, hk_3, rfl, c_11, c_13, rfl, rfl⟩)⟩ (Nat.le_of_ble_eq_true rfl) (Nat.le_of_ble_eq_true rfl) dX7_tonerOf_62
      · refine s_iconst (pc := 26) S (v := (nI 2)) dX7_tonerOf_26 (by decide) ?_
        refine s_goto (pc := 27) S 31 dX7_tonerOf_27 (by decide) ?_
        refine s_put (pc := 31) S hz (ref := "SpoolFarmModel") (ty := .int) (cc_mod (A := A) (C := C)) i_RX7 tyX7 tyX7_ok nmX7 rfl 27 (Nat.le_of_ble_eq_true rfl) (by decide +kernel) (fun _ h => h) rfl (by decide +kernel) rfl rfl (Nat.le_of_ble_eq_true rfl) (up3 C 60 100 27 2) cu_mod (by rw [(cc_mod (A := A) (C := (up3 C 60 100 27 2))), up3_u]; rfl) dX7_tonerOf_31 ?_
        refine s_aload_n (pc := 34) S 0 dX7_tonerOf_34 rfl rfl ?_
        refine s_get (pc := 35) S hz (ref := "SpoolFarmModel") (v := .int (nI 2)) (cc_mod (A := A) (C := (up3 C 60 100 27 2))) i_RX7 rfl 27 (Nat.le_of_ble_eq_true rfl) (by decide +kernel) (fun _ h => h) rfl dX7_tonerOf_35 ?_
        refine s_if_leN (pc := 38) S 43 dX7_tonerOf_38 (by decide) (by decide) (fun h => absurd h (by decide)) (fun _ => ?_)
        refine s_iconst (pc := 41) S (v := (nI 0)) dX7_tonerOf_41 (by decide) ?_
        exact s_iret (pc := 42) S hz hlo hr ⟨rfl, Or.inr (Or.inr (Or.inl ⟨k_2, hk_3, rfl, c_11, c_13, rfl, rfl⟩))⟩ (Nat.le_of_ble_eq_true rfl) (Nat.le_of_ble_eq_true rfl) dX7_tonerOf_42
  · refine s_if_neN (pc := 6) S 13 dX7_tonerOf_6 (by decide) (by decide) (fun h => absurd h (by decide)) (fun _ => ?_)
    refine s_iconst (pc := 9) S (v := (nI 1)) dX7_tonerOf_9 (by decide) ?_
    refine s_goto (pc := 10) S 31 dX7_tonerOf_10 (by decide) ?_
    refine s_put (pc := 31) S hz (ref := "SpoolFarmModel") (ty := .int) (cc_mod (A := A) (C := C)) i_RX7 tyX7 tyX7_ok nmX7 rfl 27 (Nat.le_of_ble_eq_true rfl) (by decide +kernel) (fun _ h => h) rfl (by decide +kernel) rfl rfl (Nat.le_of_ble_eq_true rfl) (up3 C 60 100 27 1) cu_mod (by rw [(cc_mod (A := A) (C := (up3 C 60 100 27 1))), up3_u]; rfl) dX7_tonerOf_31 ?_
    refine s_aload_n (pc := 34) S 0 dX7_tonerOf_34 rfl rfl ?_
    refine s_get (pc := 35) S hz (ref := "SpoolFarmModel") (v := .int (nI 1)) (cc_mod (A := A) (C := (up3 C 60 100 27 1))) i_RX7 rfl 27 (Nat.le_of_ble_eq_true rfl) (by decide +kernel) (fun _ h => h) rfl dX7_tonerOf_35 ?_
    refine s_if_leN (pc := 38) S 43 dX7_tonerOf_38 (by decide) (by decide) (fun h => absurd h (by decide)) (fun _ => ?_)
    refine s_iconst (pc := 41) S (v := (nI 0)) dX7_tonerOf_41 (by decide) ?_
    exact s_iret (pc := 42) S hz hlo hr ⟨rfl, Or.inr (Or.inr (Or.inr (⟨no_4, rfl, rfl⟩)))⟩ (Nat.le_of_ble_eq_true rfl) (Nat.le_of_ble_eq_true rfl) dX7_tonerOf_42
set_option maxHeartbeats 4000000 in
set_option maxRecDepth 100000 in
theorem k_X7_setStaples (Z : Zp) (l : Launch) (A : AF) (C : CF) (x y : Int32) (hO : OkR C) : CtS Z l yX7_setStaples wsX7_setStaples ({ frames := 2, cells := 0, slots := 0, locals := 43 }) [.ref (A 60 100), .int x, .int y] A C 0 0 (fun v A2 C2 => A = A2 ∧ ((∃ k_2 w_15 : Nat, k_2 < C 60 100 29 ∧ nI k_2 = x ∧ 0 ≤ w_15 ∧ w_15 ≤ 100 ∧ nI w_15 = y ∧ (up3 (up3 C 60 100 27 0) 60 6 k_2 w_15) = C2 ∧ some (.int (nI (C 60 6 k_2))) = v) ∨ (∃ k_2 : Nat, k_2 < C 60 100 29 ∧ nI k_2 = x ∧ (∀ k : Nat, 0 ≤ k → k ≤ 100 → nI k ≠ y) ∧ (up3 C 60 100 27 2) = C2 ∧ some (.int (nI 0)) = v) ∨ ((∀ k : Nat, k < C 60 100 29 → nI k ≠ x) ∧ (up3 C 60 100 27 1) = C2 ∧ some (.int (nI 0)) = v))) (fun _ _ _ => False) := by
  refine CtS.of (cc0 := cX7_setStaples) (maxL := 4) (ret := (some .int)) (by decide) rfl (Nat.le_of_ble_eq_true rfl) ?_
  intro M0_ p_ e_ s_ m_ args_ below_ meth_ c_ S hz hml hex hlo hr hin
  refine s_loc (L2 := [(0, .ref (A 60 100)), (1, .int x), (2, .int y)]) rfl ?_
  have i_RX7 : ∀ w ∈ u_ws RX7 TX7 38, w ∈ wsX7_setStaples := by decide +kernel
  obtain ⟨oU, oP, oJ, oTc, oY, o8, o9, o10, o11, o12, o13, o14, o15, oX, oQ, oB, oK, oS, oJk, oM, oCo, oSh, oLg, oPo, oLl, oL2, oL3, oL4, oLle, oE1, oE2, oE3, oE4⟩ := id hO
  have hu : C 60 100 28 < 2 ^ 30 := by omega
  have hp : C 60 100 29 < 2 ^ 30 := by omega
  have hj : C 60 100 30 < 2 ^ 30 := by omega
  have hlg : C 60 100 31 < 2 ^ 30 := by omega
  have hp4 := oP
  have htc := oTc
  refine s_aload_n (pc := 0) S 0 dX7_setStaples_0 rfl rfl ?_
  refine s_aload_n (pc := 1) S 0 dX7_setStaples_1 rfl rfl ?_
  refine s_iload_n (pc := 2) S 1 dX7_setStaples_2 rfl rfl ?_
  refine s_callV (pc := 3) S hz hml [.int x] (k_X7_isPrinter Z l A C x hp) (cwV 1 S.2.2.2.2 gX7_setStaples_X7_isPrinter rfl rfl rfl (by decide +kernel) ⟨Nat.le_of_ble_eq_true rfl, Nat.le_of_ble_eq_true rfl⟩) (cc_mod (A := A) (C := C)) rfl rfl rfl (Nat.le_of_ble_eq_true rfl) dX7_setStaples_3 ⟨Nat.le_of_ble_eq_true rfl, Nat.le_of_ble_eq_true rfl⟩ (fun _ _ _ h => h.elim) (fun v A2 C2 h_1 => ?_)
  rcases h_1 with ⟨rfl, rfl, ⟨k_2, hk_3, rfl, rfl⟩ | ⟨no_4, rfl⟩⟩
  · have z_5 : k_2 < 4 := by omega
    have z_6 := oTc k_2
    have z_7 := oB k_2
    have z_8 := oK k_2
    have z_9 := oS k_2
    have z_10 := o11 k_2
    refine s_if_neN (pc := 6) S 13 dX7_setStaples_6 (by decide) (by decide) (fun _ => ?_) (fun h => absurd h (by decide))
    refine s_iload_n (pc := 13) S 2 dX7_setStaples_13 rfl rfl ?_
    refine s_iconst (pc := 14) S (v := (nI 0)) dX7_setStaples_14 (by decide) ?_
    refine s_bipush (pc := 15) S (v := (nI 100)) dX7_setStaples_15 (by decide) ?_
    refine s_callS (pc := 17) S hz hml [.int y, .int (nI 0), .int (nI 100)] (k_X7_in Z l A C y (nI 0) (nI 100)) (cwS 3 S.2.2.2.2 gX7_setStaples_X7_in rfl rfl rfl (by decide +kernel) ⟨Nat.le_of_ble_eq_true rfl, Nat.le_of_ble_eq_true rfl⟩) rfl rfl (Nat.le_of_ble_eq_true rfl) dX7_setStaples_17 ⟨Nat.le_of_ble_eq_true rfl, Nat.le_of_ble_eq_true rfl⟩ (fun _ _ _ h => h.elim) (fun v A2 C2 h_11 => ?_)
    rcases h_11 with ⟨rfl, rfl, ⟨p_12, p_13, rfl⟩ | ⟨p_14, rfl⟩⟩
    · obtain ⟨w_15, r_16, r_17, rfl⟩ := rg_of (by decide) p_12 p_13 (by decide)
      refine s_if_neN (pc := 20) S 27 dX7_setStaples_20 (by decide) (by decide) (fun _ => ?_) (fun h => absurd h (by decide))
      refine s_iconst (pc := 27) S (v := (nI 0)) dX7_setStaples_27 (by decide) ?_
      refine s_put (pc := 28) S hz (ref := "SpoolFarmModel") (ty := .int) (cc_mod (A := A) (C := C)) i_RX7 tyX7 tyX7_ok nmX7 rfl 27 (Nat.le_of_ble_eq_true rfl) (by decide +kernel) (fun _ h => h) rfl (by decide +kernel) rfl rfl (Nat.le_of_ble_eq_true rfl) (up3 C 60 100 27 0) cu_mod (by rw [(cc_mod (A := A) (C := (up3 C 60 100 27 0))), up3_u]; rfl) dX7_setStaples_28 ?_
      refine s_aload_n (pc := 31) S 0 dX7_setStaples_31 rfl rfl ?_
      refine s_get (pc := 32) S hz (ref := "SpoolFarmModel") (v := .int (nI 0)) (cc_mod (A := A) (C := (up3 C 60 100 27 0))) i_RX7 rfl 27 (Nat.le_of_ble_eq_true rfl) (by decide +kernel) (fun _ h => h) rfl dX7_setStaples_32 ?_
      refine s_if_leN (pc := 35) S 40 dX7_setStaples_35 (by decide) (by decide) (fun _ => ?_) (fun h => absurd h (by decide))
      refine s_aload_n (pc := 40) S 0 dX7_setStaples_40 rfl rfl ?_
      refine s_get (pc := 41) S hz (ref := "SpoolFarmModel") (v := .ref (A 60 6)) (cc_mod (A := A) (C := (up3 C 60 100 27 0))) i_RX7 rfl 6 (Nat.le_of_ble_eq_true rfl) (by decide +kernel) (fun _ h => h) rfl dX7_setStaples_41 ?_
      refine s_iload_n (pc := 44) S 1 dX7_setStaples_44 rfl rfl ?_
      refine s_iald (pc := 45) S hz (x := C 60 6 k_2) (cc_row (A := A) (C := (up3 C 60 100 27 0)) (x := aN .int 4 ((up3 C 60 100 27 0) 60 6)) 6 (by decide) rfl) (by omega) (by omega) rfl dX7_setStaples_45 ?_
      refine s_istore_n (pc := 46) S [(3, .int (nI (C 60 6 k_2))), (0, .ref (A 60 100)), (1, .int (nI k_2)), (2, .int (nI w_15))] dX7_setStaples_46 rfl (by decide) rfl ?_
      refine s_aload_n (pc := 47) S 1 dX7_setStaples_47 rfl rfl ?_
      refine s_get (pc := 48) S hz (ref := "SpoolFarmModel") (v := .ref (A 60 6)) (cc_mod (A := A) (C := (up3 C 60 100 27 0))) i_RX7 rfl 6 (Nat.le_of_ble_eq_true rfl) (by decide +kernel) (fun _ h => h) rfl dX7_setStaples_48 ?_
      refine s_iload_n (pc := 51) S 2 dX7_setStaples_51 rfl rfl ?_
      refine s_iload_n (pc := 52) S 3 dX7_setStaples_52 rfl rfl ?_
      refine s_iast (pc := 53) S hz (cc_row (A := A) (C := (up3 C 60 100 27 0)) (x := aN .int 4 ((up3 C 60 100 27 0) 60 6)) 6 (by decide) rfl) (by omega) (by omega) (up3 (up3 C 60 100 27 0) 60 6 k_2 w_15) cu_mod (by rw [(cc_row (A := A) (C := (up3 (up3 C 60 100 27 0) 60 6 k_2 w_15)) (x := aN .int 4 ((up3 (up3 C 60 100 27 0) 60 6 k_2 w_15) 60 6)) 6 (by decide) rfl), up3_u]) dX7_setStaples_53 ?_
      refine s_iload_n (pc := 54) S 0 dX7_setStaples_54 rfl rfl ?_
      exact s_iret (pc := 55) S hz hlo hr ⟨rfl, Or.inl ⟨k_2, w_15, hk_3, rfl, r_16, r_17, rfl, rfl, rfl⟩⟩ (Nat.le_of_ble_eq_true rfl) (Nat.le_of_ble_eq_true rfl) dX7_setStaples_55
    · have n_18 := rg_no (by decide) (by decide) p_14
      refine s_if_neN (pc := 20) S 27 dX7_setStaples_20 (by decide) (by decide) (fun h => absurd h (by decide)) (fun _ => ?_)
      refine s_iconst (pc := 23) S (v := (nI 2)) dX7_setStaples_23 (by decide) ?_
      refine s_goto (pc := 24) S 28 dX7_setStaples_24 (by decide) ?_
      refine s_put (pc := 28) S hz (ref := "SpoolFarmModel") (ty := .int) (cc_mod (A := A) (C := C)) i_RX7 tyX7 tyX7_ok nmX7 rfl 27 (Nat.le_of_ble_eq_true rfl) (by decide +kernel) (fun _ h => h) rfl (by decide +kernel) rfl rfl (Nat.le_of_ble_eq_true rfl) (up3 C 60 100 27 2) cu_mod (by rw [(cc_mod (A := A) (C := (up3 C 60 100 27 2))), up3_u]; rfl) dX7_setStaples_28 ?_
      refine s_aload_n (pc := 31) S 0 dX7_setStaples_31 rfl rfl ?_
      refine s_get (pc := 32) S hz (ref := "SpoolFarmModel") (v := .int (nI 2)) (cc_mod (A := A) (C := (up3 C 60 100 27 2))) i_RX7 rfl 27 (Nat.le_of_ble_eq_true rfl) (by decide +kernel) (fun _ h => h) rfl dX7_setStaples_32 ?_
      refine s_if_leN (pc := 35) S 40 dX7_setStaples_35 (by decide) (by decide) (fun h => absurd h (by decide)) (fun _ => ?_)
      refine s_iconst (pc := 38) S (v := (nI 0)) dX7_setStaples_38 (by decide) ?_
      exact s_iret (pc := 39) S hz hlo hr ⟨rfl, Or.inr (Or.inl ⟨k_2, hk_3, rfl, n_18, rfl, rfl⟩)⟩ (Nat.le_of_ble_eq_true rfl) (Nat.le_of_ble_eq_true rfl) dX7_setStaples_39
  · refine s_if_neN (pc := 6) S 13 dX7_setStaples_6 (by decide) (by decide) (fun h => absurd h (by decide)) (fun _ => ?_)
    refine s_iconst (pc := 9) S (v := (nI 1)) dX7_setStaples_9 (by decide) ?_
    refine s_goto (pc := 10) S 28 dX7_setStaples_10 (by decide) ?_
    refine s_put (pc := 28) S hz (ref := "SpoolFarmModel") (ty := .int) (cc_mod (A := A) (C := C)) i_RX7 tyX7 tyX7_ok nmX7 rfl 27 (Nat.le_of_ble_eq_true rfl) (by decide +kernel) (fun _ h => h) rfl (by decide +kernel) rfl rfl (Nat.le_of_ble_eq_true rfl) (up3 C 60 100 27 1) cu_mod (by rw [(cc_mod (A := A) (C := (up3 C 60 100 27 1))), up3_u]; rfl) dX7_setStaples_28 ?_
    refine s_aload_n (pc := 31) S 0 dX7_setStaples_31 rfl rfl ?_
    refine s_get (pc := 32) S hz (ref := "SpoolFarmModel") (v := .int (nI 1)) (cc_mod (A := A) (C := (up3 C 60 100 27 1))) i_RX7 rfl 27 (Nat.le_of_ble_eq_true rfl) (by decide +kernel) (fun _ h => h) rfl dX7_setStaples_32 ?_
    refine s_if_leN (pc := 35) S 40 dX7_setStaples_35 (by decide) (by decide) (fun h => absurd h (by decide)) (fun _ => ?_)
    refine s_iconst (pc := 38) S (v := (nI 0)) dX7_setStaples_38 (by decide) ?_
    exact s_iret (pc := 39) S hz hlo hr ⟨rfl, Or.inr (Or.inr (⟨no_4, rfl, rfl⟩))⟩ (Nat.le_of_ble_eq_true rfl) (Nat.le_of_ble_eq_true rfl) dX7_setStaples_39
set_option maxHeartbeats 4000000 in
set_option maxRecDepth 100000 in
theorem k_X7_staplesIn (Z : Zp) (l : Launch) (A : AF) (C : CF) (x : Int32) (hO : OkR C) : CtS Z l yX7_staplesIn wsX7_staplesIn ({ frames := 2, cells := 0, slots := 0, locals := 43 }) [.ref (A 60 100), .int x] A C 0 0 (fun v A2 C2 => A = A2 ∧ ((∃ k_2 : Nat, k_2 < C 60 100 29 ∧ nI k_2 = x ∧ (up3 C 60 100 27 0) = C2 ∧ some (.int (nI (C 60 6 k_2))) = v) ∨ ((∀ k : Nat, k < C 60 100 29 → nI k ≠ x) ∧ (up3 C 60 100 27 1) = C2 ∧ some (.int (nI 0)) = v))) (fun _ _ _ => False) := by
  refine CtS.of (cc0 := cX7_staplesIn) (maxL := 2) (ret := (some .int)) (by decide) rfl (Nat.le_of_ble_eq_true rfl) ?_
  intro M0_ p_ e_ s_ m_ args_ below_ meth_ c_ S hz hml hex hlo hr hin
  refine s_loc (L2 := [(0, .ref (A 60 100)), (1, .int x)]) rfl ?_
  have i_RX7 : ∀ w ∈ u_ws RX7 TX7 38, w ∈ wsX7_staplesIn := by decide +kernel
  obtain ⟨oU, oP, oJ, oTc, oY, o8, o9, o10, o11, o12, o13, o14, o15, oX, oQ, oB, oK, oS, oJk, oM, oCo, oSh, oLg, oPo, oLl, oL2, oL3, oL4, oLle, oE1, oE2, oE3, oE4⟩ := id hO
  have hu : C 60 100 28 < 2 ^ 30 := by omega
  have hp : C 60 100 29 < 2 ^ 30 := by omega
  have hj : C 60 100 30 < 2 ^ 30 := by omega
  have hlg : C 60 100 31 < 2 ^ 30 := by omega
  have hp4 := oP
  have htc := oTc
  refine s_aload_n (pc := 0) S 0 dX7_staplesIn_0 rfl rfl ?_
  refine s_aload_n (pc := 1) S 0 dX7_staplesIn_1 rfl rfl ?_
  refine s_iload_n (pc := 2) S 1 dX7_staplesIn_2 rfl rfl ?_
  refine s_callV (pc := 3) S hz hml [.int x] (k_X7_isPrinter Z l A C x hp) (cwV 1 S.2.2.2.2 gX7_staplesIn_X7_isPrinter rfl rfl rfl (by decide +kernel) ⟨Nat.le_of_ble_eq_true rfl, Nat.le_of_ble_eq_true rfl⟩) (cc_mod (A := A) (C := C)) rfl rfl rfl (Nat.le_of_ble_eq_true rfl) dX7_staplesIn_3 ⟨Nat.le_of_ble_eq_true rfl, Nat.le_of_ble_eq_true rfl⟩ (fun _ _ _ h => h.elim) (fun v A2 C2 h_1 => ?_)
  rcases h_1 with ⟨rfl, rfl, ⟨k_2, hk_3, rfl, rfl⟩ | ⟨no_4, rfl⟩⟩
  · have z_5 : k_2 < 4 := by omega
    have z_6 := oTc k_2
    have z_7 := oB k_2
    have z_8 := oK k_2
    have z_9 := oS k_2
    have z_10 := o11 k_2
    refine s_callV (pc := 6) S hz hml [.int (nI 1)] (k_X7_checked Z l A C 1 (by decide)) (cwV 1 S.2.2.2.2 gX7_staplesIn_X7_checked rfl rfl rfl (by decide +kernel) ⟨Nat.le_of_ble_eq_true rfl, Nat.le_of_ble_eq_true rfl⟩) (cc_mod (A := A) (C := C)) rfl rfl rfl (Nat.le_of_ble_eq_true rfl) dX7_staplesIn_6 ⟨Nat.le_of_ble_eq_true rfl, Nat.le_of_ble_eq_true rfl⟩ (fun _ _ _ h => h.elim) (fun v A2 C2 h_11 => ?_)
    obtain ⟨rfl, rfl, rfl⟩ := h_11
    refine s_if_leN (pc := 9) S 16 dX7_staplesIn_9 (by decide) (by decide) (fun _ => ?_) (fun h => absurd h (by decide))
    refine s_aload_n (pc := 16) S 0 dX7_staplesIn_16 rfl rfl ?_
    refine s_get (pc := 17) S hz (ref := "SpoolFarmModel") (v := .ref (A 60 6)) (cc_mod (A := A) (C := (up3 C 60 100 27 0))) i_RX7 rfl 6 (Nat.le_of_ble_eq_true rfl) (by decide +kernel) (fun _ h => h) rfl dX7_staplesIn_17 ?_
    refine s_iload_n (pc := 20) S 1 dX7_staplesIn_20 rfl rfl ?_
    refine s_iald (pc := 21) S hz (x := C 60 6 k_2) (cc_row (A := A) (C := (up3 C 60 100 27 0)) (x := aN .int 4 ((up3 C 60 100 27 0) 60 6)) 6 (by decide) rfl) (by omega) (by omega) rfl dX7_staplesIn_21 ?_
    exact s_iret (pc := 22) S hz hlo hr ⟨rfl, Or.inl ⟨k_2, hk_3, rfl, rfl, rfl⟩⟩ (Nat.le_of_ble_eq_true rfl) (Nat.le_of_ble_eq_true rfl) dX7_staplesIn_22
  · refine s_callV (pc := 6) S hz hml [.int (nI 0)] (k_X7_checked Z l A C 0 (by decide)) (cwV 1 S.2.2.2.2 gX7_staplesIn_X7_checked rfl rfl rfl (by decide +kernel) ⟨Nat.le_of_ble_eq_true rfl, Nat.le_of_ble_eq_true rfl⟩) (cc_mod (A := A) (C := C)) rfl rfl rfl (Nat.le_of_ble_eq_true rfl) dX7_staplesIn_6 ⟨Nat.le_of_ble_eq_true rfl, Nat.le_of_ble_eq_true rfl⟩ (fun _ _ _ h => h.elim) (fun v A2 C2 h_12 => ?_)
    obtain ⟨rfl, rfl, rfl⟩ := h_12
    refine s_if_leN (pc := 9) S 16 dX7_staplesIn_9 (by decide) (by decide) (fun h => absurd h (by decide)) (fun _ => ?_)
    refine s_iconst (pc := 12) S (v := (nI 0)) dX7_staplesIn_12 (by decide) ?_
    refine s_goto (pc := 13) S 22 dX7_staplesIn_13 (by decide) ?_
    exact s_iret (pc := 22) S hz hlo hr ⟨rfl, Or.inr (⟨no_4, rfl, rfl⟩)⟩ (Nat.le_of_ble_eq_true rfl) (Nat.le_of_ble_eq_true rfl) dX7_staplesIn_22
