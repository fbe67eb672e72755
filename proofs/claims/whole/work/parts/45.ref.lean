set_option maxHeartbeats 4000000 in
set_option maxRecDepth 100000 in
theorem k_X7_outPages (Z : Zp) (l : Launch) (A : AF) (C : CF) (cb : Nat) (hO : OkR C) (hcb : cb < 2) : CtS Z l yX7_outPages wsX7_outPages ({ frames := 0, cells := 0, slots := 0, locals := 0 }) [.ref (A 60 100), .int (nI cb)] A C 0 0 (fun v A2 C2 => A = A2 ∧ C = C2 ∧ some (.int (nI (ouN C cb (C 60 100 31)))) = v) (fun _ _ _ => False) := by
  refine CtS.of (cc0 := cX7_outPages) (maxL := 4) (ret := (some .int)) (by decide) rfl (Nat.le_of_ble_eq_true rfl) ?_
  intro M0_ p_ e_ s_ m_ args_ below_ meth_ c_ S hz hml hex hlo hr hin
  refine s_loc (L2 := [(0, .ref (A 60 100)), (1, .int (nI cb))]) rfl ?_
  have i_RX7 : ∀ w ∈ u_ws RX7 TX7 38, w ∈ wsX7_outPages := by decide +kernel
  obtain ⟨oU, oP, oJ, oTc, oY, o8, o9, o10, o11, o12, o13, o14, o15, oX, oQ, oB, oK, oS, oJk, oM, oCo, oSh, oLg, oPo, oLl, oL2, oL3, oL4, oLle, oE1, oE2, oE3, oE4⟩ := id hO
  have hu : C 60 100 28 < 2 ^ 30 := by omega
  have hp : C 60 100 29 < 2 ^ 30 := by omega
  have hj : C 60 100 30 < 2 ^ 30 := by omega
  have hlg : C 60 100 31 < 2 ^ 30 := by omega
  have hp4 := oP
  have htc := oTc
  refine s_iconst (pc := 0) S (v := (nI 0)) dX7_outPages_0 (by decide) ?_
  refine s_istore_n (pc := 1) S [(2, .int (nI 0)), (0, .ref (A 60 100)), (1, .int (nI cb))] dX7_outPages_1 rfl (by decide) rfl ?_
  refine s_iconst (pc := 2) S (v := (nI 0)) dX7_outPages_2 (by decide) ?_
  refine s_istore_n (pc := 3) S [(3, .int (nI 0)), (2, .int (nI 0)), (0, .ref (A 60 100)), (1, .int (nI cb))] dX7_outPages_3 rfl (by decide) rfl ?_
  refine s_perm [0, 1, 2, 3] [(3, .int (nI 0)), (2, .int (nI 0)), (0, .ref (A 60 100)), (1, .int (nI cb))] rfl ?_
  refine s_loop (σ := Nat) (fun j => j ≤ C 60 100 31) (fun j => C 60 100 31 - j) (fun _ => A) (fun j => C) (fun j => [(3, .int (nI j)), (2, .int (nI (ouN C cb j))), (0, .ref (A 60 100)), (1, .int (nI cb))]) 0 (Nat.zero_le _) rfl rfl rfl ?_
  intro j hI ih
  have hou := ouN_le (C := C) (b := cb) oE3 j
  have he1 := oE1 j
  have he3 := oE3 j
  have h12 := o12 (C 60 21 j)
  refine s_iload_n (pc := 4) S 0 dX7_outPages_4 rfl rfl ?_
  refine s_aload_n (pc := 5) S 2 dX7_outPages_5 rfl rfl ?_
  refine s_get (pc := 6) S hz (ref := "SpoolFarmModel") (v := .int (nI (C 60 100 31))) (cc_mod (A := A) (C := C)) i_RX7 rfl 31 (Nat.le_of_ble_eq_true rfl) (by decide +kernel) (fun _ h => h) rfl dX7_outPages_6 ?_
  refine s_icmp_geN (pc := 9) S 49 dX7_outPages_9 (by decide) (by omega) (by omega) (fun c_1 => ?_) (fun c_1 => ?_)
  · refine s_iload_n (pc := 49) S 1 dX7_outPages_49 rfl rfl ?_
    obtain rfl : j = C 60 100 31 := by omega
    exact s_iret (pc := 50) S hz hlo hr ⟨rfl, rfl, rfl⟩ (Nat.le_of_ble_eq_true rfl) (Nat.le_of_ble_eq_true rfl) dX7_outPages_50
  · refine s_iload_n (pc := 12) S 1 dX7_outPages_12 rfl rfl ?_
    refine s_iload_n (pc := 13) S 3 dX7_outPages_13 rfl rfl ?_
    refine s_if_eqN (pc := 14) S 31 dX7_outPages_14 (by decide) (by omega) (fun c_2 => ?_) (fun c_2 => ?_)
    · refine s_aload_n (pc := 31) S 2 dX7_outPages_31 rfl rfl ?_
      refine s_get (pc := 32) S hz (ref := "SpoolFarmModel") (v := .ref (A 60 23)) (cc_mod (A := A) (C := C)) i_RX7 rfl 23 (Nat.le_of_ble_eq_true rfl) (by decide +kernel) (fun _ h => h) rfl dX7_outPages_32 ?_
      refine s_iload_n (pc := 35) S 0 dX7_outPages_35 rfl rfl ?_
      refine s_iald (pc := 36) S hz (x := C 60 23 j) (cc_row (A := A) (C := C) (x := aN .int (C 61 23 0) (C 60 23)) 23 (by decide) rfl) (by omega) (by omega) rfl dX7_outPages_36 ?_
      refine s_goto (pc := 37) S 41 dX7_outPages_37 (by decide) ?_
      refine s_iaddN (pc := 41) S dX7_outPages_41 ?_
      refine s_istore_n (pc := 42) S [(2, .int (nI ((ouN C cb j) + (C 60 23 j)))), (3, .int (nI j)), (0, .ref (A 60 100)), (1, .int (nI cb))] dX7_outPages_42 rfl (by decide) rfl ?_
      refine s_iinc (pc := 43) S 1 [(3, .int (nI (j + 1))), (2, .int (nI ((ouN C cb j) + (C 60 23 j)))), (0, .ref (A 60 100)), (1, .int (nI cb))] dX7_outPages_43 rfl (nI_add _ 1) (by decide) rfl ?_
      refine s_goto (pc := 46) S 4 dX7_outPages_46 (by decide) ?_
      refine s_perm [0, 1, 2, 3] [(3, .int (nI (j + 1))), (2, .int (nI ((ouN C cb j) + (C 60 23 j)))), (0, .ref (A 60 100)), (1, .int (nI cb))] rfl ?_
      refine s_loc (L2 := [(3, .int (nI (j + 1))), (2, .int (nI (ouN C cb (j + 1)))), (0, .ref (A 60 100)), (1, .int (nI cb))]) (by rw [ouN_y (Or.inl c_2)]) ?_
      exact ih (j + 1) (by omega) (by omega)
    · refine s_aload_n (pc := 17) S 2 dX7_outPages_17 rfl rfl ?_
      refine s_get (pc := 18) S hz (ref := "SpoolFarmModel") (v := .ref (A 60 12)) (cc_mod (A := A) (C := C)) i_RX7 rfl 12 (Nat.le_of_ble_eq_true rfl) (by decide +kernel) (fun _ h => h) rfl dX7_outPages_18 ?_
      refine s_aload_n (pc := 21) S 2 dX7_outPages_21 rfl rfl ?_
      refine s_get (pc := 22) S hz (ref := "SpoolFarmModel") (v := .ref (A 60 21)) (cc_mod (A := A) (C := C)) i_RX7 rfl 21 (Nat.le_of_ble_eq_true rfl) (by decide +kernel) (fun _ h => h) rfl dX7_outPages_22 ?_
      refine s_iload_n (pc := 25) S 0 dX7_outPages_25 rfl rfl ?_
      refine s_iald (pc := 26) S hz (x := C 60 21 j) (cc_row (A := A) (C := C) (x := aN .int (C 61 21 0) (C 60 21)) 21 (by decide) rfl) (by omega) (by omega) rfl dX7_outPages_26 ?_
      refine s_zald (pc := 27) S hz (x := C 60 12 (C 60 21 j)) (cc_row (A := A) (C := C) (x := aN .boolean 40 (C 60 12)) 12 (by decide) rfl) (by omega) (by omega) rfl dX7_outPages_27 ?_
      refine s_if_eqN (pc := 28) S 40 dX7_outPages_28 (by decide) (by omega) (fun c_3 => ?_) (fun c_3 => ?_)
      · refine s_iconst (pc := 40) S (v := (nI 0)) dX7_outPages_40 (by decide) ?_
        refine s_iaddN (pc := 41) S dX7_outPages_41 ?_
        refine s_istore_n (pc := 42) S [(2, .int (nI ((ouN C cb j) + 0))), (3, .int (nI j)), (0, .ref (A 60 100)), (1, .int (nI cb))] dX7_outPages_42 rfl (by decide) rfl ?_
        refine s_iinc (pc := 43) S 1 [(3, .int (nI (j + 1))), (2, .int (nI ((ouN C cb j) + 0))), (0, .ref (A 60 100)), (1, .int (nI cb))] dX7_outPages_43 rfl (nI_add _ 1) (by decide) rfl ?_
        refine s_goto (pc := 46) S 4 dX7_outPages_46 (by decide) ?_
        refine s_perm [0, 1, 2, 3] [(3, .int (nI (j + 1))), (2, .int (nI ((ouN C cb j) + 0))), (0, .ref (A 60 100)), (1, .int (nI cb))] rfl ?_
        refine s_loc (L2 := [(3, .int (nI (j + 1))), (2, .int (nI (ouN C cb (j + 1)))), (0, .ref (A 60 100)), (1, .int (nI cb))]) (by rw [ouN_n c_2 c_3]; rfl) ?_
        exact ih (j + 1) (by omega) (by omega)
      · refine s_aload_n (pc := 31) S 2 dX7_outPages_31 rfl rfl ?_
        refine s_get (pc := 32) S hz (ref := "SpoolFarmModel") (v := .ref (A 60 23)) (cc_mod (A := A) (C := C)) i_RX7 rfl 23 (Nat.le_of_ble_eq_true rfl) (by decide +kernel) (fun _ h => h) rfl dX7_outPages_32 ?_
        refine s_iload_n (pc := 35) S 0 dX7_outPages_35 rfl rfl ?_
        refine s_iald (pc := 36) S hz (x := C 60 23 j) (cc_row (A := A) (C := C) (x := aN .int (C 61 23 0) (C 60 23)) 23 (by decide) rfl) (by omega) (by omega) rfl dX7_outPages_36 ?_
        refine s_goto (pc := 37) S 41 dX7_outPages_37 (by decide) ?_
        refine s_iaddN (pc := 41) S dX7_outPages_41 ?_
        refine s_istore_n (pc := 42) S [(2, .int (nI ((ouN C cb j) + (C 60 23 j)))), (3, .int (nI j)), (0, .ref (A 60 100)), (1, .int (nI cb))] dX7_outPages_42 rfl (by decide) rfl ?_
        refine s_iinc (pc := 43) S 1 [(3, .int (nI (j + 1))), (2, .int (nI ((ouN C cb j) + (C 60 23 j)))), (0, .ref (A 60 100)), (1, .int (nI cb))] dX7_outPages_43 rfl (nI_add _ 1) (by decide) rfl ?_
        refine s_goto (pc := 46) S 4 dX7_outPages_46 (by decide) ?_
        refine s_perm [0, 1, 2, 3] [(3, .int (nI (j + 1))), (2, .int (nI ((ouN C cb j) + (C 60 23 j)))), (0, .ref (A 60 100)), (1, .int (nI cb))] rfl ?_
        refine s_loc (L2 := [(3, .int (nI (j + 1))), (2, .int (nI (ouN C cb (j + 1)))), (0, .ref (A 60 100)), (1, .int (nI cb))]) (by rw [ouN_y (Or.inr c_3)]) ?_
        exact ih (j + 1) (by omega) (by omega)
