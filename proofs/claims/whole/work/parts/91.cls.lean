set_option maxHeartbeats 4000000 in
set_option maxRecDepth 100000 in
theorem k_X6_pagesByLog_ok (Z : Zp) (l : Launch) (A : AF) (C : CF) (D : CF) (hS : Sm D C) (hM : OkM D) (hL : OkL D) (k : Nat) (hk : k < C 0 0 3) : CtS Z l yX6_pagesByLog wsX6_pagesByLog ({ frames := 3, cells := 0, slots := 0, locals := 64 }) [.ref (A 0 0), .int (nI k)] A C 0 0 (fun v A2 C2 => A = A2 ∧ (C = C2 ∧ some (.int (nI (D 60 1 k))) = v)) (fun _ _ _ => False) := by
  refine CtS.of (cc0 := cX6_pagesByLog) (maxL := 5) (ret := (some .int)) (by decide) rfl (Nat.le_of_ble_eq_true rfl) ?_
  intro M0_ p_ e_ s_ m_ args_ below_ meth_ c_ S hz hml hex hlo hr hin
  refine s_loc (L2 := [(0, .ref (A 0 0)), (1, .int (nI k))]) rfl ?_
  have i_RX0 : ∀ w ∈ u_ws RX0 TX0 6, w ∈ wsX6_pagesByLog := by decide +kernel
  have i_RX6 : ∀ w ∈ u_ws RX6 TX6 12, w ∈ wsX6_pagesByLog := by decide +kernel
  have hK := hS.okk hM hL
  obtain ⟨⟨k3, k4, k5, k6, k7, k8⟩, kU, kP, kT, kJ, kL, kE, kB⟩ := id hK
  obtain ⟨hO, hG, hX⟩ := id hM
  have cu := hS.1.1
  have cp := hS.1.2.1
  have cj := hS.1.2.2.1
  have hl31 := hS.2.2.2.2.2.1.1
  obtain ⟨oU, oP, oJ, oTc, oY, o8, o9, o10, o11, o12, o13, o14, o15, oX, oQ, oB, oK, oS, oJk, oM, oCo, oSh, oLg, oPo, oLl, oL2, oL3, oL4, oLle, oE1, oE2, oE3, oE4⟩ := id hO
  have hD_k : k < D 60 100 28 := by omega
  refine s_aload_n (pc := 0) S 0 dX6_pagesByLog_0 rfl rfl ?_
  refine s_iload_n (pc := 1) S 1 dX6_pagesByLog_1 rfl rfl ?_
  refine s_callV (pc := 2) S hz hml [.int (nI k)] (k_X6_userAt_ok Z l A C k hk k3) (cwV 1 S.2.2.2.2 gX6_pagesByLog_X6_userAt rfl rfl rfl (by decide +kernel) ⟨Nat.le_of_ble_eq_true rfl, Nat.le_of_ble_eq_true rfl⟩) (cc_farm (A := A) (C := C)) rfl rfl rfl (Nat.le_of_ble_eq_true rfl) dX6_pagesByLog_2 ⟨Nat.le_of_ble_eq_true rfl, Nat.le_of_ble_eq_true rfl⟩ (fun _ _ _ h => h.elim) (fun v A2 C2 h_1 => ?_)
  obtain ⟨rfl, rfl, rfl⟩ := h_1
  refine s_pop (pc := 5) S dX6_pagesByLog_5 rfl ?_
  refine s_iconst (pc := 6) S (v := (nI 0)) dX6_pagesByLog_6 (by decide) ?_
  refine s_istore_n (pc := 7) S [(2, .int (nI 0)), (0, .ref (A 0 0)), (1, .int (nI k))] dX6_pagesByLog_7 rfl (by decide) rfl ?_
  refine s_iconst (pc := 8) S (v := (nI 0)) dX6_pagesByLog_8 (by decide) ?_
  refine s_istore_n (pc := 9) S [(3, .int (nI 0)), (2, .int (nI 0)), (0, .ref (A 0 0)), (1, .int (nI k))] dX6_pagesByLog_9 rfl (by decide) rfl ?_
  refine s_loc (L2 := [(3, .int (nI 0)), (2, .int (nI (pgU D k 0))), (0, .ref (A 0 0)), (1, .int (nI k))]) rfl ?_
  refine s_perm [0, 1, 3, 2] [(3, .int (nI 0)), (2, .int (nI (pgU D k 0))), (1, .int (nI k)), (0, .ref (A 0 0))] rfl ?_
  refine s_loop (σ := Nat) (fun e => e ≤ (D 60 100 31)) (fun e => (D 60 100 31) - e) (fun _ => A) (fun e => C) (fun e => [(3, .int (nI e)), (2, .int (nI (pgU D k e))), (1, .int (nI k)), (0, .ref (A 0 0))]) 0 (Nat.zero_le _) rfl rfl rfl ?_
  intro e hI ih
  have hsl := pgU_le (D := D) (u := k) oE3 e
  refine s_iload_n (pc := 10) S 0 dX6_pagesByLog_10 rfl rfl ?_
  refine s_aload_n (pc := 11) S 3 dX6_pagesByLog_11 rfl rfl ?_
  refine s_get (pc := 12) S hz (ref := "SpoolFarm") (v := .ref (A 4 0)) (cc_farm (A := A) (C := C)) i_RX6 rfl 9 (Nat.le_of_ble_eq_true rfl) (by decide +kernel) (fun _ h => h) rfl dX6_pagesByLog_12 ?_
  refine s_callV (pc := 15) S hz hml [] (k_logSize Z l A C) (cwV 0 S.2.2.2.2 gX6_pagesByLog_Jx4a65c_size_8abf5 rfl rfl rfl (by decide +kernel) ⟨Nat.le_of_ble_eq_true rfl, Nat.le_of_ble_eq_true rfl⟩) (cc_list (A := A) (C := C)) rfl rfl rfl (Nat.le_of_ble_eq_true rfl) dX6_pagesByLog_15 ⟨Nat.le_of_ble_eq_true rfl, Nat.le_of_ble_eq_true rfl⟩ (fun _ _ _ h => h.elim) (fun v A2 C2 h_2 => ?_)
  obtain ⟨rfl, rfl, rfl⟩ := h_2
  refine s_top (u := .int (nI (D 60 100 31))) (congrArg (fun x => Value.int (nI x)) hl31) ?_
  refine s_icmp_geN (pc := 18) S 61 dX6_pagesByLog_18 (by decide) (by omega) (by omega) (fun c_3 => ?_) (fun c_3 => ?_)
  · obtain rfl : e = (D 60 100 31) := by omega
    refine s_perm [1, 2, 3] [(2, .int (nI (pgU D k (D 60 100 31)))), (1, .int (nI k)), (0, .ref (A 0 0))] rfl ?_
    refine s_loc (L2 := [(2, .int (nI (D 60 1 k))), (1, .int (nI k)), (0, .ref (A 0 0))]) (by rw [hL.2.1 k]) ?_
    have z_4 := oPo k
    refine s_iload_n (pc := 61) S 0 dX6_pagesByLog_61 rfl rfl ?_
    exact s_iret (pc := 62) S hz hlo hr ⟨rfl, ⟨rfl, rfl⟩⟩ (Nat.le_of_ble_eq_true rfl) (Nat.le_of_ble_eq_true rfl) dX6_pagesByLog_62
  · refine s_aload_n (pc := 21) S 3 dX6_pagesByLog_21 rfl rfl ?_
    refine s_get (pc := 22) S hz (ref := "SpoolFarm") (v := .ref (A 4 0)) (cc_farm (A := A) (C := C)) i_RX6 rfl 9 (Nat.le_of_ble_eq_true rfl) (by decide +kernel) (fun _ h => h) rfl dX6_pagesByLog_22 ?_
    refine s_iload_n (pc := 25) S 0 dX6_pagesByLog_25 rfl rfl ?_
    refine s_callV (pc := 26) S hz hml [.int (nI e)] (k_logGet Z l A C e (by omega) kL.2.1 kL.2.2.1) (cwV 1 S.2.2.2.2 gX6_pagesByLog_Jx4a65c_get_915e3 rfl rfl rfl (by decide +kernel) ⟨Nat.le_of_ble_eq_true rfl, Nat.le_of_ble_eq_true rfl⟩) (cc_list (A := A) (C := C)) rfl rfl rfl (Nat.le_of_ble_eq_true rfl) dX6_pagesByLog_26 ⟨Nat.le_of_ble_eq_true rfl, Nat.le_of_ble_eq_true rfl⟩ (fun _ _ _ h => h.elim) (fun v A2 C2 h_5 => ?_)
    obtain ⟨rfl, rfl, rfl⟩ := h_5
    have he_6 : e < C 4 0 2 := by omega
    have z_7 := oE3 e
    have z_8 := (hS.2.2.2.2.2.2.1 e (by omega)).2.1
    have z_9 := (hS.2.2.2.2.2.2.1 e (by omega)).1
    have ke_10 := kE e he_6
    refine s_castO (pc := 29) S hz (ci := 5) (cc_entry (A := A) (C := C) he_6) rfl (by decide +kernel) dX6_pagesByLog_29 ?_
    refine s_astore (pc := 32) S [(4, .ref (A 13 e)), (3, .int (nI e)), (2, .int (nI (pgU D k e))), (1, .int (nI k)), (0, .ref (A 0 0))] dX6_pagesByLog_32 (by decide) rfl ?_
    refine s_iload_n (pc := 34) S 2 dX6_pagesByLog_34 rfl rfl ?_
    refine s_aload (pc := 35) S 0 dX6_pagesByLog_35 rfl ?_
    refine s_get (pc := 37) S hz (ref := "SpoolFarm$Entry") (v := .int (nI (D 60 16 (D 60 21 e)))) (cc_entry (A := A) (C := C) he_6) i_RX0 rfl 1 (Nat.le_of_ble_eq_true rfl) (by decide +kernel) (fun _ h => h) (congrArg (fun x => some (Value.int (nI x))) (show C 13 e 1 = D 60 16 (D 60 21 e) from (hS.2.2.2.2.2.2.1 e (by omega)).2.1)) dX6_pagesByLog_37 ?_
    refine s_iload_n (pc := 40) S 3 dX6_pagesByLog_40 rfl rfl ?_
    refine s_icmp_neN (pc := 41) S 52 dX6_pagesByLog_41 (by decide) (by omega) (by omega) (fun c_11 => ?_) (fun c_11 => ?_)
    · refine s_iconst (pc := 52) S (v := (nI 0)) dX6_pagesByLog_52 (by decide) ?_
      refine s_iaddN (pc := 53) S dX6_pagesByLog_53 ?_
      refine s_istore_n (pc := 54) S [(2, .int (nI ((pgU D k e) + 0))), (4, .ref (A 13 e)), (3, .int (nI e)), (1, .int (nI k)), (0, .ref (A 0 0))] dX6_pagesByLog_54 rfl (by decide) rfl ?_
      refine s_iinc (pc := 55) S 2 [(3, .int (nI (e + 1))), (2, .int (nI ((pgU D k e) + 0))), (4, .ref (A 13 e)), (1, .int (nI k)), (0, .ref (A 0 0))] dX6_pagesByLog_55 rfl (nI_add _ 1) (by decide) rfl ?_
      refine s_goto (pc := 58) S 10 dX6_pagesByLog_58 (by decide) ?_
      refine s_perm [0, 1, 3, 4] [(3, .int (nI (e + 1))), (2, .int (nI ((pgU D k e) + 0))), (1, .int (nI k)), (0, .ref (A 0 0))] rfl ?_
      refine s_loc (L2 := [(3, .int (nI (e + 1))), (2, .int (nI (pgU D k (e + 1)))), (1, .int (nI k)), (0, .ref (A 0 0))]) (by rw [pgU_0 c_11]) ?_
      exact ih (e + 1) (by omega) (by omega)
    · refine s_aload (pc := 44) S 0 dX6_pagesByLog_44 rfl ?_
      refine s_get (pc := 46) S hz (ref := "SpoolFarm$Entry") (v := .int (nI (D 60 23 e))) (cc_entry (A := A) (C := C) he_6) i_RX0 rfl 3 (Nat.le_of_ble_eq_true rfl) (by decide +kernel) (fun _ h => h) (congrArg (fun x => some (Value.int (nI x))) (show C 13 e 3 = D 60 23 e from (hS.2.2.2.2.2.2.1 e (by omega)).2.2.2.1)) dX6_pagesByLog_46 ?_
      refine s_goto (pc := 49) S 53 dX6_pagesByLog_49 (by decide) ?_
      refine s_iaddN (pc := 53) S dX6_pagesByLog_53 ?_
      refine s_istore_n (pc := 54) S [(2, .int (nI ((pgU D k e) + (D 60 23 e)))), (4, .ref (A 13 e)), (3, .int (nI e)), (1, .int (nI k)), (0, .ref (A 0 0))] dX6_pagesByLog_54 rfl (by decide) rfl ?_
      refine s_iinc (pc := 55) S 2 [(3, .int (nI (e + 1))), (2, .int (nI ((pgU D k e) + (D 60 23 e)))), (4, .ref (A 13 e)), (1, .int (nI k)), (0, .ref (A 0 0))] dX6_pagesByLog_55 rfl (nI_add _ 1) (by decide) rfl ?_
      refine s_goto (pc := 58) S 10 dX6_pagesByLog_58 (by decide) ?_
      refine s_perm [0, 1, 3, 4] [(3, .int (nI (e + 1))), (2, .int (nI ((pgU D k e) + (D 60 23 e)))), (1, .int (nI k)), (0, .ref (A 0 0))] rfl ?_
      refine s_loc (L2 := [(3, .int (nI (e + 1))), (2, .int (nI (pgU D k (e + 1)))), (1, .int (nI k)), (0, .ref (A 0 0))]) (by rw [pgU_1 c_11]) ?_
      exact ih (e + 1) (by omega) (by omega)
set_option maxHeartbeats 4000000 in
set_option maxRecDepth 100000 in
theorem k_X6_billByLog_ok (Z : Zp) (l : Launch) (A : AF) (C : CF) (D : CF) (hS : Sm D C) (hM : OkM D) (hL : OkL D) (k : Nat) (hk : k < C 0 0 3) : CtS Z l yX6_billByLog wsX6_billByLog ({ frames := 3, cells := 0, slots := 0, locals := 64 }) [.ref (A 0 0), .int (nI k)] A C 0 0 (fun v A2 C2 => A = A2 ∧ (C = C2 ∧ some (.long (lN (D 60 7 k))) = v)) (fun _ _ _ => False) := by
  refine CtS.of (cc0 := cX6_billByLog) (maxL := 6) (ret := (some .long)) (by decide) rfl (Nat.le_of_ble_eq_true rfl) ?_
  intro M0_ p_ e_ s_ m_ args_ below_ meth_ c_ S hz hml hex hlo hr hin
  refine s_loc (L2 := [(0, .ref (A 0 0)), (1, .int (nI k))]) rfl ?_
  have i_RX0 : ∀ w ∈ u_ws RX0 TX0 6, w ∈ wsX6_billByLog := by decide +kernel
  have i_RX6 : ∀ w ∈ u_ws RX6 TX6 12, w ∈ wsX6_billByLog := by decide +kernel
  have hK := hS.okk hM hL
  obtain ⟨⟨k3, k4, k5, k6, k7, k8⟩, kU, kP, kT, kJ, kL, kE, kB⟩ := id hK
  obtain ⟨hO, hG, hX⟩ := id hM
  have cu := hS.1.1
  have cp := hS.1.2.1
  have cj := hS.1.2.2.1
  have hl31 := hS.2.2.2.2.2.1.1
  obtain ⟨oU, oP, oJ, oTc, oY, o8, o9, o10, o11, o12, o13, o14, o15, oX, oQ, oB, oK, oS, oJk, oM, oCo, oSh, oLg, oPo, oLl, oL2, oL3, oL4, oLle, oE1, oE2, oE3, oE4⟩ := id hO
  have hD_k : k < D 60 100 28 := by omega
  refine s_aload_n (pc := 0) S 0 dX6_billByLog_0 rfl rfl ?_
  refine s_iload_n (pc := 1) S 1 dX6_billByLog_1 rfl rfl ?_
  refine s_callV (pc := 2) S hz hml [.int (nI k)] (k_X6_userAt_ok Z l A C k hk k3) (cwV 1 S.2.2.2.2 gX6_billByLog_X6_userAt rfl rfl rfl (by decide +kernel) ⟨Nat.le_of_ble_eq_true rfl, Nat.le_of_ble_eq_true rfl⟩) (cc_farm (A := A) (C := C)) rfl rfl rfl (Nat.le_of_ble_eq_true rfl) dX6_billByLog_2 ⟨Nat.le_of_ble_eq_true rfl, Nat.le_of_ble_eq_true rfl⟩ (fun _ _ _ h => h.elim) (fun v A2 C2 h_1 => ?_)
  obtain ⟨rfl, rfl, rfl⟩ := h_1
  refine s_pop (pc := 5) S dX6_billByLog_5 rfl ?_
  refine s_lconst (pc := 6) S (v := lN 0) dX6_billByLog_6 (by decide) ?_
  refine s_lstore_n (pc := 7) S [(2, .long (lN 0)), (0, .ref (A 0 0)), (1, .int (nI k))] dX6_billByLog_7 rfl (by decide) rfl ?_
  refine s_iconst (pc := 8) S (v := (nI 0)) dX6_billByLog_8 (by decide) ?_
  refine s_istore (pc := 9) S [(4, .int (nI 0)), (2, .long (lN 0)), (0, .ref (A 0 0)), (1, .int (nI k))] dX6_billByLog_9 (by decide) rfl ?_
  refine s_loc (L2 := [(4, .int (nI 0)), (2, .long (lN (csU C k 0))), (0, .ref (A 0 0)), (1, .int (nI k))]) rfl ?_
  refine s_perm [0, 1, 3, 2] [(4, .int (nI 0)), (2, .long (lN (csU C k 0))), (1, .int (nI k)), (0, .ref (A 0 0))] rfl ?_
  refine s_loop (σ := Nat) (fun e => e ≤ (D 60 100 31)) (fun e => (D 60 100 31) - e) (fun _ => A) (fun e => C) (fun e => [(4, .int (nI e)), (2, .long (lN (csU C k e))), (1, .int (nI k)), (0, .ref (A 0 0))]) 0 (Nat.zero_le _) rfl rfl rfl ?_
  intro e hI ih
  have hsl := csU_le hS (u := k) e hI
  refine s_iload (pc := 11) S 0 dX6_billByLog_11 rfl ?_
  refine s_aload_n (pc := 13) S 3 dX6_billByLog_13 rfl rfl ?_
  refine s_get (pc := 14) S hz (ref := "SpoolFarm") (v := .ref (A 4 0)) (cc_farm (A := A) (C := C)) i_RX6 rfl 9 (Nat.le_of_ble_eq_true rfl) (by decide +kernel) (fun _ h => h) rfl dX6_billByLog_14 ?_
  refine s_callV (pc := 17) S hz hml [] (k_logSize Z l A C) (cwV 0 S.2.2.2.2 gX6_billByLog_Jx4a65c_size_8abf5 rfl rfl rfl (by decide +kernel) ⟨Nat.le_of_ble_eq_true rfl, Nat.le_of_ble_eq_true rfl⟩) (cc_list (A := A) (C := C)) rfl rfl rfl (Nat.le_of_ble_eq_true rfl) dX6_billByLog_17 ⟨Nat.le_of_ble_eq_true rfl, Nat.le_of_ble_eq_true rfl⟩ (fun _ _ _ h => h.elim) (fun v A2 C2 h_2 => ?_)
  obtain ⟨rfl, rfl, rfl⟩ := h_2
  refine s_top (u := .int (nI (D 60 100 31))) (congrArg (fun x => Value.int (nI x)) hl31) ?_
  refine s_icmp_geN (pc := 20) S 64 dX6_billByLog_20 (by decide) (by omega) (by omega) (fun c_3 => ?_) (fun c_3 => ?_)
  · obtain rfl : e = (D 60 100 31) := by omega
    refine s_perm [1, 2, 3] [(2, .long (lN (csU C k (D 60 100 31)))), (1, .int (nI k)), (0, .ref (A 0 0))] rfl ?_
    refine s_loc (L2 := [(2, .long (lN (D 60 7 k))), (1, .int (nI k)), (0, .ref (A 0 0))]) (by rw [hS.2.2.2.2.2.2.2.1 k hD_k]) ?_
    have z_4 := oPo k
    refine s_lload_n (pc := 64) S 0 dX6_billByLog_64 rfl rfl ?_
    exact s_lret (pc := 65) S hz hlo hr ⟨rfl, ⟨rfl, rfl⟩⟩ (Nat.le_of_ble_eq_true rfl) (Nat.le_of_ble_eq_true rfl) dX6_billByLog_65
  · refine s_aload_n (pc := 23) S 3 dX6_billByLog_23 rfl rfl ?_
    refine s_get (pc := 24) S hz (ref := "SpoolFarm") (v := .ref (A 4 0)) (cc_farm (A := A) (C := C)) i_RX6 rfl 9 (Nat.le_of_ble_eq_true rfl) (by decide +kernel) (fun _ h => h) rfl dX6_billByLog_24 ?_
    refine s_iload (pc := 27) S 0 dX6_billByLog_27 rfl ?_
    refine s_callV (pc := 29) S hz hml [.int (nI e)] (k_logGet Z l A C e (by omega) kL.2.1 kL.2.2.1) (cwV 1 S.2.2.2.2 gX6_billByLog_Jx4a65c_get_915e3 rfl rfl rfl (by decide +kernel) ⟨Nat.le_of_ble_eq_true rfl, Nat.le_of_ble_eq_true rfl⟩) (cc_list (A := A) (C := C)) rfl rfl rfl (Nat.le_of_ble_eq_true rfl) dX6_billByLog_29 ⟨Nat.le_of_ble_eq_true rfl, Nat.le_of_ble_eq_true rfl⟩ (fun _ _ _ h => h.elim) (fun v A2 C2 h_5 => ?_)
    obtain ⟨rfl, rfl, rfl⟩ := h_5
    have he_6 : e < C 4 0 2 := by omega
    have z_7 := oE3 e
    have z_8 := (hS.2.2.2.2.2.2.1 e (by omega)).2.1
    have z_9 := (hS.2.2.2.2.2.2.1 e (by omega)).1
    have ke_10 := kE e he_6
    refine s_castO (pc := 32) S hz (ci := 5) (cc_entry (A := A) (C := C) he_6) rfl (by decide +kernel) dX6_billByLog_32 ?_
    refine s_astore (pc := 35) S [(5, .ref (A 13 e)), (4, .int (nI e)), (2, .long (lN (csU C k e))), (1, .int (nI k)), (0, .ref (A 0 0))] dX6_billByLog_35 (by decide) rfl ?_
    refine s_lload_n (pc := 37) S 2 dX6_billByLog_37 rfl rfl ?_
    refine s_aload (pc := 38) S 0 dX6_billByLog_38 rfl ?_
    refine s_get (pc := 40) S hz (ref := "SpoolFarm$Entry") (v := .int (nI (C 13 e 1))) (cc_entry (A := A) (C := C) he_6) i_RX0 rfl 1 (Nat.le_of_ble_eq_true rfl) (by decide +kernel) (fun _ h => h) rfl dX6_billByLog_40 ?_
    refine s_iload_n (pc := 43) S 3 dX6_billByLog_43 rfl rfl ?_
    refine s_icmp_neN (pc := 44) S 55 dX6_billByLog_44 (by decide) (by omega) (by omega) (fun c_11 => ?_) (fun c_11 => ?_)
    · refine s_lconst (pc := 55) S (v := lN 0) dX6_billByLog_55 (by decide) ?_
      refine s_ladd (pc := 56) S dX6_billByLog_56 ?_
      refine s_top (u := .long (lN ((csU C k e) + 0))) (by rw [lN_add]) ?_
      refine s_lstore_n (pc := 57) S [(2, .long (lN ((csU C k e) + 0))), (5, .ref (A 13 e)), (4, .int (nI e)), (1, .int (nI k)), (0, .ref (A 0 0))] dX6_billByLog_57 rfl (by decide) rfl ?_
      refine s_iinc (pc := 58) S 2 [(4, .int (nI (e + 1))), (2, .long (lN ((csU C k e) + 0))), (5, .ref (A 13 e)), (1, .int (nI k)), (0, .ref (A 0 0))] dX6_billByLog_58 rfl (nI_add _ 1) (by decide) rfl ?_
      refine s_goto (pc := 61) S 11 dX6_billByLog_61 (by decide) ?_
      refine s_perm [0, 1, 3, 4] [(4, .int (nI (e + 1))), (2, .long (lN ((csU C k e) + 0))), (1, .int (nI k)), (0, .ref (A 0 0))] rfl ?_
      refine s_loc (L2 := [(4, .int (nI (e + 1))), (2, .long (lN (csU C k (e + 1)))), (1, .int (nI k)), (0, .ref (A 0 0))]) (by rw [csU_0 c_11]) ?_
      exact ih (e + 1) (by omega) (by omega)
    · refine s_aload (pc := 47) S 0 dX6_billByLog_47 rfl ?_
      refine s_get (pc := 49) S hz (ref := "SpoolFarm$Entry") (v := .long (lN (C 13 e 5))) (cc_entry (A := A) (C := C) he_6) i_RX0 rfl 5 (Nat.le_of_ble_eq_true rfl) (by decide +kernel) (fun _ h => h) rfl dX6_billByLog_49 ?_
      refine s_goto (pc := 52) S 56 dX6_billByLog_52 (by decide) ?_
      refine s_ladd (pc := 56) S dX6_billByLog_56 ?_
      refine s_top (u := .long (lN ((csU C k e) + (C 13 e 5)))) (by rw [lN_add]) ?_
      refine s_lstore_n (pc := 57) S [(2, .long (lN ((csU C k e) + (C 13 e 5)))), (5, .ref (A 13 e)), (4, .int (nI e)), (1, .int (nI k)), (0, .ref (A 0 0))] dX6_billByLog_57 rfl (by decide) rfl ?_
      refine s_iinc (pc := 58) S 2 [(4, .int (nI (e + 1))), (2, .long (lN ((csU C k e) + (C 13 e 5)))), (5, .ref (A 13 e)), (1, .int (nI k)), (0, .ref (A 0 0))] dX6_billByLog_58 rfl (nI_add _ 1) (by decide) rfl ?_
      refine s_goto (pc := 61) S 11 dX6_billByLog_61 (by decide) ?_
      refine s_perm [0, 1, 3, 4] [(4, .int (nI (e + 1))), (2, .long (lN ((csU C k e) + (C 13 e 5)))), (1, .int (nI k)), (0, .ref (A 0 0))] rfl ?_
      refine s_loc (L2 := [(4, .int (nI (e + 1))), (2, .long (lN (csU C k (e + 1)))), (1, .int (nI k)), (0, .ref (A 0 0))]) (by rw [csU_1 c_11]) ?_
      exact ih (e + 1) (by omega) (by omega)
set_option maxHeartbeats 4000000 in
set_option maxRecDepth 100000 in
theorem k_X6_pagesByLog (Z : Zp) (l : Launch) (A : AF) (C : CF) (D : CF) (hS : Sm D C) (hM : OkM D) (hL : OkL D) (x : Int32) (hfl : l.stackTraces = false) : CtS Z l yX6_pagesByLog wsX6_pagesByLog ({ frames := 7, cells := 1, slots := 6, locals := 112 }) [.ref (A 0 0), .int x] A C 1 6 (fun v A2 C2 => A = A2 ∧ (∃ k_2 : Nat, k_2 < C 0 0 3 ∧ nI k_2 = x ∧ C = C2 ∧ some (.int (nI (D 60 1 k_2))) = v)) (fun E A2 C2 => A = A2 ∧ (E = "java/lang/IndexOutOfBoundsException" ∧ (∀ k : Nat, k < C 0 0 3 → nI k ≠ x) ∧ C = C2)) := by
  refine CtS.of (cc0 := cX6_pagesByLog) (maxL := 5) (ret := (some .int)) (by decide) rfl (Nat.le_of_ble_eq_true rfl) ?_
  intro M0_ p_ e_ s_ m_ args_ below_ meth_ c_ S hz hml hex hlo hr hin
  refine s_loc (L2 := [(0, .ref (A 0 0)), (1, .int x)]) rfl ?_
  have i_RX0 : ∀ w ∈ u_ws RX0 TX0 6, w ∈ wsX6_pagesByLog := by decide +kernel
  have i_RX6 : ∀ w ∈ u_ws RX6 TX6 12, w ∈ wsX6_pagesByLog := by decide +kernel
  have hK := hS.okk hM hL
  obtain ⟨⟨k3, k4, k5, k6, k7, k8⟩, kU, kP, kT, kJ, kL, kE, kB⟩ := id hK
  obtain ⟨hO, hG, hX⟩ := id hM
  have cu := hS.1.1
  have cp := hS.1.2.1
  have cj := hS.1.2.2.1
  have hl31 := hS.2.2.2.2.2.1.1
  obtain ⟨oU, oP, oJ, oTc, oY, o8, o9, o10, o11, o12, o13, o14, o15, oX, oQ, oB, oK, oS, oJk, oM, oCo, oSh, oLg, oPo, oLl, oL2, oL3, oL4, oLle, oE1, oE2, oE3, oE4⟩ := id hO
  refine s_aload_n (pc := 0) S 0 dX6_pagesByLog_0 rfl rfl ?_
  refine s_iload_n (pc := 1) S 1 dX6_pagesByLog_1 rfl rfl ?_
  refine s_callV (pc := 2) S hz hml [.int x] (k_X6_userAt Z l A C x k3 hfl) (cwV 1 S.2.2.2.2 gX6_pagesByLog_X6_userAt rfl rfl rfl (by decide +kernel) ⟨Nat.le_of_ble_eq_true rfl, Nat.le_of_ble_eq_true rfl⟩) (cc_farm (A := A) (C := C)) rfl rfl rfl (Nat.le_of_ble_eq_true rfl) dX6_pagesByLog_2 ⟨Nat.le_of_ble_eq_true rfl, Nat.le_of_ble_eq_true rfl⟩ (fun E A2 C2 h_1 => ?_) (fun v A2 C2 h_1 => ?_)
  · obtain ⟨rfl, rfl, n_4, rfl⟩ := h_1
    exact s_out S hz hex hlo ⟨rfl, ⟨rfl, n_4, rfl⟩⟩ (Nat.le_of_ble_eq_true rfl) (Nat.le_of_ble_eq_true rfl)
  · obtain ⟨rfl, rfl, k_2, hk_3, rfl, rfl⟩ := h_1
    have hD_k_2 : k_2 < D 60 100 28 := by omega
    refine s_pop (pc := 5) S dX6_pagesByLog_5 rfl ?_
    refine s_iconst (pc := 6) S (v := (nI 0)) dX6_pagesByLog_6 (by decide) ?_
    refine s_istore_n (pc := 7) S [(2, .int (nI 0)), (0, .ref (A 0 0)), (1, .int (nI k_2))] dX6_pagesByLog_7 rfl (by decide) rfl ?_
    refine s_iconst (pc := 8) S (v := (nI 0)) dX6_pagesByLog_8 (by decide) ?_
    refine s_istore_n (pc := 9) S [(3, .int (nI 0)), (2, .int (nI 0)), (0, .ref (A 0 0)), (1, .int (nI k_2))] dX6_pagesByLog_9 rfl (by decide) rfl ?_
    refine s_loc (L2 := [(3, .int (nI 0)), (2, .int (nI (pgU D k_2 0))), (0, .ref (A 0 0)), (1, .int (nI k_2))]) rfl ?_
    refine s_perm [0, 1, 3, 2] [(3, .int (nI 0)), (2, .int (nI (pgU D k_2 0))), (1, .int (nI k_2)), (0, .ref (A 0 0))] rfl ?_
    refine s_loop (σ := Nat) (fun e => e ≤ (D 60 100 31)) (fun e => (D 60 100 31) - e) (fun _ => A) (fun e => C) (fun e => [(3, .int (nI e)), (2, .int (nI (pgU D k_2 e))), (1, .int (nI k_2)), (0, .ref (A 0 0))]) 0 (Nat.zero_le _) rfl rfl rfl ?_
    intro e hI ih
    have hsl := pgU_le (D := D) (u := k_2) oE3 e
    refine s_iload_n (pc := 10) S 0 dX6_pagesByLog_10 rfl rfl ?_
    refine s_aload_n (pc := 11) S 3 dX6_pagesByLog_11 rfl rfl ?_
    refine s_get (pc := 12) S hz (ref := "SpoolFarm") (v := .ref (A 4 0)) (cc_farm (A := A) (C := C)) i_RX6 rfl 9 (Nat.le_of_ble_eq_true rfl) (by decide +kernel) (fun _ h => h) rfl dX6_pagesByLog_12 ?_
    refine s_callV (pc := 15) S hz hml [] (k_logSize Z l A C) (cwV 0 S.2.2.2.2 gX6_pagesByLog_Jx4a65c_size_8abf5 rfl rfl rfl (by decide +kernel) ⟨Nat.le_of_ble_eq_true rfl, Nat.le_of_ble_eq_true rfl⟩) (cc_list (A := A) (C := C)) rfl rfl rfl (Nat.le_of_ble_eq_true rfl) dX6_pagesByLog_15 ⟨Nat.le_of_ble_eq_true rfl, Nat.le_of_ble_eq_true rfl⟩ (fun _ _ _ h => h.elim) (fun v A2 C2 h_5 => ?_)
    obtain ⟨rfl, rfl, rfl⟩ := h_5
    refine s_top (u := .int (nI (D 60 100 31))) (congrArg (fun x => Value.int (nI x)) hl31) ?_
    refine s_icmp_geN (pc := 18) S 61 dX6_pagesByLog_18 (by decide) (by omega) (by omega) (fun c_6 => ?_) (fun c_6 => ?_)
    · obtain rfl : e = (D 60 100 31) := by omega
      refine s_perm [1, 2, 3] [(2, .int (nI (pgU D k_2 (D 60 100 31)))), (1, .int (nI k_2)), (0, .ref (A 0 0))] rfl ?_
      refine s_loc (L2 := [(2, .int (nI (D 60 1 k_2))), (1, .int (nI k_2)), (0, .ref (A 0 0))]) (by rw [hL.2.1 k_2]) ?_
      have z_7 := oPo k_2
      refine s_iload_n (pc := 61) S 0 dX6_pagesByLog_61 rfl rfl ?_
      exact s_iret (pc := 62) S hz hlo hr ⟨rfl, ⟨k_2, hk_3, rfl, rfl, rfl⟩⟩ (Nat.le_of_ble_eq_true rfl) (Nat.le_of_ble_eq_true rfl) dX6_pagesByLog_62
    · refine s_aload_n (pc := 21) S 3 dX6_pagesByLog_21 rfl rfl ?_
      refine s_get (pc := 22) S hz (ref := "SpoolFarm") (v := .ref (A 4 0)) (cc_farm (A := A) (C := C)) i_RX6 rfl 9 (Nat.le_of_ble_eq_true rfl) (by decide +kernel) (fun _ h => h) rfl dX6_pagesByLog_22 ?_
      refine s_iload_n (pc := 25) S 0 dX6_pagesByLog_25 rfl rfl ?_
      refine s_callV (pc := 26) S hz hml [.int (nI e)] (k_logGet Z l A C e (by omega) kL.2.1 kL.2.2.1) (cwV 1 S.2.2.2.2 gX6_pagesByLog_Jx4a65c_get_915e3 rfl rfl rfl (by decide +kernel) ⟨Nat.le_of_ble_eq_true rfl, Nat.le_of_ble_eq_true rfl⟩) (cc_list (A := A) (C := C)) rfl rfl rfl (Nat.le_of_ble_eq_true rfl) dX6_pagesByLog_26 ⟨Nat.le_of_ble_eq_true rfl, Nat.le_of_ble_eq_true rfl⟩ (fun _ _ _ h => h.elim) (fun v A2 C2 h_8 => ?_)
      obtain ⟨rfl, rfl, rfl⟩ := h_8
      have he_9 : e < C 4 0 2 := by omega
      have z_10 := oE3 e
      have z_11 := (hS.2.2.2.2.2.2.1 e (by omega)).2.1
      have z_12 := (hS.2.2.2.2.2.2.1 e (by omega)).1
      have ke_13 := kE e he_9
      refine s_castO (pc := 29) S hz (ci := 5) (cc_entry (A := A) (C := C) he_9) rfl (by decide +kernel) dX6_pagesByLog_29 ?_
      refine s_astore (pc := 32) S [(4, .ref (A 13 e)), (3, .int (nI e)), (2, .int (nI (pgU D k_2 e))), (1, .int (nI k_2)), (0, .ref (A 0 0))] dX6_pagesByLog_32 (by decide) rfl ?_
      refine s_iload_n (pc := 34) S 2 dX6_pagesByLog_34 rfl rfl ?_
      refine s_aload (pc := 35) S 0 dX6_pagesByLog_35 rfl ?_
      refine s_get (pc := 37) S hz (ref := "SpoolFarm$Entry") (v := .int (nI (D 60 16 (D 60 21 e)))) (cc_entry (A := A) (C := C) he_9) i_RX0 rfl 1 (Nat.le_of_ble_eq_true rfl) (by decide +kernel) (fun _ h => h) (congrArg (fun x => some (Value.int (nI x))) (show C 13 e 1 = D 60 16 (D 60 21 e) from (hS.2.2.2.2.2.2.1 e (by omega)).2.1)) dX6_pagesByLog_37 ?_
      refine s_iload_n (pc := 40) S 3 dX6_pagesByLog_40 rfl rfl ?_
      refine s_icmp_neN (pc := 41) S 52 dX6_pagesByLog_41 (by decide) (by omega) (by omega) (fun c_14 => ?_) (fun c_14 => ?_)
      · refine s_iconst (pc := 52) S (v := (nI 0)) dX6_pagesByLog_52 (by decide) ?_
        refine s_iaddN (pc := 53) S dX6_pagesByLog_53 ?_
        refine s_istore_n (pc := 54) S [(2, .int (nI ((pgU D k_2 e) + 0))), (4, .ref (A 13 e)), (3, .int (nI e)), (1, .int (nI k_2)), (0, .ref (A 0 0))] dX6_pagesByLog_54 rfl (by decide) rfl ?_
        refine s_iinc (pc := 55) S 2 [(3, .int (nI (e + 1))), (2, .int (nI ((pgU D k_2 e) + 0))), (4, .ref (A 13 e)), (1, .int (nI k_2)), (0, .ref (A 0 0))] dX6_pagesByLog_55 rfl (nI_add _ 1) (by decide) rfl ?_
        refine s_goto (pc := 58) S 10 dX6_pagesByLog_58 (by decide) ?_
        refine s_perm [0, 1, 3, 4] [(3, .int (nI (e + 1))), (2, .int (nI ((pgU D k_2 e) + 0))), (1, .int (nI k_2)), (0, .ref (A 0 0))] rfl ?_
        refine s_loc (L2 := [(3, .int (nI (e + 1))), (2, .int (nI (pgU D k_2 (e + 1)))), (1, .int (nI k_2)), (0, .ref (A 0 0))]) (by rw [pgU_0 c_14]) ?_
        exact ih (e + 1) (by omega) (by omega)
      · refine s_aload (pc := 44) S 0 dX6_pagesByLog_44 rfl ?_
        refine s_get (pc := 46) S hz (ref := "SpoolFarm$Entry") (v := .int (nI (D 60 23 e))) (cc_entry (A := A) (C := C) he_9) i_RX0 rfl 3 (Nat.le_of_ble_eq_true rfl) (by decide +kernel) (fun _ h => h) (congrArg (fun x => some (Value.int (nI x))) (show C 13 e 3 = D 60 23 e from (hS.2.2.2.2.2.2.1 e (by omega)).2.2.2.1)) dX6_pagesByLog_46 ?_
        refine s_goto (pc := 49) S 53 dX6_pagesByLog_49 (by decide) ?_
        refine s_iaddN (pc := 53) S dX6_pagesByLog_53 ?_
        refine s_istore_n (pc := 54) S [(2, .int (nI ((pgU D k_2 e) + (D 60 23 e)))), (4, .ref (A 13 e)), (3, .int (nI e)), (1, .int (nI k_2)), (0, .ref (A 0 0))] dX6_pagesByLog_54 rfl (by decide) rfl ?_
        refine s_iinc (pc := 55) S 2 [(3, .int (nI (e + 1))), (2, .int (nI ((pgU D k_2 e) + (D 60 23 e)))), (4, .ref (A 13 e)), (1, .int (nI k_2)), (0, .ref (A 0 0))] dX6_pagesByLog_55 rfl (nI_add _ 1) (by decide) rfl ?_
        refine s_goto (pc := 58) S 10 dX6_pagesByLog_58 (by decide) ?_
        refine s_perm [0, 1, 3, 4] [(3, .int (nI (e + 1))), (2, .int (nI ((pgU D k_2 e) + (D 60 23 e)))), (1, .int (nI k_2)), (0, .ref (A 0 0))] rfl ?_
        refine s_loc (L2 := [(3, .int (nI (e + 1))), (2, .int (nI (pgU D k_2 (e + 1)))), (1, .int (nI k_2)), (0, .ref (A 0 0))]) (by rw [pgU_1 c_14]) ?_
        exact ih (e + 1) (by omega) (by omega)
set_option maxHeartbeats 4000000 in
set_option maxRecDepth 100000 in
theorem k_X6_billByLog (Z : Zp) (l : Launch) (A : AF) (C : CF) (D : CF) (hS : Sm D C) (hM : OkM D) (hL : OkL D) (x : Int32) (hfl : l.stackTraces = false) : CtS Z l yX6_billByLog wsX6_billByLog ({ frames := 7, cells := 1, slots := 6, locals := 112 }) [.ref (A 0 0), .int x] A C 1 6 (fun v A2 C2 => A = A2 ∧ (∃ k_2 : Nat, k_2 < C 0 0 3 ∧ nI k_2 = x ∧ C = C2 ∧ some (.long (lN (D 60 7 k_2))) = v)) (fun E A2 C2 => A = A2 ∧ (E = "java/lang/IndexOutOfBoundsException" ∧ (∀ k : Nat, k < C 0 0 3 → nI k ≠ x) ∧ C = C2)) := by
  refine CtS.of (cc0 := cX6_billByLog) (maxL := 6) (ret := (some .long)) (by decide) rfl (Nat.le_of_ble_eq_true rfl) ?_
  intro M0_ p_ e_ s_ m_ args_ below_ meth_ c_ S hz hml hex hlo hr hin
  refine s_loc (L2 := [(0, .ref (A 0 0)), (1, .int x)]) rfl ?_
  have i_RX0 : ∀ w ∈ u_ws RX0 TX0 6, w ∈ wsX6_billByLog := by decide +kernel
  have i_RX6 : ∀ w ∈ u_ws RX6 TX6 12, w ∈ wsX6_billByLog := by decide +kernel
  have hK := hS.okk hM hL
  obtain ⟨⟨k3, k4, k5, k6, k7, k8⟩, kU, kP, kT, kJ, kL, kE, kB⟩ := id hK
  obtain ⟨hO, hG, hX⟩ := id hM
  have cu := hS.1.1
  have cp := hS.1.2.1
  have cj := hS.1.2.2.1
  have hl31 := hS.2.2.2.2.2.1.1
  obtain ⟨oU, oP, oJ, oTc, oY, o8, o9, o10, o11, o12, o13, o14, o15, oX, oQ, oB, oK, oS, oJk, oM, oCo, oSh, oLg, oPo, oLl, oL2, oL3, oL4, oLle, oE1, oE2, oE3, oE4⟩ := id hO
  refine s_aload_n (pc := 0) S 0 dX6_billByLog_0 rfl rfl ?_
  refine s_iload_n (pc := 1) S 1 dX6_billByLog_1 rfl rfl ?_
  refine s_callV (pc := 2) S hz hml [.int x] (k_X6_userAt Z l A C x k3 hfl) (cwV 1 S.2.2.2.2 gX6_billByLog_X6_userAt rfl rfl rfl (by decide +kernel) ⟨Nat.le_of_ble_eq_true rfl, Nat.le_of_ble_eq_true rfl⟩) (cc_farm (A := A) (C := C)) rfl rfl rfl (Nat.le_of_ble_eq_true rfl) dX6_billByLog_2 ⟨Nat.le_of_ble_eq_true rfl, Nat.le_of_ble_eq_true rfl⟩ (fun E A2 C2 h_1 => ?_) (fun v A2 C2 h_1 => ?_)
  · obtain ⟨rfl, rfl, n_4, rfl⟩ := h_1
    exact s_out S hz hex hlo ⟨rfl, ⟨rfl, n_4, rfl⟩⟩ (Nat.le_of_ble_eq_true rfl) (Nat.le_of_ble_eq_true rfl)
  · obtain ⟨rfl, rfl, k_2, hk_3, rfl, rfl⟩ := h_1
    have hD_k_2 : k_2 < D 60 100 28 := by omega
    refine s_pop (pc := 5) S dX6_billByLog_5 rfl ?_
    refine s_lconst (pc := 6) S (v := lN 0) dX6_billByLog_6 (by decide) ?_
    refine s_lstore_n (pc := 7) S [(2, .long (lN 0)), (0, .ref (A 0 0)), (1, .int (nI k_2))] dX6_billByLog_7 rfl (by decide) rfl ?_
    refine s_iconst (pc := 8) S (v := (nI 0)) dX6_billByLog_8 (by decide) ?_
    refine s_istore (pc := 9) S [(4, .int (nI 0)), (2, .long (lN 0)), (0, .ref (A 0 0)), (1, .int (nI k_2))] dX6_billByLog_9 (by decide) rfl ?_
    refine s_loc (L2 := [(4, .int (nI 0)), (2, .long (lN (csU C k_2 0))), (0, .ref (A 0 0)), (1, .int (nI k_2))]) rfl ?_
    refine s_perm [0, 1, 3, 2] [(4, .int (nI 0)), (2, .long (lN (csU C k_2 0))), (1, .int (nI k_2)), (0, .ref (A 0 0))] rfl ?_
    refine s_loop (σ := Nat) (fun e => e ≤ (D 60 100 31)) (fun e => (D 60 100 31) - e) (fun _ => A) (fun e => C) (fun e => [(4, .int (nI e)), (2, .long (lN (csU C k_2 e))), (1, .int (nI k_2)), (0, .ref (A 0 0))]) 0 (Nat.zero_le _) rfl rfl rfl ?_
    intro e hI ih
    have hsl := csU_le hS (u := k_2) e hI
    refine s_iload (pc := 11) S 0 dX6_billByLog_11 rfl ?_
    refine s_aload_n (pc := 13) S 3 dX6_billByLog_13 rfl rfl ?_
    refine s_get (pc := 14) S hz (ref := "SpoolFarm") (v := .ref (A 4 0)) (cc_farm (A := A) (C := C)) i_RX6 rfl 9 (Nat.le_of_ble_eq_true rfl) (by decide +kernel) (fun _ h => h) rfl dX6_billByLog_14 ?_
    refine s_callV (pc := 17) S hz hml [] (k_logSize Z l A C) (cwV 0 S.2.2.2.2 gX6_billByLog_Jx4a65c_size_8abf5 rfl rfl rfl (by decide +kernel) ⟨Nat.le_of_ble_eq_true rfl, Nat.le_of_ble_eq_true rfl⟩) (cc_list (A := A) (C := C)) rfl rfl rfl (Nat.le_of_ble_eq_true rfl) dX6_billByLog_17 ⟨Nat.le_of_ble_eq_true rfl, Nat.le_of_ble_eq_true rfl⟩ (fun _ _ _ h => h.elim) (fun v A2 C2 h_5 => ?_)
    obtain ⟨rfl, rfl, rfl⟩ := h_5
    refine s_top (u := .int (nI (D 60 100 31))) (congrArg (fun x => Value.int (nI x)) hl31) ?_
    refine s_icmp_geN (pc := 20) S 64 dX6_billByLog_20 (by decide) (by omega) (by omega) (fun c_6 => ?_) (fun c_6 => ?_)
    · obtain rfl : e = (D 60 100 31) := by omega
      refine s_perm [1, 2, 3] [(2, .long (lN (csU C k_2 (D 60 100 31)))), (1, .int (nI k_2)), (0, .ref (A 0 0))] rfl ?_
      refine s_loc (L2 := [(2, .long (lN (D 60 7 k_2))), (1, .int (nI k_2)), (0, .ref (A 0 0))]) (by rw [hS.2.2.2.2.2.2.2.1 k_2 hD_k_2]) ?_
      have z_7 := oPo k_2
      refine s_lload_n (pc := 64) S 0 dX6_billByLog_64 rfl rfl ?_
      exact s_lret (pc := 65) S hz hlo hr ⟨rfl, ⟨k_2, hk_3, rfl, rfl, rfl⟩⟩ (Nat.le_of_ble_eq_true rfl) (Nat.le_of_ble_eq_true rfl) dX6_billByLog_65
    · refine s_aload_n (pc := 23) S 3 dX6_billByLog_23 rfl rfl ?_
      refine s_get (pc := 24) S hz (ref := "SpoolFarm") (v := .ref (A 4 0)) (cc_farm (A := A) (C := C)) i_RX6 rfl 9 (Nat.le_of_ble_eq_true rfl) (by decide +kernel) (fun _ h => h) rfl dX6_billByLog_24 ?_
      refine s_iload (pc := 27) S 0 dX6_billByLog_27 rfl ?_
      refine s_callV (pc := 29) S hz hml [.int (nI e)] (k_logGet Z l A C e (by omega) kL.2.1 kL.2.2.1) (cwV 1 S.2.2.2.2 gX6_billByLog_Jx4a65c_get_915e3 rfl rfl rfl (by decide +kernel) ⟨Nat.le_of_ble_eq_true rfl, Nat.le_of_ble_eq_true rfl⟩) (cc_list (A := A) (C := C)) rfl rfl rfl (Nat.le_of_ble_eq_true rfl) dX6_billByLog_29 ⟨Nat.le_of_ble_eq_true rfl, Nat.le_of_ble_eq_true rfl⟩ (fun _ _ _ h => h.elim) (fun v A2 C2 h_8 => ?_)
      obtain ⟨rfl, rfl, rfl⟩ := h_8
      have he_9 : e < C 4 0 2 := by omega
      have z_10 := oE3 e
      have z_11 := (hS.2.2.2.2.2.2.1 e (by omega)).2.1
      have z_12 := (hS.2.2.2.2.2.2.1 e (by omega)).1
      have ke_13 := kE e he_9
      refine s_castO (pc := 32) S hz (ci := 5) (cc_entry (A := A) (C := C) he_9) rfl (by decide +kernel) dX6_billByLog_32 ?_
      refine s_astore (pc := 35) S [(5, .ref (A 13 e)), (4, .int (nI e)), (2, .long (lN (csU C k_2 e))), (1, .int (nI k_2)), (0, .ref (A 0 0))] dX6_billByLog_35 (by decide) rfl ?_
      refine s_lload_n (pc := 37) S 2 dX6_billByLog_37 rfl rfl ?_
      refine s_aload (pc := 38) S 0 dX6_billByLog_38 rfl ?_
      refine s_get (pc := 40) S hz (ref := "SpoolFarm$Entry") (v := .int (nI (C 13 e 1))) (cc_entry (A := A) (C := C) he_9) i_RX0 rfl 1 (Nat.le_of_ble_eq_true rfl) (by decide +kernel) (fun _ h => h) rfl dX6_billByLog_40 ?_
      refine s_iload_n (pc := 43) S 3 dX6_billByLog_43 rfl rfl ?_
      refine s_icmp_neN (pc := 44) S 55 dX6_billByLog_44 (by decide) (by omega) (by omega) (fun c_14 => ?_) (fun c_14 => ?_)
      · refine s_lconst (pc := 55) S (v := lN 0) dX6_billByLog_55 (by decide) ?_
        refine s_ladd (pc := 56) S dX6_billByLog_56 ?_
        refine s_top (u := .long (lN ((csU C k_2 e) + 0))) (by rw [lN_add]) ?_
        refine s_lstore_n (pc := 57) S [(2, .long (lN ((csU C k_2 e) + 0))), (5, .ref (A 13 e)), (4, .int (nI e)), (1, .int (nI k_2)), (0, .ref (A 0 0))] dX6_billByLog_57 rfl (by decide) rfl ?_
        refine s_iinc (pc := 58) S 2 [(4, .int (nI (e + 1))), (2, .long (lN ((csU C k_2 e) + 0))), (5, .ref (A 13 e)), (1, .int (nI k_2)), (0, .ref (A 0 0))] dX6_billByLog_58 rfl (nI_add _ 1) (by decide) rfl ?_
        refine s_goto (pc := 61) S 11 dX6_billByLog_61 (by decide) ?_
        refine s_perm [0, 1, 3, 4] [(4, .int (nI (e + 1))), (2, .long (lN ((csU C k_2 e) + 0))), (1, .int (nI k_2)), (0, .ref (A 0 0))] rfl ?_
        refine s_loc (L2 := [(4, .int (nI (e + 1))), (2, .long (lN (csU C k_2 (e + 1)))), (1, .int (nI k_2)), (0, .ref (A 0 0))]) (by rw [csU_0 c_14]) ?_
        exact ih (e + 1) (by omega) (by omega)
      · refine s_aload (pc := 47) S 0 dX6_billByLog_47 rfl ?_
        refine s_get (pc := 49) S hz (ref := "SpoolFarm$Entry") (v := .long (lN (C 13 e 5))) (cc_entry (A := A) (C := C) he_9) i_RX0 rfl 5 (Nat.le_of_ble_eq_true rfl) (by decide +kernel) (fun _ h => h) rfl dX6_billByLog_49 ?_
        refine s_goto (pc := 52) S 56 dX6_billByLog_52 (by decide) ?_
        refine s_ladd (pc := 56) S dX6_billByLog_56 ?_
        refine s_top (u := .long (lN ((csU C k_2 e) + (C 13 e 5)))) (by rw [lN_add]) ?_
        refine s_lstore_n (pc := 57) S [(2, .long (lN ((csU C k_2 e) + (C 13 e 5)))), (5, .ref (A 13 e)), (4, .int (nI e)), (1, .int (nI k_2)), (0, .ref (A 0 0))] dX6_billByLog_57 rfl (by decide) rfl ?_
        refine s_iinc (pc := 58) S 2 [(4, .int (nI (e + 1))), (2, .long (lN ((csU C k_2 e) + (C 13 e 5)))), (5, .ref (A 13 e)), (1, .int (nI k_2)), (0, .ref (A 0 0))] dX6_billByLog_58 rfl (nI_add _ 1) (by decide) rfl ?_
        refine s_goto (pc := 61) S 11 dX6_billByLog_61 (by decide) ?_
        refine s_perm [0, 1, 3, 4] [(4, .int (nI (e + 1))), (2, .long (lN ((csU C k_2 e) + (C 13 e 5)))), (1, .int (nI k_2)), (0, .ref (A 0 0))] rfl ?_
        refine s_loc (L2 := [(4, .int (nI (e + 1))), (2, .long (lN (csU C k_2 (e + 1)))), (1, .int (nI k_2)), (0, .ref (A 0 0))]) (by rw [csU_1 c_14]) ?_
        exact ih (e + 1) (by omega) (by omega)
set_option maxHeartbeats 4000000 in
set_option maxRecDepth 100000 in
theorem k_X6_meanPages (Z : Zp) (l : Launch) (A : AF) (C : CF) (D : CF) (hS : Sm D C) (hM : OkM D) (hL : OkL D)  (hfl : l.stackTraces = false) : CtS Z l yX6_meanPages wsX6_meanPages ({ frames := 6, cells := 1, slots := 6, locals := 90 }) [.ref (A 0 0)] A C 1 6 (fun v A2 C2 => A = A2 ∧ (¬ (D 60 100 31) = 0 ∧ C = C2 ∧ some (.double (FP.ddiv (FP.i2d (nI (ouN D 0 (D 60 100 31)))) (FP.i2d (nI ((D 60 100 31)))))) = v)) (fun E A2 C2 => A = A2 ∧ (E = "java/lang/ArithmeticException" ∧ (D 60 100 31) = 0 ∧ C = C2)) := by
  refine CtS.of (cc0 := cX6_meanPages) (maxL := 4) (ret := (some .double)) (by decide) rfl (Nat.le_of_ble_eq_true rfl) ?_
  intro M0_ p_ e_ s_ m_ args_ below_ meth_ c_ S hz hml hex hlo hr hin
  refine s_loc (L2 := [(0, .ref (A 0 0))]) rfl ?_
  have i_RX0 : ∀ w ∈ u_ws RX0 TX0 6, w ∈ wsX6_meanPages := by decide +kernel
  have i_RX6 : ∀ w ∈ u_ws RX6 TX6 12, w ∈ wsX6_meanPages := by decide +kernel
  have hK := hS.okk hM hL
  obtain ⟨⟨k3, k4, k5, k6, k7, k8⟩, kU, kP, kT, kJ, kL, kE, kB⟩ := id hK
  obtain ⟨hO, hG, hX⟩ := id hM
  have cu := hS.1.1
  have cp := hS.1.2.1
  have cj := hS.1.2.2.1
  have hl31 := hS.2.2.2.2.2.1.1
  obtain ⟨oU, oP, oJ, oTc, oY, o8, o9, o10, o11, o12, o13, o14, o15, oX, oQ, oB, oK, oS, oJk, oM, oCo, oSh, oLg, oPo, oLl, oL2, oL3, oL4, oLle, oE1, oE2, oE3, oE4⟩ := id hO
  refine s_aload_n (pc := 0) S 0 dX6_meanPages_0 rfl rfl ?_
  refine s_get (pc := 1) S hz (ref := "SpoolFarm") (v := .ref (A 4 0)) (cc_farm (A := A) (C := C)) i_RX6 rfl 9 (Nat.le_of_ble_eq_true rfl) (by decide +kernel) (fun _ h => h) rfl dX6_meanPages_1 ?_
  refine s_callV (pc := 4) S hz hml [] (k_logSize Z l A C) (cwV 0 S.2.2.2.2 gX6_meanPages_Jx4a65c_size_8abf5 rfl rfl rfl (by decide +kernel) ⟨Nat.le_of_ble_eq_true rfl, Nat.le_of_ble_eq_true rfl⟩) (cc_list (A := A) (C := C)) rfl rfl rfl (Nat.le_of_ble_eq_true rfl) dX6_meanPages_4 ⟨Nat.le_of_ble_eq_true rfl, Nat.le_of_ble_eq_true rfl⟩ (fun _ _ _ h => h.elim) (fun v A2 C2 h_1 => ?_)
  obtain ⟨rfl, rfl, rfl⟩ := h_1
  refine s_top (u := .int (nI (D 60 100 31))) (congrArg (fun x => Value.int (nI x)) hl31) ?_
  refine s_istore_n (pc := 7) S [(1, .int (nI ((D 60 100 31)))), (0, .ref (A 0 0))] dX6_meanPages_7 rfl (by decide) rfl ?_
  refine s_iload_n (pc := 8) S 0 dX6_meanPages_8 rfl rfl ?_
  refine s_if_neN (pc := 9) S 23 dX6_meanPages_9 (by decide) (by omega) (fun c_2 => ?_) (fun c_2 => ?_)
  · refine s_iconst (pc := 23) S (v := (nI 0)) dX6_meanPages_23 (by decide) ?_
    refine s_istore_n (pc := 24) S [(2, .int (nI 0)), (1, .int (nI ((D 60 100 31)))), (0, .ref (A 0 0))] dX6_meanPages_24 rfl (by decide) rfl ?_
    refine s_iconst (pc := 25) S (v := (nI 0)) dX6_meanPages_25 (by decide) ?_
    refine s_istore_n (pc := 26) S [(3, .int (nI 0)), (2, .int (nI 0)), (1, .int (nI ((D 60 100 31)))), (0, .ref (A 0 0))] dX6_meanPages_26 rfl (by decide) rfl ?_
    refine s_loc (L2 := [(3, .int (nI 0)), (2, .int (nI (ouN D 0 0))), (1, .int (nI ((D 60 100 31)))), (0, .ref (A 0 0))]) rfl ?_
    refine s_perm [0, 1, 2, 3] [(3, .int (nI 0)), (2, .int (nI (ouN D 0 0))), (1, .int (nI ((D 60 100 31)))), (0, .ref (A 0 0))] rfl ?_
    refine s_loop (σ := Nat) (fun e => e ≤ (D 60 100 31)) (fun e => (D 60 100 31) - e) (fun _ => A) (fun e => C) (fun e => [(3, .int (nI e)), (2, .int (nI (ouN D 0 e))), (1, .int (nI ((D 60 100 31)))), (0, .ref (A 0 0))]) 0 (Nat.zero_le _) rfl rfl rfl ?_
    intro e hI ih
    have hsl := ouN_le (C := D) (b := 0) oE3 e
    refine s_iload_n (pc := 27) S 0 dX6_meanPages_27 rfl rfl ?_
    refine s_aload_n (pc := 28) S 3 dX6_meanPages_28 rfl rfl ?_
    refine s_get (pc := 29) S hz (ref := "SpoolFarm") (v := .ref (A 4 0)) (cc_farm (A := A) (C := C)) i_RX6 rfl 9 (Nat.le_of_ble_eq_true rfl) (by decide +kernel) (fun _ h => h) rfl dX6_meanPages_29 ?_
    refine s_callV (pc := 32) S hz hml [] (k_logSize Z l A C) (cwV 0 S.2.2.2.2 gX6_meanPages_Jx4a65c_size_8abf5 rfl rfl rfl (by decide +kernel) ⟨Nat.le_of_ble_eq_true rfl, Nat.le_of_ble_eq_true rfl⟩) (cc_list (A := A) (C := C)) rfl rfl rfl (Nat.le_of_ble_eq_true rfl) dX6_meanPages_32 ⟨Nat.le_of_ble_eq_true rfl, Nat.le_of_ble_eq_true rfl⟩ (fun _ _ _ h => h.elim) (fun v A2 C2 h_3 => ?_)
    obtain ⟨rfl, rfl, rfl⟩ := h_3
    refine s_top (u := .int (nI (D 60 100 31))) (congrArg (fun x => Value.int (nI x)) hl31) ?_
    refine s_icmp_geN (pc := 35) S 61 dX6_meanPages_35 (by decide) (by omega) (by omega) (fun c_4 => ?_) (fun c_4 => ?_)
    · obtain rfl : e = (D 60 100 31) := by omega
      refine s_iload_n (pc := 61) S 1 dX6_meanPages_61 rfl rfl ?_
      refine s_i2d (pc := 62) S dX6_meanPages_62 ?_
      refine s_iload_n (pc := 63) S 2 dX6_meanPages_63 rfl rfl ?_
      refine s_i2d (pc := 64) S dX6_meanPages_64 ?_
      refine s_ddiv (pc := 65) S dX6_meanPages_65 (fp_ddiv (by omega) (by omega)) ?_
      exact s_dret (pc := 66) S hz hlo hr ⟨rfl, ⟨c_2, rfl, rfl⟩⟩ (Nat.le_of_ble_eq_true rfl) (Nat.le_of_ble_eq_true rfl) dX6_meanPages_66
    · refine s_iload_n (pc := 38) S 1 dX6_meanPages_38 rfl rfl ?_
      refine s_aload_n (pc := 39) S 3 dX6_meanPages_39 rfl rfl ?_
      refine s_get (pc := 40) S hz (ref := "SpoolFarm") (v := .ref (A 4 0)) (cc_farm (A := A) (C := C)) i_RX6 rfl 9 (Nat.le_of_ble_eq_true rfl) (by decide +kernel) (fun _ h => h) rfl dX6_meanPages_40 ?_
      refine s_iload_n (pc := 43) S 0 dX6_meanPages_43 rfl rfl ?_
      refine s_callV (pc := 44) S hz hml [.int (nI e)] (k_logGet Z l A C e (by omega) kL.2.1 kL.2.2.1) (cwV 1 S.2.2.2.2 gX6_meanPages_Jx4a65c_get_915e3 rfl rfl rfl (by decide +kernel) ⟨Nat.le_of_ble_eq_true rfl, Nat.le_of_ble_eq_true rfl⟩) (cc_list (A := A) (C := C)) rfl rfl rfl (Nat.le_of_ble_eq_true rfl) dX6_meanPages_44 ⟨Nat.le_of_ble_eq_true rfl, Nat.le_of_ble_eq_true rfl⟩ (fun _ _ _ h => h.elim) (fun v A2 C2 h_5 => ?_)
      obtain ⟨rfl, rfl, rfl⟩ := h_5
      have he_6 : e < C 4 0 2 := by omega
      have z_7 := oE3 e
      have z_8 := (hS.2.2.2.2.2.2.1 e (by omega)).2.1
      have z_9 := (hS.2.2.2.2.2.2.1 e (by omega)).1
      have ke_10 := kE e he_6
      refine s_castO (pc := 47) S hz (ci := 5) (cc_entry (A := A) (C := C) he_6) rfl (by decide +kernel) dX6_meanPages_47 ?_
      refine s_get (pc := 50) S hz (ref := "SpoolFarm$Entry") (v := .int (nI (D 60 23 e))) (cc_entry (A := A) (C := C) he_6) i_RX0 rfl 3 (Nat.le_of_ble_eq_true rfl) (by decide +kernel) (fun _ h => h) (congrArg (fun x => some (Value.int (nI x))) (show C 13 e 3 = D 60 23 e from (hS.2.2.2.2.2.2.1 e (by omega)).2.2.2.1)) dX6_meanPages_50 ?_
      refine s_iaddN (pc := 53) S dX6_meanPages_53 ?_
      refine s_istore_n (pc := 54) S [(2, .int (nI ((ouN D 0 e) + (D 60 23 e)))), (3, .int (nI e)), (1, .int (nI ((D 60 100 31)))), (0, .ref (A 0 0))] dX6_meanPages_54 rfl (by decide) rfl ?_
      refine s_iinc (pc := 55) S 1 [(3, .int (nI (e + 1))), (2, .int (nI ((ouN D 0 e) + (D 60 23 e)))), (1, .int (nI ((D 60 100 31)))), (0, .ref (A 0 0))] dX6_meanPages_55 rfl (nI_add _ 1) (by decide) rfl ?_
      refine s_goto (pc := 58) S 27 dX6_meanPages_58 (by decide) ?_
      refine s_perm [0, 1, 2, 3] [(3, .int (nI (e + 1))), (2, .int (nI ((ouN D 0 e) + (D 60 23 e)))), (1, .int (nI ((D 60 100 31)))), (0, .ref (A 0 0))] rfl ?_
      refine s_loc (L2 := [(3, .int (nI (e + 1))), (2, .int (nI (ouN D 0 (e + 1)))), (1, .int (nI ((D 60 100 31)))), (0, .ref (A 0 0))]) (by rw [ou_0]) ?_
      exact ih (e + 1) (by omega) (by omega)
  · exact s_thrW (pc := 12) (text := "the log is empty") S hz hfl hml hex hlo thr_ARI (by decide +kernel) (by decide +kernel) (by decide +kernel) (by decide +kernel) dX6_meanPages_12 dX6_meanPages_15 dX6_meanPages_16 dX6_meanPages_19 dX6_meanPages_22 (Nat.le_of_ble_eq_true rfl) (Nat.le_of_ble_eq_true rfl) (Nat.le_of_ble_eq_true rfl) (Nat.le_of_ble_eq_true rfl) ⟨rfl, ⟨rfl, c_2, rfl⟩⟩ (Nat.le_of_ble_eq_true rfl) (Nat.le_of_ble_eq_true rfl)
theorem js_le {D : CF} (hO : OkR D) (b : Nat) : ∀ m : Nat, m ≤ D 60 100 30 → jsN D b m ≤ 900 * m
  | 0, _ => Nat.le_refl _
  | m + 1, hm => by
    have h1 := js_le hO b m (by omega)
    obtain ⟨-, -, -, -, -, -, -, h8, -, h10, -⟩ := hO.jk (show m < D 60 100 30 by omega)
    unfold jsN
    split <;> omega
set_option maxHeartbeats 4000000 in
set_option maxRecDepth 100000 in
theorem k_X6_colourShare (Z : Zp) (l : Launch) (A : AF) (C : CF) (D : CF) (hS : Sm D C) (hM : OkM D) (hL : OkL D)  (hfl : l.stackTraces = false) : CtS Z l yX6_colourShare wsX6_colourShare ({ frames := 6, cells := 1, slots := 6, locals := 90 }) [.ref (A 0 0)] A C 1 6 (fun v A2 C2 => A = A2 ∧ (¬ ouN D 0 (D 60 100 31) = 0 ∧ C = C2 ∧ some (.float (FP.fdiv (FP.i2f (nI (ouN D 1 (D 60 100 31)))) (FP.i2f (nI (ouN D 0 (D 60 100 31)))))) = v)) (fun E A2 C2 => A = A2 ∧ (E = "java/lang/ArithmeticException" ∧ ouN D 0 (D 60 100 31) = 0 ∧ C = C2)) := by
  refine CtS.of (cc0 := cX6_colourShare) (maxL := 7) (ret := (some .float)) (by decide) rfl (Nat.le_of_ble_eq_true rfl) ?_
  intro M0_ p_ e_ s_ m_ args_ below_ meth_ c_ S hz hml hex hlo hr hin
  refine s_loc (L2 := [(0, .ref (A 0 0))]) rfl ?_
  have i_RX1 : ∀ w ∈ u_ws RX1 TX1 14, w ∈ wsX6_colourShare := by decide +kernel
  have i_RX6 : ∀ w ∈ u_ws RX6 TX6 12, w ∈ wsX6_colourShare := by decide +kernel
  have hK := hS.okk hM hL
  obtain ⟨⟨k3, k4, k5, k6, k7, k8⟩, kU, kP, kT, kJ, kL, kE, kB⟩ := id hK
  obtain ⟨hO, hG, hX⟩ := id hM
  have cu := hS.1.1
  have cp := hS.1.2.1
  have cj := hS.1.2.2.1
  have hl31 := hS.2.2.2.2.2.1.1
  obtain ⟨oU, oP, oJ, oTc, oY, o8, o9, o10, o11, o12, o13, o14, o15, oX, oQ, oB, oK, oS, oJk, oM, oCo, oSh, oLg, oPo, oLl, oL2, oL3, oL4, oLle, oE1, oE2, oE3, oE4⟩ := id hO
  refine s_iconst (pc := 0) S (v := (nI 0)) dX6_colourShare_0 (by decide) ?_
  refine s_istore_n (pc := 1) S [(1, .int (nI 0)), (0, .ref (A 0 0))] dX6_colourShare_1 rfl (by decide) rfl ?_
  refine s_iconst (pc := 2) S (v := (nI 0)) dX6_colourShare_2 (by decide) ?_
  refine s_istore_n (pc := 3) S [(2, .int (nI 0)), (1, .int (nI 0)), (0, .ref (A 0 0))] dX6_colourShare_3 rfl (by decide) rfl ?_
  refine s_aload_n (pc := 4) S 2 dX6_colourShare_4 rfl rfl ?_
  refine s_get (pc := 5) S hz (ref := "SpoolFarm") (v := .ref (A 3 0)) (cc_farm (A := A) (C := C)) i_RX6 rfl 2 (Nat.le_of_ble_eq_true rfl) (by decide +kernel) (fun _ h => h) rfl dX6_colourShare_5 ?_
  refine s_astore_n (pc := 8) S [(3, .ref (A 3 0)), (2, .int (nI 0)), (1, .int (nI 0)), (0, .ref (A 0 0))] dX6_colourShare_8 rfl (by decide) rfl ?_
  refine s_aload_n (pc := 9) S 0 dX6_colourShare_9 rfl rfl ?_
  refine s_alen (pc := 10) S hz (n := 40) (cc_jobs (A := A) (C := C)) dX6_colourShare_10 ?_
  refine s_istore (pc := 11) S [(4, .int (nI 40)), (3, .ref (A 3 0)), (2, .int (nI 0)), (1, .int (nI 0)), (0, .ref (A 0 0))] dX6_colourShare_11 (by decide) rfl ?_
  refine s_iconst (pc := 13) S (v := (nI 0)) dX6_colourShare_13 (by decide) ?_
  refine s_istore (pc := 14) S [(5, .int (nI 0)), (4, .int (nI 40)), (3, .ref (A 3 0)), (2, .int (nI 0)), (1, .int (nI 0)), (0, .ref (A 0 0))] dX6_colourShare_14 (by decide) rfl ?_
  refine s_loc (L2 := [(5, .int (nI 0)), (4, .int (nI 40)), (3, .ref (A 3 0)), (2, .int (nI (jsN D 0 (min 0 (D 60 100 30))))), (1, .int (nI (jsN D 1 (min 0 (D 60 100 30))))), (0, .ref (A 0 0))]) (by rw [Nat.zero_min]; rfl) ?_
  refine s_loc (L2 := [(5, .int (nI 0)), (4, .int (nI 40)), (3, .ref (A 3 0)), (2, .int (nI (jsN D 0 (min 0 (D 60 100 30))))), (1, .int (nI (jsN D 1 (min 0 (D 60 100 30))))), (0, .ref (A 0 0))]) rfl ?_
  refine s_perm [0, 3, 4, 1, 2, 5] [(5, .int (nI 0)), (2, .int (nI (jsN D 0 (min 0 (D 60 100 30))))), (1, .int (nI (jsN D 1 (min 0 (D 60 100 30))))), (4, .int (nI 40)), (3, .ref (A 3 0)), (0, .ref (A 0 0))] rfl ?_
  refine s_loop (σ := Nat) (fun e => e ≤ 40) (fun e => 40 - e) (fun _ => A) (fun e => C) (fun e => [(5, .int (nI e)), (2, .int (nI (jsN D 0 (min e (D 60 100 30))))), (1, .int (nI (jsN D 1 (min e (D 60 100 30))))), (4, .int (nI 40)), (3, .ref (A 3 0)), (0, .ref (A 0 0))]) 0 (Nat.zero_le _) rfl rfl rfl ?_
  intro e hI ih
  have hs0 := js_le hO 0 (min e (D 60 100 30)) (Nat.min_le_right _ _)
  have hs1 := js_le hO 1 (min e (D 60 100 30)) (Nat.min_le_right _ _)
  refine s_iload (pc := 16) S 0 dX6_colourShare_16 rfl ?_
  refine s_iload (pc := 18) S 3 dX6_colourShare_18 rfl ?_
  refine s_icmp_geN (pc := 20) S 68 dX6_colourShare_20 (by decide) (by omega) (by omega) (fun c_1 => ?_) (fun c_1 => ?_)
  · refine s_perm [2, 1] [(1, .int (nI (jsN D 1 (min e (D 60 100 30))))), (2, .int (nI (jsN D 0 (min e (D 60 100 30)))))] rfl ?_
    refine s_loc (L2 := [(1, .int (nI (ouN D 1 (D 60 100 31)))), (2, .int (nI (ouN D 0 (D 60 100 31))))]) (by rw [show min e (D 60 100 30) = (D 60 100 30) by omega, js_ou hL, js_ou hL]) ?_
    have hs0 := ouN_le (C := D) (b := 0) oE3 (D 60 100 31)
    refine s_iload_n (pc := 68) S 1 dX6_colourShare_68 rfl rfl ?_
    refine s_if_neN (pc := 69) S 83 dX6_colourShare_69 (by decide) (by omega) (fun c_2 => ?_) (fun c_2 => ?_)
    · refine s_iload_n (pc := 83) S 0 dX6_colourShare_83 rfl rfl ?_
      refine s_i2f (pc := 84) S dX6_colourShare_84 ?_
      refine s_iload_n (pc := 85) S 1 dX6_colourShare_85 rfl rfl ?_
      refine s_i2f (pc := 86) S dX6_colourShare_86 ?_
      refine s_fdiv (pc := 87) S dX6_colourShare_87 (fp_fdiv (by omega) (by omega)) ?_
      exact s_fret (pc := 88) S hz hlo hr ⟨rfl, ⟨c_2, rfl, rfl⟩⟩ (Nat.le_of_ble_eq_true rfl) (Nat.le_of_ble_eq_true rfl) dX6_colourShare_88
    · exact s_thrW (pc := 72) (text := "no page has come out") S hz hfl hml hex hlo thr_ARI (by decide +kernel) (by decide +kernel) (by decide +kernel) (by decide +kernel) dX6_colourShare_72 dX6_colourShare_75 dX6_colourShare_76 dX6_colourShare_79 dX6_colourShare_82 (Nat.le_of_ble_eq_true rfl) (Nat.le_of_ble_eq_true rfl) (Nat.le_of_ble_eq_true rfl) (Nat.le_of_ble_eq_true rfl) ⟨rfl, ⟨rfl, c_2, rfl⟩⟩ (Nat.le_of_ble_eq_true rfl) (Nat.le_of_ble_eq_true rfl)
  · refine s_aload_n (pc := 23) S 4 dX6_colourShare_23 rfl rfl ?_
    refine s_iload (pc := 24) S 0 dX6_colourShare_24 rfl ?_
    by_cases lv_3 : e < C 0 0 5
    · refine s_aald (pc := 26) S hz (v := .ref (A 11 e)) (cc_jobs (A := A) (C := C)) (by omega) (by decide) (by rw [if_pos lv_3]; rfl) dX6_colourShare_26 ?_
      have hD_e : e < D 60 100 30 := by omega
      have hJ_e := hS.2.2.2.2.1 e hD_e
      have hjl := (hO.jk hD_e).2.2.2.2.2.2.2.1
      have hj9 := (hO.jk hD_e).2.2.2.2.2.2.2.2.2.1
      have hc2 := o12 e
      refine s_astore (pc := 27) S [(6, .ref (A 11 e)), (5, .int (nI e)), (2, .int (nI (jsN D 0 (min e (D 60 100 30))))), (1, .int (nI (jsN D 1 (min e (D 60 100 30))))), (4, .int (nI 40)), (3, .ref (A 3 0)), (0, .ref (A 0 0))] dX6_colourShare_27 (by decide) rfl ?_
      refine s_aload (pc := 29) S 0 dX6_colourShare_29 rfl ?_
      refine s_ifnull (pc := 31) S dX6_colourShare_31 ?_
      refine s_iload_n (pc := 34) S 3 dX6_colourShare_34 rfl rfl ?_
      refine s_aload (pc := 35) S 0 dX6_colourShare_35 rfl ?_
      refine s_get (pc := 37) S hz (ref := "SpoolFarm$Job") (v := .int (nI (D 60 12 e))) (cc_job (A := A) (C := C) lv_3) i_RX1 rfl 5 (Nat.le_of_ble_eq_true rfl) (by decide +kernel) (fun _ h => h) (congrArg (fun x => some (Value.int (nI x))) (show C 11 e 5 = D 60 12 e from hJ_e.2.2.2.2.2.1)) dX6_colourShare_37 ?_
      refine s_if_eqN (pc := 40) S 51 dX6_colourShare_40 (by decide) (by omega) (fun c_4 => ?_) (fun c_4 => ?_)
      · refine s_iconst (pc := 51) S (v := (nI 0)) dX6_colourShare_51 (by decide) ?_
        refine s_iaddN (pc := 52) S dX6_colourShare_52 ?_
        refine s_istore_n (pc := 53) S [(1, .int (nI ((jsN D 1 (min e (D 60 100 30))) + 0))), (6, .ref (A 11 e)), (5, .int (nI e)), (2, .int (nI (jsN D 0 (min e (D 60 100 30))))), (4, .int (nI 40)), (3, .ref (A 3 0)), (0, .ref (A 0 0))] dX6_colourShare_53 rfl (by decide) rfl ?_
        refine s_iload_n (pc := 54) S 3 dX6_colourShare_54 rfl rfl ?_
        refine s_aload (pc := 55) S 1 dX6_colourShare_55 rfl ?_
        refine s_get (pc := 57) S hz (ref := "SpoolFarm$Job") (v := .int (nI (ptoN (D 60 13 e) (D 60 17 e) (D 60 19 e)))) (cc_job (A := A) (C := C) lv_3) i_RX1 rfl 9 (Nat.le_of_ble_eq_true rfl) (by decide +kernel) (fun _ h => h) (congrArg (fun x => some (Value.int (nI x))) (show C 11 e 9 = ptoN (D 60 13 e) (D 60 17 e) (D 60 19 e) from hJ_e.2.2.2.2.2.2.2.2.2.1)) dX6_colourShare_57 ?_
        refine s_iaddN (pc := 60) S dX6_colourShare_60 ?_
        refine s_istore_n (pc := 61) S [(2, .int (nI ((jsN D 0 (min e (D 60 100 30))) + (ptoN (D 60 13 e) (D 60 17 e) (D 60 19 e))))), (1, .int (nI ((jsN D 1 (min e (D 60 100 30))) + 0))), (6, .ref (A 11 e)), (5, .int (nI e)), (4, .int (nI 40)), (3, .ref (A 3 0)), (0, .ref (A 0 0))] dX6_colourShare_61 rfl (by decide) rfl ?_
        refine s_iinc (pc := 62) S 3 [(5, .int (nI (e + 1))), (2, .int (nI ((jsN D 0 (min e (D 60 100 30))) + (ptoN (D 60 13 e) (D 60 17 e) (D 60 19 e))))), (1, .int (nI ((jsN D 1 (min e (D 60 100 30))) + 0))), (6, .ref (A 11 e)), (4, .int (nI 40)), (3, .ref (A 3 0)), (0, .ref (A 0 0))] dX6_colourShare_62 rfl (nI_add _ 1) (by decide) rfl ?_
        refine s_goto (pc := 65) S 16 dX6_colourShare_65 (by decide) ?_
        refine s_perm [0, 1, 2, 4, 5, 6] [(5, .int (nI (e + 1))), (2, .int (nI ((jsN D 0 (min e (D 60 100 30))) + (ptoN (D 60 13 e) (D 60 17 e) (D 60 19 e))))), (1, .int (nI ((jsN D 1 (min e (D 60 100 30))) + 0))), (4, .int (nI 40)), (3, .ref (A 3 0)), (0, .ref (A 0 0))] rfl ?_
        refine s_loc (L2 := [(5, .int (nI (e + 1))), (2, .int (nI (jsN D 0 (min (e + 1) (D 60 100 30))))), (1, .int (nI (jsN D 1 (min (e + 1) (D 60 100 30))))), (4, .int (nI 40)), (3, .ref (A 3 0)), (0, .ref (A 0 0))]) (by rw [show min (e + 1) (D 60 100 30) = e + 1 by omega, show min e (D 60 100 30) = e by omega, jsN_1 (b := 0) (Or.inl rfl), jsN_0 (b := 1) (by omega)]) ?_
        exact ih (e + 1) (by omega) (by omega)
      · refine s_aload (pc := 43) S 0 dX6_colourShare_43 rfl ?_
        refine s_get (pc := 45) S hz (ref := "SpoolFarm$Job") (v := .int (nI (ptoN (D 60 13 e) (D 60 17 e) (D 60 19 e)))) (cc_job (A := A) (C := C) lv_3) i_RX1 rfl 9 (Nat.le_of_ble_eq_true rfl) (by decide +kernel) (fun _ h => h) (congrArg (fun x => some (Value.int (nI x))) (show C 11 e 9 = ptoN (D 60 13 e) (D 60 17 e) (D 60 19 e) from hJ_e.2.2.2.2.2.2.2.2.2.1)) dX6_colourShare_45 ?_
        refine s_goto (pc := 48) S 52 dX6_colourShare_48 (by decide) ?_
        refine s_iaddN (pc := 52) S dX6_colourShare_52 ?_
        refine s_istore_n (pc := 53) S [(1, .int (nI ((jsN D 1 (min e (D 60 100 30))) + (ptoN (D 60 13 e) (D 60 17 e) (D 60 19 e))))), (6, .ref (A 11 e)), (5, .int (nI e)), (2, .int (nI (jsN D 0 (min e (D 60 100 30))))), (4, .int (nI 40)), (3, .ref (A 3 0)), (0, .ref (A 0 0))] dX6_colourShare_53 rfl (by decide) rfl ?_
        refine s_iload_n (pc := 54) S 3 dX6_colourShare_54 rfl rfl ?_
        refine s_aload (pc := 55) S 1 dX6_colourShare_55 rfl ?_
        refine s_get (pc := 57) S hz (ref := "SpoolFarm$Job") (v := .int (nI (ptoN (D 60 13 e) (D 60 17 e) (D 60 19 e)))) (cc_job (A := A) (C := C) lv_3) i_RX1 rfl 9 (Nat.le_of_ble_eq_true rfl) (by decide +kernel) (fun _ h => h) (congrArg (fun x => some (Value.int (nI x))) (show C 11 e 9 = ptoN (D 60 13 e) (D 60 17 e) (D 60 19 e) from hJ_e.2.2.2.2.2.2.2.2.2.1)) dX6_colourShare_57 ?_
        refine s_iaddN (pc := 60) S dX6_colourShare_60 ?_
        refine s_istore_n (pc := 61) S [(2, .int (nI ((jsN D 0 (min e (D 60 100 30))) + (ptoN (D 60 13 e) (D 60 17 e) (D 60 19 e))))), (1, .int (nI ((jsN D 1 (min e (D 60 100 30))) + (ptoN (D 60 13 e) (D 60 17 e) (D 60 19 e))))), (6, .ref (A 11 e)), (5, .int (nI e)), (4, .int (nI 40)), (3, .ref (A 3 0)), (0, .ref (A 0 0))] dX6_colourShare_61 rfl (by decide) rfl ?_
        refine s_iinc (pc := 62) S 3 [(5, .int (nI (e + 1))), (2, .int (nI ((jsN D 0 (min e (D 60 100 30))) + (ptoN (D 60 13 e) (D 60 17 e) (D 60 19 e))))), (1, .int (nI ((jsN D 1 (min e (D 60 100 30))) + (ptoN (D 60 13 e) (D 60 17 e) (D 60 19 e))))), (6, .ref (A 11 e)), (4, .int (nI 40)), (3, .ref (A 3 0)), (0, .ref (A 0 0))] dX6_colourShare_62 rfl (nI_add _ 1) (by decide) rfl ?_
        refine s_goto (pc := 65) S 16 dX6_colourShare_65 (by decide) ?_
        refine s_perm [0, 1, 2, 4, 5, 6] [(5, .int (nI (e + 1))), (2, .int (nI ((jsN D 0 (min e (D 60 100 30))) + (ptoN (D 60 13 e) (D 60 17 e) (D 60 19 e))))), (1, .int (nI ((jsN D 1 (min e (D 60 100 30))) + (ptoN (D 60 13 e) (D 60 17 e) (D 60 19 e))))), (4, .int (nI 40)), (3, .ref (A 3 0)), (0, .ref (A 0 0))] rfl ?_
        refine s_loc (L2 := [(5, .int (nI (e + 1))), (2, .int (nI (jsN D 0 (min (e + 1) (D 60 100 30))))), (1, .int (nI (jsN D 1 (min (e + 1) (D 60 100 30))))), (4, .int (nI 40)), (3, .ref (A 3 0)), (0, .ref (A 0 0))]) (by rw [show min (e + 1) (D 60 100 30) = e + 1 by omega, show min e (D 60 100 30) = e by omega, jsN_1 (b := 0) (Or.inl rfl), jsN_1 (b := 1) (Or.inr c_4)]) ?_
        exact ih (e + 1) (by omega) (by omega)
    · refine s_aald (pc := 26) S hz (v := .null) (cc_jobs (A := A) (C := C)) (by omega) (by decide) (by rw [if_neg lv_3]; rfl) dX6_colourShare_26 ?_
      refine s_astoreN (pc := 27) S [(6, .null), (5, .int (nI e)), (2, .int (nI (jsN D 0 (min e (D 60 100 30))))), (1, .int (nI (jsN D 1 (min e (D 60 100 30))))), (4, .int (nI 40)), (3, .ref (A 3 0)), (0, .ref (A 0 0))] dX6_colourShare_27 (by decide) rfl ?_
      refine s_aloadN (pc := 29) S 0 dX6_colourShare_29 rfl ?_
      refine s_ifnullN (pc := 31) S 62 dX6_colourShare_31 (by decide) ?_
      refine s_iinc (pc := 62) S 1 [(5, .int (nI (e + 1))), (6, .null), (2, .int (nI (jsN D 0 (min e (D 60 100 30))))), (1, .int (nI (jsN D 1 (min e (D 60 100 30))))), (4, .int (nI 40)), (3, .ref (A 3 0)), (0, .ref (A 0 0))] dX6_colourShare_62 rfl (nI_add _ 1) (by decide) rfl ?_
      refine s_goto (pc := 65) S 16 dX6_colourShare_65 (by decide) ?_
      refine s_perm [0, 2, 3, 4, 5, 6] [(5, .int (nI (e + 1))), (2, .int (nI (jsN D 0 (min e (D 60 100 30))))), (1, .int (nI (jsN D 1 (min e (D 60 100 30))))), (4, .int (nI 40)), (3, .ref (A 3 0)), (0, .ref (A 0 0))] rfl ?_
      refine s_loc (L2 := [(5, .int (nI (e + 1))), (2, .int (nI (jsN D 0 (min (e + 1) (D 60 100 30))))), (1, .int (nI (jsN D 1 (min (e + 1) (D 60 100 30))))), (4, .int (nI 40)), (3, .ref (A 3 0)), (0, .ref (A 0 0))]) (by rw [show min (e + 1) (D 60 100 30) = min e (D 60 100 30) by omega]) ?_
      exact ih (e + 1) (by omega) (by omega)
set_option maxHeartbeats 4000000 in
set_option maxRecDepth 100000 in
theorem k_X6_loggedPages (Z : Zp) (l : Launch) (A : AF) (C : CF) (D : CF) (hS : Sm D C) (hM : OkM D) (hL : OkL D) (k : Nat) (hk : k < 2 ^ 30) : CtS Z l yX6_loggedPages wsX6_loggedPages ({ frames := 3, cells := 0, slots := 0, locals := 64 }) [.ref (A 0 0), .int (nI k)] A C 0 0 (fun v A2 C2 => A = A2 ∧ C = C2 ∧ some (.int (nI (pgJ D k (D 60 100 31)))) = v) (fun _ _ _ => False) := by
  refine CtS.of (cc0 := cX6_loggedPages) (maxL := 5) (ret := (some .int)) (by decide) rfl (Nat.le_of_ble_eq_true rfl) ?_
  intro M0_ p_ e_ s_ m_ args_ below_ meth_ c_ S hz hml hex hlo hr hin
  refine s_loc (L2 := [(0, .ref (A 0 0)), (1, .int (nI k))]) rfl ?_
  have i_RX0 : ∀ w ∈ u_ws RX0 TX0 6, w ∈ wsX6_loggedPages := by decide +kernel
  have i_RX6 : ∀ w ∈ u_ws RX6 TX6 12, w ∈ wsX6_loggedPages := by decide +kernel
  have hK := hS.okk hM hL
  obtain ⟨⟨k3, k4, k5, k6, k7, k8⟩, kU, kP, kT, kJ, kL, kE, kB⟩ := id hK
  obtain ⟨hO, hG, hX⟩ := id hM
  have cu := hS.1.1
  have cp := hS.1.2.1
  have cj := hS.1.2.2.1
  have hl31 := hS.2.2.2.2.2.1.1
  obtain ⟨oU, oP, oJ, oTc, oY, o8, o9, o10, o11, o12, o13, o14, o15, oX, oQ, oB, oK, oS, oJk, oM, oCo, oSh, oLg, oPo, oLl, oL2, oL3, oL4, oLle, oE1, oE2, oE3, oE4⟩ := id hO
  refine s_iconst (pc := 0) S (v := (nI 0)) dX6_loggedPages_0 (by decide) ?_
  refine s_istore_n (pc := 1) S [(2, .int (nI 0)), (0, .ref (A 0 0)), (1, .int (nI k))] dX6_loggedPages_1 rfl (by decide) rfl ?_
  refine s_iconst (pc := 2) S (v := (nI 0)) dX6_loggedPages_2 (by decide) ?_
  refine s_istore_n (pc := 3) S [(3, .int (nI 0)), (2, .int (nI 0)), (0, .ref (A 0 0)), (1, .int (nI k))] dX6_loggedPages_3 rfl (by decide) rfl ?_
  refine s_loc (L2 := [(3, .int (nI 0)), (2, .int (nI (pgJ D k 0))), (0, .ref (A 0 0)), (1, .int (nI k))]) rfl ?_
  refine s_perm [0, 1, 3, 2] [(3, .int (nI 0)), (2, .int (nI (pgJ D k 0))), (1, .int (nI k)), (0, .ref (A 0 0))] rfl ?_
  refine s_loop (σ := Nat) (fun e => e ≤ (D 60 100 31)) (fun e => (D 60 100 31) - e) (fun _ => A) (fun e => C) (fun e => [(3, .int (nI e)), (2, .int (nI (pgJ D k e))), (1, .int (nI k)), (0, .ref (A 0 0))]) 0 (Nat.zero_le _) rfl rfl rfl ?_
  intro e hI ih
  have hsl := pgJ_le (D := D) (u := k) oE3 e
  refine s_iload_n (pc := 4) S 0 dX6_loggedPages_4 rfl rfl ?_
  refine s_aload_n (pc := 5) S 3 dX6_loggedPages_5 rfl rfl ?_
  refine s_get (pc := 6) S hz (ref := "SpoolFarm") (v := .ref (A 4 0)) (cc_farm (A := A) (C := C)) i_RX6 rfl 9 (Nat.le_of_ble_eq_true rfl) (by decide +kernel) (fun _ h => h) rfl dX6_loggedPages_6 ?_
  refine s_callV (pc := 9) S hz hml [] (k_logSize Z l A C) (cwV 0 S.2.2.2.2 gX6_loggedPages_Jx4a65c_size_8abf5 rfl rfl rfl (by decide +kernel) ⟨Nat.le_of_ble_eq_true rfl, Nat.le_of_ble_eq_true rfl⟩) (cc_list (A := A) (C := C)) rfl rfl rfl (Nat.le_of_ble_eq_true rfl) dX6_loggedPages_9 ⟨Nat.le_of_ble_eq_true rfl, Nat.le_of_ble_eq_true rfl⟩ (fun _ _ _ h => h.elim) (fun v A2 C2 h_1 => ?_)
  obtain ⟨rfl, rfl, rfl⟩ := h_1
  refine s_top (u := .int (nI (D 60 100 31))) (congrArg (fun x => Value.int (nI x)) hl31) ?_
  refine s_icmp_geN (pc := 12) S 55 dX6_loggedPages_12 (by decide) (by omega) (by omega) (fun c_2 => ?_) (fun c_2 => ?_)
  · obtain rfl : e = (D 60 100 31) := by omega
    refine s_iload_n (pc := 55) S 1 dX6_loggedPages_55 rfl rfl ?_
    exact s_iret (pc := 56) S hz hlo hr ⟨rfl, rfl, rfl⟩ (Nat.le_of_ble_eq_true rfl) (Nat.le_of_ble_eq_true rfl) dX6_loggedPages_56
  · refine s_aload_n (pc := 15) S 3 dX6_loggedPages_15 rfl rfl ?_
    refine s_get (pc := 16) S hz (ref := "SpoolFarm") (v := .ref (A 4 0)) (cc_farm (A := A) (C := C)) i_RX6 rfl 9 (Nat.le_of_ble_eq_true rfl) (by decide +kernel) (fun _ h => h) rfl dX6_loggedPages_16 ?_
    refine s_iload_n (pc := 19) S 0 dX6_loggedPages_19 rfl rfl ?_
    refine s_callV (pc := 20) S hz hml [.int (nI e)] (k_logGet Z l A C e (by omega) kL.2.1 kL.2.2.1) (cwV 1 S.2.2.2.2 gX6_loggedPages_Jx4a65c_get_915e3 rfl rfl rfl (by decide +kernel) ⟨Nat.le_of_ble_eq_true rfl, Nat.le_of_ble_eq_true rfl⟩) (cc_list (A := A) (C := C)) rfl rfl rfl (Nat.le_of_ble_eq_true rfl) dX6_loggedPages_20 ⟨Nat.le_of_ble_eq_true rfl, Nat.le_of_ble_eq_true rfl⟩ (fun _ _ _ h => h.elim) (fun v A2 C2 h_3 => ?_)
    obtain ⟨rfl, rfl, rfl⟩ := h_3
    have he_4 : e < C 4 0 2 := by omega
    have z_5 := oE3 e
    have z_6 := (hS.2.2.2.2.2.2.1 e (by omega)).2.1
    have z_7 := (hS.2.2.2.2.2.2.1 e (by omega)).1
    have ke_8 := kE e he_4
    refine s_castO (pc := 23) S hz (ci := 5) (cc_entry (A := A) (C := C) he_4) rfl (by decide +kernel) dX6_loggedPages_23 ?_
    refine s_astore (pc := 26) S [(4, .ref (A 13 e)), (3, .int (nI e)), (2, .int (nI (pgJ D k e))), (1, .int (nI k)), (0, .ref (A 0 0))] dX6_loggedPages_26 (by decide) rfl ?_
    refine s_iload_n (pc := 28) S 2 dX6_loggedPages_28 rfl rfl ?_
    refine s_aload (pc := 29) S 0 dX6_loggedPages_29 rfl ?_
    refine s_get (pc := 31) S hz (ref := "SpoolFarm$Entry") (v := .int (nI (D 60 21 e))) (cc_entry (A := A) (C := C) he_4) i_RX0 rfl 0 (Nat.le_of_ble_eq_true rfl) (by decide +kernel) (fun _ h => h) (congrArg (fun x => some (Value.int (nI x))) (show C 13 e 0 = D 60 21 e from (hS.2.2.2.2.2.2.1 e (by omega)).1)) dX6_loggedPages_31 ?_
    refine s_iload_n (pc := 34) S 3 dX6_loggedPages_34 rfl rfl ?_
    refine s_icmp_neN (pc := 35) S 46 dX6_loggedPages_35 (by decide) (by omega) (by omega) (fun c_9 => ?_) (fun c_9 => ?_)
    · refine s_iconst (pc := 46) S (v := (nI 0)) dX6_loggedPages_46 (by decide) ?_
      refine s_iaddN (pc := 47) S dX6_loggedPages_47 ?_
      refine s_istore_n (pc := 48) S [(2, .int (nI ((pgJ D k e) + 0))), (4, .ref (A 13 e)), (3, .int (nI e)), (1, .int (nI k)), (0, .ref (A 0 0))] dX6_loggedPages_48 rfl (by decide) rfl ?_
      refine s_iinc (pc := 49) S 2 [(3, .int (nI (e + 1))), (2, .int (nI ((pgJ D k e) + 0))), (4, .ref (A 13 e)), (1, .int (nI k)), (0, .ref (A 0 0))] dX6_loggedPages_49 rfl (nI_add _ 1) (by decide) rfl ?_
      refine s_goto (pc := 52) S 4 dX6_loggedPages_52 (by decide) ?_
      refine s_perm [0, 1, 3, 4] [(3, .int (nI (e + 1))), (2, .int (nI ((pgJ D k e) + 0))), (1, .int (nI k)), (0, .ref (A 0 0))] rfl ?_
      refine s_loc (L2 := [(3, .int (nI (e + 1))), (2, .int (nI (pgJ D k (e + 1)))), (1, .int (nI k)), (0, .ref (A 0 0))]) (by rw [pgJ_0 c_9]) ?_
      exact ih (e + 1) (by omega) (by omega)
    · refine s_aload (pc := 38) S 0 dX6_loggedPages_38 rfl ?_
      refine s_get (pc := 40) S hz (ref := "SpoolFarm$Entry") (v := .int (nI (D 60 23 e))) (cc_entry (A := A) (C := C) he_4) i_RX0 rfl 3 (Nat.le_of_ble_eq_true rfl) (by decide +kernel) (fun _ h => h) (congrArg (fun x => some (Value.int (nI x))) (show C 13 e 3 = D 60 23 e from (hS.2.2.2.2.2.2.1 e (by omega)).2.2.2.1)) dX6_loggedPages_40 ?_
      refine s_goto (pc := 43) S 47 dX6_loggedPages_43 (by decide) ?_
      refine s_iaddN (pc := 47) S dX6_loggedPages_47 ?_
      refine s_istore_n (pc := 48) S [(2, .int (nI ((pgJ D k e) + (D 60 23 e)))), (4, .ref (A 13 e)), (3, .int (nI e)), (1, .int (nI k)), (0, .ref (A 0 0))] dX6_loggedPages_48 rfl (by decide) rfl ?_
      refine s_iinc (pc := 49) S 2 [(3, .int (nI (e + 1))), (2, .int (nI ((pgJ D k e) + (D 60 23 e)))), (4, .ref (A 13 e)), (1, .int (nI k)), (0, .ref (A 0 0))] dX6_loggedPages_49 rfl (nI_add _ 1) (by decide) rfl ?_
      refine s_goto (pc := 52) S 4 dX6_loggedPages_52 (by decide) ?_
      refine s_perm [0, 1, 3, 4] [(3, .int (nI (e + 1))), (2, .int (nI ((pgJ D k e) + (D 60 23 e)))), (1, .int (nI k)), (0, .ref (A 0 0))] rfl ?_
      refine s_loc (L2 := [(3, .int (nI (e + 1))), (2, .int (nI (pgJ D k (e + 1)))), (1, .int (nI k)), (0, .ref (A 0 0))]) (by rw [pgJ_1 c_9]) ?_
      exact ih (e + 1) (by omega) (by omega)
set_option maxHeartbeats 4000000 in
set_option maxRecDepth 100000 in
theorem k_X6_pagesOf_ok (Z : Zp) (l : Launch) (A : AF) (C : CF) (D : CF) (hS : Sm D C) (hM : OkM D) (hL : OkL D) (k : Nat) (hk : k < C 0 0 3) : CtS Z l yX6_pagesOf wsX6_pagesOf ({ frames := 1, cells := 0, slots := 0, locals := 22 }) [.ref (A 0 0), .int (nI k)] A C 0 0 (fun v A2 C2 => A = A2 ∧ C = C2 ∧ some (.int (nI (C 10 k 2))) = v) (fun _ _ _ => False) := by
  refine CtS.of (cc0 := cX6_pagesOf) (maxL := 2) (ret := (some .int)) (by decide) rfl (Nat.le_of_ble_eq_true rfl) ?_
  intro M0_ p_ e_ s_ m_ args_ below_ meth_ c_ S hz hml hex hlo hr hin
  refine s_loc (L2 := [(0, .ref (A 0 0)), (1, .int (nI k))]) rfl ?_
  have i_RX5 : ∀ w ∈ u_ws RX5 TX5 4, w ∈ wsX6_pagesOf := by decide +kernel
  have hK := hS.okk hM hL
  obtain ⟨⟨k3, k4, k5, k6, k7, k8⟩, kU, kP, kT, kJ, kL, kE, kB⟩ := id hK
  obtain ⟨hO, hG, hX⟩ := id hM
  have cu := hS.1.1
  have cp := hS.1.2.1
  have cj := hS.1.2.2.1
  refine s_aload_n (pc := 0) S 0 dX6_pagesOf_0 rfl rfl ?_
  refine s_iload_n (pc := 1) S 1 dX6_pagesOf_1 rfl rfl ?_
  refine s_callV (pc := 2) S hz hml [.int (nI k)] (k_X6_userAt_ok Z l A C k hk k3) (cwV 1 S.2.2.2.2 gX6_pagesOf_X6_userAt rfl rfl rfl (by decide +kernel) ⟨Nat.le_of_ble_eq_true rfl, Nat.le_of_ble_eq_true rfl⟩) (cc_farm (A := A) (C := C)) rfl rfl rfl (Nat.le_of_ble_eq_true rfl) dX6_pagesOf_2 ⟨Nat.le_of_ble_eq_true rfl, Nat.le_of_ble_eq_true rfl⟩ (fun _ _ _ h => h.elim) (fun v A2 C2 h_1 => ?_)
  obtain ⟨rfl, rfl, rfl⟩ := h_1
  refine s_get (pc := 5) S hz (ref := "SpoolFarm$User") (v := .int (nI (C 10 k 2))) (cc_user (A := A) (C := C) hk) i_RX5 rfl 2 (Nat.le_of_ble_eq_true rfl) (by decide +kernel) (fun _ h => h) rfl dX6_pagesOf_5 ?_
  exact s_iret (pc := 8) S hz hlo hr ⟨rfl, rfl, rfl⟩ (Nat.le_of_ble_eq_true rfl) (Nat.le_of_ble_eq_true rfl) dX6_pagesOf_8
set_option maxHeartbeats 4000000 in
set_option maxRecDepth 100000 in
theorem k_X6_billOf_ok (Z : Zp) (l : Launch) (A : AF) (C : CF) (D : CF) (hS : Sm D C) (hM : OkM D) (hL : OkL D) (k : Nat) (hk : k < C 0 0 3) : CtS Z l yX6_billOf wsX6_billOf ({ frames := 1, cells := 0, slots := 0, locals := 22 }) [.ref (A 0 0), .int (nI k)] A C 0 0 (fun v A2 C2 => A = A2 ∧ C = C2 ∧ some (.long (lN (C 10 k 3))) = v) (fun _ _ _ => False) := by
  refine CtS.of (cc0 := cX6_billOf) (maxL := 2) (ret := (some .long)) (by decide) rfl (Nat.le_of_ble_eq_true rfl) ?_
  intro M0_ p_ e_ s_ m_ args_ below_ meth_ c_ S hz hml hex hlo hr hin
  refine s_loc (L2 := [(0, .ref (A 0 0)), (1, .int (nI k))]) rfl ?_
  have i_RX5 : ∀ w ∈ u_ws RX5 TX5 4, w ∈ wsX6_billOf := by decide +kernel
  have hK := hS.okk hM hL
  obtain ⟨⟨k3, k4, k5, k6, k7, k8⟩, kU, kP, kT, kJ, kL, kE, kB⟩ := id hK
  obtain ⟨hO, hG, hX⟩ := id hM
  have cu := hS.1.1
  have cp := hS.1.2.1
  have cj := hS.1.2.2.1
  refine s_aload_n (pc := 0) S 0 dX6_billOf_0 rfl rfl ?_
  refine s_iload_n (pc := 1) S 1 dX6_billOf_1 rfl rfl ?_
  refine s_callV (pc := 2) S hz hml [.int (nI k)] (k_X6_userAt_ok Z l A C k hk k3) (cwV 1 S.2.2.2.2 gX6_billOf_X6_userAt rfl rfl rfl (by decide +kernel) ⟨Nat.le_of_ble_eq_true rfl, Nat.le_of_ble_eq_true rfl⟩) (cc_farm (A := A) (C := C)) rfl rfl rfl (Nat.le_of_ble_eq_true rfl) dX6_billOf_2 ⟨Nat.le_of_ble_eq_true rfl, Nat.le_of_ble_eq_true rfl⟩ (fun _ _ _ h => h.elim) (fun v A2 C2 h_1 => ?_)
  obtain ⟨rfl, rfl, rfl⟩ := h_1
  refine s_get (pc := 5) S hz (ref := "SpoolFarm$User") (v := .long (lN (C 10 k 3))) (cc_user (A := A) (C := C) hk) i_RX5 rfl 3 (Nat.le_of_ble_eq_true rfl) (by decide +kernel) (fun _ h => h) rfl dX6_billOf_5 ?_
  exact s_lret (pc := 8) S hz hlo hr ⟨rfl, rfl, rfl⟩ (Nat.le_of_ble_eq_true rfl) (Nat.le_of_ble_eq_true rfl) dX6_billOf_8
theorem lg_same (x : Int64) : lg_cmp x x = nI 0 := by
  unfold lg_cmp
  simp
  rfl
set_option maxHeartbeats 4000000 in
set_option maxRecDepth 100000 in
theorem k_X6_isConsistent (Z : Zp) (l : Launch) (A : AF) (C : CF) (D : CF) (hS : Sm D C) (hM : OkM D) (hL : OkL D)  : CtS Z l yX6_isConsistent wsX6_isConsistent ({ frames := 4, cells := 0, slots := 0, locals := 89 }) [.ref (A 0 0)] A C 0 0 (fun v A2 C2 => A = A2 ∧ (C = C2 ∧ some (.int (nI 1)) = v)) (fun _ _ _ => False) := by
  refine CtS.of (cc0 := cX6_isConsistent) (maxL := 5) (ret := (some .boolean)) (by decide) rfl (Nat.le_of_ble_eq_true rfl) ?_
  intro M0_ p_ e_ s_ m_ args_ below_ meth_ c_ S hz hml hex hlo hr hin
  refine s_loc (L2 := [(0, .ref (A 0 0))]) rfl ?_
  have i_RX1 : ∀ w ∈ u_ws RX1 TX1 14, w ∈ wsX6_isConsistent := by decide +kernel
  have i_RX6 : ∀ w ∈ u_ws RX6 TX6 12, w ∈ wsX6_isConsistent := by decide +kernel
  have hK := hS.okk hM hL
  obtain ⟨⟨k3, k4, k5, k6, k7, k8⟩, kU, kP, kT, kJ, kL, kE, kB⟩ := id hK
  obtain ⟨hO, hG, hX⟩ := id hM
  have cu := hS.1.1
  have cp := hS.1.2.1
  have cj := hS.1.2.2.1
  have hl31 := hS.2.2.2.2.2.1.1
  obtain ⟨oU, oP, oJ, oTc, oY, o8, o9, o10, o11, o12, o13, o14, o15, oX, oQ, oB, oK, oS, oJk, oM, oCo, oSh, oLg, oPo, oLl, oL2, oL3, oL4, oLle, oE1, oE2, oE3, oE4⟩ := id hO
  refine s_iconst (pc := 0) S (v := (nI 0)) dX6_isConsistent_0 (by decide) ?_
  refine s_istore_n (pc := 1) S [(1, .int (nI 0)), (0, .ref (A 0 0))] dX6_isConsistent_1 rfl (by decide) rfl ?_
  refine s_loc (L2 := [(1, .int (nI 0)), (0, .ref (A 0 0))]) rfl ?_
  refine s_perm [0, 1] [(1, .int (nI 0)), (0, .ref (A 0 0))] rfl ?_
  refine s_loop (σ := Nat) (fun e => e ≤ (D 60 100 28)) (fun e => (D 60 100 28) - e) (fun _ => A) (fun e => C) (fun e => [(1, .int (nI e)), (0, .ref (A 0 0))]) 0 (Nat.zero_le _) rfl rfl rfl ?_
  intro e hI ih
  refine s_iload_n (pc := 2) S 0 dX6_isConsistent_2 rfl rfl ?_
  refine s_aload_n (pc := 3) S 1 dX6_isConsistent_3 rfl rfl ?_
  refine s_get (pc := 4) S hz (ref := "SpoolFarm") (v := .int (nI (D 60 100 28))) (cc_farm (A := A) (C := C)) i_RX6 rfl 3 (Nat.le_of_ble_eq_true rfl) (by decide +kernel) (fun _ h => h) (congrArg (fun x => some (Value.int (nI x))) (show C 0 0 3 = D 60 100 28 from cu)) dX6_isConsistent_4 ?_
  refine s_icmp_geN (pc := 7) S 45 dX6_isConsistent_7 (by decide) (by omega) (by omega) (fun c_1 => ?_) (fun c_1 => ?_)
  · refine s_aload_n (pc := 45) S 1 dX6_isConsistent_45 rfl rfl ?_
    refine s_get (pc := 46) S hz (ref := "SpoolFarm") (v := .ref (A 3 0)) (cc_farm (A := A) (C := C)) i_RX6 rfl 2 (Nat.le_of_ble_eq_true rfl) (by decide +kernel) (fun _ h => h) rfl dX6_isConsistent_46 ?_
    refine s_astore_n (pc := 49) S [(1, .ref (A 3 0)), (0, .ref (A 0 0))] dX6_isConsistent_49 rfl (by decide) rfl ?_
    refine s_aload_n (pc := 50) S 0 dX6_isConsistent_50 rfl rfl ?_
    refine s_alen (pc := 51) S hz (n := 40) (cc_jobs (A := A) (C := C)) dX6_isConsistent_51 ?_
    refine s_istore_n (pc := 52) S [(2, .int (nI 40)), (1, .ref (A 3 0)), (0, .ref (A 0 0))] dX6_isConsistent_52 rfl (by decide) rfl ?_
    refine s_iconst (pc := 53) S (v := (nI 0)) dX6_isConsistent_53 (by decide) ?_
    refine s_istore_n (pc := 54) S [(3, .int (nI 0)), (2, .int (nI 40)), (1, .ref (A 3 0)), (0, .ref (A 0 0))] dX6_isConsistent_54 rfl (by decide) rfl ?_
    refine s_loc (L2 := [(3, .int (nI 0)), (2, .int (nI 40)), (1, .ref (A 3 0)), (0, .ref (A 0 0))]) rfl ?_
    refine s_perm [0, 1, 2, 3] [(3, .int (nI 0)), (2, .int (nI 40)), (1, .ref (A 3 0)), (0, .ref (A 0 0))] rfl ?_
    refine s_loop (σ := Nat) (fun e => e ≤ 40) (fun e => 40 - e) (fun _ => A) (fun e => C) (fun e => [(3, .int (nI e)), (2, .int (nI 40)), (1, .ref (A 3 0)), (0, .ref (A 0 0))]) 0 (Nat.zero_le _) rfl rfl rfl ?_
    intro e hI ih
    refine s_iload_n (pc := 55) S 0 dX6_isConsistent_55 rfl rfl ?_
    refine s_iload_n (pc := 56) S 1 dX6_isConsistent_56 rfl rfl ?_
    refine s_icmp_geN (pc := 57) S 101 dX6_isConsistent_57 (by decide) (by omega) (by omega) (fun c_2 => ?_) (fun c_2 => ?_)
    · refine s_iconst (pc := 101) S (v := (nI 1)) dX6_isConsistent_101 (by decide) ?_
      exact s_zret (pc := 102) S hz hlo (nar_z (by omega)) hr ⟨rfl, ⟨rfl, rfl⟩⟩ (Nat.le_of_ble_eq_true rfl) (Nat.le_of_ble_eq_true rfl) dX6_isConsistent_102
    · refine s_aload_n (pc := 60) S 2 dX6_isConsistent_60 rfl rfl ?_
      refine s_iload_n (pc := 61) S 0 dX6_isConsistent_61 rfl rfl ?_
      by_cases lv_3 : e < C 0 0 5
      · refine s_aald (pc := 62) S hz (v := .ref (A 11 e)) (cc_jobs (A := A) (C := C)) (by omega) (by decide) (by rw [if_pos lv_3]; rfl) dX6_isConsistent_62 ?_
        have hD_e : e < D 60 100 30 := by omega
        have hJ_e := hS.2.2.2.2.1 e hD_e
        have hjl := (hO.jk hD_e).2.2.2.2.2.2.2.1
        have hj9 := (hO.jk hD_e).2.2.2.2.2.2.2.2.2.1
        refine s_astore (pc := 63) S [(4, .ref (A 11 e)), (3, .int (nI e)), (2, .int (nI 40)), (1, .ref (A 3 0)), (0, .ref (A 0 0))] dX6_isConsistent_63 (by decide) rfl ?_
        refine s_aload (pc := 65) S 0 dX6_isConsistent_65 rfl ?_
        refine s_ifnull (pc := 67) S dX6_isConsistent_67 ?_
        refine s_aload_n (pc := 70) S 4 dX6_isConsistent_70 rfl rfl ?_
        refine s_aload (pc := 71) S 0 dX6_isConsistent_71 rfl ?_
        refine s_get (pc := 73) S hz (ref := "SpoolFarm$Job") (v := .int (nI e)) (cc_job (A := A) (C := C) lv_3) i_RX1 rfl 0 (Nat.le_of_ble_eq_true rfl) (by decide +kernel) (fun _ h => h) (congrArg (fun x => some (Value.int (nI x))) (show C 11 e 0 = e from hJ_e.1)) dX6_isConsistent_73 ?_
        refine s_callV (pc := 76) S hz hml [.int (nI e)] (k_X6_loggedPages Z l A C D hS hM hL e (by omega)) (cwV 1 S.2.2.2.2 gX6_isConsistent_X6_loggedPages rfl rfl rfl (by decide +kernel) ⟨Nat.le_of_ble_eq_true rfl, Nat.le_of_ble_eq_true rfl⟩) (cc_farm (A := A) (C := C)) rfl rfl rfl (Nat.le_of_ble_eq_true rfl) dX6_isConsistent_76 ⟨Nat.le_of_ble_eq_true rfl, Nat.le_of_ble_eq_true rfl⟩ (fun _ _ _ h => h.elim) (fun v A2 C2 h_4 => ?_)
        obtain ⟨rfl, rfl, rfl⟩ := h_4
        refine s_top (u := .int (nI (ptoN (D 60 13 e) (D 60 17 e) (D 60 19 e)))) (congrArg (fun x => Value.int (nI x)) (hL.2.2.1 e hD_e)) ?_
        refine s_aload (pc := 79) S 0 dX6_isConsistent_79 rfl ?_
        refine s_callV (pc := 81) S hz hml [] (k_X1_pagesToCome Z l A C e lv_3 hK) (cwV 0 S.2.2.2.2 gX6_isConsistent_X1_pagesToCome rfl rfl rfl (by decide +kernel) ⟨Nat.le_of_ble_eq_true rfl, Nat.le_of_ble_eq_true rfl⟩) (cc_job (A := A) (C := C) lv_3) rfl rfl rfl (Nat.le_of_ble_eq_true rfl) dX6_isConsistent_81 ⟨Nat.le_of_ble_eq_true rfl, Nat.le_of_ble_eq_true rfl⟩ (fun _ _ _ h => h.elim) (fun v A2 C2 h_5 => ?_)
        obtain ⟨rfl, rfl, rfl⟩ := h_5
        refine s_top (u := .int (nI (D 60 17 e * D 60 18 e - ptoN (D 60 13 e) (D 60 17 e) (D 60 19 e)))) (congrArg (fun x => Value.int (nI x)) (show C 11 e 3 - C 11 e 9 = _ by rw [hJ_e.2.2.2.1, hJ_e.2.2.2.2.2.2.2.2.2.1])) ?_
        refine s_iaddN (pc := 84) S dX6_isConsistent_84 ?_
        refine s_aload (pc := 85) S 0 dX6_isConsistent_85 rfl ?_
        refine s_get (pc := 87) S hz (ref := "SpoolFarm$Job") (v := .int (nI (D 60 17 e * D 60 18 e))) (cc_job (A := A) (C := C) lv_3) i_RX1 rfl 3 (Nat.le_of_ble_eq_true rfl) (by decide +kernel) (fun _ h => h) (congrArg (fun x => some (Value.int (nI x))) (show C 11 e 3 = D 60 17 e * D 60 18 e from hJ_e.2.2.2.1)) dX6_isConsistent_87 ?_
        refine s_icmp_eqN (pc := 90) S 95 dX6_isConsistent_90 (by decide) (by omega) (by omega) (fun _ => ?_) (fun h => absurd (by omega) h)
        refine s_iinc (pc := 95) S 1 [(3, .int (nI (e + 1))), (4, .ref (A 11 e)), (2, .int (nI 40)), (1, .ref (A 3 0)), (0, .ref (A 0 0))] dX6_isConsistent_95 rfl (nI_add _ 1) (by decide) rfl ?_
        refine s_goto (pc := 98) S 55 dX6_isConsistent_98 (by decide) ?_
        refine s_perm [0, 2, 3, 4] [(3, .int (nI (e + 1))), (2, .int (nI 40)), (1, .ref (A 3 0)), (0, .ref (A 0 0))] rfl ?_
        refine s_loc (L2 := [(3, .int (nI (e + 1))), (2, .int (nI 40)), (1, .ref (A 3 0)), (0, .ref (A 0 0))]) (rfl) ?_
        exact ih (e + 1) (by omega) (by omega)
      · refine s_aald (pc := 62) S hz (v := .null) (cc_jobs (A := A) (C := C)) (by omega) (by decide) (by rw [if_neg lv_3]; rfl) dX6_isConsistent_62 ?_
        refine s_astoreN (pc := 63) S [(4, .null), (3, .int (nI e)), (2, .int (nI 40)), (1, .ref (A 3 0)), (0, .ref (A 0 0))] dX6_isConsistent_63 (by decide) rfl ?_
        refine s_aloadN (pc := 65) S 0 dX6_isConsistent_65 rfl ?_
        refine s_ifnullN (pc := 67) S 95 dX6_isConsistent_67 (by decide) ?_
        refine s_iinc (pc := 95) S 1 [(3, .int (nI (e + 1))), (4, .null), (2, .int (nI 40)), (1, .ref (A 3 0)), (0, .ref (A 0 0))] dX6_isConsistent_95 rfl (nI_add _ 1) (by decide) rfl ?_
        refine s_goto (pc := 98) S 55 dX6_isConsistent_98 (by decide) ?_
        refine s_perm [0, 2, 3, 4] [(3, .int (nI (e + 1))), (2, .int (nI 40)), (1, .ref (A 3 0)), (0, .ref (A 0 0))] rfl ?_
        refine s_loc (L2 := [(3, .int (nI (e + 1))), (2, .int (nI 40)), (1, .ref (A 3 0)), (0, .ref (A 0 0))]) (rfl) ?_
        exact ih (e + 1) (by omega) (by omega)
  · refine s_aload_n (pc := 10) S 1 dX6_isConsistent_10 rfl rfl ?_
    refine s_iload_n (pc := 11) S 0 dX6_isConsistent_11 rfl rfl ?_
    have hD_e : e < D 60 100 28 := by omega
    have hpo_ := oPo e
    refine s_callV (pc := 12) S hz hml [.int (nI e)] (k_X6_pagesOf_ok Z l A C D hS hM hL e (by omega)) (cwV 1 S.2.2.2.2 gX6_isConsistent_X6_pagesOf rfl rfl rfl (by decide +kernel) ⟨Nat.le_of_ble_eq_true rfl, Nat.le_of_ble_eq_true rfl⟩) (cc_farm (A := A) (C := C)) rfl rfl rfl (Nat.le_of_ble_eq_true rfl) dX6_isConsistent_12 ⟨Nat.le_of_ble_eq_true rfl, Nat.le_of_ble_eq_true rfl⟩ (fun _ _ _ h => h.elim) (fun v A2 C2 h_6 => ?_)
    obtain ⟨rfl, rfl, rfl⟩ := h_6
    refine s_top (u := .int (nI (D 60 1 e))) (congrArg (fun x => Value.int (nI x)) (hS.2.1 e hD_e).2.2.1) ?_
    refine s_aload_n (pc := 15) S 1 dX6_isConsistent_15 rfl rfl ?_
    refine s_iload_n (pc := 16) S 0 dX6_isConsistent_16 rfl rfl ?_
    refine s_callV (pc := 17) S hz hml [.int (nI e)] (k_X6_pagesByLog_ok Z l A C D hS hM hL e (by omega)) (cwV 1 S.2.2.2.2 gX6_isConsistent_X6_pagesByLog rfl rfl rfl (by decide +kernel) ⟨Nat.le_of_ble_eq_true rfl, Nat.le_of_ble_eq_true rfl⟩) (cc_farm (A := A) (C := C)) rfl rfl rfl (Nat.le_of_ble_eq_true rfl) dX6_isConsistent_17 ⟨Nat.le_of_ble_eq_true rfl, Nat.le_of_ble_eq_true rfl⟩ (fun _ _ _ h => h.elim) (fun v A2 C2 h_7 => ?_)
    obtain ⟨rfl, rfl, rfl⟩ := h_7
    refine s_top (u := .int (nI (D 60 1 e))) rfl ?_
    refine s_icmp_neN (pc := 20) S 37 dX6_isConsistent_20 (by decide) (by omega) (by omega) (fun h => absurd rfl h) (fun _ => ?_)
    refine s_aload_n (pc := 23) S 1 dX6_isConsistent_23 rfl rfl ?_
    refine s_iload_n (pc := 24) S 0 dX6_isConsistent_24 rfl rfl ?_
    refine s_callV (pc := 25) S hz hml [.int (nI e)] (k_X6_billOf_ok Z l A C D hS hM hL e (by omega)) (cwV 1 S.2.2.2.2 gX6_isConsistent_X6_billOf rfl rfl rfl (by decide +kernel) ⟨Nat.le_of_ble_eq_true rfl, Nat.le_of_ble_eq_true rfl⟩) (cc_farm (A := A) (C := C)) rfl rfl rfl (Nat.le_of_ble_eq_true rfl) dX6_isConsistent_25 ⟨Nat.le_of_ble_eq_true rfl, Nat.le_of_ble_eq_true rfl⟩ (fun _ _ _ h => h.elim) (fun v A2 C2 h_8 => ?_)
    obtain ⟨rfl, rfl, rfl⟩ := h_8
    refine s_top (u := .long (lN (D 60 7 e))) (congrArg (fun x => Value.long (lN x)) (hS.2.1 e hD_e).2.2.2) ?_
    refine s_aload_n (pc := 28) S 1 dX6_isConsistent_28 rfl rfl ?_
    refine s_iload_n (pc := 29) S 0 dX6_isConsistent_29 rfl rfl ?_
    refine s_callV (pc := 30) S hz hml [.int (nI e)] (k_X6_billByLog_ok Z l A C D hS hM hL e (by omega)) (cwV 1 S.2.2.2.2 gX6_isConsistent_X6_billByLog rfl rfl rfl (by decide +kernel) ⟨Nat.le_of_ble_eq_true rfl, Nat.le_of_ble_eq_true rfl⟩) (cc_farm (A := A) (C := C)) rfl rfl rfl (Nat.le_of_ble_eq_true rfl) dX6_isConsistent_30 ⟨Nat.le_of_ble_eq_true rfl, Nat.le_of_ble_eq_true rfl⟩ (fun _ _ _ h => h.elim) (fun v A2 C2 h_9 => ?_)
    obtain ⟨rfl, rfl, rfl⟩ := h_9
    refine s_top (u := .long (lN (D 60 7 e))) rfl ?_
    refine s_lcmp (pc := 33) S dX6_isConsistent_33 ?_
    refine s_top (u := .int (nI 0)) (congrArg Value.int (lg_same _)) ?_
    refine s_if_eqN (pc := 34) S 39 dX6_isConsistent_34 (by decide) (by decide) (fun _ => ?_) (fun h => absurd h (by decide))
    refine s_iinc (pc := 39) S 0 [(1, .int (nI (e + 1))), (0, .ref (A 0 0))] dX6_isConsistent_39 rfl (nI_add _ 1) (by decide) rfl ?_
    refine s_goto (pc := 42) S 2 dX6_isConsistent_42 (by decide) ?_
    refine s_perm [0, 1] [(1, .int (nI (e + 1))), (0, .ref (A 0 0))] rfl ?_
    refine s_loc (L2 := [(1, .int (nI (e + 1))), (0, .ref (A 0 0))]) (rfl) ?_
    exact ih (e + 1) (by omega) (by omega)
