set_option maxHeartbeats 4000000 in
set_option maxRecDepth 100000 in
theorem k_X3_hasTrayWith (Z : Zp) (l : Launch) (A : AF) (C : CF) (p : Nat) (hp : p < C 0 0 4) (q : Nat) (hq : q < 65536) (hT : ∀ t : Nat, t < C 9 p 5 → C 12 (3 * p + t) 0 < 65536 ∧ C 12 (3 * p + t) 1 ≤ 500) : CtS Z l yX3_hasTrayWith wsX3_hasTrayWith ({ frames := 0, cells := 0, slots := 0, locals := 0 }) [.ref (A 9 p), .int (nI q)] A C 0 0 (fun v A2 C2 => A = A2 ∧ C = C2 ∧ some (.int (nI (htK C p q))) = v) (fun _ _ _ => False) := by
  refine CtS.of (cc0 := cX3_hasTrayWith) (maxL := 6) (ret := (some .boolean)) (by decide) rfl (Nat.le_of_ble_eq_true rfl) ?_
  intro M0_ p_ e_ s_ m_ args_ below_ meth_ c_ S hz hml hex hlo hr hin
  refine s_loc (L2 := [(0, .ref (A 9 p)), (1, .int (nI q))]) rfl ?_
  have i_RX3 : ∀ w ∈ u_ws RX3 TX3 6, w ∈ wsX3_hasTrayWith := by decide +kernel
  have i_RX4 : ∀ w ∈ u_ws RX4 TX4 2, w ∈ wsX3_hasTrayWith := by decide +kernel
  refine s_aload_n (pc := 0) S 0 dX3_hasTrayWith_0 rfl rfl ?_
  refine s_get (pc := 1) S hz (ref := "SpoolFarm$Printer") (v := .ref (A 14 p)) (cc_prn (A := A) (C := C) hp) i_RX3 rfl 4 (Nat.le_of_ble_eq_true rfl) (by decide +kernel) (fun _ h => h) rfl dX3_hasTrayWith_1 ?_
  refine s_astore_n (pc := 4) S [(2, .ref (A 14 p)), (0, .ref (A 9 p)), (1, .int (nI q))] dX3_hasTrayWith_4 rfl (by decide) rfl ?_
  refine s_aload_n (pc := 5) S 0 dX3_hasTrayWith_5 rfl rfl ?_
  refine s_alen (pc := 6) S hz (n := 3) (cc_trays (A := A) (C := C) hp) dX3_hasTrayWith_6 ?_
  refine s_istore_n (pc := 7) S [(3, .int (nI 3)), (2, .ref (A 14 p)), (0, .ref (A 9 p)), (1, .int (nI q))] dX3_hasTrayWith_7 rfl (by decide) rfl ?_
  refine s_iconst (pc := 8) S (v := (nI 0)) dX3_hasTrayWith_8 (by decide) ?_
  refine s_istore (pc := 9) S [(4, .int (nI 0)), (3, .int (nI 3)), (2, .ref (A 14 p)), (0, .ref (A 9 p)), (1, .int (nI q))] dX3_hasTrayWith_9 (by decide) rfl ?_
  refine s_iload (pc := 11) S 0 dX3_hasTrayWith_11 rfl ?_
  refine s_iload_n (pc := 13) S 1 dX3_hasTrayWith_13 rfl rfl ?_
  refine s_icmp_geN (pc := 14) S 45 dX3_hasTrayWith_14 (by decide) (by decide) (by decide) (fun h => absurd h (by decide)) (fun _ => ?_)
  refine s_aload_n (pc := 17) S 2 dX3_hasTrayWith_17 rfl rfl ?_
  refine s_iload (pc := 18) S 0 dX3_hasTrayWith_18 rfl ?_
  by_cases lv_1 : 0 < C 9 p 5
  · refine s_aald (pc := 20) S hz (v := .ref (A 12 (3 * p + 0))) (cc_trays (A := A) (C := C) hp) (by omega) (by decide) (by rw [if_pos lv_1]; rfl) dX3_hasTrayWith_20 ?_
    obtain ⟨o_2, o_3⟩ := hT 0 lv_1
    refine s_astore (pc := 21) S [(5, .ref (A 12 (3 * p + 0))), (4, .int (nI 0)), (3, .int (nI 3)), (2, .ref (A 14 p)), (0, .ref (A 9 p)), (1, .int (nI q))] dX3_hasTrayWith_21 (by decide) rfl ?_
    refine s_aload (pc := 23) S 0 dX3_hasTrayWith_23 rfl ?_
    refine s_ifnull (pc := 25) S dX3_hasTrayWith_25 ?_
    refine s_aload (pc := 28) S 0 dX3_hasTrayWith_28 rfl ?_
    refine s_get (pc := 30) S hz (ref := "SpoolFarm$Tray") (v := .int (nI (C 12 (3 * p + 0) 0))) (cc_tray (A := A) (C := C) hp lv_1 (by omega)) i_RX4 rfl 0 (Nat.le_of_ble_eq_true rfl) (by decide +kernel) (fun _ h => h) rfl dX3_hasTrayWith_30 ?_
    refine s_iload_n (pc := 33) S 5 dX3_hasTrayWith_33 rfl rfl ?_
    refine s_icmp_neN (pc := 34) S 39 dX3_hasTrayWith_34 (by decide) (by omega) (by omega) (fun c_4 => ?_) (fun c_4 => ?_)
    · refine s_iinc (pc := 39) S 1 [(4, .int (nI 1)), (5, .ref (A 12 (3 * p + 0))), (3, .int (nI 3)), (2, .ref (A 14 p)), (0, .ref (A 9 p)), (1, .int (nI q))] dX3_hasTrayWith_39 rfl (by decide) (by decide) rfl ?_
      refine s_goto (pc := 42) S 11 dX3_hasTrayWith_42 (by decide) ?_
      refine s_iload (pc := 11) S 0 dX3_hasTrayWith_11 rfl ?_
      refine s_iload_n (pc := 13) S 2 dX3_hasTrayWith_13 rfl rfl ?_
      refine s_icmp_geN (pc := 14) S 45 dX3_hasTrayWith_14 (by decide) (by decide) (by decide) (fun h => absurd h (by decide)) (fun _ => ?_)
      refine s_aload_n (pc := 17) S 3 dX3_hasTrayWith_17 rfl rfl ?_
      refine s_iload (pc := 18) S 0 dX3_hasTrayWith_18 rfl ?_
      by_cases lv_5 : 1 < C 9 p 5
      · refine s_aald (pc := 20) S hz (v := .ref (A 12 (3 * p + 1))) (cc_trays (A := A) (C := C) hp) (by omega) (by decide) (by rw [if_pos lv_5]; rfl) dX3_hasTrayWith_20 ?_
        obtain ⟨o_6, o_7⟩ := hT 1 lv_5
        refine s_astore (pc := 21) S [(5, .ref (A 12 (3 * p + 1))), (4, .int (nI 1)), (3, .int (nI 3)), (2, .ref (A 14 p)), (0, .ref (A 9 p)), (1, .int (nI q))] dX3_hasTrayWith_21 (by decide) rfl ?_
        refine s_aload (pc := 23) S 0 dX3_hasTrayWith_23 rfl ?_
        refine s_ifnull (pc := 25) S dX3_hasTrayWith_25 ?_
        refine s_aload (pc := 28) S 0 dX3_hasTrayWith_28 rfl ?_
        refine s_get (pc := 30) S hz (ref := "SpoolFarm$Tray") (v := .int (nI (C 12 (3 * p + 1) 0))) (cc_tray (A := A) (C := C) hp lv_5 (by omega)) i_RX4 rfl 0 (Nat.le_of_ble_eq_true rfl) (by decide +kernel) (fun _ h => h) rfl dX3_hasTrayWith_30 ?_
        refine s_iload_n (pc := 33) S 5 dX3_hasTrayWith_33 rfl rfl ?_
        refine s_icmp_neN (pc := 34) S 39 dX3_hasTrayWith_34 (by decide) (by omega) (by omega) (fun c_8 => ?_) (fun c_8 => ?_)
        · refine s_iinc (pc := 39) S 1 [(4, .int (nI 2)), (5, .ref (A 12 (3 * p + 1))), (3, .int (nI 3)), (2, .ref (A 14 p)), (0, .ref (A 9 p)), (1, .int (nI q))] dX3_hasTrayWith_39 rfl (by decide) (by decide) rfl ?_
          refine s_goto (pc := 42) S 11 dX3_hasTrayWith_42 (by decide) ?_
          refine s_iload (pc := 11) S 0 dX3_hasTrayWith_11 rfl ?_
          refine s_iload_n (pc := 13) S 2 dX3_hasTrayWith_13 rfl rfl ?_
          refine s_icmp_geN (pc := 14) S 45 dX3_hasTrayWith_14 (by decide) (by decide) (by decide) (fun h => absurd h (by decide)) (fun _ => ?_)
          refine s_aload_n (pc := 17) S 3 dX3_hasTrayWith_17 rfl rfl ?_
          refine s_iload (pc := 18) S 0 dX3_hasTrayWith_18 rfl ?_
          by_cases lv_9 : 2 < C 9 p 5
          · refine s_aald (pc := 20) S hz (v := .ref (A 12 (3 * p + 2))) (cc_trays (A := A) (C := C) hp) (by omega) (by decide) (by rw [if_pos lv_9]; rfl) dX3_hasTrayWith_20 ?_
            obtain ⟨o_10, o_11⟩ := hT 2 lv_9
            refine s_astore (pc := 21) S [(5, .ref (A 12 (3 * p + 2))), (4, .int (nI 2)), (3, .int (nI 3)), (2, .ref (A 14 p)), (0, .ref (A 9 p)), (1, .int (nI q))] dX3_hasTrayWith_21 (by decide) rfl ?_
            refine s_aload (pc := 23) S 0 dX3_hasTrayWith_23 rfl ?_
            refine s_ifnull (pc := 25) S dX3_hasTrayWith_25 ?_
            refine s_aload (pc := 28) S 0 dX3_hasTrayWith_28 rfl ?_
            refine s_get (pc := 30) S hz (ref := "SpoolFarm$Tray") (v := .int (nI (C 12 (3 * p + 2) 0))) (cc_tray (A := A) (C := C) hp lv_9 (by omega)) i_RX4 rfl 0 (Nat.le_of_ble_eq_true rfl) (by decide +kernel) (fun _ h => h) rfl dX3_hasTrayWith_30 ?_
            refine s_iload_n (pc := 33) S 5 dX3_hasTrayWith_33 rfl rfl ?_
            refine s_icmp_neN (pc := 34) S 39 dX3_hasTrayWith_34 (by decide) (by omega) (by omega) (fun c_12 => ?_) (fun c_12 => ?_)
            · refine s_iinc (pc := 39) S 1 [(4, .int (nI 3)), (5, .ref (A 12 (3 * p + 2))), (3, .int (nI 3)), (2, .ref (A 14 p)), (0, .ref (A 9 p)), (1, .int (nI q))] dX3_hasTrayWith_39 rfl (by decide) (by decide) rfl ?_
              refine s_goto (pc := 42) S 11 dX3_hasTrayWith_42 (by decide) ?_
              refine s_iload (pc := 11) S 0 dX3_hasTrayWith_11 rfl ?_
              refine s_iload_n (pc := 13) S 2 dX3_hasTrayWith_13 rfl rfl ?_
              refine s_icmp_geN (pc := 14) S 45 dX3_hasTrayWith_14 (by decide) (by decide) (by decide) (fun _ => ?_) (fun h => absurd h (by decide))
              refine s_iconst (pc := 45) S (v := (nI 0)) dX3_hasTrayWith_45 (by decide) ?_
              exact s_zret (pc := 46) S hz hlo (nar_z (by omega)) hr ⟨rfl, rfl, by unfold htK; rw [if_neg (by omega)]⟩ (Nat.le_of_ble_eq_true rfl) (Nat.le_of_ble_eq_true rfl) dX3_hasTrayWith_46
            · refine s_iconst (pc := 37) S (v := (nI 1)) dX3_hasTrayWith_37 (by decide) ?_
              exact s_zret (pc := 38) S hz hlo (nar_z (by omega)) hr ⟨rfl, rfl, by unfold htK; rw [if_pos (by omega)]⟩ (Nat.le_of_ble_eq_true rfl) (Nat.le_of_ble_eq_true rfl) dX3_hasTrayWith_38
          · refine s_aald (pc := 20) S hz (v := .null) (cc_trays (A := A) (C := C) hp) (by omega) (by decide) (by rw [if_neg lv_9]; rfl) dX3_hasTrayWith_20 ?_
            refine s_astoreN (pc := 21) S [(5, .null), (4, .int (nI 2)), (3, .int (nI 3)), (2, .ref (A 14 p)), (0, .ref (A 9 p)), (1, .int (nI q))] dX3_hasTrayWith_21 (by decide) rfl ?_
            refine s_aloadN (pc := 23) S 0 dX3_hasTrayWith_23 rfl ?_
            refine s_ifnullN (pc := 25) S 39 dX3_hasTrayWith_25 (by decide) ?_
            refine s_iinc (pc := 39) S 1 [(4, .int (nI 3)), (5, .null), (3, .int (nI 3)), (2, .ref (A 14 p)), (0, .ref (A 9 p)), (1, .int (nI q))] dX3_hasTrayWith_39 rfl (by decide) (by decide) rfl ?_
            refine s_goto (pc := 42) S 11 dX3_hasTrayWith_42 (by decide) ?_
            refine s_iload (pc := 11) S 0 dX3_hasTrayWith_11 rfl ?_
            refine s_iload_n (pc := 13) S 2 dX3_hasTrayWith_13 rfl rfl ?_
            refine s_icmp_geN (pc := 14) S 45 dX3_hasTrayWith_14 (by decide) (by decide) (by decide) (fun _ => ?_) (fun h => absurd h (by decide))
            refine s_iconst (pc := 45) S (v := (nI 0)) dX3_hasTrayWith_45 (by decide) ?_
            exact s_zret (pc := 46) S hz hlo (nar_z (by omega)) hr ⟨rfl, rfl, by unfold htK; rw [if_neg (by omega)]⟩ (Nat.le_of_ble_eq_true rfl) (Nat.le_of_ble_eq_true rfl) dX3_hasTrayWith_46
        · refine s_iconst (pc := 37) S (v := (nI 1)) dX3_hasTrayWith_37 (by decide) ?_
          exact s_zret (pc := 38) S hz hlo (nar_z (by omega)) hr ⟨rfl, rfl, by unfold htK; rw [if_pos (by omega)]⟩ (Nat.le_of_ble_eq_true rfl) (Nat.le_of_ble_eq_true rfl) dX3_hasTrayWith_38
      · refine s_aald (pc := 20) S hz (v := .null) (cc_trays (A := A) (C := C) hp) (by omega) (by decide) (by rw [if_neg lv_5]; rfl) dX3_hasTrayWith_20 ?_
        refine s_astoreN (pc := 21) S [(5, .null), (4, .int (nI 1)), (3, .int (nI 3)), (2, .ref (A 14 p)), (0, .ref (A 9 p)), (1, .int (nI q))] dX3_hasTrayWith_21 (by decide) rfl ?_
        refine s_aloadN (pc := 23) S 0 dX3_hasTrayWith_23 rfl ?_
        refine s_ifnullN (pc := 25) S 39 dX3_hasTrayWith_25 (by decide) ?_
        refine s_iinc (pc := 39) S 1 [(4, .int (nI 2)), (5, .null), (3, .int (nI 3)), (2, .ref (A 14 p)), (0, .ref (A 9 p)), (1, .int (nI q))] dX3_hasTrayWith_39 rfl (by decide) (by decide) rfl ?_
        refine s_goto (pc := 42) S 11 dX3_hasTrayWith_42 (by decide) ?_
        refine s_iload (pc := 11) S 0 dX3_hasTrayWith_11 rfl ?_
        refine s_iload_n (pc := 13) S 2 dX3_hasTrayWith_13 rfl rfl ?_
        refine s_icmp_geN (pc := 14) S 45 dX3_hasTrayWith_14 (by decide) (by decide) (by decide) (fun h => absurd h (by decide)) (fun _ => ?_)
        refine s_aload_n (pc := 17) S 3 dX3_hasTrayWith_17 rfl rfl ?_
        refine s_iload (pc := 18) S 0 dX3_hasTrayWith_18 rfl ?_
        by_cases lv_13 : 2 < C 9 p 5
        · refine s_aald (pc := 20) S hz (v := .ref (A 12 (3 * p + 2))) (cc_trays (A := A) (C := C) hp) (by omega) (by decide) (by rw [if_pos lv_13]; rfl) dX3_hasTrayWith_20 ?_
          obtain ⟨o_14, o_15⟩ := hT 2 lv_13
          refine s_astore (pc := 21) S [(5, .ref (A 12 (3 * p + 2))), (4, .int (nI 2)), (3, .int (nI 3)), (2, .ref (A 14 p)), (0, .ref (A 9 p)), (1, .int (nI q))] dX3_hasTrayWith_21 (by decide) rfl ?_
          refine s_aload (pc := 23) S 0 dX3_hasTrayWith_23 rfl ?_
          refine s_ifnull (pc := 25) S dX3_hasTrayWith_25 ?_
          refine s_aload (pc := 28) S 0 dX3_hasTrayWith_28 rfl ?_
          refine s_get (pc := 30) S hz (ref := "SpoolFarm$Tray") (v := .int (nI (C 12 (3 * p + 2) 0))) (cc_tray (A := A) (C := C) hp lv_13 (by omega)) i_RX4 rfl 0 (Nat.le_of_ble_eq_true rfl) (by decide +kernel) (fun _ h => h) rfl dX3_hasTrayWith_30 ?_
          refine s_iload_n (pc := 33) S 5 dX3_hasTrayWith_33 rfl rfl ?_
          refine s_icmp_neN (pc := 34) S 39 dX3_hasTrayWith_34 (by decide) (by omega) (by omega) (fun c_16 => ?_) (fun c_16 => ?_)
          · refine s_iinc (pc := 39) S 1 [(4, .int (nI 3)), (5, .ref (A 12 (3 * p + 2))), (3, .int (nI 3)), (2, .ref (A 14 p)), (0, .ref (A 9 p)), (1, .int (nI q))] dX3_hasTrayWith_39 rfl (by decide) (by decide) rfl ?_
            refine s_goto (pc := 42) S 11 dX3_hasTrayWith_42 (by decide) ?_
            refine s_iload (pc := 11) S 0 dX3_hasTrayWith_11 rfl ?_
            refine s_iload_n (pc := 13) S 2 dX3_hasTrayWith_13 rfl rfl ?_
            refine s_icmp_geN (pc := 14) S 45 dX3_hasTrayWith_14 (by decide) (by decide) (by decide) (fun _ => ?_) (fun h => absurd h (by decide))
            refine s_iconst (pc := 45) S (v := (nI 0)) dX3_hasTrayWith_45 (by decide) ?_
            exact s_zret (pc := 46) S hz hlo (nar_z (by omega)) hr ⟨rfl, rfl, by unfold htK; rw [if_neg (by omega)]⟩ (Nat.le_of_ble_eq_true rfl) (Nat.le_of_ble_eq_true rfl) dX3_hasTrayWith_46
          · refine s_iconst (pc := 37) S (v := (nI 1)) dX3_hasTrayWith_37 (by decide) ?_
            exact s_zret (pc := 38) S hz hlo (nar_z (by omega)) hr ⟨rfl, rfl, by unfold htK; rw [if_pos (by omega)]⟩ (Nat.le_of_ble_eq_true rfl) (Nat.le_of_ble_eq_true rfl) dX3_hasTrayWith_38
        · refine s_aald (pc := 20) S hz (v := .null) (cc_trays (A := A) (C := C) hp) (by omega) (by decide) (by rw [if_neg lv_13]; rfl) dX3_hasTrayWith_20 ?_
          refine s_astoreN (pc := 21) S [(5, .null), (4, .int (nI 2)), (3, .int (nI 3)), (2, .ref (A 14 p)), (0, .ref (A 9 p)), (1, .int (nI q))] dX3_hasTrayWith_21 (by decide) rfl ?_
          refine s_aloadN (pc := 23) S 0 dX3_hasTrayWith_23 rfl ?_
          refine s_ifnullN (pc := 25) S 39 dX3_hasTrayWith_25 (by decide) ?_
          refine s_iinc (pc := 39) S 1 [(4, .int (nI 3)), (5, .null), (3, .int (nI 3)), (2, .ref (A 14 p)), (0, .ref (A 9 p)), (1, .int (nI q))] dX3_hasTrayWith_39 rfl (by decide) (by decide) rfl ?_
          refine s_goto (pc := 42) S 11 dX3_hasTrayWith_42 (by decide) ?_
          refine s_iload (pc := 11) S 0 dX3_hasTrayWith_11 rfl ?_
          refine s_iload_n (pc := 13) S 2 dX3_hasTrayWith_13 rfl rfl ?_
          refine s_icmp_geN (pc := 14) S 45 dX3_hasTrayWith_14 (by decide) (by decide) (by decide) (fun _ => ?_) (fun h => absurd h (by decide))
          refine s_iconst (pc := 45) S (v := (nI 0)) dX3_hasTrayWith_45 (by decide) ?_
          exact s_zret (pc := 46) S hz hlo (nar_z (by omega)) hr ⟨rfl, rfl, by unfold htK; rw [if_neg (by omega)]⟩ (Nat.le_of_ble_eq_true rfl) (Nat.le_of_ble_eq_true rfl) dX3_hasTrayWith_46
    · refine s_iconst (pc := 37) S (v := (nI 1)) dX3_hasTrayWith_37 (by decide) ?_
      exact s_zret (pc := 38) S hz hlo (nar_z (by omega)) hr ⟨rfl, rfl, by unfold htK; rw [if_pos (by omega)]⟩ (Nat.le_of_ble_eq_true rfl) (Nat.le_of_ble_eq_true rfl) dX3_hasTrayWith_38
  · refine s_aald (pc := 20) S hz (v := .null) (cc_trays (A := A) (C := C) hp) (by omega) (by decide) (by rw [if_neg lv_1]; rfl) dX3_hasTrayWith_20 ?_
    refine s_astoreN (pc := 21) S [(5, .null), (4, .int (nI 0)), (3, .int (nI 3)), (2, .ref (A 14 p)), (0, .ref (A 9 p)), (1, .int (nI q))] dX3_hasTrayWith_21 (by decide) rfl ?_
    refine s_aloadN (pc := 23) S 0 dX3_hasTrayWith_23 rfl ?_
    refine s_ifnullN (pc := 25) S 39 dX3_hasTrayWith_25 (by decide) ?_
    refine s_iinc (pc := 39) S 1 [(4, .int (nI 1)), (5, .null), (3, .int (nI 3)), (2, .ref (A 14 p)), (0, .ref (A 9 p)), (1, .int (nI q))] dX3_hasTrayWith_39 rfl (by decide) (by decide) rfl ?_
    refine s_goto (pc := 42) S 11 dX3_hasTrayWith_42 (by decide) ?_
    refine s_iload (pc := 11) S 0 dX3_hasTrayWith_11 rfl ?_
    refine s_iload_n (pc := 13) S 2 dX3_hasTrayWith_13 rfl rfl ?_
    refine s_icmp_geN (pc := 14) S 45 dX3_hasTrayWith_14 (by decide) (by decide) (by decide) (fun h => absurd h (by decide)) (fun _ => ?_)
    refine s_aload_n (pc := 17) S 3 dX3_hasTrayWith_17 rfl rfl ?_
    refine s_iload (pc := 18) S 0 dX3_hasTrayWith_18 rfl ?_
    by_cases lv_17 : 1 < C 9 p 5
    · refine s_aald (pc := 20) S hz (v := .ref (A 12 (3 * p + 1))) (cc_trays (A := A) (C := C) hp) (by omega) (by decide) (by rw [if_pos lv_17]; rfl) dX3_hasTrayWith_20 ?_
      obtain ⟨o_18, o_19⟩ := hT 1 lv_17
      refine s_astore (pc := 21) S [(5, .ref (A 12 (3 * p + 1))), (4, .int (nI 1)), (3, .int (nI 3)), (2, .ref (A 14 p)), (0, .ref (A 9 p)), (1, .int (nI q))] dX3_hasTrayWith_21 (by decide) rfl ?_
      refine s_aload (pc := 23) S 0 dX3_hasTrayWith_23 rfl ?_
      refine s_ifnull (pc := 25) S dX3_hasTrayWith_25 ?_
      refine s_aload (pc := 28) S 0 dX3_hasTrayWith_28 rfl ?_
      refine s_get (pc := 30) S hz (ref := "SpoolFarm$Tray") (v := .int (nI (C 12 (3 * p + 1) 0))) (cc_tray (A := A) (C := C) hp lv_17 (by omega)) i_RX4 rfl 0 (Nat.le_of_ble_eq_true rfl) (by decide +kernel) (fun _ h => h) rfl dX3_hasTrayWith_30 ?_
      refine s_iload_n (pc := 33) S 5 dX3_hasTrayWith_33 rfl rfl ?_
      refine s_icmp_neN (pc := 34) S 39 dX3_hasTrayWith_34 (by decide) (by omega) (by omega) (fun c_20 => ?_) (fun c_20 => ?_)
      · refine s_iinc (pc := 39) S 1 [(4, .int (nI 2)), (5, .ref (A 12 (3 * p + 1))), (3, .int (nI 3)), (2, .ref (A 14 p)), (0, .ref (A 9 p)), (1, .int (nI q))] dX3_hasTrayWith_39 rfl (by decide) (by decide) rfl ?_
        refine s_goto (pc := 42) S 11 dX3_hasTrayWith_42 (by decide) ?_
        refine s_iload (pc := 11) S 0 dX3_hasTrayWith_11 rfl ?_
        refine s_iload_n (pc := 13) S 2 dX3_hasTrayWith_13 rfl rfl ?_
        refine s_icmp_geN (pc := 14) S 45 dX3_hasTrayWith_14 (by decide) (by decide) (by decide) (fun h => absurd h (by decide)) (fun _ => ?_)
        refine s_aload_n (pc := 17) S 3 dX3_hasTrayWith_17 rfl rfl ?_
        refine s_iload (pc := 18) S 0 dX3_hasTrayWith_18 rfl ?_
        by_cases lv_21 : 2 < C 9 p 5
        · refine s_aald (pc := 20) S hz (v := .ref (A 12 (3 * p + 2))) (cc_trays (A := A) (C := C) hp) (by omega) (by decide) (by rw [if_pos lv_21]; rfl) dX3_hasTrayWith_20 ?_
          obtain ⟨o_22, o_23⟩ := hT 2 lv_21
          refine s_astore (pc := 21) S [(5, .ref (A 12 (3 * p + 2))), (4, .int (nI 2)), (3, .int (nI 3)), (2, .ref (A 14 p)), (0, .ref (A 9 p)), (1, .int (nI q))] dX3_hasTrayWith_21 (by decide) rfl ?_
          refine s_aload (pc := 23) S 0 dX3_hasTrayWith_23 rfl ?_
          refine s_ifnull (pc := 25) S dX3_hasTrayWith_25 ?_
          refine s_aload (pc := 28) S 0 dX3_hasTrayWith_28 rfl ?_
          refine s_get (pc := 30) S hz (ref := "SpoolFarm$Tray") (v := .int (nI (C 12 (3 * p + 2) 0))) (cc_tray (A := A) (C := C) hp lv_21 (by omega)) i_RX4 rfl 0 (Nat.le_of_ble_eq_true rfl) (by decide +kernel) (fun _ h => h) rfl dX3_hasTrayWith_30 ?_
          refine s_iload_n (pc := 33) S 5 dX3_hasTrayWith_33 rfl rfl ?_
          refine s_icmp_neN (pc := 34) S 39 dX3_hasTrayWith_34 (by decide) (by omega) (by omega) (fun c_24 => ?_) (fun c_24 => ?_)
          · refine s_iinc (pc := 39) S 1 [(4, .int (nI 3)), (5, .ref (A 12 (3 * p + 2))), (3, .int (nI 3)), (2, .ref (A 14 p)), (0, .ref (A 9 p)), (1, .int (nI q))] dX3_hasTrayWith_39 rfl (by decide) (by decide) rfl ?_
            refine s_goto (pc := 42) S 11 dX3_hasTrayWith_42 (by decide) ?_
            refine s_iload (pc := 11) S 0 dX3_hasTrayWith_11 rfl ?_
            refine s_iload_n (pc := 13) S 2 dX3_hasTrayWith_13 rfl rfl ?_
            refine s_icmp_geN (pc := 14) S 45 dX3_hasTrayWith_14 (by decide) (by decide) (by decide) (fun _ => ?_) (fun h => absurd h (by decide))
            refine s_iconst (pc := 45) S (v := (nI 0)) dX3_hasTrayWith_45 (by decide) ?_
            exact s_zret (pc := 46) S hz hlo (nar_z (by omega)) hr ⟨rfl, rfl, by unfold htK; rw [if_neg (by omega)]⟩ (Nat.le_of_ble_eq_true rfl) (Nat.le_of_ble_eq_true rfl) dX3_hasTrayWith_46
          · refine s_iconst (pc := 37) S (v := (nI 1)) dX3_hasTrayWith_37 (by decide) ?_
            exact s_zret (pc := 38) S hz hlo (nar_z (by omega)) hr ⟨rfl, rfl, by unfold htK; rw [if_pos (by omega)]⟩ (Nat.le_of_ble_eq_true rfl) (Nat.le_of_ble_eq_true rfl) dX3_hasTrayWith_38
        · refine s_aald (pc := 20) S hz (v := .null) (cc_trays (A := A) (C := C) hp) (by omega) (by decide) (by rw [if_neg lv_21]; rfl) dX3_hasTrayWith_20 ?_
          refine s_astoreN (pc := 21) S [(5, .null), (4, .int (nI 2)), (3, .int (nI 3)), (2, .ref (A 14 p)), (0, .ref (A 9 p)), (1, .int (nI q))] dX3_hasTrayWith_21 (by decide) rfl ?_
          refine s_aloadN (pc := 23) S 0 dX3_hasTrayWith_23 rfl ?_
          refine s_ifnullN (pc := 25) S 39 dX3_hasTrayWith_25 (by decide) ?_
          refine s_iinc (pc := 39) S 1 [(4, .int (nI 3)), (5, .null), (3, .int (nI 3)), (2, .ref (A 14 p)), (0, .ref (A 9 p)), (1, .int (nI q))] dX3_hasTrayWith_39 rfl (by decide) (by decide) rfl ?_
          refine s_goto (pc := 42) S 11 dX3_hasTrayWith_42 (by decide) ?_
          refine s_iload (pc := 11) S 0 dX3_hasTrayWith_11 rfl ?_
          refine s_iload_n (pc := 13) S 2 dX3_hasTrayWith_13 rfl rfl ?_
          refine s_icmp_geN (pc := 14) S 45 dX3_hasTrayWith_14 (by decide) (by decide) (by decide) (fun _ => ?_) (fun h => absurd h (by decide))
          refine s_iconst (pc := 45) S (v := (nI 0)) dX3_hasTrayWith_45 (by decide) ?_
          exact s_zret (pc := 46) S hz hlo (nar_z (by omega)) hr ⟨rfl, rfl, by unfold htK; rw [if_neg (by omega)]⟩ (Nat.le_of_ble_eq_true rfl) (Nat.le_of_ble_eq_true rfl) dX3_hasTrayWith_46
      · refine s_iconst (pc := 37) S (v := (nI 1)) dX3_hasTrayWith_37 (by decide) ?_
        exact s_zret (pc := 38) S hz hlo (nar_z (by omega)) hr ⟨rfl, rfl, by unfold htK; rw [if_pos (by omega)]⟩ (Nat.le_of_ble_eq_true rfl) (Nat.le_of_ble_eq_true rfl) dX3_hasTrayWith_38
    · refine s_aald (pc := 20) S hz (v := .null) (cc_trays (A := A) (C := C) hp) (by omega) (by decide) (by rw [if_neg lv_17]; rfl) dX3_hasTrayWith_20 ?_
      refine s_astoreN (pc := 21) S [(5, .null), (4, .int (nI 1)), (3, .int (nI 3)), (2, .ref (A 14 p)), (0, .ref (A 9 p)), (1, .int (nI q))] dX3_hasTrayWith_21 (by decide) rfl ?_
      refine s_aloadN (pc := 23) S 0 dX3_hasTrayWith_23 rfl ?_
      refine s_ifnullN (pc := 25) S 39 dX3_hasTrayWith_25 (by decide) ?_
      refine s_iinc (pc := 39) S 1 [(4, .int (nI 2)), (5, .null), (3, .int (nI 3)), (2, .ref (A 14 p)), (0, .ref (A 9 p)), (1, .int (nI q))] dX3_hasTrayWith_39 rfl (by decide) (by decide) rfl ?_
      refine s_goto (pc := 42) S 11 dX3_hasTrayWith_42 (by decide) ?_
      refine s_iload (pc := 11) S 0 dX3_hasTrayWith_11 rfl ?_
      refine s_iload_n (pc := 13) S 2 dX3_hasTrayWith_13 rfl rfl ?_
      refine s_icmp_geN (pc := 14) S 45 dX3_hasTrayWith_14 (by decide) (by decide) (by decide) (fun h => absurd h (by decide)) (fun _ => ?_)
      refine s_aload_n (pc := 17) S 3 dX3_hasTrayWith_17 rfl rfl ?_
      refine s_iload (pc := 18) S 0 dX3_hasTrayWith_18 rfl ?_
      by_cases lv_25 : 2 < C 9 p 5
      · refine s_aald (pc := 20) S hz (v := .ref (A 12 (3 * p + 2))) (cc_trays (A := A) (C := C) hp) (by omega) (by decide) (by rw [if_pos lv_25]; rfl) dX3_hasTrayWith_20 ?_
        obtain ⟨o_26, o_27⟩ := hT 2 lv_25
        refine s_astore (pc := 21) S [(5, .ref (A 12 (3 * p + 2))), (4, .int (nI 2)), (3, .int (nI 3)), (2, .ref (A 14 p)), (0, .ref (A 9 p)), (1, .int (nI q))] dX3_hasTrayWith_21 (by decide) rfl ?_
        refine s_aload (pc := 23) S 0 dX3_hasTrayWith_23 rfl ?_
        refine s_ifnull (pc := 25) S dX3_hasTrayWith_25 ?_
        refine s_aload (pc := 28) S 0 dX3_hasTrayWith_28 rfl ?_
        refine s_get (pc := 30) S hz (ref := "SpoolFarm$Tray") (v := .int (nI (C 12 (3 * p + 2) 0))) (cc_tray (A := A) (C := C) hp lv_25 (by omega)) i_RX4 rfl 0 (Nat.le_of_ble_eq_true rfl) (by decide +kernel) (fun _ h => h) rfl dX3_hasTrayWith_30 ?_
        refine s_iload_n (pc := 33) S 5 dX3_hasTrayWith_33 rfl rfl ?_
        refine s_icmp_neN (pc := 34) S 39 dX3_hasTrayWith_34 (by decide) (by omega) (by omega) (fun c_28 => ?_) (fun c_28 => ?_)
        · refine s_iinc (pc := 39) S 1 [(4, .int (nI 3)), (5, .ref (A 12 (3 * p + 2))), (3, .int (nI 3)), (2, .ref (A 14 p)), (0, .ref (A 9 p)), (1, .int (nI q))] dX3_hasTrayWith_39 rfl (by decide) (by decide) rfl ?_
          refine s_goto (pc := 42) S 11 dX3_hasTrayWith_42 (by decide) ?_
          refine s_iload (pc := 11) S 0 dX3_hasTrayWith_11 rfl ?_
          refine s_iload_n (pc := 13) S 2 dX3_hasTrayWith_13 rfl rfl ?_
          refine s_icmp_geN (pc := 14) S 45 dX3_hasTrayWith_14 (by decide) (by decide) (by decide) (fun _ => ?_) (fun h => absurd h (by decide))
          refine s_iconst (pc := 45) S (v := (nI 0)) dX3_hasTrayWith_45 (by decide) ?_
          exact s_zret (pc := 46) S hz hlo (nar_z (by omega)) hr ⟨rfl, rfl, by unfold htK; rw [if_neg (by omega)]⟩ (Nat.le_of_ble_eq_true rfl) (Nat.le_of_ble_eq_true rfl) dX3_hasTrayWith_46
        · refine s_iconst (pc := 37) S (v := (nI 1)) dX3_hasTrayWith_37 (by decide) ?_
          exact s_zret (pc := 38) S hz hlo (nar_z (by omega)) hr ⟨rfl, rfl, by unfold htK; rw [if_pos (by omega)]⟩ (Nat.le_of_ble_eq_true rfl) (Nat.le_of_ble_eq_true rfl) dX3_hasTrayWith_38
      · refine s_aald (pc := 20) S hz (v := .null) (cc_trays (A := A) (C := C) hp) (by omega) (by decide) (by rw [if_neg lv_25]; rfl) dX3_hasTrayWith_20 ?_
        refine s_astoreN (pc := 21) S [(5, .null), (4, .int (nI 2)), (3, .int (nI 3)), (2, .ref (A 14 p)), (0, .ref (A 9 p)), (1, .int (nI q))] dX3_hasTrayWith_21 (by decide) rfl ?_
        refine s_aloadN (pc := 23) S 0 dX3_hasTrayWith_23 rfl ?_
        refine s_ifnullN (pc := 25) S 39 dX3_hasTrayWith_25 (by decide) ?_
        refine s_iinc (pc := 39) S 1 [(4, .int (nI 3)), (5, .null), (3, .int (nI 3)), (2, .ref (A 14 p)), (0, .ref (A 9 p)), (1, .int (nI q))] dX3_hasTrayWith_39 rfl (by decide) (by decide) rfl ?_
        refine s_goto (pc := 42) S 11 dX3_hasTrayWith_42 (by decide) ?_
        refine s_iload (pc := 11) S 0 dX3_hasTrayWith_11 rfl ?_
        refine s_iload_n (pc := 13) S 2 dX3_hasTrayWith_13 rfl rfl ?_
        refine s_icmp_geN (pc := 14) S 45 dX3_hasTrayWith_14 (by decide) (by decide) (by decide) (fun _ => ?_) (fun h => absurd h (by decide))
        refine s_iconst (pc := 45) S (v := (nI 0)) dX3_hasTrayWith_45 (by decide) ?_
        exact s_zret (pc := 46) S hz hlo (nar_z (by omega)) hr ⟨rfl, rfl, by unfold htK; rw [if_neg (by omega)]⟩ (Nat.le_of_ble_eq_true rfl) (Nat.le_of_ble_eq_true rfl) dX3_hasTrayWith_46
set_option maxHeartbeats 4000000 in
set_option maxRecDepth 100000 in
theorem k_X3_sheetsWith (Z : Zp) (l : Launch) (A : AF) (C : CF) (p : Nat) (hp : p < C 0 0 4) (q : Nat) (hq : q < 65536) (hT : ∀ t : Nat, t < C 9 p 5 → C 12 (3 * p + t) 0 < 65536 ∧ C 12 (3 * p + t) 1 ≤ 500) : CtS Z l yX3_sheetsWith wsX3_sheetsWith ({ frames := 0, cells := 0, slots := 0, locals := 0 }) [.ref (A 9 p), .int (nI q)] A C 0 0 (fun v A2 C2 => A = A2 ∧ C = C2 ∧ some (.int (nI (avK C p q 0 + avK C p q 1 + avK C p q 2))) = v) (fun _ _ _ => False) := by
  refine CtS.of (cc0 := cX3_sheetsWith) (maxL := 7) (ret := (some .int)) (by decide) rfl (Nat.le_of_ble_eq_true rfl) ?_
  intro M0_ p_ e_ s_ m_ args_ below_ meth_ c_ S hz hml hex hlo hr hin
  refine s_loc (L2 := [(0, .ref (A 9 p)), (1, .int (nI q))]) rfl ?_
  have i_RX3 : ∀ w ∈ u_ws RX3 TX3 6, w ∈ wsX3_sheetsWith := by decide +kernel
  have i_RX4 : ∀ w ∈ u_ws RX4 TX4 2, w ∈ wsX3_sheetsWith := by decide +kernel
  refine s_iconst (pc := 0) S (v := (nI 0)) dX3_sheetsWith_0 (by decide) ?_
  refine s_istore_n (pc := 1) S [(2, .int (nI 0)), (0, .ref (A 9 p)), (1, .int (nI q))] dX3_sheetsWith_1 rfl (by decide) rfl ?_
  refine s_aload_n (pc := 2) S 1 dX3_sheetsWith_2 rfl rfl ?_
  refine s_get (pc := 3) S hz (ref := "SpoolFarm$Printer") (v := .ref (A 14 p)) (cc_prn (A := A) (C := C) hp) i_RX3 rfl 4 (Nat.le_of_ble_eq_true rfl) (by decide +kernel) (fun _ h => h) rfl dX3_sheetsWith_3 ?_
  refine s_astore_n (pc := 6) S [(3, .ref (A 14 p)), (2, .int (nI 0)), (0, .ref (A 9 p)), (1, .int (nI q))] dX3_sheetsWith_6 rfl (by decide) rfl ?_
  refine s_aload_n (pc := 7) S 0 dX3_sheetsWith_7 rfl rfl ?_
  refine s_alen (pc := 8) S hz (n := 3) (cc_trays (A := A) (C := C) hp) dX3_sheetsWith_8 ?_
  refine s_istore (pc := 9) S [(4, .int (nI 3)), (3, .ref (A 14 p)), (2, .int (nI 0)), (0, .ref (A 9 p)), (1, .int (nI q))] dX3_sheetsWith_9 (by decide) rfl ?_
  refine s_iconst (pc := 11) S (v := (nI 0)) dX3_sheetsWith_11 (by decide) ?_
  refine s_istore (pc := 12) S [(5, .int (nI 0)), (4, .int (nI 3)), (3, .ref (A 14 p)), (2, .int (nI 0)), (0, .ref (A 9 p)), (1, .int (nI q))] dX3_sheetsWith_12 (by decide) rfl ?_
  refine s_iload (pc := 14) S 0 dX3_sheetsWith_14 rfl ?_
  refine s_iload (pc := 16) S 1 dX3_sheetsWith_16 rfl ?_
  refine s_icmp_geN (pc := 18) S 55 dX3_sheetsWith_18 (by decide) (by decide) (by decide) (fun h => absurd h (by decide)) (fun _ => ?_)
  refine s_aload_n (pc := 21) S 2 dX3_sheetsWith_21 rfl rfl ?_
  refine s_iload (pc := 22) S 0 dX3_sheetsWith_22 rfl ?_
  by_cases lv_1 : 0 < C 9 p 5
  · refine s_aald (pc := 24) S hz (v := .ref (A 12 (3 * p + 0))) (cc_trays (A := A) (C := C) hp) (by omega) (by decide) (by rw [if_pos lv_1]; rfl) dX3_sheetsWith_24 ?_
    obtain ⟨o_2, o_3⟩ := hT 0 lv_1
    refine s_astore (pc := 25) S [(6, .ref (A 12 (3 * p + 0))), (5, .int (nI 0)), (4, .int (nI 3)), (3, .ref (A 14 p)), (2, .int (nI 0)), (0, .ref (A 9 p)), (1, .int (nI q))] dX3_sheetsWith_25 (by decide) rfl ?_
    refine s_aload (pc := 27) S 0 dX3_sheetsWith_27 rfl ?_
    refine s_ifnull (pc := 29) S dX3_sheetsWith_29 ?_
    refine s_aload (pc := 32) S 0 dX3_sheetsWith_32 rfl ?_
    refine s_get (pc := 34) S hz (ref := "SpoolFarm$Tray") (v := .int (nI (C 12 (3 * p + 0) 0))) (cc_tray (A := A) (C := C) hp lv_1 (by omega)) i_RX4 rfl 0 (Nat.le_of_ble_eq_true rfl) (by decide +kernel) (fun _ h => h) rfl dX3_sheetsWith_34 ?_
    refine s_iload_n (pc := 37) S 6 dX3_sheetsWith_37 rfl rfl ?_
    refine s_icmp_neN (pc := 38) S 49 dX3_sheetsWith_38 (by decide) (by omega) (by omega) (fun c_4 => ?_) (fun c_4 => ?_)
    · refine s_iinc (pc := 49) S 1 [(5, .int (nI 1)), (6, .ref (A 12 (3 * p + 0))), (4, .int (nI 3)), (3, .ref (A 14 p)), (2, .int (nI 0)), (0, .ref (A 9 p)), (1, .int (nI q))] dX3_sheetsWith_49 rfl (by decide) (by decide) rfl ?_
      refine s_goto (pc := 52) S 14 dX3_sheetsWith_52 (by decide) ?_
      refine s_iload (pc := 14) S 0 dX3_sheetsWith_14 rfl ?_
      refine s_iload (pc := 16) S 2 dX3_sheetsWith_16 rfl ?_
      refine s_icmp_geN (pc := 18) S 55 dX3_sheetsWith_18 (by decide) (by decide) (by decide) (fun h => absurd h (by decide)) (fun _ => ?_)
      refine s_aload_n (pc := 21) S 3 dX3_sheetsWith_21 rfl rfl ?_
      refine s_iload (pc := 22) S 0 dX3_sheetsWith_22 rfl ?_
      by_cases lv_5 : 1 < C 9 p 5
      · refine s_aald (pc := 24) S hz (v := .ref (A 12 (3 * p + 1))) (cc_trays (A := A) (C := C) hp) (by omega) (by decide) (by rw [if_pos lv_5]; rfl) dX3_sheetsWith_24 ?_
        obtain ⟨o_6, o_7⟩ := hT 1 lv_5
        refine s_astore (pc := 25) S [(6, .ref (A 12 (3 * p + 1))), (5, .int (nI 1)), (4, .int (nI 3)), (3, .ref (A 14 p)), (2, .int (nI 0)), (0, .ref (A 9 p)), (1, .int (nI q))] dX3_sheetsWith_25 (by decide) rfl ?_
        refine s_aload (pc := 27) S 0 dX3_sheetsWith_27 rfl ?_
        refine s_ifnull (pc := 29) S dX3_sheetsWith_29 ?_
        refine s_aload (pc := 32) S 0 dX3_sheetsWith_32 rfl ?_
        refine s_get (pc := 34) S hz (ref := "SpoolFarm$Tray") (v := .int (nI (C 12 (3 * p + 1) 0))) (cc_tray (A := A) (C := C) hp lv_5 (by omega)) i_RX4 rfl 0 (Nat.le_of_ble_eq_true rfl) (by decide +kernel) (fun _ h => h) rfl dX3_sheetsWith_34 ?_
        refine s_iload_n (pc := 37) S 6 dX3_sheetsWith_37 rfl rfl ?_
        refine s_icmp_neN (pc := 38) S 49 dX3_sheetsWith_38 (by decide) (by omega) (by omega) (fun c_8 => ?_) (fun c_8 => ?_)
        · refine s_iinc (pc := 49) S 1 [(5, .int (nI 2)), (6, .ref (A 12 (3 * p + 1))), (4, .int (nI 3)), (3, .ref (A 14 p)), (2, .int (nI 0)), (0, .ref (A 9 p)), (1, .int (nI q))] dX3_sheetsWith_49 rfl (by decide) (by decide) rfl ?_
          refine s_goto (pc := 52) S 14 dX3_sheetsWith_52 (by decide) ?_
          refine s_iload (pc := 14) S 0 dX3_sheetsWith_14 rfl ?_
          refine s_iload (pc := 16) S 2 dX3_sheetsWith_16 rfl ?_
          refine s_icmp_geN (pc := 18) S 55 dX3_sheetsWith_18 (by decide) (by decide) (by decide) (fun h => absurd h (by decide)) (fun _ => ?_)
          refine s_aload_n (pc := 21) S 3 dX3_sheetsWith_21 rfl rfl ?_
          refine s_iload (pc := 22) S 0 dX3_sheetsWith_22 rfl ?_
          by_cases lv_9 : 2 < C 9 p 5
          · refine s_aald (pc := 24) S hz (v := .ref (A 12 (3 * p + 2))) (cc_trays (A := A) (C := C) hp) (by omega) (by decide) (by rw [if_pos lv_9]; rfl) dX3_sheetsWith_24 ?_
            obtain ⟨o_10, o_11⟩ := hT 2 lv_9
            refine s_astore (pc := 25) S [(6, .ref (A 12 (3 * p + 2))), (5, .int (nI 2)), (4, .int (nI 3)), (3, .ref (A 14 p)), (2, .int (nI 0)), (0, .ref (A 9 p)), (1, .int (nI q))] dX3_sheetsWith_25 (by decide) rfl ?_
            refine s_aload (pc := 27) S 0 dX3_sheetsWith_27 rfl ?_
            refine s_ifnull (pc := 29) S dX3_sheetsWith_29 ?_
            refine s_aload (pc := 32) S 0 dX3_sheetsWith_32 rfl ?_
            refine s_get (pc := 34) S hz (ref := "SpoolFarm$Tray") (v := .int (nI (C 12 (3 * p + 2) 0))) (cc_tray (A := A) (C := C) hp lv_9 (by omega)) i_RX4 rfl 0 (Nat.le_of_ble_eq_true rfl) (by decide +kernel) (fun _ h => h) rfl dX3_sheetsWith_34 ?_
            refine s_iload_n (pc := 37) S 6 dX3_sheetsWith_37 rfl rfl ?_
            refine s_icmp_neN (pc := 38) S 49 dX3_sheetsWith_38 (by decide) (by omega) (by omega) (fun c_12 => ?_) (fun c_12 => ?_)
            · refine s_iinc (pc := 49) S 1 [(5, .int (nI 3)), (6, .ref (A 12 (3 * p + 2))), (4, .int (nI 3)), (3, .ref (A 14 p)), (2, .int (nI 0)), (0, .ref (A 9 p)), (1, .int (nI q))] dX3_sheetsWith_49 rfl (by decide) (by decide) rfl ?_
              refine s_goto (pc := 52) S 14 dX3_sheetsWith_52 (by decide) ?_
              refine s_iload (pc := 14) S 0 dX3_sheetsWith_14 rfl ?_
              refine s_iload (pc := 16) S 2 dX3_sheetsWith_16 rfl ?_
              refine s_icmp_geN (pc := 18) S 55 dX3_sheetsWith_18 (by decide) (by decide) (by decide) (fun _ => ?_) (fun h => absurd h (by decide))
              refine s_iload_n (pc := 55) S 4 dX3_sheetsWith_55 rfl rfl ?_
              exact s_iret (pc := 56) S hz hlo hr ⟨rfl, rfl, by rw [show avK C p q 0 + avK C p q 1 + avK C p q 2 = 0 by rw [show avK C p q 0 = _ from avK_q c_4, show avK C p q 1 = _ from avK_q c_8, show avK C p q 2 = _ from avK_q c_12]; all_goals omega]⟩ (Nat.le_of_ble_eq_true rfl) (Nat.le_of_ble_eq_true rfl) dX3_sheetsWith_56
            · refine s_iload_n (pc := 41) S 4 dX3_sheetsWith_41 rfl rfl ?_
              refine s_aload (pc := 42) S 0 dX3_sheetsWith_42 rfl ?_
              refine s_get (pc := 44) S hz (ref := "SpoolFarm$Tray") (v := .int (nI (C 12 (3 * p + 2) 1))) (cc_tray (A := A) (C := C) hp lv_9 (by omega)) i_RX4 rfl 1 (Nat.le_of_ble_eq_true rfl) (by decide +kernel) (fun _ h => h) rfl dX3_sheetsWith_44 ?_
              refine s_iaddN (pc := 47) S dX3_sheetsWith_47 ?_
              refine s_istore_n (pc := 48) S [(2, .int (nI (0 + (C 12 (3 * p + 2) 1)))), (6, .ref (A 12 (3 * p + 2))), (5, .int (nI 2)), (4, .int (nI 3)), (3, .ref (A 14 p)), (0, .ref (A 9 p)), (1, .int (nI q))] dX3_sheetsWith_48 rfl (by decide) rfl ?_
              refine s_iinc (pc := 49) S 2 [(5, .int (nI 3)), (2, .int (nI (0 + (C 12 (3 * p + 2) 1)))), (6, .ref (A 12 (3 * p + 2))), (4, .int (nI 3)), (3, .ref (A 14 p)), (0, .ref (A 9 p)), (1, .int (nI q))] dX3_sheetsWith_49 rfl (by decide) (by decide) rfl ?_
              refine s_goto (pc := 52) S 14 dX3_sheetsWith_52 (by decide) ?_
              refine s_iload (pc := 14) S 0 dX3_sheetsWith_14 rfl ?_
              refine s_iload (pc := 16) S 3 dX3_sheetsWith_16 rfl ?_
              refine s_icmp_geN (pc := 18) S 55 dX3_sheetsWith_18 (by decide) (by decide) (by decide) (fun _ => ?_) (fun h => absurd h (by decide))
              refine s_iload_n (pc := 55) S 1 dX3_sheetsWith_55 rfl rfl ?_
              exact s_iret (pc := 56) S hz hlo hr ⟨rfl, rfl, by rw [show avK C p q 0 + avK C p q 1 + avK C p q 2 = 0 + (C 12 (3 * p + 2) 1) by rw [show avK C p q 0 = _ from avK_q c_4, show avK C p q 1 = _ from avK_q c_8, show avK C p q 2 = _ from avK_y lv_9 c_12]; all_goals omega]⟩ (Nat.le_of_ble_eq_true rfl) (Nat.le_of_ble_eq_true rfl) dX3_sheetsWith_56
          · refine s_aald (pc := 24) S hz (v := .null) (cc_trays (A := A) (C := C) hp) (by omega) (by decide) (by rw [if_neg lv_9]; rfl) dX3_sheetsWith_24 ?_
            refine s_astoreN (pc := 25) S [(6, .null), (5, .int (nI 2)), (4, .int (nI 3)), (3, .ref (A 14 p)), (2, .int (nI 0)), (0, .ref (A 9 p)), (1, .int (nI q))] dX3_sheetsWith_25 (by decide) rfl ?_
            refine s_aloadN (pc := 27) S 0 dX3_sheetsWith_27 rfl ?_
            refine s_ifnullN (pc := 29) S 49 dX3_sheetsWith_29 (by decide) ?_
            refine s_iinc (pc := 49) S 1 [(5, .int (nI 3)), (6, .null), (4, .int (nI 3)), (3, .ref (A 14 p)), (2, .int (nI 0)), (0, .ref (A 9 p)), (1, .int (nI q))] dX3_sheetsWith_49 rfl (by decide) (by decide) rfl ?_
            refine s_goto (pc := 52) S 14 dX3_sheetsWith_52 (by decide) ?_
            refine s_iload (pc := 14) S 0 dX3_sheetsWith_14 rfl ?_
            refine s_iload (pc := 16) S 2 dX3_sheetsWith_16 rfl ?_
            refine s_icmp_geN (pc := 18) S 55 dX3_sheetsWith_18 (by decide) (by decide) (by decide) (fun _ => ?_) (fun h => absurd h (by decide))
            refine s_iload_n (pc := 55) S 4 dX3_sheetsWith_55 rfl rfl ?_
            exact s_iret (pc := 56) S hz hlo hr ⟨rfl, rfl, by rw [show avK C p q 0 + avK C p q 1 + avK C p q 2 = 0 by rw [show avK C p q 0 = _ from avK_q c_4, show avK C p q 1 = _ from avK_q c_8, show avK C p q 2 = _ from avK_n lv_9]; all_goals omega]⟩ (Nat.le_of_ble_eq_true rfl) (Nat.le_of_ble_eq_true rfl) dX3_sheetsWith_56
        · refine s_iload_n (pc := 41) S 4 dX3_sheetsWith_41 rfl rfl ?_
          refine s_aload (pc := 42) S 0 dX3_sheetsWith_42 rfl ?_
          refine s_get (pc := 44) S hz (ref := "SpoolFarm$Tray") (v := .int (nI (C 12 (3 * p + 1) 1))) (cc_tray (A := A) (C := C) hp lv_5 (by omega)) i_RX4 rfl 1 (Nat.le_of_ble_eq_true rfl) (by decide +kernel) (fun _ h => h) rfl dX3_sheetsWith_44 ?_
          refine s_iaddN (pc := 47) S dX3_sheetsWith_47 ?_
          refine s_istore_n (pc := 48) S [(2, .int (nI (0 + (C 12 (3 * p + 1) 1)))), (6, .ref (A 12 (3 * p + 1))), (5, .int (nI 1)), (4, .int (nI 3)), (3, .ref (A 14 p)), (0, .ref (A 9 p)), (1, .int (nI q))] dX3_sheetsWith_48 rfl (by decide) rfl ?_
          refine s_iinc (pc := 49) S 2 [(5, .int (nI 2)), (2, .int (nI (0 + (C 12 (3 * p + 1) 1)))), (6, .ref (A 12 (3 * p + 1))), (4, .int (nI 3)), (3, .ref (A 14 p)), (0, .ref (A 9 p)), (1, .int (nI q))] dX3_sheetsWith_49 rfl (by decide) (by decide) rfl ?_
          refine s_goto (pc := 52) S 14 dX3_sheetsWith_52 (by decide) ?_
          refine s_iload (pc := 14) S 0 dX3_sheetsWith_14 rfl ?_
          refine s_iload (pc := 16) S 3 dX3_sheetsWith_16 rfl ?_
          refine s_icmp_geN (pc := 18) S 55 dX3_sheetsWith_18 (by decide) (by decide) (by decide) (fun h => absurd h (by decide)) (fun _ => ?_)
          refine s_aload_n (pc := 21) S 4 dX3_sheetsWith_21 rfl rfl ?_
          refine s_iload (pc := 22) S 0 dX3_sheetsWith_22 rfl ?_
          by_cases lv_13 : 2 < C 9 p 5
          · refine s_aald (pc := 24) S hz (v := .ref (A 12 (3 * p + 2))) (cc_trays (A := A) (C := C) hp) (by omega) (by decide) (by rw [if_pos lv_13]; rfl) dX3_sheetsWith_24 ?_
            obtain ⟨o_14, o_15⟩ := hT 2 lv_13
            refine s_astore (pc := 25) S [(6, .ref (A 12 (3 * p + 2))), (5, .int (nI 2)), (2, .int (nI (0 + (C 12 (3 * p + 1) 1)))), (4, .int (nI 3)), (3, .ref (A 14 p)), (0, .ref (A 9 p)), (1, .int (nI q))] dX3_sheetsWith_25 (by decide) rfl ?_
            refine s_aload (pc := 27) S 0 dX3_sheetsWith_27 rfl ?_
            refine s_ifnull (pc := 29) S dX3_sheetsWith_29 ?_
            refine s_aload (pc := 32) S 0 dX3_sheetsWith_32 rfl ?_
            refine s_get (pc := 34) S hz (ref := "SpoolFarm$Tray") (v := .int (nI (C 12 (3 * p + 2) 0))) (cc_tray (A := A) (C := C) hp lv_13 (by omega)) i_RX4 rfl 0 (Nat.le_of_ble_eq_true rfl) (by decide +kernel) (fun _ h => h) rfl dX3_sheetsWith_34 ?_
            refine s_iload_n (pc := 37) S 6 dX3_sheetsWith_37 rfl rfl ?_
            refine s_icmp_neN (pc := 38) S 49 dX3_sheetsWith_38 (by decide) (by omega) (by omega) (fun c_16 => ?_) (fun c_16 => ?_)
            · refine s_iinc (pc := 49) S 1 [(5, .int (nI 3)), (6, .ref (A 12 (3 * p + 2))), (2, .int (nI (0 + (C 12 (3 * p + 1) 1)))), (4, .int (nI 3)), (3, .ref (A 14 p)), (0, .ref (A 9 p)), (1, .int (nI q))] dX3_sheetsWith_49 rfl (by decide) (by decide) rfl ?_
              refine s_goto (pc := 52) S 14 dX3_sheetsWith_52 (by decide) ?_
              refine s_iload (pc := 14) S 0 dX3_sheetsWith_14 rfl ?_
              refine s_iload (pc := 16) S 3 dX3_sheetsWith_16 rfl ?_
              refine s_icmp_geN (pc := 18) S 55 dX3_sheetsWith_18 (by decide) (by decide) (by decide) (fun _ => ?_) (fun h => absurd h (by decide))
              refine s_iload_n (pc := 55) S 2 dX3_sheetsWith_55 rfl rfl ?_
              exact s_iret (pc := 56) S hz hlo hr ⟨rfl, rfl, by rw [show avK C p q 0 + avK C p q 1 + avK C p q 2 = 0 + (C 12 (3 * p + 1) 1) by rw [show avK C p q 0 = _ from avK_q c_4, show avK C p q 1 = _ from avK_y lv_5 c_8, show avK C p q 2 = _ from avK_q c_16]; all_goals omega]⟩ (Nat.le_of_ble_eq_true rfl) (Nat.le_of_ble_eq_true rfl) dX3_sheetsWith_56
            · refine s_iload_n (pc := 41) S 2 dX3_sheetsWith_41 rfl rfl ?_
              refine s_aload (pc := 42) S 0 dX3_sheetsWith_42 rfl ?_
              refine s_get (pc := 44) S hz (ref := "SpoolFarm$Tray") (v := .int (nI (C 12 (3 * p + 2) 1))) (cc_tray (A := A) (C := C) hp lv_13 (by omega)) i_RX4 rfl 1 (Nat.le_of_ble_eq_true rfl) (by decide +kernel) (fun _ h => h) rfl dX3_sheetsWith_44 ?_
              refine s_iaddN (pc := 47) S dX3_sheetsWith_47 ?_
              refine s_istore_n (pc := 48) S [(2, .int (nI ((0 + (C 12 (3 * p + 1) 1)) + (C 12 (3 * p + 2) 1)))), (6, .ref (A 12 (3 * p + 2))), (5, .int (nI 2)), (4, .int (nI 3)), (3, .ref (A 14 p)), (0, .ref (A 9 p)), (1, .int (nI q))] dX3_sheetsWith_48 rfl (by decide) rfl ?_
              refine s_iinc (pc := 49) S 2 [(5, .int (nI 3)), (2, .int (nI ((0 + (C 12 (3 * p + 1) 1)) + (C 12 (3 * p + 2) 1)))), (6, .ref (A 12 (3 * p + 2))), (4, .int (nI 3)), (3, .ref (A 14 p)), (0, .ref (A 9 p)), (1, .int (nI q))] dX3_sheetsWith_49 rfl (by decide) (by decide) rfl ?_
              refine s_goto (pc := 52) S 14 dX3_sheetsWith_52 (by decide) ?_
              refine s_iload (pc := 14) S 0 dX3_sheetsWith_14 rfl ?_
              refine s_iload (pc := 16) S 3 dX3_sheetsWith_16 rfl ?_
              refine s_icmp_geN (pc := 18) S 55 dX3_sheetsWith_18 (by decide) (by decide) (by decide) (fun _ => ?_) (fun h => absurd h (by decide))
              refine s_iload_n (pc := 55) S 1 dX3_sheetsWith_55 rfl rfl ?_
              exact s_iret (pc := 56) S hz hlo hr ⟨rfl, rfl, by rw [show avK C p q 0 + avK C p q 1 + avK C p q 2 = (0 + (C 12 (3 * p + 1) 1)) + (C 12 (3 * p + 2) 1) by rw [show avK C p q 0 = _ from avK_q c_4, show avK C p q 1 = _ from avK_y lv_5 c_8, show avK C p q 2 = _ from avK_y lv_13 c_16]; all_goals omega]⟩ (Nat.le_of_ble_eq_true rfl) (Nat.le_of_ble_eq_true rfl) dX3_sheetsWith_56
          · refine s_aald (pc := 24) S hz (v := .null) (cc_trays (A := A) (C := C) hp) (by omega) (by decide) (by rw [if_neg lv_13]; rfl) dX3_sheetsWith_24 ?_
            refine s_astoreN (pc := 25) S [(6, .null), (5, .int (nI 2)), (2, .int (nI (0 + (C 12 (3 * p + 1) 1)))), (4, .int (nI 3)), (3, .ref (A 14 p)), (0, .ref (A 9 p)), (1, .int (nI q))] dX3_sheetsWith_25 (by decide) rfl ?_
            refine s_aloadN (pc := 27) S 0 dX3_sheetsWith_27 rfl ?_
            refine s_ifnullN (pc := 29) S 49 dX3_sheetsWith_29 (by decide) ?_
            refine s_iinc (pc := 49) S 1 [(5, .int (nI 3)), (6, .null), (2, .int (nI (0 + (C 12 (3 * p + 1) 1)))), (4, .int (nI 3)), (3, .ref (A 14 p)), (0, .ref (A 9 p)), (1, .int (nI q))] dX3_sheetsWith_49 rfl (by decide) (by decide) rfl ?_
            refine s_goto (pc := 52) S 14 dX3_sheetsWith_52 (by decide) ?_
            refine s_iload (pc := 14) S 0 dX3_sheetsWith_14 rfl ?_
            refine s_iload (pc := 16) S 3 dX3_sheetsWith_16 rfl ?_
            refine s_icmp_geN (pc := 18) S 55 dX3_sheetsWith_18 (by decide) (by decide) (by decide) (fun _ => ?_) (fun h => absurd h (by decide))
            refine s_iload_n (pc := 55) S 2 dX3_sheetsWith_55 rfl rfl ?_
            exact s_iret (pc := 56) S hz hlo hr ⟨rfl, rfl, by rw [show avK C p q 0 + avK C p q 1 + avK C p q 2 = 0 + (C 12 (3 * p + 1) 1) by rw [show avK C p q 0 = _ from avK_q c_4, show avK C p q 1 = _ from avK_y lv_5 c_8, show avK C p q 2 = _ from avK_n lv_13]; all_goals omega]⟩ (Nat.le_of_ble_eq_true rfl) (Nat.le_of_ble_eq_true rfl) dX3_sheetsWith_56
      · refine s_aald (pc := 24) S hz (v := .null) (cc_trays (A := A) (C := C) hp) (by omega) (by decide) (by rw [if_neg lv_5]; rfl) dX3_sheetsWith_24 ?_
        refine s_astoreN (pc := 25) S [(6, .null), (5, .int (nI 1)), (4, .int (nI 3)), (3, .ref (A 14 p)), (2, .int (nI 0)), (0, .ref (A 9 p)), (1, .int (nI q))] dX3_sheetsWith_25 (by decide) rfl ?_
        refine s_aloadN (pc := 27) S 0 dX3_sheetsWith_27 rfl ?_
        refine s_ifnullN (pc := 29) S 49 dX3_sheetsWith_29 (by decide) ?_
        refine s_iinc (pc := 49) S 1 [(5, .int (nI 2)), (6, .null), (4, .int (nI 3)), (3, .ref (A 14 p)), (2, .int (nI 0)), (0, .ref (A 9 p)), (1, .int (nI q))] dX3_sheetsWith_49 rfl (by decide) (by decide) rfl ?_
        refine s_goto (pc := 52) S 14 dX3_sheetsWith_52 (by decide) ?_
        refine s_iload (pc := 14) S 0 dX3_sheetsWith_14 rfl ?_
        refine s_iload (pc := 16) S 2 dX3_sheetsWith_16 rfl ?_
        refine s_icmp_geN (pc := 18) S 55 dX3_sheetsWith_18 (by decide) (by decide) (by decide) (fun h => absurd h (by decide)) (fun _ => ?_)
        refine s_aload_n (pc := 21) S 3 dX3_sheetsWith_21 rfl rfl ?_
        refine s_iload (pc := 22) S 0 dX3_sheetsWith_22 rfl ?_
        by_cases lv_17 : 2 < C 9 p 5
        · refine s_aald (pc := 24) S hz (v := .ref (A 12 (3 * p + 2))) (cc_trays (A := A) (C := C) hp) (by omega) (by decide) (by rw [if_pos lv_17]; rfl) dX3_sheetsWith_24 ?_
          obtain ⟨o_18, o_19⟩ := hT 2 lv_17
          refine s_astore (pc := 25) S [(6, .ref (A 12 (3 * p + 2))), (5, .int (nI 2)), (4, .int (nI 3)), (3, .ref (A 14 p)), (2, .int (nI 0)), (0, .ref (A 9 p)), (1, .int (nI q))] dX3_sheetsWith_25 (by decide) rfl ?_
          refine s_aload (pc := 27) S 0 dX3_sheetsWith_27 rfl ?_
          refine s_ifnull (pc := 29) S dX3_sheetsWith_29 ?_
          refine s_aload (pc := 32) S 0 dX3_sheetsWith_32 rfl ?_
          refine s_get (pc := 34) S hz (ref := "SpoolFarm$Tray") (v := .int (nI (C 12 (3 * p + 2) 0))) (cc_tray (A := A) (C := C) hp lv_17 (by omega)) i_RX4 rfl 0 (Nat.le_of_ble_eq_true rfl) (by decide +kernel) (fun _ h => h) rfl dX3_sheetsWith_34 ?_
          refine s_iload_n (pc := 37) S 6 dX3_sheetsWith_37 rfl rfl ?_
          refine s_icmp_neN (pc := 38) S 49 dX3_sheetsWith_38 (by decide) (by omega) (by omega) (fun c_20 => ?_) (fun c_20 => ?_)
          · refine s_iinc (pc := 49) S 1 [(5, .int (nI 3)), (6, .ref (A 12 (3 * p + 2))), (4, .int (nI 3)), (3, .ref (A 14 p)), (2, .int (nI 0)), (0, .ref (A 9 p)), (1, .int (nI q))] dX3_sheetsWith_49 rfl (by decide) (by decide) rfl ?_
            refine s_goto (pc := 52) S 14 dX3_sheetsWith_52 (by decide) ?_
            refine s_iload (pc := 14) S 0 dX3_sheetsWith_14 rfl ?_
            refine s_iload (pc := 16) S 2 dX3_sheetsWith_16 rfl ?_
            refine s_icmp_geN (pc := 18) S 55 dX3_sheetsWith_18 (by decide) (by decide) (by decide) (fun _ => ?_) (fun h => absurd h (by decide))
            refine s_iload_n (pc := 55) S 4 dX3_sheetsWith_55 rfl rfl ?_
            exact s_iret (pc := 56) S hz hlo hr ⟨rfl, rfl, by rw [show avK C p q 0 + avK C p q 1 + avK C p q 2 = 0 by rw [show avK C p q 0 = _ from avK_q c_4, show avK C p q 1 = _ from avK_n lv_5, show avK C p q 2 = _ from avK_q c_20]; all_goals omega]⟩ (Nat.le_of_ble_eq_true rfl) (Nat.le_of_ble_eq_true rfl) dX3_sheetsWith_56
          · refine s_iload_n (pc := 41) S 4 dX3_sheetsWith_41 rfl rfl ?_
            refine s_aload (pc := 42) S 0 dX3_sheetsWith_42 rfl ?_
            refine s_get (pc := 44) S hz (ref := "SpoolFarm$Tray") (v := .int (nI (C 12 (3 * p + 2) 1))) (cc_tray (A := A) (C := C) hp lv_17 (by omega)) i_RX4 rfl 1 (Nat.le_of_ble_eq_true rfl) (by decide +kernel) (fun _ h => h) rfl dX3_sheetsWith_44 ?_
            refine s_iaddN (pc := 47) S dX3_sheetsWith_47 ?_
            refine s_istore_n (pc := 48) S [(2, .int (nI (0 + (C 12 (3 * p + 2) 1)))), (6, .ref (A 12 (3 * p + 2))), (5, .int (nI 2)), (4, .int (nI 3)), (3, .ref (A 14 p)), (0, .ref (A 9 p)), (1, .int (nI q))] dX3_sheetsWith_48 rfl (by decide) rfl ?_
            refine s_iinc (pc := 49) S 2 [(5, .int (nI 3)), (2, .int (nI (0 + (C 12 (3 * p + 2) 1)))), (6, .ref (A 12 (3 * p + 2))), (4, .int (nI 3)), (3, .ref (A 14 p)), (0, .ref (A 9 p)), (1, .int (nI q))] dX3_sheetsWith_49 rfl (by decide) (by decide) rfl ?_
            refine s_goto (pc := 52) S 14 dX3_sheetsWith_52 (by decide) ?_
            refine s_iload (pc := 14) S 0 dX3_sheetsWith_14 rfl ?_
            refine s_iload (pc := 16) S 3 dX3_sheetsWith_16 rfl ?_
            refine s_icmp_geN (pc := 18) S 55 dX3_sheetsWith_18 (by decide) (by decide) (by decide) (fun _ => ?_) (fun h => absurd h (by decide))
            refine s_iload_n (pc := 55) S 1 dX3_sheetsWith_55 rfl rfl ?_
            exact s_iret (pc := 56) S hz hlo hr ⟨rfl, rfl, by rw [show avK C p q 0 + avK C p q 1 + avK C p q 2 = 0 + (C 12 (3 * p + 2) 1) by rw [show avK C p q 0 = _ from avK_q c_4, show avK C p q 1 = _ from avK_n lv_5, show avK C p q 2 = _ from avK_y lv_17 c_20]; all_goals omega]⟩ (Nat.le_of_ble_eq_true rfl) (Nat.le_of_ble_eq_true rfl) dX3_sheetsWith_56
        · refine s_aald (pc := 24) S hz (v := .null) (cc_trays (A := A) (C := C) hp) (by omega) (by decide) (by rw [if_neg lv_17]; rfl) dX3_sheetsWith_24 ?_
          refine s_astoreN (pc := 25) S [(6, .null), (5, .int (nI 2)), (4, .int (nI 3)), (3, .ref (A 14 p)), (2, .int (nI 0)), (0, .ref (A 9 p)), (1, .int (nI q))] dX3_sheetsWith_25 (by decide) rfl ?_
          refine s_aloadN (pc := 27) S 0 dX3_sheetsWith_27 rfl ?_
          refine s_ifnullN (pc := 29) S 49 dX3_sheetsWith_29 (by decide) ?_
          refine s_iinc (pc := 49) S 1 [(5, .int (nI 3)), (6, .null), (4, .int (nI 3)), (3, .ref (A 14 p)), (2, .int (nI 0)), (0, .ref (A 9 p)), (1, .int (nI q))] dX3_sheetsWith_49 rfl (by decide) (by decide) rfl ?_
          refine s_goto (pc := 52) S 14 dX3_sheetsWith_52 (by decide) ?_
          refine s_iload (pc := 14) S 0 dX3_sheetsWith_14 rfl ?_
          refine s_iload (pc := 16) S 2 dX3_sheetsWith_16 rfl ?_
          refine s_icmp_geN (pc := 18) S 55 dX3_sheetsWith_18 (by decide) (by decide) (by decide) (fun _ => ?_) (fun h => absurd h (by decide))
          refine s_iload_n (pc := 55) S 4 dX3_sheetsWith_55 rfl rfl ?_
          exact s_iret (pc := 56) S hz hlo hr ⟨rfl, rfl, by rw [show avK C p q 0 + avK C p q 1 + avK C p q 2 = 0 by rw [show avK C p q 0 = _ from avK_q c_4, show avK C p q 1 = _ from avK_n lv_5, show avK C p q 2 = _ from avK_n lv_17]; all_goals omega]⟩ (Nat.le_of_ble_eq_true rfl) (Nat.le_of_ble_eq_true rfl) dX3_sheetsWith_56
    · refine s_iload_n (pc := 41) S 4 dX3_sheetsWith_41 rfl rfl ?_
      refine s_aload (pc := 42) S 0 dX3_sheetsWith_42 rfl ?_
      refine s_get (pc := 44) S hz (ref := "SpoolFarm$Tray") (v := .int (nI (C 12 (3 * p + 0) 1))) (cc_tray (A := A) (C := C) hp lv_1 (by omega)) i_RX4 rfl 1 (Nat.le_of_ble_eq_true rfl) (by decide +kernel) (fun _ h => h) rfl dX3_sheetsWith_44 ?_
      refine s_iaddN (pc := 47) S dX3_sheetsWith_47 ?_
      refine s_istore_n (pc := 48) S [(2, .int (nI (0 + (C 12 (3 * p + 0) 1)))), (6, .ref (A 12 (3 * p + 0))), (5, .int (nI 0)), (4, .int (nI 3)), (3, .ref (A 14 p)), (0, .ref (A 9 p)), (1, .int (nI q))] dX3_sheetsWith_48 rfl (by decide) rfl ?_
      refine s_iinc (pc := 49) S 2 [(5, .int (nI 1)), (2, .int (nI (0 + (C 12 (3 * p + 0) 1)))), (6, .ref (A 12 (3 * p + 0))), (4, .int (nI 3)), (3, .ref (A 14 p)), (0, .ref (A 9 p)), (1, .int (nI q))] dX3_sheetsWith_49 rfl (by decide) (by decide) rfl ?_
      refine s_goto (pc := 52) S 14 dX3_sheetsWith_52 (by decide) ?_
      refine s_iload (pc := 14) S 0 dX3_sheetsWith_14 rfl ?_
      refine s_iload (pc := 16) S 3 dX3_sheetsWith_16 rfl ?_
      refine s_icmp_geN (pc := 18) S 55 dX3_sheetsWith_18 (by decide) (by decide) (by decide) (fun h => absurd h (by decide)) (fun _ => ?_)
      refine s_aload_n (pc := 21) S 4 dX3_sheetsWith_21 rfl rfl ?_
      refine s_iload (pc := 22) S 0 dX3_sheetsWith_22 rfl ?_
      by_cases lv_21 : 1 < C 9 p 5
      · refine s_aald (pc := 24) S hz (v := .ref (A 12 (3 * p + 1))) (cc_trays (A := A) (C := C) hp) (by omega) (by decide) (by rw [if_pos lv_21]; rfl) dX3_sheetsWith_24 ?_
        obtain ⟨o_22, o_23⟩ := hT 1 lv_21
        refine s_astore (pc := 25) S [(6, .ref (A 12 (3 * p + 1))), (5, .int (nI 1)), (2, .int (nI (0 + (C 12 (3 * p + 0) 1)))), (4, .int (nI 3)), (3, .ref (A 14 p)), (0, .ref (A 9 p)), (1, .int (nI q))] dX3_sheetsWith_25 (by decide) rfl ?_
        refine s_aload (pc := 27) S 0 dX3_sheetsWith_27 rfl ?_
        refine s_ifnull (pc := 29) S dX3_sheetsWith_29 ?_
        refine s_aload (pc := 32) S 0 dX3_sheetsWith_32 rfl ?_
        refine s_get (pc := 34) S hz (ref := "SpoolFarm$Tray") (v := .int (nI (C 12 (3 * p + 1) 0))) (cc_tray (A := A) (C := C) hp lv_21 (by omega)) i_RX4 rfl 0 (Nat.le_of_ble_eq_true rfl) (by decide +kernel) (fun _ h => h) rfl dX3_sheetsWith_34 ?_
        refine s_iload_n (pc := 37) S 6 dX3_sheetsWith_37 rfl rfl ?_
        refine s_icmp_neN (pc := 38) S 49 dX3_sheetsWith_38 (by decide) (by omega) (by omega) (fun c_24 => ?_) (fun c_24 => ?_)
        · refine s_iinc (pc := 49) S 1 [(5, .int (nI 2)), (6, .ref (A 12 (3 * p + 1))), (2, .int (nI (0 + (C 12 (3 * p + 0) 1)))), (4, .int (nI 3)), (3, .ref (A 14 p)), (0, .ref (A 9 p)), (1, .int (nI q))] dX3_sheetsWith_49 rfl (by decide) (by decide) rfl ?_
          refine s_goto (pc := 52) S 14 dX3_sheetsWith_52 (by decide) ?_
          refine s_iload (pc := 14) S 0 dX3_sheetsWith_14 rfl ?_
          refine s_iload (pc := 16) S 3 dX3_sheetsWith_16 rfl ?_
          refine s_icmp_geN (pc := 18) S 55 dX3_sheetsWith_18 (by decide) (by decide) (by decide) (fun h => absurd h (by decide)) (fun _ => ?_)
          refine s_aload_n (pc := 21) S 4 dX3_sheetsWith_21 rfl rfl ?_
          refine s_iload (pc := 22) S 0 dX3_sheetsWith_22 rfl ?_
          by_cases lv_25 : 2 < C 9 p 5
          · refine s_aald (pc := 24) S hz (v := .ref (A 12 (3 * p + 2))) (cc_trays (A := A) (C := C) hp) (by omega) (by decide) (by rw [if_pos lv_25]; rfl) dX3_sheetsWith_24 ?_
            obtain ⟨o_26, o_27⟩ := hT 2 lv_25
            refine s_astore (pc := 25) S [(6, .ref (A 12 (3 * p + 2))), (5, .int (nI 2)), (2, .int (nI (0 + (C 12 (3 * p + 0) 1)))), (4, .int (nI 3)), (3, .ref (A 14 p)), (0, .ref (A 9 p)), (1, .int (nI q))] dX3_sheetsWith_25 (by decide) rfl ?_
            refine s_aload (pc := 27) S 0 dX3_sheetsWith_27 rfl ?_
            refine s_ifnull (pc := 29) S dX3_sheetsWith_29 ?_
            refine s_aload (pc := 32) S 0 dX3_sheetsWith_32 rfl ?_
            refine s_get (pc := 34) S hz (ref := "SpoolFarm$Tray") (v := .int (nI (C 12 (3 * p + 2) 0))) (cc_tray (A := A) (C := C) hp lv_25 (by omega)) i_RX4 rfl 0 (Nat.le_of_ble_eq_true rfl) (by decide +kernel) (fun _ h => h) rfl dX3_sheetsWith_34 ?_
            refine s_iload_n (pc := 37) S 6 dX3_sheetsWith_37 rfl rfl ?_
            refine s_icmp_neN (pc := 38) S 49 dX3_sheetsWith_38 (by decide) (by omega) (by omega) (fun c_28 => ?_) (fun c_28 => ?_)
            · refine s_iinc (pc := 49) S 1 [(5, .int (nI 3)), (6, .ref (A 12 (3 * p + 2))), (2, .int (nI (0 + (C 12 (3 * p + 0) 1)))), (4, .int (nI 3)), (3, .ref (A 14 p)), (0, .ref (A 9 p)), (1, .int (nI q))] dX3_sheetsWith_49 rfl (by decide) (by decide) rfl ?_
              refine s_goto (pc := 52) S 14 dX3_sheetsWith_52 (by decide) ?_
              refine s_iload (pc := 14) S 0 dX3_sheetsWith_14 rfl ?_
              refine s_iload (pc := 16) S 3 dX3_sheetsWith_16 rfl ?_
              refine s_icmp_geN (pc := 18) S 55 dX3_sheetsWith_18 (by decide) (by decide) (by decide) (fun _ => ?_) (fun h => absurd h (by decide))
              refine s_iload_n (pc := 55) S 2 dX3_sheetsWith_55 rfl rfl ?_
              exact s_iret (pc := 56) S hz hlo hr ⟨rfl, rfl, by rw [show avK C p q 0 + avK C p q 1 + avK C p q 2 = 0 + (C 12 (3 * p + 0) 1) by rw [show avK C p q 0 = _ from avK_y lv_1 c_4, show avK C p q 1 = _ from avK_q c_24, show avK C p q 2 = _ from avK_q c_28]; all_goals omega]⟩ (Nat.le_of_ble_eq_true rfl) (Nat.le_of_ble_eq_true rfl) dX3_sheetsWith_56
            · refine s_iload_n (pc := 41) S 2 dX3_sheetsWith_41 rfl rfl ?_
              refine s_aload (pc := 42) S 0 dX3_sheetsWith_42 rfl ?_
              refine s_get (pc := 44) S hz (ref := "SpoolFarm$Tray") (v := .int (nI (C 12 (3 * p + 2) 1))) (cc_tray (A := A) (C := C) hp lv_25 (by omega)) i_RX4 rfl 1 (Nat.le_of_ble_eq_true rfl) (by decide +kernel) (fun _ h => h) rfl dX3_sheetsWith_44 ?_
              refine s_iaddN (pc := 47) S dX3_sheetsWith_47 ?_
              refine s_istore_n (pc := 48) S [(2, .int (nI ((0 + (C 12 (3 * p + 0) 1)) + (C 12 (3 * p + 2) 1)))), (6, .ref (A 12 (3 * p + 2))), (5, .int (nI 2)), (4, .int (nI 3)), (3, .ref (A 14 p)), (0, .ref (A 9 p)), (1, .int (nI q))] dX3_sheetsWith_48 rfl (by decide) rfl ?_
              refine s_iinc (pc := 49) S 2 [(5, .int (nI 3)), (2, .int (nI ((0 + (C 12 (3 * p + 0) 1)) + (C 12 (3 * p + 2) 1)))), (6, .ref (A 12 (3 * p + 2))), (4, .int (nI 3)), (3, .ref (A 14 p)), (0, .ref (A 9 p)), (1, .int (nI q))] dX3_sheetsWith_49 rfl (by decide) (by decide) rfl ?_
              refine s_goto (pc := 52) S 14 dX3_sheetsWith_52 (by decide) ?_
              refine s_iload (pc := 14) S 0 dX3_sheetsWith_14 rfl ?_
              refine s_iload (pc := 16) S 3 dX3_sheetsWith_16 rfl ?_
              refine s_icmp_geN (pc := 18) S 55 dX3_sheetsWith_18 (by decide) (by decide) (by decide) (fun _ => ?_) (fun h => absurd h (by decide))
              refine s_iload_n (pc := 55) S 1 dX3_sheetsWith_55 rfl rfl ?_
              exact s_iret (pc := 56) S hz hlo hr ⟨rfl, rfl, by rw [show avK C p q 0 + avK C p q 1 + avK C p q 2 = (0 + (C 12 (3 * p + 0) 1)) + (C 12 (3 * p + 2) 1) by rw [show avK C p q 0 = _ from avK_y lv_1 c_4, show avK C p q 1 = _ from avK_q c_24, show avK C p q 2 = _ from avK_y lv_25 c_28]; all_goals omega]⟩ (Nat.le_of_ble_eq_true rfl) (Nat.le_of_ble_eq_true rfl) dX3_sheetsWith_56
          · refine s_aald (pc := 24) S hz (v := .null) (cc_trays (A := A) (C := C) hp) (by omega) (by decide) (by rw [if_neg lv_25]; rfl) dX3_sheetsWith_24 ?_
            refine s_astoreN (pc := 25) S [(6, .null), (5, .int (nI 2)), (2, .int (nI (0 + (C 12 (3 * p + 0) 1)))), (4, .int (nI 3)), (3, .ref (A 14 p)), (0, .ref (A 9 p)), (1, .int (nI q))] dX3_sheetsWith_25 (by decide) rfl ?_
            refine s_aloadN (pc := 27) S 0 dX3_sheetsWith_27 rfl ?_
            refine s_ifnullN (pc := 29) S 49 dX3_sheetsWith_29 (by decide) ?_
            refine s_iinc (pc := 49) S 1 [(5, .int (nI 3)), (6, .null), (2, .int (nI (0 + (C 12 (3 * p + 0) 1)))), (4, .int (nI 3)), (3, .ref (A 14 p)), (0, .ref (A 9 p)), (1, .int (nI q))] dX3_sheetsWith_49 rfl (by decide) (by decide) rfl ?_
            refine s_goto (pc := 52) S 14 dX3_sheetsWith_52 (by decide) ?_
            refine s_iload (pc := 14) S 0 dX3_sheetsWith_14 rfl ?_
            refine s_iload (pc := 16) S 3 dX3_sheetsWith_16 rfl ?_
            refine s_icmp_geN (pc := 18) S 55 dX3_sheetsWith_18 (by decide) (by decide) (by decide) (fun _ => ?_) (fun h => absurd h (by decide))
            refine s_iload_n (pc := 55) S 2 dX3_sheetsWith_55 rfl rfl ?_
            exact s_iret (pc := 56) S hz hlo hr ⟨rfl, rfl, by rw [show avK C p q 0 + avK C p q 1 + avK C p q 2 = 0 + (C 12 (3 * p + 0) 1) by rw [show avK C p q 0 = _ from avK_y lv_1 c_4, show avK C p q 1 = _ from avK_q c_24, show avK C p q 2 = _ from avK_n lv_25]; all_goals omega]⟩ (Nat.le_of_ble_eq_true rfl) (Nat.le_of_ble_eq_true rfl) dX3_sheetsWith_56
        · refine s_iload_n (pc := 41) S 2 dX3_sheetsWith_41 rfl rfl ?_
          refine s_aload (pc := 42) S 0 dX3_sheetsWith_42 rfl ?_
          refine s_get (pc := 44) S hz (ref := "SpoolFarm$Tray") (v := .int (nI (C 12 (3 * p + 1) 1))) (cc_tray (A := A) (C := C) hp lv_21 (by omega)) i_RX4 rfl 1 (Nat.le_of_ble_eq_true rfl) (by decide +kernel) (fun _ h => h) rfl dX3_sheetsWith_44 ?_
          refine s_iaddN (pc := 47) S dX3_sheetsWith_47 ?_
          refine s_istore_n (pc := 48) S [(2, .int (nI ((0 + (C 12 (3 * p + 0) 1)) + (C 12 (3 * p + 1) 1)))), (6, .ref (A 12 (3 * p + 1))), (5, .int (nI 1)), (4, .int (nI 3)), (3, .ref (A 14 p)), (0, .ref (A 9 p)), (1, .int (nI q))] dX3_sheetsWith_48 rfl (by decide) rfl ?_
          refine s_iinc (pc := 49) S 2 [(5, .int (nI 2)), (2, .int (nI ((0 + (C 12 (3 * p + 0) 1)) + (C 12 (3 * p + 1) 1)))), (6, .ref (A 12 (3 * p + 1))), (4, .int (nI 3)), (3, .ref (A 14 p)), (0, .ref (A 9 p)), (1, .int (nI q))] dX3_sheetsWith_49 rfl (by decide) (by decide) rfl ?_
          refine s_goto (pc := 52) S 14 dX3_sheetsWith_52 (by decide) ?_
          refine s_iload (pc := 14) S 0 dX3_sheetsWith_14 rfl ?_
          refine s_iload (pc := 16) S 3 dX3_sheetsWith_16 rfl ?_
          refine s_icmp_geN (pc := 18) S 55 dX3_sheetsWith_18 (by decide) (by decide) (by decide) (fun h => absurd h (by decide)) (fun _ => ?_)
          refine s_aload_n (pc := 21) S 4 dX3_sheetsWith_21 rfl rfl ?_
          refine s_iload (pc := 22) S 0 dX3_sheetsWith_22 rfl ?_
          by_cases lv_29 : 2 < C 9 p 5
          · refine s_aald (pc := 24) S hz (v := .ref (A 12 (3 * p + 2))) (cc_trays (A := A) (C := C) hp) (by omega) (by decide) (by rw [if_pos lv_29]; rfl) dX3_sheetsWith_24 ?_
            obtain ⟨o_30, o_31⟩ := hT 2 lv_29
            refine s_astore (pc := 25) S [(6, .ref (A 12 (3 * p + 2))), (5, .int (nI 2)), (2, .int (nI ((0 + (C 12 (3 * p + 0) 1)) + (C 12 (3 * p + 1) 1)))), (4, .int (nI 3)), (3, .ref (A 14 p)), (0, .ref (A 9 p)), (1, .int (nI q))] dX3_sheetsWith_25 (by decide) rfl ?_
            refine s_aload (pc := 27) S 0 dX3_sheetsWith_27 rfl ?_
            refine s_ifnull (pc := 29) S dX3_sheetsWith_29 ?_
            refine s_aload (pc := 32) S 0 dX3_sheetsWith_32 rfl ?_
            refine s_get (pc := 34) S hz (ref := "SpoolFarm$Tray") (v := .int (nI (C 12 (3 * p + 2) 0))) (cc_tray (A := A) (C := C) hp lv_29 (by omega)) i_RX4 rfl 0 (Nat.le_of_ble_eq_true rfl) (by decide +kernel) (fun _ h => h) rfl dX3_sheetsWith_34 ?_
            refine s_iload_n (pc := 37) S 6 dX3_sheetsWith_37 rfl rfl ?_
            refine s_icmp_neN (pc := 38) S 49 dX3_sheetsWith_38 (by decide) (by omega) (by omega) (fun c_32 => ?_) (fun c_32 => ?_)
            · refine s_iinc (pc := 49) S 1 [(5, .int (nI 3)), (6, .ref (A 12 (3 * p + 2))), (2, .int (nI ((0 + (C 12 (3 * p + 0) 1)) + (C 12 (3 * p + 1) 1)))), (4, .int (nI 3)), (3, .ref (A 14 p)), (0, .ref (A 9 p)), (1, .int (nI q))] dX3_sheetsWith_49 rfl (by decide) (by decide) rfl ?_
              refine s_goto (pc := 52) S 14 dX3_sheetsWith_52 (by decide) ?_
              refine s_iload (pc := 14) S 0 dX3_sheetsWith_14 rfl ?_
              refine s_iload (pc := 16) S 3 dX3_sheetsWith_16 rfl ?_
              refine s_icmp_geN (pc := 18) S 55 dX3_sheetsWith_18 (by decide) (by decide) (by decide) (fun _ => ?_) (fun h => absurd h (by decide))
              refine s_iload_n (pc := 55) S 2 dX3_sheetsWith_55 rfl rfl ?_
              exact s_iret (pc := 56) S hz hlo hr ⟨rfl, rfl, by rw [show avK C p q 0 + avK C p q 1 + avK C p q 2 = (0 + (C 12 (3 * p + 0) 1)) + (C 12 (3 * p + 1) 1) by rw [show avK C p q 0 = _ from avK_y lv_1 c_4, show avK C p q 1 = _ from avK_y lv_21 c_24, show avK C p q 2 = _ from avK_q c_32]; all_goals omega]⟩ (Nat.le_of_ble_eq_true rfl) (Nat.le_of_ble_eq_true rfl) dX3_sheetsWith_56
            · refine s_iload_n (pc := 41) S 2 dX3_sheetsWith_41 rfl rfl ?_
              refine s_aload (pc := 42) S 0 dX3_sheetsWith_42 rfl ?_
              refine s_get (pc := 44) S hz (ref := "SpoolFarm$Tray") (v := .int (nI (C 12 (3 * p + 2) 1))) (cc_tray (A := A) (C := C) hp lv_29 (by omega)) i_RX4 rfl 1 (Nat.le_of_ble_eq_true rfl) (by decide +kernel) (fun _ h => h) rfl dX3_sheetsWith_44 ?_
              refine s_iaddN (pc := 47) S dX3_sheetsWith_47 ?_
              refine s_istore_n (pc := 48) S [(2, .int (nI (((0 + (C 12 (3 * p + 0) 1)) + (C 12 (3 * p + 1) 1)) + (C 12 (3 * p + 2) 1)))), (6, .ref (A 12 (3 * p + 2))), (5, .int (nI 2)), (4, .int (nI 3)), (3, .ref (A 14 p)), (0, .ref (A 9 p)), (1, .int (nI q))] dX3_sheetsWith_48 rfl (by decide) rfl ?_
              refine s_iinc (pc := 49) S 2 [(5, .int (nI 3)), (2, .int (nI (((0 + (C 12 (3 * p + 0) 1)) + (C 12 (3 * p + 1) 1)) + (C 12 (3 * p + 2) 1)))), (6, .ref (A 12 (3 * p + 2))), (4, .int (nI 3)), (3, .ref (A 14 p)), (0, .ref (A 9 p)), (1, .int (nI q))] dX3_sheetsWith_49 rfl (by decide) (by decide) rfl ?_
              refine s_goto (pc := 52) S 14 dX3_sheetsWith_52 (by decide) ?_
              refine s_iload (pc := 14) S 0 dX3_sheetsWith_14 rfl ?_
              refine s_iload (pc := 16) S 3 dX3_sheetsWith_16 rfl ?_
              refine s_icmp_geN (pc := 18) S 55 dX3_sheetsWith_18 (by decide) (by decide) (by decide) (fun _ => ?_) (fun h => absurd h (by decide))
              refine s_iload_n (pc := 55) S 1 dX3_sheetsWith_55 rfl rfl ?_
              exact s_iret (pc := 56) S hz hlo hr ⟨rfl, rfl, by rw [show avK C p q 0 + avK C p q 1 + avK C p q 2 = ((0 + (C 12 (3 * p + 0) 1)) + (C 12 (3 * p + 1) 1)) + (C 12 (3 * p + 2) 1) by rw [show avK C p q 0 = _ from avK_y lv_1 c_4, show avK C p q 1 = _ from avK_y lv_21 c_24, show avK C p q 2 = _ from avK_y lv_29 c_32]; all_goals omega]⟩ (Nat.le_of_ble_eq_true rfl) (Nat.le_of_ble_eq_true rfl) dX3_sheetsWith_56
          · refine s_aald (pc := 24) S hz (v := .null) (cc_trays (A := A) (C := C) hp) (by omega) (by decide) (by rw [if_neg lv_29]; rfl) dX3_sheetsWith_24 ?_
            refine s_astoreN (pc := 25) S [(6, .null), (5, .int (nI 2)), (2, .int (nI ((0 + (C 12 (3 * p + 0) 1)) + (C 12 (3 * p + 1) 1)))), (4, .int (nI 3)), (3, .ref (A 14 p)), (0, .ref (A 9 p)), (1, .int (nI q))] dX3_sheetsWith_25 (by decide) rfl ?_
            refine s_aloadN (pc := 27) S 0 dX3_sheetsWith_27 rfl ?_
            refine s_ifnullN (pc := 29) S 49 dX3_sheetsWith_29 (by decide) ?_
            refine s_iinc (pc := 49) S 1 [(5, .int (nI 3)), (6, .null), (2, .int (nI ((0 + (C 12 (3 * p + 0) 1)) + (C 12 (3 * p + 1) 1)))), (4, .int (nI 3)), (3, .ref (A 14 p)), (0, .ref (A 9 p)), (1, .int (nI q))] dX3_sheetsWith_49 rfl (by decide) (by decide) rfl ?_
            refine s_goto (pc := 52) S 14 dX3_sheetsWith_52 (by decide) ?_
            refine s_iload (pc := 14) S 0 dX3_sheetsWith_14 rfl ?_
            refine s_iload (pc := 16) S 3 dX3_sheetsWith_16 rfl ?_
            refine s_icmp_geN (pc := 18) S 55 dX3_sheetsWith_18 (by decide) (by decide) (by decide) (fun _ => ?_) (fun h => absurd h (by decide))
            refine s_iload_n (pc := 55) S 2 dX3_sheetsWith_55 rfl rfl ?_
            exact s_iret (pc := 56) S hz hlo hr ⟨rfl, rfl, by rw [show avK C p q 0 + avK C p q 1 + avK C p q 2 = (0 + (C 12 (3 * p + 0) 1)) + (C 12 (3 * p + 1) 1) by rw [show avK C p q 0 = _ from avK_y lv_1 c_4, show avK C p q 1 = _ from avK_y lv_21 c_24, show avK C p q 2 = _ from avK_n lv_29]; all_goals omega]⟩ (Nat.le_of_ble_eq_true rfl) (Nat.le_of_ble_eq_true rfl) dX3_sheetsWith_56
      · refine s_aald (pc := 24) S hz (v := .null) (cc_trays (A := A) (C := C) hp) (by omega) (by decide) (by rw [if_neg lv_21]; rfl) dX3_sheetsWith_24 ?_
        refine s_astoreN (pc := 25) S [(6, .null), (5, .int (nI 1)), (2, .int (nI (0 + (C 12 (3 * p + 0) 1)))), (4, .int (nI 3)), (3, .ref (A 14 p)), (0, .ref (A 9 p)), (1, .int (nI q))] dX3_sheetsWith_25 (by decide) rfl ?_
        refine s_aloadN (pc := 27) S 0 dX3_sheetsWith_27 rfl ?_
        refine s_ifnullN (pc := 29) S 49 dX3_sheetsWith_29 (by decide) ?_
        refine s_iinc (pc := 49) S 1 [(5, .int (nI 2)), (6, .null), (2, .int (nI (0 + (C 12 (3 * p + 0) 1)))), (4, .int (nI 3)), (3, .ref (A 14 p)), (0, .ref (A 9 p)), (1, .int (nI q))] dX3_sheetsWith_49 rfl (by decide) (by decide) rfl ?_
        refine s_goto (pc := 52) S 14 dX3_sheetsWith_52 (by decide) ?_
        refine s_iload (pc := 14) S 0 dX3_sheetsWith_14 rfl ?_
        refine s_iload (pc := 16) S 3 dX3_sheetsWith_16 rfl ?_
        refine s_icmp_geN (pc := 18) S 55 dX3_sheetsWith_18 (by decide) (by decide) (by decide) (fun h => absurd h (by decide)) (fun _ => ?_)
        refine s_aload_n (pc := 21) S 4 dX3_sheetsWith_21 rfl rfl ?_
        refine s_iload (pc := 22) S 0 dX3_sheetsWith_22 rfl ?_
        by_cases lv_33 : 2 < C 9 p 5
        · refine s_aald (pc := 24) S hz (v := .ref (A 12 (3 * p + 2))) (cc_trays (A := A) (C := C) hp) (by omega) (by decide) (by rw [if_pos lv_33]; rfl) dX3_sheetsWith_24 ?_
          obtain ⟨o_34, o_35⟩ := hT 2 lv_33
          refine s_astore (pc := 25) S [(6, .ref (A 12 (3 * p + 2))), (5, .int (nI 2)), (2, .int (nI (0 + (C 12 (3 * p + 0) 1)))), (4, .int (nI 3)), (3, .ref (A 14 p)), (0, .ref (A 9 p)), (1, .int (nI q))] dX3_sheetsWith_25 (by decide) rfl ?_
          refine s_aload (pc := 27) S 0 dX3_sheetsWith_27 rfl ?_
          refine s_ifnull (pc := 29) S dX3_sheetsWith_29 ?_
          refine s_aload (pc := 32) S 0 dX3_sheetsWith_32 rfl ?_
          refine s_get (pc := 34) S hz (ref := "SpoolFarm$Tray") (v := .int (nI (C 12 (3 * p + 2) 0))) (cc_tray (A := A) (C := C) hp lv_33 (by omega)) i_RX4 rfl 0 (Nat.le_of_ble_eq_true rfl) (by decide +kernel) (fun _ h => h) rfl dX3_sheetsWith_34 ?_
          refine s_iload_n (pc := 37) S 6 dX3_sheetsWith_37 rfl rfl ?_
          refine s_icmp_neN (pc := 38) S 49 dX3_sheetsWith_38 (by decide) (by omega) (by omega) (fun c_36 => ?_) (fun c_36 => ?_)
          · refine s_iinc (pc := 49) S 1 [(5, .int (nI 3)), (6, .ref (A 12 (3 * p + 2))), (2, .int (nI (0 + (C 12 (3 * p + 0) 1)))), (4, .int (nI 3)), (3, .ref (A 14 p)), (0, .ref (A 9 p)), (1, .int (nI q))] dX3_sheetsWith_49 rfl (by decide) (by decide) rfl ?_
            refine s_goto (pc := 52) S 14 dX3_sheetsWith_52 (by decide) ?_
            refine s_iload (pc := 14) S 0 dX3_sheetsWith_14 rfl ?_
            refine s_iload (pc := 16) S 3 dX3_sheetsWith_16 rfl ?_
            refine s_icmp_geN (pc := 18) S 55 dX3_sheetsWith_18 (by decide) (by decide) (by decide) (fun _ => ?_) (fun h => absurd h (by decide))
            refine s_iload_n (pc := 55) S 2 dX3_sheetsWith_55 rfl rfl ?_
            exact s_iret (pc := 56) S hz hlo hr ⟨rfl, rfl, by rw [show avK C p q 0 + avK C p q 1 + avK C p q 2 = 0 + (C 12 (3 * p + 0) 1) by rw [show avK C p q 0 = _ from avK_y lv_1 c_4, show avK C p q 1 = _ from avK_n lv_21, show avK C p q 2 = _ from avK_q c_36]; all_goals omega]⟩ (Nat.le_of_ble_eq_true rfl) (Nat.le_of_ble_eq_true rfl) dX3_sheetsWith_56
          · refine s_iload_n (pc := 41) S 2 dX3_sheetsWith_41 rfl rfl ?_
            refine s_aload (pc := 42) S 0 dX3_sheetsWith_42 rfl ?_
            refine s_get (pc := 44) S hz (ref := "SpoolFarm$Tray") (v := .int (nI (C 12 (3 * p + 2) 1))) (cc_tray (A := A) (C := C) hp lv_33 (by omega)) i_RX4 rfl 1 (Nat.le_of_ble_eq_true rfl) (by decide +kernel) (fun _ h => h) rfl dX3_sheetsWith_44 ?_
            refine s_iaddN (pc := 47) S dX3_sheetsWith_47 ?_
            refine s_istore_n (pc := 48) S [(2, .int (nI ((0 + (C 12 (3 * p + 0) 1)) + (C 12 (3 * p + 2) 1)))), (6, .ref (A 12 (3 * p + 2))), (5, .int (nI 2)), (4, .int (nI 3)), (3, .ref (A 14 p)), (0, .ref (A 9 p)), (1, .int (nI q))] dX3_sheetsWith_48 rfl (by decide) rfl ?_
            refine s_iinc (pc := 49) S 2 [(5, .int (nI 3)), (2, .int (nI ((0 + (C 12 (3 * p + 0) 1)) + (C 12 (3 * p + 2) 1)))), (6, .ref (A 12 (3 * p + 2))), (4, .int (nI 3)), (3, .ref (A 14 p)), (0, .ref (A 9 p)), (1, .int (nI q))] dX3_sheetsWith_49 rfl (by decide) (by decide) rfl ?_
            refine s_goto (pc := 52) S 14 dX3_sheetsWith_52 (by decide) ?_
            refine s_iload (pc := 14) S 0 dX3_sheetsWith_14 rfl ?_
            refine s_iload (pc := 16) S 3 dX3_sheetsWith_16 rfl ?_
            refine s_icmp_geN (pc := 18) S 55 dX3_sheetsWith_18 (by decide) (by decide) (by decide) (fun _ => ?_) (fun h => absurd h (by decide))
            refine s_iload_n (pc := 55) S 1 dX3_sheetsWith_55 rfl rfl ?_
            exact s_iret (pc := 56) S hz hlo hr ⟨rfl, rfl, by rw [show avK C p q 0 + avK C p q 1 + avK C p q 2 = (0 + (C 12 (3 * p + 0) 1)) + (C 12 (3 * p + 2) 1) by rw [show avK C p q 0 = _ from avK_y lv_1 c_4, show avK C p q 1 = _ from avK_n lv_21, show avK C p q 2 = _ from avK_y lv_33 c_36]; all_goals omega]⟩ (Nat.le_of_ble_eq_true rfl) (Nat.le_of_ble_eq_true rfl) dX3_sheetsWith_56
        · refine s_aald (pc := 24) S hz (v := .null) (cc_trays (A := A) (C := C) hp) (by omega) (by decide) (by rw [if_neg lv_33]; rfl) dX3_sheetsWith_24 ?_
          refine s_astoreN (pc := 25) S [(6, .null), (5, .int (nI 2)), (2, .int (nI (0 + (C 12 (3 * p + 0) 1)))), (4, .int (nI 3)), (3, .ref (A 14 p)), (0, .ref (A 9 p)), (1, .int (nI q))] dX3_sheetsWith_25 (by decide) rfl ?_
          refine s_aloadN (pc := 27) S 0 dX3_sheetsWith_27 rfl ?_
          refine s_ifnullN (pc := 29) S 49 dX3_sheetsWith_29 (by decide) ?_
          refine s_iinc (pc := 49) S 1 [(5, .int (nI 3)), (6, .null), (2, .int (nI (0 + (C 12 (3 * p + 0) 1)))), (4, .int (nI 3)), (3, .ref (A 14 p)), (0, .ref (A 9 p)), (1, .int (nI q))] dX3_sheetsWith_49 rfl (by decide) (by decide) rfl ?_
          refine s_goto (pc := 52) S 14 dX3_sheetsWith_52 (by decide) ?_
          refine s_iload (pc := 14) S 0 dX3_sheetsWith_14 rfl ?_
          refine s_iload (pc := 16) S 3 dX3_sheetsWith_16 rfl ?_
          refine s_icmp_geN (pc := 18) S 55 dX3_sheetsWith_18 (by decide) (by decide) (by decide) (fun _ => ?_) (fun h => absurd h (by decide))
          refine s_iload_n (pc := 55) S 2 dX3_sheetsWith_55 rfl rfl ?_
          exact s_iret (pc := 56) S hz hlo hr ⟨rfl, rfl, by rw [show avK C p q 0 + avK C p q 1 + avK C p q 2 = 0 + (C 12 (3 * p + 0) 1) by rw [show avK C p q 0 = _ from avK_y lv_1 c_4, show avK C p q 1 = _ from avK_n lv_21, show avK C p q 2 = _ from avK_n lv_33]; all_goals omega]⟩ (Nat.le_of_ble_eq_true rfl) (Nat.le_of_ble_eq_true rfl) dX3_sheetsWith_56
  · refine s_aald (pc := 24) S hz (v := .null) (cc_trays (A := A) (C := C) hp) (by omega) (by decide) (by rw [if_neg lv_1]; rfl) dX3_sheetsWith_24 ?_
    refine s_astoreN (pc := 25) S [(6, .null), (5, .int (nI 0)), (4, .int (nI 3)), (3, .ref (A 14 p)), (2, .int (nI 0)), (0, .ref (A 9 p)), (1, .int (nI q))] dX3_sheetsWith_25 (by decide) rfl ?_
    refine s_aloadN (pc := 27) S 0 dX3_sheetsWith_27 rfl ?_
    refine s_ifnullN (pc := 29) S 49 dX3_sheetsWith_29 (by decide) ?_
    refine s_iinc (pc := 49) S 1 [(5, .int (nI 1)), (6, .null), (4, .int (nI 3)), (3, .ref (A 14 p)), (2, .int (nI 0)), (0, .ref (A 9 p)), (1, .int (nI q))] dX3_sheetsWith_49 rfl (by decide) (by decide) rfl ?_
    refine s_goto (pc := 52) S 14 dX3_sheetsWith_52 (by decide) ?_
    refine s_iload (pc := 14) S 0 dX3_sheetsWith_14 rfl ?_
    refine s_iload (pc := 16) S 2 dX3_sheetsWith_16 rfl ?_
    refine s_icmp_geN (pc := 18) S 55 dX3_sheetsWith_18 (by decide) (by decide) (by decide) (fun h => absurd h (by decide)) (fun _ => ?_)
    refine s_aload_n (pc := 21) S 3 dX3_sheetsWith_21 rfl rfl ?_
    refine s_iload (pc := 22) S 0 dX3_sheetsWith_22 rfl ?_
    by_cases lv_37 : 1 < C 9 p 5
    · refine s_aald (pc := 24) S hz (v := .ref (A 12 (3 * p + 1))) (cc_trays (A := A) (C := C) hp) (by omega) (by decide) (by rw [if_pos lv_37]; rfl) dX3_sheetsWith_24 ?_
      obtain ⟨o_38, o_39⟩ := hT 1 lv_37
      refine s_astore (pc := 25) S [(6, .ref (A 12 (3 * p + 1))), (5, .int (nI 1)), (4, .int (nI 3)), (3, .ref (A 14 p)), (2, .int (nI 0)), (0, .ref (A 9 p)), (1, .int (nI q))] dX3_sheetsWith_25 (by decide) rfl ?_
      refine s_aload (pc := 27) S 0 dX3_sheetsWith_27 rfl ?_
      refine s_ifnull (pc := 29) S dX3_sheetsWith_29 ?_
      refine s_aload (pc := 32) S 0 dX3_sheetsWith_32 rfl ?_
      refine s_get (pc := 34) S hz (ref := "SpoolFarm$Tray") (v := .int (nI (C 12 (3 * p + 1) 0))) (cc_tray (A := A) (C := C) hp lv_37 (by omega)) i_RX4 rfl 0 (Nat.le_of_ble_eq_true rfl) (by decide +kernel) (fun _ h => h) rfl dX3_sheetsWith_34 ?_
      refine s_iload_n (pc := 37) S 6 dX3_sheetsWith_37 rfl rfl ?_
      refine s_icmp_neN (pc := 38) S 49 dX3_sheetsWith_38 (by decide) (by omega) (by omega) (fun c_40 => ?_) (fun c_40 => ?_)
      · refine s_iinc (pc := 49) S 1 [(5, .int (nI 2)), (6, .ref (A 12 (3 * p + 1))), (4, .int (nI 3)), (3, .ref (A 14 p)), (2, .int (nI 0)), (0, .ref (A 9 p)), (1, .int (nI q))] dX3_sheetsWith_49 rfl (by decide) (by decide) rfl ?_
        refine s_goto (pc := 52) S 14 dX3_sheetsWith_52 (by decide) ?_
        refine s_iload (pc := 14) S 0 dX3_sheetsWith_14 rfl ?_
        refine s_iload (pc := 16) S 2 dX3_sheetsWith_16 rfl ?_
        refine s_icmp_geN (pc := 18) S 55 dX3_sheetsWith_18 (by decide) (by decide) (by decide) (fun h => absurd h (by decide)) (fun _ => ?_)
        refine s_aload_n (pc := 21) S 3 dX3_sheetsWith_21 rfl rfl ?_
        refine s_iload (pc := 22) S 0 dX3_sheetsWith_22 rfl ?_
        by_cases lv_41 : 2 < C 9 p 5
        · refine s_aald (pc := 24) S hz (v := .ref (A 12 (3 * p + 2))) (cc_trays (A := A) (C := C) hp) (by omega) (by decide) (by rw [if_pos lv_41]; rfl) dX3_sheetsWith_24 ?_
          obtain ⟨o_42, o_43⟩ := hT 2 lv_41
          refine s_astore (pc := 25) S [(6, .ref (A 12 (3 * p + 2))), (5, .int (nI 2)), (4, .int (nI 3)), (3, .ref (A 14 p)), (2, .int (nI 0)), (0, .ref (A 9 p)), (1, .int (nI q))] dX3_sheetsWith_25 (by decide) rfl ?_
          refine s_aload (pc := 27) S 0 dX3_sheetsWith_27 rfl ?_
          refine s_ifnull (pc := 29) S dX3_sheetsWith_29 ?_
          refine s_aload (pc := 32) S 0 dX3_sheetsWith_32 rfl ?_
          refine s_get (pc := 34) S hz (ref := "SpoolFarm$Tray") (v := .int (nI (C 12 (3 * p + 2) 0))) (cc_tray (A := A) (C := C) hp lv_41 (by omega)) i_RX4 rfl 0 (Nat.le_of_ble_eq_true rfl) (by decide +kernel) (fun _ h => h) rfl dX3_sheetsWith_34 ?_
          refine s_iload_n (pc := 37) S 6 dX3_sheetsWith_37 rfl rfl ?_
          refine s_icmp_neN (pc := 38) S 49 dX3_sheetsWith_38 (by decide) (by omega) (by omega) (fun c_44 => ?_) (fun c_44 => ?_)
          · refine s_iinc (pc := 49) S 1 [(5, .int (nI 3)), (6, .ref (A 12 (3 * p + 2))), (4, .int (nI 3)), (3, .ref (A 14 p)), (2, .int (nI 0)), (0, .ref (A 9 p)), (1, .int (nI q))] dX3_sheetsWith_49 rfl (by decide) (by decide) rfl ?_
            refine s_goto (pc := 52) S 14 dX3_sheetsWith_52 (by decide) ?_
            refine s_iload (pc := 14) S 0 dX3_sheetsWith_14 rfl ?_
            refine s_iload (pc := 16) S 2 dX3_sheetsWith_16 rfl ?_
            refine s_icmp_geN (pc := 18) S 55 dX3_sheetsWith_18 (by decide) (by decide) (by decide) (fun _ => ?_) (fun h => absurd h (by decide))
            refine s_iload_n (pc := 55) S 4 dX3_sheetsWith_55 rfl rfl ?_
            exact s_iret (pc := 56) S hz hlo hr ⟨rfl, rfl, by rw [show avK C p q 0 + avK C p q 1 + avK C p q 2 = 0 by rw [show avK C p q 0 = _ from avK_n lv_1, show avK C p q 1 = _ from avK_q c_40, show avK C p q 2 = _ from avK_q c_44]; all_goals omega]⟩ (Nat.le_of_ble_eq_true rfl) (Nat.le_of_ble_eq_true rfl) dX3_sheetsWith_56
          · refine s_iload_n (pc := 41) S 4 dX3_sheetsWith_41 rfl rfl ?_
            refine s_aload (pc := 42) S 0 dX3_sheetsWith_42 rfl ?_
            refine s_get (pc := 44) S hz (ref := "SpoolFarm$Tray") (v := .int (nI (C 12 (3 * p + 2) 1))) (cc_tray (A := A) (C := C) hp lv_41 (by omega)) i_RX4 rfl 1 (Nat.le_of_ble_eq_true rfl) (by decide +kernel) (fun _ h => h) rfl dX3_sheetsWith_44 ?_
            refine s_iaddN (pc := 47) S dX3_sheetsWith_47 ?_
            refine s_istore_n (pc := 48) S [(2, .int (nI (0 + (C 12 (3 * p + 2) 1)))), (6, .ref (A 12 (3 * p + 2))), (5, .int (nI 2)), (4, .int (nI 3)), (3, .ref (A 14 p)), (0, .ref (A 9 p)), (1, .int (nI q))] dX3_sheetsWith_48 rfl (by decide) rfl ?_
            refine s_iinc (pc := 49) S 2 [(5, .int (nI 3)), (2, .int (nI (0 + (C 12 (3 * p + 2) 1)))), (6, .ref (A 12 (3 * p + 2))), (4, .int (nI 3)), (3, .ref (A 14 p)), (0, .ref (A 9 p)), (1, .int (nI q))] dX3_sheetsWith_49 rfl (by decide) (by decide) rfl ?_
            refine s_goto (pc := 52) S 14 dX3_sheetsWith_52 (by decide) ?_
            refine s_iload (pc := 14) S 0 dX3_sheetsWith_14 rfl ?_
            refine s_iload (pc := 16) S 3 dX3_sheetsWith_16 rfl ?_
            refine s_icmp_geN (pc := 18) S 55 dX3_sheetsWith_18 (by decide) (by decide) (by decide) (fun _ => ?_) (fun h => absurd h (by decide))
            refine s_iload_n (pc := 55) S 1 dX3_sheetsWith_55 rfl rfl ?_
            exact s_iret (pc := 56) S hz hlo hr ⟨rfl, rfl, by rw [show avK C p q 0 + avK C p q 1 + avK C p q 2 = 0 + (C 12 (3 * p + 2) 1) by rw [show avK C p q 0 = _ from avK_n lv_1, show avK C p q 1 = _ from avK_q c_40, show avK C p q 2 = _ from avK_y lv_41 c_44]; all_goals omega]⟩ (Nat.le_of_ble_eq_true rfl) (Nat.le_of_ble_eq_true rfl) dX3_sheetsWith_56
        · refine s_aald (pc := 24) S hz (v := .null) (cc_trays (A := A) (C := C) hp) (by omega) (by decide) (by rw [if_neg lv_41]; rfl) dX3_sheetsWith_24 ?_
          refine s_astoreN (pc := 25) S [(6, .null), (5, .int (nI 2)), (4, .int (nI 3)), (3, .ref (A 14 p)), (2, .int (nI 0)), (0, .ref (A 9 p)), (1, .int (nI q))] dX3_sheetsWith_25 (by decide) rfl ?_
          refine s_aloadN (pc := 27) S 0 dX3_sheetsWith_27 rfl ?_
          refine s_ifnullN (pc := 29) S 49 dX3_sheetsWith_29 (by decide) ?_
          refine s_iinc (pc := 49) S 1 [(5, .int (nI 3)), (6, .null), (4, .int (nI 3)), (3, .ref (A 14 p)), (2, .int (nI 0)), (0, .ref (A 9 p)), (1, .int (nI q))] dX3_sheetsWith_49 rfl (by decide) (by decide) rfl ?_
          refine s_goto (pc := 52) S 14 dX3_sheetsWith_52 (by decide) ?_
          refine s_iload (pc := 14) S 0 dX3_sheetsWith_14 rfl ?_
          refine s_iload (pc := 16) S 2 dX3_sheetsWith_16 rfl ?_
          refine s_icmp_geN (pc := 18) S 55 dX3_sheetsWith_18 (by decide) (by decide) (by decide) (fun _ => ?_) (fun h => absurd h (by decide))
          refine s_iload_n (pc := 55) S 4 dX3_sheetsWith_55 rfl rfl ?_
          exact s_iret (pc := 56) S hz hlo hr ⟨rfl, rfl, by rw [show avK C p q 0 + avK C p q 1 + avK C p q 2 = 0 by rw [show avK C p q 0 = _ from avK_n lv_1, show avK C p q 1 = _ from avK_q c_40, show avK C p q 2 = _ from avK_n lv_41]; all_goals omega]⟩ (Nat.le_of_ble_eq_true rfl) (Nat.le_of_ble_eq_true rfl) dX3_sheetsWith_56
      · refine s_iload_n (pc := 41) S 4 dX3_sheetsWith_41 rfl rfl ?_
        refine s_aload (pc := 42) S 0 dX3_sheetsWith_42 rfl ?_
        refine s_get (pc := 44) S hz (ref := "SpoolFarm$Tray") (v := .int (nI (C 12 (3 * p + 1) 1))) (cc_tray (A := A) (C := C) hp lv_37 (by omega)) i_RX4 rfl 1 (Nat.le_of_ble_eq_true rfl) (by decide +kernel) (fun _ h => h) rfl dX3_sheetsWith_44 ?_
        refine s_iaddN (pc := 47) S dX3_sheetsWith_47 ?_
        refine s_istore_n (pc := 48) S [(2, .int (nI (0 + (C 12 (3 * p + 1) 1)))), (6, .ref (A 12 (3 * p + 1))), (5, .int (nI 1)), (4, .int (nI 3)), (3, .ref (A 14 p)), (0, .ref (A 9 p)), (1, .int (nI q))] dX3_sheetsWith_48 rfl (by decide) rfl ?_
        refine s_iinc (pc := 49) S 2 [(5, .int (nI 2)), (2, .int (nI (0 + (C 12 (3 * p + 1) 1)))), (6, .ref (A 12 (3 * p + 1))), (4, .int (nI 3)), (3, .ref (A 14 p)), (0, .ref (A 9 p)), (1, .int (nI q))] dX3_sheetsWith_49 rfl (by decide) (by decide) rfl ?_
        refine s_goto (pc := 52) S 14 dX3_sheetsWith_52 (by decide) ?_
        refine s_iload (pc := 14) S 0 dX3_sheetsWith_14 rfl ?_
        refine s_iload (pc := 16) S 3 dX3_sheetsWith_16 rfl ?_
        refine s_icmp_geN (pc := 18) S 55 dX3_sheetsWith_18 (by decide) (by decide) (by decide) (fun h => absurd h (by decide)) (fun _ => ?_)
        refine s_aload_n (pc := 21) S 4 dX3_sheetsWith_21 rfl rfl ?_
        refine s_iload (pc := 22) S 0 dX3_sheetsWith_22 rfl ?_
        by_cases lv_45 : 2 < C 9 p 5
        · refine s_aald (pc := 24) S hz (v := .ref (A 12 (3 * p + 2))) (cc_trays (A := A) (C := C) hp) (by omega) (by decide) (by rw [if_pos lv_45]; rfl) dX3_sheetsWith_24 ?_
          obtain ⟨o_46, o_47⟩ := hT 2 lv_45
          refine s_astore (pc := 25) S [(6, .ref (A 12 (3 * p + 2))), (5, .int (nI 2)), (2, .int (nI (0 + (C 12 (3 * p + 1) 1)))), (4, .int (nI 3)), (3, .ref (A 14 p)), (0, .ref (A 9 p)), (1, .int (nI q))] dX3_sheetsWith_25 (by decide) rfl ?_
          refine s_aload (pc := 27) S 0 dX3_sheetsWith_27 rfl ?_
          refine s_ifnull (pc := 29) S dX3_sheetsWith_29 ?_
          refine s_aload (pc := 32) S 0 dX3_sheetsWith_32 rfl ?_
          refine s_get (pc := 34) S hz (ref := "SpoolFarm$Tray") (v := .int (nI (C 12 (3 * p + 2) 0))) (cc_tray (A := A) (C := C) hp lv_45 (by omega)) i_RX4 rfl 0 (Nat.le_of_ble_eq_true rfl) (by decide +kernel) (fun _ h => h) rfl dX3_sheetsWith_34 ?_
          refine s_iload_n (pc := 37) S 6 dX3_sheetsWith_37 rfl rfl ?_
          refine s_icmp_neN (pc := 38) S 49 dX3_sheetsWith_38 (by decide) (by omega) (by omega) (fun c_48 => ?_) (fun c_48 => ?_)
          · refine s_iinc (pc := 49) S 1 [(5, .int (nI 3)), (6, .ref (A 12 (3 * p + 2))), (2, .int (nI (0 + (C 12 (3 * p + 1) 1)))), (4, .int (nI 3)), (3, .ref (A 14 p)), (0, .ref (A 9 p)), (1, .int (nI q))] dX3_sheetsWith_49 rfl (by decide) (by decide) rfl ?_
            refine s_goto (pc := 52) S 14 dX3_sheetsWith_52 (by decide) ?_
            refine s_iload (pc := 14) S 0 dX3_sheetsWith_14 rfl ?_
            refine s_iload (pc := 16) S 3 dX3_sheetsWith_16 rfl ?_
            refine s_icmp_geN (pc := 18) S 55 dX3_sheetsWith_18 (by decide) (by decide) (by decide) (fun _ => ?_) (fun h => absurd h (by decide))
            refine s_iload_n (pc := 55) S 2 dX3_sheetsWith_55 rfl rfl ?_
            exact s_iret (pc := 56) S hz hlo hr ⟨rfl, rfl, by rw [show avK C p q 0 + avK C p q 1 + avK C p q 2 = 0 + (C 12 (3 * p + 1) 1) by rw [show avK C p q 0 = _ from avK_n lv_1, show avK C p q 1 = _ from avK_y lv_37 c_40, show avK C p q 2 = _ from avK_q c_48]; all_goals omega]⟩ (Nat.le_of_ble_eq_true rfl) (Nat.le_of_ble_eq_true rfl) dX3_sheetsWith_56
          · refine s_iload_n (pc := 41) S 2 dX3_sheetsWith_41 rfl rfl ?_
            refine s_aload (pc := 42) S 0 dX3_sheetsWith_42 rfl ?_
            refine s_get (pc := 44) S hz (ref := "SpoolFarm$Tray") (v := .int (nI (C 12 (3 * p + 2) 1))) (cc_tray (A := A) (C := C) hp lv_45 (by omega)) i_RX4 rfl 1 (Nat.le_of_ble_eq_true rfl) (by decide +kernel) (fun _ h => h) rfl dX3_sheetsWith_44 ?_
            refine s_iaddN (pc := 47) S dX3_sheetsWith_47 ?_
            refine s_istore_n (pc := 48) S [(2, .int (nI ((0 + (C 12 (3 * p + 1) 1)) + (C 12 (3 * p + 2) 1)))), (6, .ref (A 12 (3 * p + 2))), (5, .int (nI 2)), (4, .int (nI 3)), (3, .ref (A 14 p)), (0, .ref (A 9 p)), (1, .int (nI q))] dX3_sheetsWith_48 rfl (by decide) rfl ?_
            refine s_iinc (pc := 49) S 2 [(5, .int (nI 3)), (2, .int (nI ((0 + (C 12 (3 * p + 1) 1)) + (C 12 (3 * p + 2) 1)))), (6, .ref (A 12 (3 * p + 2))), (4, .int (nI 3)), (3, .ref (A 14 p)), (0, .ref (A 9 p)), (1, .int (nI q))] dX3_sheetsWith_49 rfl (by decide) (by decide) rfl ?_
            refine s_goto (pc := 52) S 14 dX3_sheetsWith_52 (by decide) ?_
            refine s_iload (pc := 14) S 0 dX3_sheetsWith_14 rfl ?_
            refine s_iload (pc := 16) S 3 dX3_sheetsWith_16 rfl ?_
            refine s_icmp_geN (pc := 18) S 55 dX3_sheetsWith_18 (by decide) (by decide) (by decide) (fun _ => ?_) (fun h => absurd h (by decide))
            refine s_iload_n (pc := 55) S 1 dX3_sheetsWith_55 rfl rfl ?_
            exact s_iret (pc := 56) S hz hlo hr ⟨rfl, rfl, by rw [show avK C p q 0 + avK C p q 1 + avK C p q 2 = (0 + (C 12 (3 * p + 1) 1)) + (C 12 (3 * p + 2) 1) by rw [show avK C p q 0 = _ from avK_n lv_1, show avK C p q 1 = _ from avK_y lv_37 c_40, show avK C p q 2 = _ from avK_y lv_45 c_48]; all_goals omega]⟩ (Nat.le_of_ble_eq_true rfl) (Nat.le_of_ble_eq_true rfl) dX3_sheetsWith_56
        · refine s_aald (pc := 24) S hz (v := .null) (cc_trays (A := A) (C := C) hp) (by omega) (by decide) (by rw [if_neg lv_45]; rfl) dX3_sheetsWith_24 ?_
          refine s_astoreN (pc := 25) S [(6, .null), (5, .int (nI 2)), (2, .int (nI (0 + (C 12 (3 * p + 1) 1)))), (4, .int (nI 3)), (3, .ref (A 14 p)), (0, .ref (A 9 p)), (1, .int (nI q))] dX3_sheetsWith_25 (by decide) rfl ?_
          refine s_aloadN (pc := 27) S 0 dX3_sheetsWith_27 rfl ?_
          refine s_ifnullN (pc := 29) S 49 dX3_sheetsWith_29 (by decide) ?_
          refine s_iinc (pc := 49) S 1 [(5, .int (nI 3)), (6, .null), (2, .int (nI (0 + (C 12 (3 * p + 1) 1)))), (4, .int (nI 3)), (3, .ref (A 14 p)), (0, .ref (A 9 p)), (1, .int (nI q))] dX3_sheetsWith_49 rfl (by decide) (by decide) rfl ?_
          refine s_goto (pc := 52) S 14 dX3_sheetsWith_52 (by decide) ?_
          refine s_iload (pc := 14) S 0 dX3_sheetsWith_14 rfl ?_
          refine s_iload (pc := 16) S 3 dX3_sheetsWith_16 rfl ?_
          refine s_icmp_geN (pc := 18) S 55 dX3_sheetsWith_18 (by decide) (by decide) (by decide) (fun _ => ?_) (fun h => absurd h (by decide))
          refine s_iload_n (pc := 55) S 2 dX3_sheetsWith_55 rfl rfl ?_
          exact s_iret (pc := 56) S hz hlo hr ⟨rfl, rfl, by rw [show avK C p q 0 + avK C p q 1 + avK C p q 2 = 0 + (C 12 (3 * p + 1) 1) by rw [show avK C p q 0 = _ from avK_n lv_1, show avK C p q 1 = _ from avK_y lv_37 c_40, show avK C p q 2 = _ from avK_n lv_45]; all_goals omega]⟩ (Nat.le_of_ble_eq_true rfl) (Nat.le_of_ble_eq_true rfl) dX3_sheetsWith_56
    · refine s_aald (pc := 24) S hz (v := .null) (cc_trays (A := A) (C := C) hp) (by omega) (by decide) (by rw [if_neg lv_37]; rfl) dX3_sheetsWith_24 ?_
      refine s_astoreN (pc := 25) S [(6, .null), (5, .int (nI 1)), (4, .int (nI 3)), (3, .ref (A 14 p)), (2, .int (nI 0)), (0, .ref (A 9 p)), (1, .int (nI q))] dX3_sheetsWith_25 (by decide) rfl ?_
      refine s_aloadN (pc := 27) S 0 dX3_sheetsWith_27 rfl ?_
      refine s_ifnullN (pc := 29) S 49 dX3_sheetsWith_29 (by decide) ?_
      refine s_iinc (pc := 49) S 1 [(5, .int (nI 2)), (6, .null), (4, .int (nI 3)), (3, .ref (A 14 p)), (2, .int (nI 0)), (0, .ref (A 9 p)), (1, .int (nI q))] dX3_sheetsWith_49 rfl (by decide) (by decide) rfl ?_
      refine s_goto (pc := 52) S 14 dX3_sheetsWith_52 (by decide) ?_
      refine s_iload (pc := 14) S 0 dX3_sheetsWith_14 rfl ?_
      refine s_iload (pc := 16) S 2 dX3_sheetsWith_16 rfl ?_
      refine s_icmp_geN (pc := 18) S 55 dX3_sheetsWith_18 (by decide) (by decide) (by decide) (fun h => absurd h (by decide)) (fun _ => ?_)
      refine s_aload_n (pc := 21) S 3 dX3_sheetsWith_21 rfl rfl ?_
      refine s_iload (pc := 22) S 0 dX3_sheetsWith_22 rfl ?_
      by_cases lv_49 : 2 < C 9 p 5
      · refine s_aald (pc := 24) S hz (v := .ref (A 12 (3 * p + 2))) (cc_trays (A := A) (C := C) hp) (by omega) (by decide) (by rw [if_pos lv_49]; rfl) dX3_sheetsWith_24 ?_
        obtain ⟨o_50, o_51⟩ := hT 2 lv_49
        refine s_astore (pc := 25) S [(6, .ref (A 12 (3 * p + 2))), (5, .int (nI 2)), (4, .int (nI 3)), (3, .ref (A 14 p)), (2, .int (nI 0)), (0, .ref (A 9 p)), (1, .int (nI q))] dX3_sheetsWith_25 (by decide) rfl ?_
        refine s_aload (pc := 27) S 0 dX3_sheetsWith_27 rfl ?_
        refine s_ifnull (pc := 29) S dX3_sheetsWith_29 ?_
        refine s_aload (pc := 32) S 0 dX3_sheetsWith_32 rfl ?_
        refine s_get (pc := 34) S hz (ref := "SpoolFarm$Tray") (v := .int (nI (C 12 (3 * p + 2) 0))) (cc_tray (A := A) (C := C) hp lv_49 (by omega)) i_RX4 rfl 0 (Nat.le_of_ble_eq_true rfl) (by decide +kernel) (fun _ h => h) rfl dX3_sheetsWith_34 ?_
        refine s_iload_n (pc := 37) S 6 dX3_sheetsWith_37 rfl rfl ?_
        refine s_icmp_neN (pc := 38) S 49 dX3_sheetsWith_38 (by decide) (by omega) (by omega) (fun c_52 => ?_) (fun c_52 => ?_)
        · refine s_iinc (pc := 49) S 1 [(5, .int (nI 3)), (6, .ref (A 12 (3 * p + 2))), (4, .int (nI 3)), (3, .ref (A 14 p)), (2, .int (nI 0)), (0, .ref (A 9 p)), (1, .int (nI q))] dX3_sheetsWith_49 rfl (by decide) (by decide) rfl ?_
          refine s_goto (pc := 52) S 14 dX3_sheetsWith_52 (by decide) ?_
          refine s_iload (pc := 14) S 0 dX3_sheetsWith_14 rfl ?_
          refine s_iload (pc := 16) S 2 dX3_sheetsWith_16 rfl ?_
          refine s_icmp_geN (pc := 18) S 55 dX3_sheetsWith_18 (by decide) (by decide) (by decide) (fun _ => ?_) (fun h => absurd h (by decide))
          refine s_iload_n (pc := 55) S 4 dX3_sheetsWith_55 rfl rfl ?_
          exact s_iret (pc := 56) S hz hlo hr ⟨rfl, rfl, by rw [show avK C p q 0 + avK C p q 1 + avK C p q 2 = 0 by rw [show avK C p q 0 = _ from avK_n lv_1, show avK C p q 1 = _ from avK_n lv_37, show avK C p q 2 = _ from avK_q c_52]; all_goals omega]⟩ (Nat.le_of_ble_eq_true rfl) (Nat.le_of_ble_eq_true rfl) dX3_sheetsWith_56
        · refine s_iload_n (pc := 41) S 4 dX3_sheetsWith_41 rfl rfl ?_
          refine s_aload (pc := 42) S 0 dX3_sheetsWith_42 rfl ?_
          refine s_get (pc := 44) S hz (ref := "SpoolFarm$Tray") (v := .int (nI (C 12 (3 * p + 2) 1))) (cc_tray (A := A) (C := C) hp lv_49 (by omega)) i_RX4 rfl 1 (Nat.le_of_ble_eq_true rfl) (by decide +kernel) (fun _ h => h) rfl dX3_sheetsWith_44 ?_
          refine s_iaddN (pc := 47) S dX3_sheetsWith_47 ?_
          refine s_istore_n (pc := 48) S [(2, .int (nI (0 + (C 12 (3 * p + 2) 1)))), (6, .ref (A 12 (3 * p + 2))), (5, .int (nI 2)), (4, .int (nI 3)), (3, .ref (A 14 p)), (0, .ref (A 9 p)), (1, .int (nI q))] dX3_sheetsWith_48 rfl (by decide) rfl ?_
          refine s_iinc (pc := 49) S 2 [(5, .int (nI 3)), (2, .int (nI (0 + (C 12 (3 * p + 2) 1)))), (6, .ref (A 12 (3 * p + 2))), (4, .int (nI 3)), (3, .ref (A 14 p)), (0, .ref (A 9 p)), (1, .int (nI q))] dX3_sheetsWith_49 rfl (by decide) (by decide) rfl ?_
          refine s_goto (pc := 52) S 14 dX3_sheetsWith_52 (by decide) ?_
          refine s_iload (pc := 14) S 0 dX3_sheetsWith_14 rfl ?_
          refine s_iload (pc := 16) S 3 dX3_sheetsWith_16 rfl ?_
          refine s_icmp_geN (pc := 18) S 55 dX3_sheetsWith_18 (by decide) (by decide) (by decide) (fun _ => ?_) (fun h => absurd h (by decide))
          refine s_iload_n (pc := 55) S 1 dX3_sheetsWith_55 rfl rfl ?_
          exact s_iret (pc := 56) S hz hlo hr ⟨rfl, rfl, by rw [show avK C p q 0 + avK C p q 1 + avK C p q 2 = 0 + (C 12 (3 * p + 2) 1) by rw [show avK C p q 0 = _ from avK_n lv_1, show avK C p q 1 = _ from avK_n lv_37, show avK C p q 2 = _ from avK_y lv_49 c_52]; all_goals omega]⟩ (Nat.le_of_ble_eq_true rfl) (Nat.le_of_ble_eq_true rfl) dX3_sheetsWith_56
      · refine s_aald (pc := 24) S hz (v := .null) (cc_trays (A := A) (C := C) hp) (by omega) (by decide) (by rw [if_neg lv_49]; rfl) dX3_sheetsWith_24 ?_
        refine s_astoreN (pc := 25) S [(6, .null), (5, .int (nI 2)), (4, .int (nI 3)), (3, .ref (A 14 p)), (2, .int (nI 0)), (0, .ref (A 9 p)), (1, .int (nI q))] dX3_sheetsWith_25 (by decide) rfl ?_
        refine s_aloadN (pc := 27) S 0 dX3_sheetsWith_27 rfl ?_
        refine s_ifnullN (pc := 29) S 49 dX3_sheetsWith_29 (by decide) ?_
        refine s_iinc (pc := 49) S 1 [(5, .int (nI 3)), (6, .null), (4, .int (nI 3)), (3, .ref (A 14 p)), (2, .int (nI 0)), (0, .ref (A 9 p)), (1, .int (nI q))] dX3_sheetsWith_49 rfl (by decide) (by decide) rfl ?_
        refine s_goto (pc := 52) S 14 dX3_sheetsWith_52 (by decide) ?_
        refine s_iload (pc := 14) S 0 dX3_sheetsWith_14 rfl ?_
        refine s_iload (pc := 16) S 2 dX3_sheetsWith_16 rfl ?_
        refine s_icmp_geN (pc := 18) S 55 dX3_sheetsWith_18 (by decide) (by decide) (by decide) (fun _ => ?_) (fun h => absurd h (by decide))
        refine s_iload_n (pc := 55) S 4 dX3_sheetsWith_55 rfl rfl ?_
        exact s_iret (pc := 56) S hz hlo hr ⟨rfl, rfl, by rw [show avK C p q 0 + avK C p q 1 + avK C p q 2 = 0 by rw [show avK C p q 0 = _ from avK_n lv_1, show avK C p q 1 = _ from avK_n lv_37, show avK C p q 2 = _ from avK_n lv_49]; all_goals omega]⟩ (Nat.le_of_ble_eq_true rfl) (Nat.le_of_ble_eq_true rfl) dX3_sheetsWith_56
set_option maxHeartbeats 4000000 in
set_option maxRecDepth 100000 in
theorem k_X3_takeSheets (Z : Zp) (l : Launch) (A : AF) (C : CF) (p : Nat) (hp : p < C 0 0 4) (q : Nat) (hq : q < 65536) (hT : ∀ t : Nat, t < C 9 p 5 → C 12 (3 * p + t) 0 < 65536 ∧ C 12 (3 * p + t) 1 ≤ 500) (n : Nat) (hn : n ≤ 900) : CtS Z l yX3_takeSheets wsX3_takeSheets ({ frames := 1, cells := 0, slots := 0, locals := 40 }) [.ref (A 9 p), .int (nI q), .int (nI n)] A C 0 0 (fun v A2 C2 => A = A2 ∧ tkC C p q n = C2 ∧ none = v) (fun _ _ _ => False) := by
  refine CtS.of (cc0 := cX3_takeSheets) (maxL := 9) (ret := none) (by decide) rfl (Nat.le_of_ble_eq_true rfl) ?_
  intro M0_ p_ e_ s_ m_ args_ below_ meth_ c_ S hz hml hex hlo hr hin
  refine s_loc (L2 := [(0, .ref (A 9 p)), (1, .int (nI q)), (2, .int (nI n))]) rfl ?_
  have i_RX3 : ∀ w ∈ u_ws RX3 TX3 6, w ∈ wsX3_takeSheets := by decide +kernel
  have i_RX4 : ∀ w ∈ u_ws RX4 TX4 2, w ∈ wsX3_takeSheets := by decide +kernel
  refine s_iload_n (pc := 0) S 2 dX3_takeSheets_0 rfl rfl ?_
  refine s_istore_n (pc := 1) S [(3, .int (nI n)), (0, .ref (A 9 p)), (1, .int (nI q)), (2, .int (nI n))] dX3_takeSheets_1 rfl (by decide) rfl ?_
  refine s_aload_n (pc := 2) S 1 dX3_takeSheets_2 rfl rfl ?_
  refine s_get (pc := 3) S hz (ref := "SpoolFarm$Printer") (v := .ref (A 14 p)) (cc_prn (A := A) (C := C) hp) i_RX3 rfl 4 (Nat.le_of_ble_eq_true rfl) (by decide +kernel) (fun _ h => h) rfl dX3_takeSheets_3 ?_
  refine s_astore (pc := 6) S [(4, .ref (A 14 p)), (3, .int (nI n)), (0, .ref (A 9 p)), (1, .int (nI q)), (2, .int (nI n))] dX3_takeSheets_6 (by decide) rfl ?_
  refine s_aload (pc := 8) S 0 dX3_takeSheets_8 rfl ?_
  refine s_alen (pc := 10) S hz (n := 3) (cc_trays (A := A) (C := C) hp) dX3_takeSheets_10 ?_
  refine s_istore (pc := 11) S [(5, .int (nI 3)), (4, .ref (A 14 p)), (3, .int (nI n)), (0, .ref (A 9 p)), (1, .int (nI q)), (2, .int (nI n))] dX3_takeSheets_11 (by decide) rfl ?_
  refine s_iconst (pc := 13) S (v := (nI 0)) dX3_takeSheets_13 (by decide) ?_
  refine s_istore (pc := 14) S [(6, .int (nI 0)), (5, .int (nI 3)), (4, .ref (A 14 p)), (3, .int (nI n)), (0, .ref (A 9 p)), (1, .int (nI q)), (2, .int (nI n))] dX3_takeSheets_14 (by decide) rfl ?_
  refine s_iload (pc := 16) S 0 dX3_takeSheets_16 rfl ?_
  refine s_iload (pc := 18) S 1 dX3_takeSheets_18 rfl ?_
  refine s_icmp_geN (pc := 20) S 78 dX3_takeSheets_20 (by decide) (by decide) (by decide) (fun h => absurd h (by decide)) (fun _ => ?_)
  refine s_aload (pc := 23) S 2 dX3_takeSheets_23 rfl ?_
  refine s_iload (pc := 25) S 0 dX3_takeSheets_25 rfl ?_
  by_cases lv_1 : 0 < C 9 p 5
  · refine s_aald (pc := 27) S hz (v := .ref (A 12 (3 * p + 0))) (cc_trays (A := A) (C := C) hp) (by omega) (by decide) (by rw [if_pos lv_1]; rfl) dX3_takeSheets_27 ?_
    obtain ⟨o_2, o_3⟩ := hT 0 lv_1
    refine s_astore (pc := 28) S [(7, .ref (A 12 (3 * p + 0))), (6, .int (nI 0)), (5, .int (nI 3)), (4, .ref (A 14 p)), (3, .int (nI n)), (0, .ref (A 9 p)), (1, .int (nI q)), (2, .int (nI n))] dX3_takeSheets_28 (by decide) rfl ?_
    refine s_aload (pc := 30) S 0 dX3_takeSheets_30 rfl ?_
    refine s_ifnull (pc := 32) S dX3_takeSheets_32 ?_
    refine s_aload (pc := 35) S 0 dX3_takeSheets_35 rfl ?_
    refine s_get (pc := 37) S hz (ref := "SpoolFarm$Tray") (v := .int (nI (C 12 (3 * p + 0) 0))) (cc_tray (A := A) (C := C) hp lv_1 (by omega)) i_RX4 rfl 0 (Nat.le_of_ble_eq_true rfl) (by decide +kernel) (fun _ h => h) rfl dX3_takeSheets_37 ?_
    refine s_iload_n (pc := 40) S 6 dX3_takeSheets_40 rfl rfl ?_
    refine s_icmp_neN (pc := 41) S 72 dX3_takeSheets_41 (by decide) (by omega) (by omega) (fun c_4 => ?_) (fun c_4 => ?_)
    · refine s_iinc (pc := 72) S 1 [(6, .int (nI 1)), (7, .ref (A 12 (3 * p + 0))), (5, .int (nI 3)), (4, .ref (A 14 p)), (3, .int (nI n)), (0, .ref (A 9 p)), (1, .int (nI q)), (2, .int (nI n))] dX3_takeSheets_72 rfl (by decide) (by decide) rfl ?_
      refine s_goto (pc := 75) S 16 dX3_takeSheets_75 (by decide) ?_
      refine s_iload (pc := 16) S 0 dX3_takeSheets_16 rfl ?_
      refine s_iload (pc := 18) S 2 dX3_takeSheets_18 rfl ?_
      refine s_icmp_geN (pc := 20) S 78 dX3_takeSheets_20 (by decide) (by decide) (by decide) (fun h => absurd h (by decide)) (fun _ => ?_)
      refine s_aload (pc := 23) S 3 dX3_takeSheets_23 rfl ?_
      refine s_iload (pc := 25) S 0 dX3_takeSheets_25 rfl ?_
      by_cases lv_5 : 1 < C 9 p 5
      · refine s_aald (pc := 27) S hz (v := .ref (A 12 (3 * p + 1))) (cc_trays (A := A) (C := C) hp) (by omega) (by decide) (by rw [if_pos lv_5]; rfl) dX3_takeSheets_27 ?_
        obtain ⟨o_6, o_7⟩ := hT 1 lv_5
        refine s_astore (pc := 28) S [(7, .ref (A 12 (3 * p + 1))), (6, .int (nI 1)), (5, .int (nI 3)), (4, .ref (A 14 p)), (3, .int (nI n)), (0, .ref (A 9 p)), (1, .int (nI q)), (2, .int (nI n))] dX3_takeSheets_28 (by decide) rfl ?_
        refine s_aload (pc := 30) S 0 dX3_takeSheets_30 rfl ?_
        refine s_ifnull (pc := 32) S dX3_takeSheets_32 ?_
        refine s_aload (pc := 35) S 0 dX3_takeSheets_35 rfl ?_
        refine s_get (pc := 37) S hz (ref := "SpoolFarm$Tray") (v := .int (nI (C 12 (3 * p + 1) 0))) (cc_tray (A := A) (C := C) hp lv_5 (by omega)) i_RX4 rfl 0 (Nat.le_of_ble_eq_true rfl) (by decide +kernel) (fun _ h => h) rfl dX3_takeSheets_37 ?_
        refine s_iload_n (pc := 40) S 6 dX3_takeSheets_40 rfl rfl ?_
        refine s_icmp_neN (pc := 41) S 72 dX3_takeSheets_41 (by decide) (by omega) (by omega) (fun c_8 => ?_) (fun c_8 => ?_)
        · refine s_iinc (pc := 72) S 1 [(6, .int (nI 2)), (7, .ref (A 12 (3 * p + 1))), (5, .int (nI 3)), (4, .ref (A 14 p)), (3, .int (nI n)), (0, .ref (A 9 p)), (1, .int (nI q)), (2, .int (nI n))] dX3_takeSheets_72 rfl (by decide) (by decide) rfl ?_
          refine s_goto (pc := 75) S 16 dX3_takeSheets_75 (by decide) ?_
          refine s_iload (pc := 16) S 0 dX3_takeSheets_16 rfl ?_
          refine s_iload (pc := 18) S 2 dX3_takeSheets_18 rfl ?_
          refine s_icmp_geN (pc := 20) S 78 dX3_takeSheets_20 (by decide) (by decide) (by decide) (fun h => absurd h (by decide)) (fun _ => ?_)
          refine s_aload (pc := 23) S 3 dX3_takeSheets_23 rfl ?_
          refine s_iload (pc := 25) S 0 dX3_takeSheets_25 rfl ?_
          by_cases lv_9 : 2 < C 9 p 5
          · refine s_aald (pc := 27) S hz (v := .ref (A 12 (3 * p + 2))) (cc_trays (A := A) (C := C) hp) (by omega) (by decide) (by rw [if_pos lv_9]; rfl) dX3_takeSheets_27 ?_
            obtain ⟨o_10, o_11⟩ := hT 2 lv_9
            refine s_astore (pc := 28) S [(7, .ref (A 12 (3 * p + 2))), (6, .int (nI 2)), (5, .int (nI 3)), (4, .ref (A 14 p)), (3, .int (nI n)), (0, .ref (A 9 p)), (1, .int (nI q)), (2, .int (nI n))] dX3_takeSheets_28 (by decide) rfl ?_
            refine s_aload (pc := 30) S 0 dX3_takeSheets_30 rfl ?_
            refine s_ifnull (pc := 32) S dX3_takeSheets_32 ?_
            refine s_aload (pc := 35) S 0 dX3_takeSheets_35 rfl ?_
            refine s_get (pc := 37) S hz (ref := "SpoolFarm$Tray") (v := .int (nI (C 12 (3 * p + 2) 0))) (cc_tray (A := A) (C := C) hp lv_9 (by omega)) i_RX4 rfl 0 (Nat.le_of_ble_eq_true rfl) (by decide +kernel) (fun _ h => h) rfl dX3_takeSheets_37 ?_
            refine s_iload_n (pc := 40) S 6 dX3_takeSheets_40 rfl rfl ?_
            refine s_icmp_neN (pc := 41) S 72 dX3_takeSheets_41 (by decide) (by omega) (by omega) (fun c_12 => ?_) (fun c_12 => ?_)
            · refine s_iinc (pc := 72) S 1 [(6, .int (nI 3)), (7, .ref (A 12 (3 * p + 2))), (5, .int (nI 3)), (4, .ref (A 14 p)), (3, .int (nI n)), (0, .ref (A 9 p)), (1, .int (nI q)), (2, .int (nI n))] dX3_takeSheets_72 rfl (by decide) (by decide) rfl ?_
              refine s_goto (pc := 75) S 16 dX3_takeSheets_75 (by decide) ?_
              refine s_iload (pc := 16) S 0 dX3_takeSheets_16 rfl ?_
              refine s_iload (pc := 18) S 2 dX3_takeSheets_18 rfl ?_
              refine s_icmp_geN (pc := 20) S 78 dX3_takeSheets_20 (by decide) (by decide) (by decide) (fun _ => ?_) (fun h => absurd h (by decide))
              have hst : tkC C p q n = C := by
                unfold tkC
                rw [show C 12 (3 * p + 0) 1 - dK C p q n 0 = C 12 (3 * p + 0) 1 by (unfold dK; rw [show avK C p q 0 = _ from avK_q c_4, show avK C p q 1 = _ from avK_q c_8, show avK C p q 2 = _ from avK_q c_12]; simp only [Nat.one_ne_zero, if_true, if_false, show (2 : Nat) ≠ 0 by decide, show (2 : Nat) ≠ 1 by decide]; all_goals omega)]
                rw [show C 12 (3 * p + 1) 1 - dK C p q n 1 = C 12 (3 * p + 1) 1 by (unfold dK; rw [show avK C p q 0 = _ from avK_q c_4, show avK C p q 1 = _ from avK_q c_8, show avK C p q 2 = _ from avK_q c_12]; simp only [Nat.one_ne_zero, if_true, if_false, show (2 : Nat) ≠ 0 by decide, show (2 : Nat) ≠ 1 by decide]; all_goals omega)]
                rw [show C 12 (3 * p + 2) 1 - dK C p q n 2 = C 12 (3 * p + 2) 1 by (unfold dK; rw [show avK C p q 0 = _ from avK_q c_4, show avK C p q 1 = _ from avK_q c_8, show avK C p q 2 = _ from avK_q c_12]; simp only [Nat.one_ne_zero, if_true, if_false, show (2 : Nat) ≠ 0 by decide, show (2 : Nat) ≠ 1 by decide]; all_goals omega)]
                all_goals (funext k2 i2 f2; simp only [up3]; repeat' split)
                all_goals first | rfl | (exfalso; omega) | (rename_i z; obtain ⟨rfl, rfl, rfl⟩ := z; rfl) | (rename_i z _; obtain ⟨rfl, rfl, rfl⟩ := z; rfl) | (rename_i z _ _; obtain ⟨rfl, rfl, rfl⟩ := z; rfl)
              exact s_vret (pc := 78) S hz hlo hr ⟨rfl, hst, rfl⟩ (Nat.le_of_ble_eq_true rfl) (Nat.le_of_ble_eq_true rfl) dX3_takeSheets_78
            · refine s_iload_n (pc := 44) S 4 dX3_takeSheets_44 rfl rfl ?_
              refine s_aload (pc := 45) S 0 dX3_takeSheets_45 rfl ?_
              refine s_get (pc := 47) S hz (ref := "SpoolFarm$Tray") (v := .int (nI (C 12 (3 * p + 2) 1))) (cc_tray (A := A) (C := C) hp lv_9 (by omega)) i_RX4 rfl 1 (Nat.le_of_ble_eq_true rfl) (by decide +kernel) (fun _ h => h) rfl dX3_takeSheets_47 ?_
              refine s_min (pc := 50) S hml (by omega) (by omega) (by decide +kernel) (by decide +kernel) (by decide +kernel) (by decide +kernel) (Nat.le_of_ble_eq_true rfl) (Nat.le_of_ble_eq_true rfl) (Nat.le_of_ble_eq_true rfl) (Nat.le_of_ble_eq_true rfl) dX3_takeSheets_50 ?_
              refine s_istore (pc := 53) S [(8, .int (nI (min n (C 12 (3 * p + 2) 1)))), (7, .ref (A 12 (3 * p + 2))), (6, .int (nI 2)), (5, .int (nI 3)), (4, .ref (A 14 p)), (3, .int (nI n)), (0, .ref (A 9 p)), (1, .int (nI q)), (2, .int (nI n))] dX3_takeSheets_53 (by decide) rfl ?_
              refine s_aload (pc := 55) S 1 dX3_takeSheets_55 rfl ?_
              refine s_dup (pc := 57) S dX3_takeSheets_57 rfl ?_
              refine s_get (pc := 58) S hz (ref := "SpoolFarm$Tray") (v := .int (nI (C 12 (3 * p + 2) 1))) (cc_tray (A := A) (C := C) hp lv_9 (by omega)) i_RX4 rfl 1 (Nat.le_of_ble_eq_true rfl) (by decide +kernel) (fun _ h => h) rfl dX3_takeSheets_58 ?_
              refine s_iload (pc := 61) S 0 dX3_takeSheets_61 rfl ?_
              refine s_isubN (pc := 63) S dX3_takeSheets_63 (by omega) ?_
              refine s_put (pc := 64) S hz (ref := "SpoolFarm$Tray") (ty := .int) (cc_tray (A := A) (C := C) hp lv_9 (by omega)) i_RX4 tyX4 tyX4_ok nmX4 rfl 1 (Nat.le_of_ble_eq_true rfl) (by decide +kernel) (fun _ h => h) rfl (by decide +kernel) rfl rfl (Nat.le_of_ble_eq_true rfl) (up3 C 12 (3 * p + 2) 1 ((C 12 (3 * p + 2) 1) - (min n (C 12 (3 * p + 2) 1)))) cu_tray (by rw [(cc_tray (A := A) (C := (up3 C 12 (3 * p + 2) 1 ((C 12 (3 * p + 2) 1) - (min n (C 12 (3 * p + 2) 1))))) hp lv_9 (by omega)), up3_u]; rfl) dX3_takeSheets_64 ?_
              refine s_iload_n (pc := 67) S 5 dX3_takeSheets_67 rfl rfl ?_
              refine s_iload (pc := 68) S 0 dX3_takeSheets_68 rfl ?_
              refine s_isubN (pc := 70) S dX3_takeSheets_70 (by omega) ?_
              refine s_istore_n (pc := 71) S [(3, .int (nI (n - (min n (C 12 (3 * p + 2) 1))))), (8, .int (nI (min n (C 12 (3 * p + 2) 1)))), (7, .ref (A 12 (3 * p + 2))), (6, .int (nI 2)), (5, .int (nI 3)), (4, .ref (A 14 p)), (0, .ref (A 9 p)), (1, .int (nI q)), (2, .int (nI n))] dX3_takeSheets_71 rfl (by decide) rfl ?_
              refine s_iinc (pc := 72) S 3 [(6, .int (nI 3)), (3, .int (nI (n - (min n (C 12 (3 * p + 2) 1))))), (8, .int (nI (min n (C 12 (3 * p + 2) 1)))), (7, .ref (A 12 (3 * p + 2))), (5, .int (nI 3)), (4, .ref (A 14 p)), (0, .ref (A 9 p)), (1, .int (nI q)), (2, .int (nI n))] dX3_takeSheets_72 rfl (by decide) (by decide) rfl ?_
              refine s_goto (pc := 75) S 16 dX3_takeSheets_75 (by decide) ?_
              refine s_iload (pc := 16) S 0 dX3_takeSheets_16 rfl ?_
              refine s_iload (pc := 18) S 4 dX3_takeSheets_18 rfl ?_
              refine s_icmp_geN (pc := 20) S 78 dX3_takeSheets_20 (by decide) (by decide) (by decide) (fun _ => ?_) (fun h => absurd h (by decide))
              have hst : tkC C p q n = (up3 C 12 (3 * p + 2) 1 ((C 12 (3 * p + 2) 1) - (min n (C 12 (3 * p + 2) 1)))) := by
                unfold tkC
                rw [show C 12 (3 * p + 0) 1 - dK C p q n 0 = C 12 (3 * p + 0) 1 by (unfold dK; rw [show avK C p q 0 = _ from avK_q c_4, show avK C p q 1 = _ from avK_q c_8, show avK C p q 2 = _ from avK_y lv_9 c_12]; simp only [Nat.one_ne_zero, if_true, if_false, show (2 : Nat) ≠ 0 by decide, show (2 : Nat) ≠ 1 by decide]; all_goals omega)]
                rw [show C 12 (3 * p + 1) 1 - dK C p q n 1 = C 12 (3 * p + 1) 1 by (unfold dK; rw [show avK C p q 0 = _ from avK_q c_4, show avK C p q 1 = _ from avK_q c_8, show avK C p q 2 = _ from avK_y lv_9 c_12]; simp only [Nat.one_ne_zero, if_true, if_false, show (2 : Nat) ≠ 0 by decide, show (2 : Nat) ≠ 1 by decide]; all_goals omega)]
                rw [show C 12 (3 * p + 2) 1 - dK C p q n 2 = (C 12 (3 * p + 2) 1) - (min n (C 12 (3 * p + 2) 1)) by (unfold dK; rw [show avK C p q 0 = _ from avK_q c_4, show avK C p q 1 = _ from avK_q c_8, show avK C p q 2 = _ from avK_y lv_9 c_12]; simp only [Nat.one_ne_zero, if_true, if_false, show (2 : Nat) ≠ 0 by decide, show (2 : Nat) ≠ 1 by decide]; all_goals omega)]
                all_goals (funext k2 i2 f2; simp only [up3]; repeat' split)
                all_goals first | rfl | (exfalso; omega) | (rename_i z; obtain ⟨rfl, rfl, rfl⟩ := z; rfl) | (rename_i z _; obtain ⟨rfl, rfl, rfl⟩ := z; rfl) | (rename_i z _ _; obtain ⟨rfl, rfl, rfl⟩ := z; rfl)
              exact s_vret (pc := 78) S hz hlo hr ⟨rfl, hst, rfl⟩ (Nat.le_of_ble_eq_true rfl) (Nat.le_of_ble_eq_true rfl) dX3_takeSheets_78
          · refine s_aald (pc := 27) S hz (v := .null) (cc_trays (A := A) (C := C) hp) (by omega) (by decide) (by rw [if_neg lv_9]; rfl) dX3_takeSheets_27 ?_
            refine s_astoreN (pc := 28) S [(7, .null), (6, .int (nI 2)), (5, .int (nI 3)), (4, .ref (A 14 p)), (3, .int (nI n)), (0, .ref (A 9 p)), (1, .int (nI q)), (2, .int (nI n))] dX3_takeSheets_28 (by decide) rfl ?_
            refine s_aloadN (pc := 30) S 0 dX3_takeSheets_30 rfl ?_
            refine s_ifnullN (pc := 32) S 72 dX3_takeSheets_32 (by decide) ?_
            refine s_iinc (pc := 72) S 1 [(6, .int (nI 3)), (7, .null), (5, .int (nI 3)), (4, .ref (A 14 p)), (3, .int (nI n)), (0, .ref (A 9 p)), (1, .int (nI q)), (2, .int (nI n))] dX3_takeSheets_72 rfl (by decide) (by decide) rfl ?_
            refine s_goto (pc := 75) S 16 dX3_takeSheets_75 (by decide) ?_
            refine s_iload (pc := 16) S 0 dX3_takeSheets_16 rfl ?_
            refine s_iload (pc := 18) S 2 dX3_takeSheets_18 rfl ?_
            refine s_icmp_geN (pc := 20) S 78 dX3_takeSheets_20 (by decide) (by decide) (by decide) (fun _ => ?_) (fun h => absurd h (by decide))
            have hst : tkC C p q n = C := by
              unfold tkC
              rw [show C 12 (3 * p + 0) 1 - dK C p q n 0 = C 12 (3 * p + 0) 1 by (unfold dK; rw [show avK C p q 0 = _ from avK_q c_4, show avK C p q 1 = _ from avK_q c_8, show avK C p q 2 = _ from avK_n lv_9]; simp only [Nat.one_ne_zero, if_true, if_false, show (2 : Nat) ≠ 0 by decide, show (2 : Nat) ≠ 1 by decide]; all_goals omega)]
              rw [show C 12 (3 * p + 1) 1 - dK C p q n 1 = C 12 (3 * p + 1) 1 by (unfold dK; rw [show avK C p q 0 = _ from avK_q c_4, show avK C p q 1 = _ from avK_q c_8, show avK C p q 2 = _ from avK_n lv_9]; simp only [Nat.one_ne_zero, if_true, if_false, show (2 : Nat) ≠ 0 by decide, show (2 : Nat) ≠ 1 by decide]; all_goals omega)]
              rw [show C 12 (3 * p + 2) 1 - dK C p q n 2 = C 12 (3 * p + 2) 1 by (unfold dK; rw [show avK C p q 0 = _ from avK_q c_4, show avK C p q 1 = _ from avK_q c_8, show avK C p q 2 = _ from avK_n lv_9]; simp only [Nat.one_ne_zero, if_true, if_false, show (2 : Nat) ≠ 0 by decide, show (2 : Nat) ≠ 1 by decide]; all_goals omega)]
              all_goals (funext k2 i2 f2; simp only [up3]; repeat' split)
              all_goals first | rfl | (exfalso; omega) | (rename_i z; obtain ⟨rfl, rfl, rfl⟩ := z; rfl) | (rename_i z _; obtain ⟨rfl, rfl, rfl⟩ := z; rfl) | (rename_i z _ _; obtain ⟨rfl, rfl, rfl⟩ := z; rfl)
            exact s_vret (pc := 78) S hz hlo hr ⟨rfl, hst, rfl⟩ (Nat.le_of_ble_eq_true rfl) (Nat.le_of_ble_eq_true rfl) dX3_takeSheets_78
        · refine s_iload_n (pc := 44) S 4 dX3_takeSheets_44 rfl rfl ?_
          refine s_aload (pc := 45) S 0 dX3_takeSheets_45 rfl ?_
          refine s_get (pc := 47) S hz (ref := "SpoolFarm$Tray") (v := .int (nI (C 12 (3 * p + 1) 1))) (cc_tray (A := A) (C := C) hp lv_5 (by omega)) i_RX4 rfl 1 (Nat.le_of_ble_eq_true rfl) (by decide +kernel) (fun _ h => h) rfl dX3_takeSheets_47 ?_
          refine s_min (pc := 50) S hml (by omega) (by omega) (by decide +kernel) (by decide +kernel) (by decide +kernel) (by decide +kernel) (Nat.le_of_ble_eq_true rfl) (Nat.le_of_ble_eq_true rfl) (Nat.le_of_ble_eq_true rfl) (Nat.le_of_ble_eq_true rfl) dX3_takeSheets_50 ?_
          refine s_istore (pc := 53) S [(8, .int (nI (min n (C 12 (3 * p + 1) 1)))), (7, .ref (A 12 (3 * p + 1))), (6, .int (nI 1)), (5, .int (nI 3)), (4, .ref (A 14 p)), (3, .int (nI n)), (0, .ref (A 9 p)), (1, .int (nI q)), (2, .int (nI n))] dX3_takeSheets_53 (by decide) rfl ?_
          refine s_aload (pc := 55) S 1 dX3_takeSheets_55 rfl ?_
          refine s_dup (pc := 57) S dX3_takeSheets_57 rfl ?_
          refine s_get (pc := 58) S hz (ref := "SpoolFarm$Tray") (v := .int (nI (C 12 (3 * p + 1) 1))) (cc_tray (A := A) (C := C) hp lv_5 (by omega)) i_RX4 rfl 1 (Nat.le_of_ble_eq_true rfl) (by decide +kernel) (fun _ h => h) rfl dX3_takeSheets_58 ?_
          refine s_iload (pc := 61) S 0 dX3_takeSheets_61 rfl ?_
          refine s_isubN (pc := 63) S dX3_takeSheets_63 (by omega) ?_
          refine s_put (pc := 64) S hz (ref := "SpoolFarm$Tray") (ty := .int) (cc_tray (A := A) (C := C) hp lv_5 (by omega)) i_RX4 tyX4 tyX4_ok nmX4 rfl 1 (Nat.le_of_ble_eq_true rfl) (by decide +kernel) (fun _ h => h) rfl (by decide +kernel) rfl rfl (Nat.le_of_ble_eq_true rfl) (up3 C 12 (3 * p + 1) 1 ((C 12 (3 * p + 1) 1) - (min n (C 12 (3 * p + 1) 1)))) cu_tray (by rw [(cc_tray (A := A) (C := (up3 C 12 (3 * p + 1) 1 ((C 12 (3 * p + 1) 1) - (min n (C 12 (3 * p + 1) 1))))) hp lv_5 (by omega)), up3_u]; rfl) dX3_takeSheets_64 ?_
          refine s_iload_n (pc := 67) S 5 dX3_takeSheets_67 rfl rfl ?_
          refine s_iload (pc := 68) S 0 dX3_takeSheets_68 rfl ?_
          refine s_isubN (pc := 70) S dX3_takeSheets_70 (by omega) ?_
          refine s_istore_n (pc := 71) S [(3, .int (nI (n - (min n (C 12 (3 * p + 1) 1))))), (8, .int (nI (min n (C 12 (3 * p + 1) 1)))), (7, .ref (A 12 (3 * p + 1))), (6, .int (nI 1)), (5, .int (nI 3)), (4, .ref (A 14 p)), (0, .ref (A 9 p)), (1, .int (nI q)), (2, .int (nI n))] dX3_takeSheets_71 rfl (by decide) rfl ?_
          refine s_iinc (pc := 72) S 3 [(6, .int (nI 2)), (3, .int (nI (n - (min n (C 12 (3 * p + 1) 1))))), (8, .int (nI (min n (C 12 (3 * p + 1) 1)))), (7, .ref (A 12 (3 * p + 1))), (5, .int (nI 3)), (4, .ref (A 14 p)), (0, .ref (A 9 p)), (1, .int (nI q)), (2, .int (nI n))] dX3_takeSheets_72 rfl (by decide) (by decide) rfl ?_
          refine s_goto (pc := 75) S 16 dX3_takeSheets_75 (by decide) ?_
          refine s_iload (pc := 16) S 0 dX3_takeSheets_16 rfl ?_
          refine s_iload (pc := 18) S 4 dX3_takeSheets_18 rfl ?_
          refine s_icmp_geN (pc := 20) S 78 dX3_takeSheets_20 (by decide) (by decide) (by decide) (fun h => absurd h (by decide)) (fun _ => ?_)
          refine s_aload (pc := 23) S 5 dX3_takeSheets_23 rfl ?_
          refine s_iload (pc := 25) S 0 dX3_takeSheets_25 rfl ?_
          by_cases lv_13 : 2 < C 9 p 5
          · refine s_aald (pc := 27) S hz (v := .ref (A 12 (3 * p + 2))) (cc_trays (A := A) (C := (up3 C 12 (3 * p + 1) 1 ((C 12 (3 * p + 1) 1) - (min n (C 12 (3 * p + 1) 1))))) hp) (by omega) (by decide) (congrArg va_rf (if_pos lv_13)) dX3_takeSheets_27 ?_
            obtain ⟨o_14, o_15⟩ := hT 2 lv_13
            refine s_astore (pc := 28) S [(7, .ref (A 12 (3 * p + 2))), (6, .int (nI 2)), (3, .int (nI (n - (min n (C 12 (3 * p + 1) 1))))), (8, .int (nI (min n (C 12 (3 * p + 1) 1)))), (5, .int (nI 3)), (4, .ref (A 14 p)), (0, .ref (A 9 p)), (1, .int (nI q)), (2, .int (nI n))] dX3_takeSheets_28 (by decide) rfl ?_
            refine s_aload (pc := 30) S 0 dX3_takeSheets_30 rfl ?_
            refine s_ifnull (pc := 32) S dX3_takeSheets_32 ?_
            refine s_aload (pc := 35) S 0 dX3_takeSheets_35 rfl ?_
            refine s_get (pc := 37) S hz (ref := "SpoolFarm$Tray") (v := .int (nI (C 12 (3 * p + 2) 0))) (cc_tray (A := A) (C := (up3 C 12 (3 * p + 1) 1 ((C 12 (3 * p + 1) 1) - (min n (C 12 (3 * p + 1) 1))))) hp lv_13 (by omega)) i_RX4 rfl 0 (Nat.le_of_ble_eq_true rfl) (by decide +kernel) (fun _ h => h) (by rw [up3_i (show 3 * p + 2 ≠ 3 * p + 1 by omega)]; rfl) dX3_takeSheets_37 ?_
            refine s_iload_n (pc := 40) S 7 dX3_takeSheets_40 rfl rfl ?_
            refine s_icmp_neN (pc := 41) S 72 dX3_takeSheets_41 (by decide) (by omega) (by omega) (fun c_16 => ?_) (fun c_16 => ?_)
            · refine s_iinc (pc := 72) S 1 [(6, .int (nI 3)), (7, .ref (A 12 (3 * p + 2))), (3, .int (nI (n - (min n (C 12 (3 * p + 1) 1))))), (8, .int (nI (min n (C 12 (3 * p + 1) 1)))), (5, .int (nI 3)), (4, .ref (A 14 p)), (0, .ref (A 9 p)), (1, .int (nI q)), (2, .int (nI n))] dX3_takeSheets_72 rfl (by decide) (by decide) rfl ?_
              refine s_goto (pc := 75) S 16 dX3_takeSheets_75 (by decide) ?_
              refine s_iload (pc := 16) S 0 dX3_takeSheets_16 rfl ?_
              refine s_iload (pc := 18) S 4 dX3_takeSheets_18 rfl ?_
              refine s_icmp_geN (pc := 20) S 78 dX3_takeSheets_20 (by decide) (by decide) (by decide) (fun _ => ?_) (fun h => absurd h (by decide))
              have hst : tkC C p q n = (up3 C 12 (3 * p + 1) 1 ((C 12 (3 * p + 1) 1) - (min n (C 12 (3 * p + 1) 1)))) := by
                unfold tkC
                rw [show C 12 (3 * p + 0) 1 - dK C p q n 0 = C 12 (3 * p + 0) 1 by (unfold dK; rw [show avK C p q 0 = _ from avK_q c_4, show avK C p q 1 = _ from avK_y lv_5 c_8, show avK C p q 2 = _ from avK_q c_16]; simp only [Nat.one_ne_zero, if_true, if_false, show (2 : Nat) ≠ 0 by decide, show (2 : Nat) ≠ 1 by decide]; all_goals omega)]
                rw [show C 12 (3 * p + 1) 1 - dK C p q n 1 = (C 12 (3 * p + 1) 1) - (min n (C 12 (3 * p + 1) 1)) by (unfold dK; rw [show avK C p q 0 = _ from avK_q c_4, show avK C p q 1 = _ from avK_y lv_5 c_8, show avK C p q 2 = _ from avK_q c_16]; simp only [Nat.one_ne_zero, if_true, if_false, show (2 : Nat) ≠ 0 by decide, show (2 : Nat) ≠ 1 by decide]; all_goals omega)]
                rw [show C 12 (3 * p + 2) 1 - dK C p q n 2 = C 12 (3 * p + 2) 1 by (unfold dK; rw [show avK C p q 0 = _ from avK_q c_4, show avK C p q 1 = _ from avK_y lv_5 c_8, show avK C p q 2 = _ from avK_q c_16]; simp only [Nat.one_ne_zero, if_true, if_false, show (2 : Nat) ≠ 0 by decide, show (2 : Nat) ≠ 1 by decide]; all_goals omega)]
                all_goals (funext k2 i2 f2; simp only [up3]; repeat' split)
                all_goals first | rfl | (exfalso; omega) | (rename_i z; obtain ⟨rfl, rfl, rfl⟩ := z; rfl) | (rename_i z _; obtain ⟨rfl, rfl, rfl⟩ := z; rfl) | (rename_i z _ _; obtain ⟨rfl, rfl, rfl⟩ := z; rfl)
              exact s_vret (pc := 78) S hz hlo hr ⟨rfl, hst, rfl⟩ (Nat.le_of_ble_eq_true rfl) (Nat.le_of_ble_eq_true rfl) dX3_takeSheets_78
            · refine s_iload_n (pc := 44) S 2 dX3_takeSheets_44 rfl rfl ?_
              refine s_aload (pc := 45) S 0 dX3_takeSheets_45 rfl ?_
              refine s_get (pc := 47) S hz (ref := "SpoolFarm$Tray") (v := .int (nI (C 12 (3 * p + 2) 1))) (cc_tray (A := A) (C := (up3 C 12 (3 * p + 1) 1 ((C 12 (3 * p + 1) 1) - (min n (C 12 (3 * p + 1) 1))))) hp lv_13 (by omega)) i_RX4 rfl 1 (Nat.le_of_ble_eq_true rfl) (by decide +kernel) (fun _ h => h) (by rw [up3_i (show 3 * p + 2 ≠ 3 * p + 1 by omega)]; rfl) dX3_takeSheets_47 ?_
              refine s_min (pc := 50) S hml (by omega) (by omega) (by decide +kernel) (by decide +kernel) (by decide +kernel) (by decide +kernel) (Nat.le_of_ble_eq_true rfl) (Nat.le_of_ble_eq_true rfl) (Nat.le_of_ble_eq_true rfl) (Nat.le_of_ble_eq_true rfl) dX3_takeSheets_50 ?_
              refine s_istore (pc := 53) S [(8, .int (nI (min (n - (min n (C 12 (3 * p + 1) 1))) (C 12 (3 * p + 2) 1)))), (7, .ref (A 12 (3 * p + 2))), (6, .int (nI 2)), (3, .int (nI (n - (min n (C 12 (3 * p + 1) 1))))), (5, .int (nI 3)), (4, .ref (A 14 p)), (0, .ref (A 9 p)), (1, .int (nI q)), (2, .int (nI n))] dX3_takeSheets_53 (by decide) rfl ?_
              refine s_aload (pc := 55) S 1 dX3_takeSheets_55 rfl ?_
              refine s_dup (pc := 57) S dX3_takeSheets_57 rfl ?_
              refine s_get (pc := 58) S hz (ref := "SpoolFarm$Tray") (v := .int (nI (C 12 (3 * p + 2) 1))) (cc_tray (A := A) (C := (up3 C 12 (3 * p + 1) 1 ((C 12 (3 * p + 1) 1) - (min n (C 12 (3 * p + 1) 1))))) hp lv_13 (by omega)) i_RX4 rfl 1 (Nat.le_of_ble_eq_true rfl) (by decide +kernel) (fun _ h => h) (by rw [up3_i (show 3 * p + 2 ≠ 3 * p + 1 by omega)]; rfl) dX3_takeSheets_58 ?_
              refine s_iload (pc := 61) S 0 dX3_takeSheets_61 rfl ?_
              refine s_isubN (pc := 63) S dX3_takeSheets_63 (by omega) ?_
              refine s_put (pc := 64) S hz (ref := "SpoolFarm$Tray") (ty := .int) (cc_tray (A := A) (C := (up3 C 12 (3 * p + 1) 1 ((C 12 (3 * p + 1) 1) - (min n (C 12 (3 * p + 1) 1))))) hp lv_13 (by omega)) i_RX4 tyX4 tyX4_ok nmX4 rfl 1 (Nat.le_of_ble_eq_true rfl) (by decide +kernel) (fun _ h => h) rfl (by decide +kernel) rfl rfl (Nat.le_of_ble_eq_true rfl) (up3 (up3 C 12 (3 * p + 1) 1 ((C 12 (3 * p + 1) 1) - (min n (C 12 (3 * p + 1) 1)))) 12 (3 * p + 2) 1 ((C 12 (3 * p + 2) 1) - (min (n - (min n (C 12 (3 * p + 1) 1))) (C 12 (3 * p + 2) 1)))) cu_tray (by rw [(cc_tray (A := A) (C := (up3 (up3 C 12 (3 * p + 1) 1 ((C 12 (3 * p + 1) 1) - (min n (C 12 (3 * p + 1) 1)))) 12 (3 * p + 2) 1 ((C 12 (3 * p + 2) 1) - (min (n - (min n (C 12 (3 * p + 1) 1))) (C 12 (3 * p + 2) 1))))) hp lv_13 (by omega)), up3_u]; rfl) dX3_takeSheets_64 ?_
              refine s_iload_n (pc := 67) S 3 dX3_takeSheets_67 rfl rfl ?_
              refine s_iload (pc := 68) S 0 dX3_takeSheets_68 rfl ?_
              refine s_isubN (pc := 70) S dX3_takeSheets_70 (by omega) ?_
              refine s_istore_n (pc := 71) S [(3, .int (nI ((n - (min n (C 12 (3 * p + 1) 1))) - (min (n - (min n (C 12 (3 * p + 1) 1))) (C 12 (3 * p + 2) 1))))), (8, .int (nI (min (n - (min n (C 12 (3 * p + 1) 1))) (C 12 (3 * p + 2) 1)))), (7, .ref (A 12 (3 * p + 2))), (6, .int (nI 2)), (5, .int (nI 3)), (4, .ref (A 14 p)), (0, .ref (A 9 p)), (1, .int (nI q)), (2, .int (nI n))] dX3_takeSheets_71 rfl (by decide) rfl ?_
              refine s_iinc (pc := 72) S 3 [(6, .int (nI 3)), (3, .int (nI ((n - (min n (C 12 (3 * p + 1) 1))) - (min (n - (min n (C 12 (3 * p + 1) 1))) (C 12 (3 * p + 2) 1))))), (8, .int (nI (min (n - (min n (C 12 (3 * p + 1) 1))) (C 12 (3 * p + 2) 1)))), (7, .ref (A 12 (3 * p + 2))), (5, .int (nI 3)), (4, .ref (A 14 p)), (0, .ref (A 9 p)), (1, .int (nI q)), (2, .int (nI n))] dX3_takeSheets_72 rfl (by decide) (by decide) rfl ?_
              refine s_goto (pc := 75) S 16 dX3_takeSheets_75 (by decide) ?_
              refine s_iload (pc := 16) S 0 dX3_takeSheets_16 rfl ?_
              refine s_iload (pc := 18) S 4 dX3_takeSheets_18 rfl ?_
              refine s_icmp_geN (pc := 20) S 78 dX3_takeSheets_20 (by decide) (by decide) (by decide) (fun _ => ?_) (fun h => absurd h (by decide))
              have hst : tkC C p q n = (up3 (up3 C 12 (3 * p + 1) 1 ((C 12 (3 * p + 1) 1) - (min n (C 12 (3 * p + 1) 1)))) 12 (3 * p + 2) 1 ((C 12 (3 * p + 2) 1) - (min (n - (min n (C 12 (3 * p + 1) 1))) (C 12 (3 * p + 2) 1)))) := by
                unfold tkC
                rw [show C 12 (3 * p + 0) 1 - dK C p q n 0 = C 12 (3 * p + 0) 1 by (unfold dK; rw [show avK C p q 0 = _ from avK_q c_4, show avK C p q 1 = _ from avK_y lv_5 c_8, show avK C p q 2 = _ from avK_y lv_13 c_16]; simp only [Nat.one_ne_zero, if_true, if_false, show (2 : Nat) ≠ 0 by decide, show (2 : Nat) ≠ 1 by decide]; all_goals omega)]
                rw [show C 12 (3 * p + 1) 1 - dK C p q n 1 = (C 12 (3 * p + 1) 1) - (min n (C 12 (3 * p + 1) 1)) by (unfold dK; rw [show avK C p q 0 = _ from avK_q c_4, show avK C p q 1 = _ from avK_y lv_5 c_8, show avK C p q 2 = _ from avK_y lv_13 c_16]; simp only [Nat.one_ne_zero, if_true, if_false, show (2 : Nat) ≠ 0 by decide, show (2 : Nat) ≠ 1 by decide]; all_goals omega)]
                rw [show C 12 (3 * p + 2) 1 - dK C p q n 2 = (C 12 (3 * p + 2) 1) - (min (n - (min n (C 12 (3 * p + 1) 1))) (C 12 (3 * p + 2) 1)) by (unfold dK; rw [show avK C p q 0 = _ from avK_q c_4, show avK C p q 1 = _ from avK_y lv_5 c_8, show avK C p q 2 = _ from avK_y lv_13 c_16]; simp only [Nat.one_ne_zero, if_true, if_false, show (2 : Nat) ≠ 0 by decide, show (2 : Nat) ≠ 1 by decide]; all_goals omega)]
                all_goals (funext k2 i2 f2; simp only [up3]; repeat' split)
                all_goals first | rfl | (exfalso; omega) | (rename_i z; obtain ⟨rfl, rfl, rfl⟩ := z; rfl) | (rename_i z _; obtain ⟨rfl, rfl, rfl⟩ := z; rfl) | (rename_i z _ _; obtain ⟨rfl, rfl, rfl⟩ := z; rfl)
              exact s_vret (pc := 78) S hz hlo hr ⟨rfl, hst, rfl⟩ (Nat.le_of_ble_eq_true rfl) (Nat.le_of_ble_eq_true rfl) dX3_takeSheets_78
          · refine s_aald (pc := 27) S hz (v := .null) (cc_trays (A := A) (C := (up3 C 12 (3 * p + 1) 1 ((C 12 (3 * p + 1) 1) - (min n (C 12 (3 * p + 1) 1))))) hp) (by omega) (by decide) (congrArg va_rf (if_neg lv_13)) dX3_takeSheets_27 ?_
            refine s_astoreN (pc := 28) S [(7, .null), (6, .int (nI 2)), (3, .int (nI (n - (min n (C 12 (3 * p + 1) 1))))), (8, .int (nI (min n (C 12 (3 * p + 1) 1)))), (5, .int (nI 3)), (4, .ref (A 14 p)), (0, .ref (A 9 p)), (1, .int (nI q)), (2, .int (nI n))] dX3_takeSheets_28 (by decide) rfl ?_
            refine s_aloadN (pc := 30) S 0 dX3_takeSheets_30 rfl ?_
            refine s_ifnullN (pc := 32) S 72 dX3_takeSheets_32 (by decide) ?_
            refine s_iinc (pc := 72) S 1 [(6, .int (nI 3)), (7, .null), (3, .int (nI (n - (min n (C 12 (3 * p + 1) 1))))), (8, .int (nI (min n (C 12 (3 * p + 1) 1)))), (5, .int (nI 3)), (4, .ref (A 14 p)), (0, .ref (A 9 p)), (1, .int (nI q)), (2, .int (nI n))] dX3_takeSheets_72 rfl (by decide) (by decide) rfl ?_
            refine s_goto (pc := 75) S 16 dX3_takeSheets_75 (by decide) ?_
            refine s_iload (pc := 16) S 0 dX3_takeSheets_16 rfl ?_
            refine s_iload (pc := 18) S 4 dX3_takeSheets_18 rfl ?_
            refine s_icmp_geN (pc := 20) S 78 dX3_takeSheets_20 (by decide) (by decide) (by decide) (fun _ => ?_) (fun h => absurd h (by decide))
            have hst : tkC C p q n = (up3 C 12 (3 * p + 1) 1 ((C 12 (3 * p + 1) 1) - (min n (C 12 (3 * p + 1) 1)))) := by
              unfold tkC
              rw [show C 12 (3 * p + 0) 1 - dK C p q n 0 = C 12 (3 * p + 0) 1 by (unfold dK; rw [show avK C p q 0 = _ from avK_q c_4, show avK C p q 1 = _ from avK_y lv_5 c_8, show avK C p q 2 = _ from avK_n lv_13]; simp only [Nat.one_ne_zero, if_true, if_false, show (2 : Nat) ≠ 0 by decide, show (2 : Nat) ≠ 1 by decide]; all_goals omega)]
              rw [show C 12 (3 * p + 1) 1 - dK C p q n 1 = (C 12 (3 * p + 1) 1) - (min n (C 12 (3 * p + 1) 1)) by (unfold dK; rw [show avK C p q 0 = _ from avK_q c_4, show avK C p q 1 = _ from avK_y lv_5 c_8, show avK C p q 2 = _ from avK_n lv_13]; simp only [Nat.one_ne_zero, if_true, if_false, show (2 : Nat) ≠ 0 by decide, show (2 : Nat) ≠ 1 by decide]; all_goals omega)]
              rw [show C 12 (3 * p + 2) 1 - dK C p q n 2 = C 12 (3 * p + 2) 1 by (unfold dK; rw [show avK C p q 0 = _ from avK_q c_4, show avK C p q 1 = _ from avK_y lv_5 c_8, show avK C p q 2 = _ from avK_n lv_13]; simp only [Nat.one_ne_zero, if_true, if_false, show (2 : Nat) ≠ 0 by decide, show (2 : Nat) ≠ 1 by decide]; all_goals omega)]
              all_goals (funext k2 i2 f2; simp only [up3]; repeat' split)
              all_goals first | rfl | (exfalso; omega) | (rename_i z; obtain ⟨rfl, rfl, rfl⟩ := z; rfl) | (rename_i z _; obtain ⟨rfl, rfl, rfl⟩ := z; rfl) | (rename_i z _ _; obtain ⟨rfl, rfl, rfl⟩ := z; rfl)
            exact s_vret (pc := 78) S hz hlo hr ⟨rfl, hst, rfl⟩ (Nat.le_of_ble_eq_true rfl) (Nat.le_of_ble_eq_true rfl) dX3_takeSheets_78
      · refine s_aald (pc := 27) S hz (v := .null) (cc_trays (A := A) (C := C) hp) (by omega) (by decide) (by rw [if_neg lv_5]; rfl) dX3_takeSheets_27 ?_
        refine s_astoreN (pc := 28) S [(7, .null), (6, .int (nI 1)), (5, .int (nI 3)), (4, .ref (A 14 p)), (3, .int (nI n)), (0, .ref (A 9 p)), (1, .int (nI q)), (2, .int (nI n))] dX3_takeSheets_28 (by decide) rfl ?_
        refine s_aloadN (pc := 30) S 0 dX3_takeSheets_30 rfl ?_
        refine s_ifnullN (pc := 32) S 72 dX3_takeSheets_32 (by decide) ?_
        refine s_iinc (pc := 72) S 1 [(6, .int (nI 2)), (7, .null), (5, .int (nI 3)), (4, .ref (A 14 p)), (3, .int (nI n)), (0, .ref (A 9 p)), (1, .int (nI q)), (2, .int (nI n))] dX3_takeSheets_72 rfl (by decide) (by decide) rfl ?_
        refine s_goto (pc := 75) S 16 dX3_takeSheets_75 (by decide) ?_
        refine s_iload (pc := 16) S 0 dX3_takeSheets_16 rfl ?_
        refine s_iload (pc := 18) S 2 dX3_takeSheets_18 rfl ?_
        refine s_icmp_geN (pc := 20) S 78 dX3_takeSheets_20 (by decide) (by decide) (by decide) (fun h => absurd h (by decide)) (fun _ => ?_)
        refine s_aload (pc := 23) S 3 dX3_takeSheets_23 rfl ?_
        refine s_iload (pc := 25) S 0 dX3_takeSheets_25 rfl ?_
        by_cases lv_17 : 2 < C 9 p 5
        · refine s_aald (pc := 27) S hz (v := .ref (A 12 (3 * p + 2))) (cc_trays (A := A) (C := C) hp) (by omega) (by decide) (by rw [if_pos lv_17]; rfl) dX3_takeSheets_27 ?_
          obtain ⟨o_18, o_19⟩ := hT 2 lv_17
          refine s_astore (pc := 28) S [(7, .ref (A 12 (3 * p + 2))), (6, .int (nI 2)), (5, .int (nI 3)), (4, .ref (A 14 p)), (3, .int (nI n)), (0, .ref (A 9 p)), (1, .int (nI q)), (2, .int (nI n))] dX3_takeSheets_28 (by decide) rfl ?_
          refine s_aload (pc := 30) S 0 dX3_takeSheets_30 rfl ?_
          refine s_ifnull (pc := 32) S dX3_takeSheets_32 ?_
          refine s_aload (pc := 35) S 0 dX3_takeSheets_35 rfl ?_
          refine s_get (pc := 37) S hz (ref := "SpoolFarm$Tray") (v := .int (nI (C 12 (3 * p + 2) 0))) (cc_tray (A := A) (C := C) hp lv_17 (by omega)) i_RX4 rfl 0 (Nat.le_of_ble_eq_true rfl) (by decide +kernel) (fun _ h => h) rfl dX3_takeSheets_37 ?_
          refine s_iload_n (pc := 40) S 6 dX3_takeSheets_40 rfl rfl ?_
          refine s_icmp_neN (pc := 41) S 72 dX3_takeSheets_41 (by decide) (by omega) (by omega) (fun c_20 => ?_) (fun c_20 => ?_)
          · refine s_iinc (pc := 72) S 1 [(6, .int (nI 3)), (7, .ref (A 12 (3 * p + 2))), (5, .int (nI 3)), (4, .ref (A 14 p)), (3, .int (nI n)), (0, .ref (A 9 p)), (1, .int (nI q)), (2, .int (nI n))] dX3_takeSheets_72 rfl (by decide) (by decide) rfl ?_
            refine s_goto (pc := 75) S 16 dX3_takeSheets_75 (by decide) ?_
            refine s_iload (pc := 16) S 0 dX3_takeSheets_16 rfl ?_
            refine s_iload (pc := 18) S 2 dX3_takeSheets_18 rfl ?_
            refine s_icmp_geN (pc := 20) S 78 dX3_takeSheets_20 (by decide) (by decide) (by decide) (fun _ => ?_) (fun h => absurd h (by decide))
            have hst : tkC C p q n = C := by
              unfold tkC
              rw [show C 12 (3 * p + 0) 1 - dK C p q n 0 = C 12 (3 * p + 0) 1 by (unfold dK; rw [show avK C p q 0 = _ from avK_q c_4, show avK C p q 1 = _ from avK_n lv_5, show avK C p q 2 = _ from avK_q c_20]; simp only [Nat.one_ne_zero, if_true, if_false, show (2 : Nat) ≠ 0 by decide, show (2 : Nat) ≠ 1 by decide]; all_goals omega)]
              rw [show C 12 (3 * p + 1) 1 - dK C p q n 1 = C 12 (3 * p + 1) 1 by (unfold dK; rw [show avK C p q 0 = _ from avK_q c_4, show avK C p q 1 = _ from avK_n lv_5, show avK C p q 2 = _ from avK_q c_20]; simp only [Nat.one_ne_zero, if_true, if_false, show (2 : Nat) ≠ 0 by decide, show (2 : Nat) ≠ 1 by decide]; all_goals omega)]
              rw [show C 12 (3 * p + 2) 1 - dK C p q n 2 = C 12 (3 * p + 2) 1 by (unfold dK; rw [show avK C p q 0 = _ from avK_q c_4, show avK C p q 1 = _ from avK_n lv_5, show avK C p q 2 = _ from avK_q c_20]; simp only [Nat.one_ne_zero, if_true, if_false, show (2 : Nat) ≠ 0 by decide, show (2 : Nat) ≠ 1 by decide]; all_goals omega)]
              all_goals (funext k2 i2 f2; simp only [up3]; repeat' split)
              all_goals first | rfl | (exfalso; omega) | (rename_i z; obtain ⟨rfl, rfl, rfl⟩ := z; rfl) | (rename_i z _; obtain ⟨rfl, rfl, rfl⟩ := z; rfl) | (rename_i z _ _; obtain ⟨rfl, rfl, rfl⟩ := z; rfl)
            exact s_vret (pc := 78) S hz hlo hr ⟨rfl, hst, rfl⟩ (Nat.le_of_ble_eq_true rfl) (Nat.le_of_ble_eq_true rfl) dX3_takeSheets_78
          · refine s_iload_n (pc := 44) S 4 dX3_takeSheets_44 rfl rfl ?_
            refine s_aload (pc := 45) S 0 dX3_takeSheets_45 rfl ?_
            refine s_get (pc := 47) S hz (ref := "SpoolFarm$Tray") (v := .int (nI (C 12 (3 * p + 2) 1))) (cc_tray (A := A) (C := C) hp lv_17 (by omega)) i_RX4 rfl 1 (Nat.le_of_ble_eq_true rfl) (by decide +kernel) (fun _ h => h) rfl dX3_takeSheets_47 ?_
            refine s_min (pc := 50) S hml (by omega) (by omega) (by decide +kernel) (by decide +kernel) (by decide +kernel) (by decide +kernel) (Nat.le_of_ble_eq_true rfl) (Nat.le_of_ble_eq_true rfl) (Nat.le_of_ble_eq_true rfl) (Nat.le_of_ble_eq_true rfl) dX3_takeSheets_50 ?_
            refine s_istore (pc := 53) S [(8, .int (nI (min n (C 12 (3 * p + 2) 1)))), (7, .ref (A 12 (3 * p + 2))), (6, .int (nI 2)), (5, .int (nI 3)), (4, .ref (A 14 p)), (3, .int (nI n)), (0, .ref (A 9 p)), (1, .int (nI q)), (2, .int (nI n))] dX3_takeSheets_53 (by decide) rfl ?_
            refine s_aload (pc := 55) S 1 dX3_takeSheets_55 rfl ?_
            refine s_dup (pc := 57) S dX3_takeSheets_57 rfl ?_
            refine s_get (pc := 58) S hz (ref := "SpoolFarm$Tray") (v := .int (nI (C 12 (3 * p + 2) 1))) (cc_tray (A := A) (C := C) hp lv_17 (by omega)) i_RX4 rfl 1 (Nat.le_of_ble_eq_true rfl) (by decide +kernel) (fun _ h => h) rfl dX3_takeSheets_58 ?_
            refine s_iload (pc := 61) S 0 dX3_takeSheets_61 rfl ?_
            refine s_isubN (pc := 63) S dX3_takeSheets_63 (by omega) ?_
            refine s_put (pc := 64) S hz (ref := "SpoolFarm$Tray") (ty := .int) (cc_tray (A := A) (C := C) hp lv_17 (by omega)) i_RX4 tyX4 tyX4_ok nmX4 rfl 1 (Nat.le_of_ble_eq_true rfl) (by decide +kernel) (fun _ h => h) rfl (by decide +kernel) rfl rfl (Nat.le_of_ble_eq_true rfl) (up3 C 12 (3 * p + 2) 1 ((C 12 (3 * p + 2) 1) - (min n (C 12 (3 * p + 2) 1)))) cu_tray (by rw [(cc_tray (A := A) (C := (up3 C 12 (3 * p + 2) 1 ((C 12 (3 * p + 2) 1) - (min n (C 12 (3 * p + 2) 1))))) hp lv_17 (by omega)), up3_u]; rfl) dX3_takeSheets_64 ?_
            refine s_iload_n (pc := 67) S 5 dX3_takeSheets_67 rfl rfl ?_
            refine s_iload (pc := 68) S 0 dX3_takeSheets_68 rfl ?_
            refine s_isubN (pc := 70) S dX3_takeSheets_70 (by omega) ?_
            refine s_istore_n (pc := 71) S [(3, .int (nI (n - (min n (C 12 (3 * p + 2) 1))))), (8, .int (nI (min n (C 12 (3 * p + 2) 1)))), (7, .ref (A 12 (3 * p + 2))), (6, .int (nI 2)), (5, .int (nI 3)), (4, .ref (A 14 p)), (0, .ref (A 9 p)), (1, .int (nI q)), (2, .int (nI n))] dX3_takeSheets_71 rfl (by decide) rfl ?_
            refine s_iinc (pc := 72) S 3 [(6, .int (nI 3)), (3, .int (nI (n - (min n (C 12 (3 * p + 2) 1))))), (8, .int (nI (min n (C 12 (3 * p + 2) 1)))), (7, .ref (A 12 (3 * p + 2))), (5, .int (nI 3)), (4, .ref (A 14 p)), (0, .ref (A 9 p)), (1, .int (nI q)), (2, .int (nI n))] dX3_takeSheets_72 rfl (by decide) (by decide) rfl ?_
            refine s_goto (pc := 75) S 16 dX3_takeSheets_75 (by decide) ?_
            refine s_iload (pc := 16) S 0 dX3_takeSheets_16 rfl ?_
            refine s_iload (pc := 18) S 4 dX3_takeSheets_18 rfl ?_
            refine s_icmp_geN (pc := 20) S 78 dX3_takeSheets_20 (by decide) (by decide) (by decide) (fun _ => ?_) (fun h => absurd h (by decide))
            have hst : tkC C p q n = (up3 C 12 (3 * p + 2) 1 ((C 12 (3 * p + 2) 1) - (min n (C 12 (3 * p + 2) 1)))) := by
              unfold tkC
              rw [show C 12 (3 * p + 0) 1 - dK C p q n 0 = C 12 (3 * p + 0) 1 by (unfold dK; rw [show avK C p q 0 = _ from avK_q c_4, show avK C p q 1 = _ from avK_n lv_5, show avK C p q 2 = _ from avK_y lv_17 c_20]; simp only [Nat.one_ne_zero, if_true, if_false, show (2 : Nat) ≠ 0 by decide, show (2 : Nat) ≠ 1 by decide]; all_goals omega)]
              rw [show C 12 (3 * p + 1) 1 - dK C p q n 1 = C 12 (3 * p + 1) 1 by (unfold dK; rw [show avK C p q 0 = _ from avK_q c_4, show avK C p q 1 = _ from avK_n lv_5, show avK C p q 2 = _ from avK_y lv_17 c_20]; simp only [Nat.one_ne_zero, if_true, if_false, show (2 : Nat) ≠ 0 by decide, show (2 : Nat) ≠ 1 by decide]; all_goals omega)]
              rw [show C 12 (3 * p + 2) 1 - dK C p q n 2 = (C 12 (3 * p + 2) 1) - (min n (C 12 (3 * p + 2) 1)) by (unfold dK; rw [show avK C p q 0 = _ from avK_q c_4, show avK C p q 1 = _ from avK_n lv_5, show avK C p q 2 = _ from avK_y lv_17 c_20]; simp only [Nat.one_ne_zero, if_true, if_false, show (2 : Nat) ≠ 0 by decide, show (2 : Nat) ≠ 1 by decide]; all_goals omega)]
              all_goals (funext k2 i2 f2; simp only [up3]; repeat' split)
              all_goals first | rfl | (exfalso; omega) | (rename_i z; obtain ⟨rfl, rfl, rfl⟩ := z; rfl) | (rename_i z _; obtain ⟨rfl, rfl, rfl⟩ := z; rfl) | (rename_i z _ _; obtain ⟨rfl, rfl, rfl⟩ := z; rfl)
            exact s_vret (pc := 78) S hz hlo hr ⟨rfl, hst, rfl⟩ (Nat.le_of_ble_eq_true rfl) (Nat.le_of_ble_eq_true rfl) dX3_takeSheets_78
        · refine s_aald (pc := 27) S hz (v := .null) (cc_trays (A := A) (C := C) hp) (by omega) (by decide) (by rw [if_neg lv_17]; rfl) dX3_takeSheets_27 ?_
          refine s_astoreN (pc := 28) S [(7, .null), (6, .int (nI 2)), (5, .int (nI 3)), (4, .ref (A 14 p)), (3, .int (nI n)), (0, .ref (A 9 p)), (1, .int (nI q)), (2, .int (nI n))] dX3_takeSheets_28 (by decide) rfl ?_
          refine s_aloadN (pc := 30) S 0 dX3_takeSheets_30 rfl ?_
          refine s_ifnullN (pc := 32) S 72 dX3_takeSheets_32 (by decide) ?_
          refine s_iinc (pc := 72) S 1 [(6, .int (nI 3)), (7, .null), (5, .int (nI 3)), (4, .ref (A 14 p)), (3, .int (nI n)), (0, .ref (A 9 p)), (1, .int (nI q)), (2, .int (nI n))] dX3_takeSheets_72 rfl (by decide) (by decide) rfl ?_
          refine s_goto (pc := 75) S 16 dX3_takeSheets_75 (by decide) ?_
          refine s_iload (pc := 16) S 0 dX3_takeSheets_16 rfl ?_
          refine s_iload (pc := 18) S 2 dX3_takeSheets_18 rfl ?_
          refine s_icmp_geN (pc := 20) S 78 dX3_takeSheets_20 (by decide) (by decide) (by decide) (fun _ => ?_) (fun h => absurd h (by decide))
          have hst : tkC C p q n = C := by
            unfold tkC
            rw [show C 12 (3 * p + 0) 1 - dK C p q n 0 = C 12 (3 * p + 0) 1 by (unfold dK; rw [show avK C p q 0 = _ from avK_q c_4, show avK C p q 1 = _ from avK_n lv_5, show avK C p q 2 = _ from avK_n lv_17]; simp only [Nat.one_ne_zero, if_true, if_false, show (2 : Nat) ≠ 0 by decide, show (2 : Nat) ≠ 1 by decide]; all_goals omega)]
            rw [show C 12 (3 * p + 1) 1 - dK C p q n 1 = C 12 (3 * p + 1) 1 by (unfold dK; rw [show avK C p q 0 = _ from avK_q c_4, show avK C p q 1 = _ from avK_n lv_5, show avK C p q 2 = _ from avK_n lv_17]; simp only [Nat.one_ne_zero, if_true, if_false, show (2 : Nat) ≠ 0 by decide, show (2 : Nat) ≠ 1 by decide]; all_goals omega)]
            rw [show C 12 (3 * p + 2) 1 - dK C p q n 2 = C 12 (3 * p + 2) 1 by (unfold dK; rw [show avK C p q 0 = _ from avK_q c_4, show avK C p q 1 = _ from avK_n lv_5, show avK C p q 2 = _ from avK_n lv_17]; simp only [Nat.one_ne_zero, if_true, if_false, show (2 : Nat) ≠ 0 by decide, show (2 : Nat) ≠ 1 by decide]; all_goals omega)]
            all_goals (funext k2 i2 f2; simp only [up3]; repeat' split)
            all_goals first | rfl | (exfalso; omega) | (rename_i z; obtain ⟨rfl, rfl, rfl⟩ := z; rfl) | (rename_i z _; obtain ⟨rfl, rfl, rfl⟩ := z; rfl) | (rename_i z _ _; obtain ⟨rfl, rfl, rfl⟩ := z; rfl)
          exact s_vret (pc := 78) S hz hlo hr ⟨rfl, hst, rfl⟩ (Nat.le_of_ble_eq_true rfl) (Nat.le_of_ble_eq_true rfl) dX3_takeSheets_78
    · refine s_iload_n (pc := 44) S 4 dX3_takeSheets_44 rfl rfl ?_
      refine s_aload (pc := 45) S 0 dX3_takeSheets_45 rfl ?_
      refine s_get (pc := 47) S hz (ref := "SpoolFarm$Tray") (v := .int (nI (C 12 (3 * p + 0) 1))) (cc_tray (A := A) (C := C) hp lv_1 (by omega)) i_RX4 rfl 1 (Nat.le_of_ble_eq_true rfl) (by decide +kernel) (fun _ h => h) rfl dX3_takeSheets_47 ?_
      refine s_min (pc := 50) S hml (by omega) (by omega) (by decide +kernel) (by decide +kernel) (by decide +kernel) (by decide +kernel) (Nat.le_of_ble_eq_true rfl) (Nat.le_of_ble_eq_true rfl) (Nat.le_of_ble_eq_true rfl) (Nat.le_of_ble_eq_true rfl) dX3_takeSheets_50 ?_
      refine s_istore (pc := 53) S [(8, .int (nI (min n (C 12 (3 * p + 0) 1)))), (7, .ref (A 12 (3 * p + 0))), (6, .int (nI 0)), (5, .int (nI 3)), (4, .ref (A 14 p)), (3, .int (nI n)), (0, .ref (A 9 p)), (1, .int (nI q)), (2, .int (nI n))] dX3_takeSheets_53 (by decide) rfl ?_
      refine s_aload (pc := 55) S 1 dX3_takeSheets_55 rfl ?_
      refine s_dup (pc := 57) S dX3_takeSheets_57 rfl ?_
      refine s_get (pc := 58) S hz (ref := "SpoolFarm$Tray") (v := .int (nI (C 12 (3 * p + 0) 1))) (cc_tray (A := A) (C := C) hp lv_1 (by omega)) i_RX4 rfl 1 (Nat.le_of_ble_eq_true rfl) (by decide +kernel) (fun _ h => h) rfl dX3_takeSheets_58 ?_
      refine s_iload (pc := 61) S 0 dX3_takeSheets_61 rfl ?_
      refine s_isubN (pc := 63) S dX3_takeSheets_63 (by omega) ?_
      refine s_put (pc := 64) S hz (ref := "SpoolFarm$Tray") (ty := .int) (cc_tray (A := A) (C := C) hp lv_1 (by omega)) i_RX4 tyX4 tyX4_ok nmX4 rfl 1 (Nat.le_of_ble_eq_true rfl) (by decide +kernel) (fun _ h => h) rfl (by decide +kernel) rfl rfl (Nat.le_of_ble_eq_true rfl) (up3 C 12 (3 * p + 0) 1 ((C 12 (3 * p + 0) 1) - (min n (C 12 (3 * p + 0) 1)))) cu_tray (by rw [(cc_tray (A := A) (C := (up3 C 12 (3 * p + 0) 1 ((C 12 (3 * p + 0) 1) - (min n (C 12 (3 * p + 0) 1))))) hp lv_1 (by omega)), up3_u]; rfl) dX3_takeSheets_64 ?_
      refine s_iload_n (pc := 67) S 5 dX3_takeSheets_67 rfl rfl ?_
      refine s_iload (pc := 68) S 0 dX3_takeSheets_68 rfl ?_
      refine s_isubN (pc := 70) S dX3_takeSheets_70 (by omega) ?_
      refine s_istore_n (pc := 71) S [(3, .int (nI (n - (min n (C 12 (3 * p + 0) 1))))), (8, .int (nI (min n (C 12 (3 * p + 0) 1)))), (7, .ref (A 12 (3 * p + 0))), (6, .int (nI 0)), (5, .int (nI 3)), (4, .ref (A 14 p)), (0, .ref (A 9 p)), (1, .int (nI q)), (2, .int (nI n))] dX3_takeSheets_71 rfl (by decide) rfl ?_
      refine s_iinc (pc := 72) S 3 [(6, .int (nI 1)), (3, .int (nI (n - (min n (C 12 (3 * p + 0) 1))))), (8, .int (nI (min n (C 12 (3 * p + 0) 1)))), (7, .ref (A 12 (3 * p + 0))), (5, .int (nI 3)), (4, .ref (A 14 p)), (0, .ref (A 9 p)), (1, .int (nI q)), (2, .int (nI n))] dX3_takeSheets_72 rfl (by decide) (by decide) rfl ?_
      refine s_goto (pc := 75) S 16 dX3_takeSheets_75 (by decide) ?_
      refine s_iload (pc := 16) S 0 dX3_takeSheets_16 rfl ?_
      refine s_iload (pc := 18) S 4 dX3_takeSheets_18 rfl ?_
      refine s_icmp_geN (pc := 20) S 78 dX3_takeSheets_20 (by decide) (by decide) (by decide) (fun h => absurd h (by decide)) (fun _ => ?_)
      refine s_aload (pc := 23) S 5 dX3_takeSheets_23 rfl ?_
      refine s_iload (pc := 25) S 0 dX3_takeSheets_25 rfl ?_
      by_cases lv_21 : 1 < C 9 p 5
      · refine s_aald (pc := 27) S hz (v := .ref (A 12 (3 * p + 1))) (cc_trays (A := A) (C := (up3 C 12 (3 * p + 0) 1 ((C 12 (3 * p + 0) 1) - (min n (C 12 (3 * p + 0) 1))))) hp) (by omega) (by decide) (congrArg va_rf (if_pos lv_21)) dX3_takeSheets_27 ?_
        obtain ⟨o_22, o_23⟩ := hT 1 lv_21
        refine s_astore (pc := 28) S [(7, .ref (A 12 (3 * p + 1))), (6, .int (nI 1)), (3, .int (nI (n - (min n (C 12 (3 * p + 0) 1))))), (8, .int (nI (min n (C 12 (3 * p + 0) 1)))), (5, .int (nI 3)), (4, .ref (A 14 p)), (0, .ref (A 9 p)), (1, .int (nI q)), (2, .int (nI n))] dX3_takeSheets_28 (by decide) rfl ?_
        refine s_aload (pc := 30) S 0 dX3_takeSheets_30 rfl ?_
        refine s_ifnull (pc := 32) S dX3_takeSheets_32 ?_
        refine s_aload (pc := 35) S 0 dX3_takeSheets_35 rfl ?_
        refine s_get (pc := 37) S hz (ref := "SpoolFarm$Tray") (v := .int (nI (C 12 (3 * p + 1) 0))) (cc_tray (A := A) (C := (up3 C 12 (3 * p + 0) 1 ((C 12 (3 * p + 0) 1) - (min n (C 12 (3 * p + 0) 1))))) hp lv_21 (by omega)) i_RX4 rfl 0 (Nat.le_of_ble_eq_true rfl) (by decide +kernel) (fun _ h => h) (by rw [up3_i (show 3 * p + 1 ≠ 3 * p + 0 by omega)]; rfl) dX3_takeSheets_37 ?_
        refine s_iload_n (pc := 40) S 7 dX3_takeSheets_40 rfl rfl ?_
        refine s_icmp_neN (pc := 41) S 72 dX3_takeSheets_41 (by decide) (by omega) (by omega) (fun c_24 => ?_) (fun c_24 => ?_)
        · refine s_iinc (pc := 72) S 1 [(6, .int (nI 2)), (7, .ref (A 12 (3 * p + 1))), (3, .int (nI (n - (min n (C 12 (3 * p + 0) 1))))), (8, .int (nI (min n (C 12 (3 * p + 0) 1)))), (5, .int (nI 3)), (4, .ref (A 14 p)), (0, .ref (A 9 p)), (1, .int (nI q)), (2, .int (nI n))] dX3_takeSheets_72 rfl (by decide) (by decide) rfl ?_
          refine s_goto (pc := 75) S 16 dX3_takeSheets_75 (by decide) ?_
          refine s_iload (pc := 16) S 0 dX3_takeSheets_16 rfl ?_
          refine s_iload (pc := 18) S 4 dX3_takeSheets_18 rfl ?_
          refine s_icmp_geN (pc := 20) S 78 dX3_takeSheets_20 (by decide) (by decide) (by decide) (fun h => absurd h (by decide)) (fun _ => ?_)
          refine s_aload (pc := 23) S 5 dX3_takeSheets_23 rfl ?_
          refine s_iload (pc := 25) S 0 dX3_takeSheets_25 rfl ?_
          by_cases lv_25 : 2 < C 9 p 5
          · refine s_aald (pc := 27) S hz (v := .ref (A 12 (3 * p + 2))) (cc_trays (A := A) (C := (up3 C 12 (3 * p + 0) 1 ((C 12 (3 * p + 0) 1) - (min n (C 12 (3 * p + 0) 1))))) hp) (by omega) (by decide) (congrArg va_rf (if_pos lv_25)) dX3_takeSheets_27 ?_
            obtain ⟨o_26, o_27⟩ := hT 2 lv_25
            refine s_astore (pc := 28) S [(7, .ref (A 12 (3 * p + 2))), (6, .int (nI 2)), (3, .int (nI (n - (min n (C 12 (3 * p + 0) 1))))), (8, .int (nI (min n (C 12 (3 * p + 0) 1)))), (5, .int (nI 3)), (4, .ref (A 14 p)), (0, .ref (A 9 p)), (1, .int (nI q)), (2, .int (nI n))] dX3_takeSheets_28 (by decide) rfl ?_
            refine s_aload (pc := 30) S 0 dX3_takeSheets_30 rfl ?_
            refine s_ifnull (pc := 32) S dX3_takeSheets_32 ?_
            refine s_aload (pc := 35) S 0 dX3_takeSheets_35 rfl ?_
            refine s_get (pc := 37) S hz (ref := "SpoolFarm$Tray") (v := .int (nI (C 12 (3 * p + 2) 0))) (cc_tray (A := A) (C := (up3 C 12 (3 * p + 0) 1 ((C 12 (3 * p + 0) 1) - (min n (C 12 (3 * p + 0) 1))))) hp lv_25 (by omega)) i_RX4 rfl 0 (Nat.le_of_ble_eq_true rfl) (by decide +kernel) (fun _ h => h) (by rw [up3_i (show 3 * p + 2 ≠ 3 * p + 0 by omega)]; rfl) dX3_takeSheets_37 ?_
            refine s_iload_n (pc := 40) S 7 dX3_takeSheets_40 rfl rfl ?_
            refine s_icmp_neN (pc := 41) S 72 dX3_takeSheets_41 (by decide) (by omega) (by omega) (fun c_28 => ?_) (fun c_28 => ?_)
            · refine s_iinc (pc := 72) S 1 [(6, .int (nI 3)), (7, .ref (A 12 (3 * p + 2))), (3, .int (nI (n - (min n (C 12 (3 * p + 0) 1))))), (8, .int (nI (min n (C 12 (3 * p + 0) 1)))), (5, .int (nI 3)), (4, .ref (A 14 p)), (0, .ref (A 9 p)), (1, .int (nI q)), (2, .int (nI n))] dX3_takeSheets_72 rfl (by decide) (by decide) rfl ?_
              refine s_goto (pc := 75) S 16 dX3_takeSheets_75 (by decide) ?_
              refine s_iload (pc := 16) S 0 dX3_takeSheets_16 rfl ?_
              refine s_iload (pc := 18) S 4 dX3_takeSheets_18 rfl ?_
              refine s_icmp_geN (pc := 20) S 78 dX3_takeSheets_20 (by decide) (by decide) (by decide) (fun _ => ?_) (fun h => absurd h (by decide))
              have hst : tkC C p q n = (up3 C 12 (3 * p + 0) 1 ((C 12 (3 * p + 0) 1) - (min n (C 12 (3 * p + 0) 1)))) := by
                unfold tkC
                rw [show C 12 (3 * p + 0) 1 - dK C p q n 0 = (C 12 (3 * p + 0) 1) - (min n (C 12 (3 * p + 0) 1)) by (unfold dK; rw [show avK C p q 0 = _ from avK_y lv_1 c_4, show avK C p q 1 = _ from avK_q c_24, show avK C p q 2 = _ from avK_q c_28]; simp only [Nat.one_ne_zero, if_true, if_false, show (2 : Nat) ≠ 0 by decide, show (2 : Nat) ≠ 1 by decide]; all_goals omega)]
                rw [show C 12 (3 * p + 1) 1 - dK C p q n 1 = C 12 (3 * p + 1) 1 by (unfold dK; rw [show avK C p q 0 = _ from avK_y lv_1 c_4, show avK C p q 1 = _ from avK_q c_24, show avK C p q 2 = _ from avK_q c_28]; simp only [Nat.one_ne_zero, if_true, if_false, show (2 : Nat) ≠ 0 by decide, show (2 : Nat) ≠ 1 by decide]; all_goals omega)]
                rw [show C 12 (3 * p + 2) 1 - dK C p q n 2 = C 12 (3 * p + 2) 1 by (unfold dK; rw [show avK C p q 0 = _ from avK_y lv_1 c_4, show avK C p q 1 = _ from avK_q c_24, show avK C p q 2 = _ from avK_q c_28]; simp only [Nat.one_ne_zero, if_true, if_false, show (2 : Nat) ≠ 0 by decide, show (2 : Nat) ≠ 1 by decide]; all_goals omega)]
                all_goals (funext k2 i2 f2; simp only [up3]; repeat' split)
                all_goals first | rfl | (exfalso; omega) | (rename_i z; obtain ⟨rfl, rfl, rfl⟩ := z; rfl) | (rename_i z _; obtain ⟨rfl, rfl, rfl⟩ := z; rfl) | (rename_i z _ _; obtain ⟨rfl, rfl, rfl⟩ := z; rfl)
              exact s_vret (pc := 78) S hz hlo hr ⟨rfl, hst, rfl⟩ (Nat.le_of_ble_eq_true rfl) (Nat.le_of_ble_eq_true rfl) dX3_takeSheets_78
            · refine s_iload_n (pc := 44) S 2 dX3_takeSheets_44 rfl rfl ?_
              refine s_aload (pc := 45) S 0 dX3_takeSheets_45 rfl ?_
              refine s_get (pc := 47) S hz (ref := "SpoolFarm$Tray") (v := .int (nI (C 12 (3 * p + 2) 1))) (cc_tray (A := A) (C := (up3 C 12 (3 * p + 0) 1 ((C 12 (3 * p + 0) 1) - (min n (C 12 (3 * p + 0) 1))))) hp lv_25 (by omega)) i_RX4 rfl 1 (Nat.le_of_ble_eq_true rfl) (by decide +kernel) (fun _ h => h) (by rw [up3_i (show 3 * p + 2 ≠ 3 * p + 0 by omega)]; rfl) dX3_takeSheets_47 ?_
              refine s_min (pc := 50) S hml (by omega) (by omega) (by decide +kernel) (by decide +kernel) (by decide +kernel) (by decide +kernel) (Nat.le_of_ble_eq_true rfl) (Nat.le_of_ble_eq_true rfl) (Nat.le_of_ble_eq_true rfl) (Nat.le_of_ble_eq_true rfl) dX3_takeSheets_50 ?_
              refine s_istore (pc := 53) S [(8, .int (nI (min (n - (min n (C 12 (3 * p + 0) 1))) (C 12 (3 * p + 2) 1)))), (7, .ref (A 12 (3 * p + 2))), (6, .int (nI 2)), (3, .int (nI (n - (min n (C 12 (3 * p + 0) 1))))), (5, .int (nI 3)), (4, .ref (A 14 p)), (0, .ref (A 9 p)), (1, .int (nI q)), (2, .int (nI n))] dX3_takeSheets_53 (by decide) rfl ?_
              refine s_aload (pc := 55) S 1 dX3_takeSheets_55 rfl ?_
              refine s_dup (pc := 57) S dX3_takeSheets_57 rfl ?_
              refine s_get (pc := 58) S hz (ref := "SpoolFarm$Tray") (v := .int (nI (C 12 (3 * p + 2) 1))) (cc_tray (A := A) (C := (up3 C 12 (3 * p + 0) 1 ((C 12 (3 * p + 0) 1) - (min n (C 12 (3 * p + 0) 1))))) hp lv_25 (by omega)) i_RX4 rfl 1 (Nat.le_of_ble_eq_true rfl) (by decide +kernel) (fun _ h => h) (by rw [up3_i (show 3 * p + 2 ≠ 3 * p + 0 by omega)]; rfl) dX3_takeSheets_58 ?_
              refine s_iload (pc := 61) S 0 dX3_takeSheets_61 rfl ?_
              refine s_isubN (pc := 63) S dX3_takeSheets_63 (by omega) ?_
              refine s_put (pc := 64) S hz (ref := "SpoolFarm$Tray") (ty := .int) (cc_tray (A := A) (C := (up3 C 12 (3 * p + 0) 1 ((C 12 (3 * p + 0) 1) - (min n (C 12 (3 * p + 0) 1))))) hp lv_25 (by omega)) i_RX4 tyX4 tyX4_ok nmX4 rfl 1 (Nat.le_of_ble_eq_true rfl) (by decide +kernel) (fun _ h => h) rfl (by decide +kernel) rfl rfl (Nat.le_of_ble_eq_true rfl) (up3 (up3 C 12 (3 * p + 0) 1 ((C 12 (3 * p + 0) 1) - (min n (C 12 (3 * p + 0) 1)))) 12 (3 * p + 2) 1 ((C 12 (3 * p + 2) 1) - (min (n - (min n (C 12 (3 * p + 0) 1))) (C 12 (3 * p + 2) 1)))) cu_tray (by rw [(cc_tray (A := A) (C := (up3 (up3 C 12 (3 * p + 0) 1 ((C 12 (3 * p + 0) 1) - (min n (C 12 (3 * p + 0) 1)))) 12 (3 * p + 2) 1 ((C 12 (3 * p + 2) 1) - (min (n - (min n (C 12 (3 * p + 0) 1))) (C 12 (3 * p + 2) 1))))) hp lv_25 (by omega)), up3_u]; rfl) dX3_takeSheets_64 ?_
              refine s_iload_n (pc := 67) S 3 dX3_takeSheets_67 rfl rfl ?_
              refine s_iload (pc := 68) S 0 dX3_takeSheets_68 rfl ?_
              refine s_isubN (pc := 70) S dX3_takeSheets_70 (by omega) ?_
              refine s_istore_n (pc := 71) S [(3, .int (nI ((n - (min n (C 12 (3 * p + 0) 1))) - (min (n - (min n (C 12 (3 * p + 0) 1))) (C 12 (3 * p + 2) 1))))), (8, .int (nI (min (n - (min n (C 12 (3 * p + 0) 1))) (C 12 (3 * p + 2) 1)))), (7, .ref (A 12 (3 * p + 2))), (6, .int (nI 2)), (5, .int (nI 3)), (4, .ref (A 14 p)), (0, .ref (A 9 p)), (1, .int (nI q)), (2, .int (nI n))] dX3_takeSheets_71 rfl (by decide) rfl ?_
              refine s_iinc (pc := 72) S 3 [(6, .int (nI 3)), (3, .int (nI ((n - (min n (C 12 (3 * p + 0) 1))) - (min (n - (min n (C 12 (3 * p + 0) 1))) (C 12 (3 * p + 2) 1))))), (8, .int (nI (min (n - (min n (C 12 (3 * p + 0) 1))) (C 12 (3 * p + 2) 1)))), (7, .ref (A 12 (3 * p + 2))), (5, .int (nI 3)), (4, .ref (A 14 p)), (0, .ref (A 9 p)), (1, .int (nI q)), (2, .int (nI n))] dX3_takeSheets_72 rfl (by decide) (by decide) rfl ?_
              refine s_goto (pc := 75) S 16 dX3_takeSheets_75 (by decide) ?_
              refine s_iload (pc := 16) S 0 dX3_takeSheets_16 rfl ?_
              refine s_iload (pc := 18) S 4 dX3_takeSheets_18 rfl ?_
              refine s_icmp_geN (pc := 20) S 78 dX3_takeSheets_20 (by decide) (by decide) (by decide) (fun _ => ?_) (fun h => absurd h (by decide))
              have hst : tkC C p q n = (up3 (up3 C 12 (3 * p + 0) 1 ((C 12 (3 * p + 0) 1) - (min n (C 12 (3 * p + 0) 1)))) 12 (3 * p + 2) 1 ((C 12 (3 * p + 2) 1) - (min (n - (min n (C 12 (3 * p + 0) 1))) (C 12 (3 * p + 2) 1)))) := by
                unfold tkC
                rw [show C 12 (3 * p + 0) 1 - dK C p q n 0 = (C 12 (3 * p + 0) 1) - (min n (C 12 (3 * p + 0) 1)) by (unfold dK; rw [show avK C p q 0 = _ from avK_y lv_1 c_4, show avK C p q 1 = _ from avK_q c_24, show avK C p q 2 = _ from avK_y lv_25 c_28]; simp only [Nat.one_ne_zero, if_true, if_false, show (2 : Nat) ≠ 0 by decide, show (2 : Nat) ≠ 1 by decide]; all_goals omega)]
                rw [show C 12 (3 * p + 1) 1 - dK C p q n 1 = C 12 (3 * p + 1) 1 by (unfold dK; rw [show avK C p q 0 = _ from avK_y lv_1 c_4, show avK C p q 1 = _ from avK_q c_24, show avK C p q 2 = _ from avK_y lv_25 c_28]; simp only [Nat.one_ne_zero, if_true, if_false, show (2 : Nat) ≠ 0 by decide, show (2 : Nat) ≠ 1 by decide]; all_goals omega)]
                rw [show C 12 (3 * p + 2) 1 - dK C p q n 2 = (C 12 (3 * p + 2) 1) - (min (n - (min n (C 12 (3 * p + 0) 1))) (C 12 (3 * p + 2) 1)) by (unfold dK; rw [show avK C p q 0 = _ from avK_y lv_1 c_4, show avK C p q 1 = _ from avK_q c_24, show avK C p q 2 = _ from avK_y lv_25 c_28]; simp only [Nat.one_ne_zero, if_true, if_false, show (2 : Nat) ≠ 0 by decide, show (2 : Nat) ≠ 1 by decide]; all_goals omega)]
                all_goals (funext k2 i2 f2; simp only [up3]; repeat' split)
                all_goals first | rfl | (exfalso; omega) | (rename_i z; obtain ⟨rfl, rfl, rfl⟩ := z; rfl) | (rename_i z _; obtain ⟨rfl, rfl, rfl⟩ := z; rfl) | (rename_i z _ _; obtain ⟨rfl, rfl, rfl⟩ := z; rfl)
              exact s_vret (pc := 78) S hz hlo hr ⟨rfl, hst, rfl⟩ (Nat.le_of_ble_eq_true rfl) (Nat.le_of_ble_eq_true rfl) dX3_takeSheets_78
          · refine s_aald (pc := 27) S hz (v := .null) (cc_trays (A := A) (C := (up3 C 12 (3 * p + 0) 1 ((C 12 (3 * p + 0) 1) - (min n (C 12 (3 * p + 0) 1))))) hp) (by omega) (by decide) (congrArg va_rf (if_neg lv_25)) dX3_takeSheets_27 ?_
            refine s_astoreN (pc := 28) S [(7, .null), (6, .int (nI 2)), (3, .int (nI (n - (min n (C 12 (3 * p + 0) 1))))), (8, .int (nI (min n (C 12 (3 * p + 0) 1)))), (5, .int (nI 3)), (4, .ref (A 14 p)), (0, .ref (A 9 p)), (1, .int (nI q)), (2, .int (nI n))] dX3_takeSheets_28 (by decide) rfl ?_
            refine s_aloadN (pc := 30) S 0 dX3_takeSheets_30 rfl ?_
            refine s_ifnullN (pc := 32) S 72 dX3_takeSheets_32 (by decide) ?_
            refine s_iinc (pc := 72) S 1 [(6, .int (nI 3)), (7, .null), (3, .int (nI (n - (min n (C 12 (3 * p + 0) 1))))), (8, .int (nI (min n (C 12 (3 * p + 0) 1)))), (5, .int (nI 3)), (4, .ref (A 14 p)), (0, .ref (A 9 p)), (1, .int (nI q)), (2, .int (nI n))] dX3_takeSheets_72 rfl (by decide) (by decide) rfl ?_
            refine s_goto (pc := 75) S 16 dX3_takeSheets_75 (by decide) ?_
            refine s_iload (pc := 16) S 0 dX3_takeSheets_16 rfl ?_
            refine s_iload (pc := 18) S 4 dX3_takeSheets_18 rfl ?_
            refine s_icmp_geN (pc := 20) S 78 dX3_takeSheets_20 (by decide) (by decide) (by decide) (fun _ => ?_) (fun h => absurd h (by decide))
            have hst : tkC C p q n = (up3 C 12 (3 * p + 0) 1 ((C 12 (3 * p + 0) 1) - (min n (C 12 (3 * p + 0) 1)))) := by
              unfold tkC
              rw [show C 12 (3 * p + 0) 1 - dK C p q n 0 = (C 12 (3 * p + 0) 1) - (min n (C 12 (3 * p + 0) 1)) by (unfold dK; rw [show avK C p q 0 = _ from avK_y lv_1 c_4, show avK C p q 1 = _ from avK_q c_24, show avK C p q 2 = _ from avK_n lv_25]; simp only [Nat.one_ne_zero, if_true, if_false, show (2 : Nat) ≠ 0 by decide, show (2 : Nat) ≠ 1 by decide]; all_goals omega)]
              rw [show C 12 (3 * p + 1) 1 - dK C p q n 1 = C 12 (3 * p + 1) 1 by (unfold dK; rw [show avK C p q 0 = _ from avK_y lv_1 c_4, show avK C p q 1 = _ from avK_q c_24, show avK C p q 2 = _ from avK_n lv_25]; simp only [Nat.one_ne_zero, if_true, if_false, show (2 : Nat) ≠ 0 by decide, show (2 : Nat) ≠ 1 by decide]; all_goals omega)]
              rw [show C 12 (3 * p + 2) 1 - dK C p q n 2 = C 12 (3 * p + 2) 1 by (unfold dK; rw [show avK C p q 0 = _ from avK_y lv_1 c_4, show avK C p q 1 = _ from avK_q c_24, show avK C p q 2 = _ from avK_n lv_25]; simp only [Nat.one_ne_zero, if_true, if_false, show (2 : Nat) ≠ 0 by decide, show (2 : Nat) ≠ 1 by decide]; all_goals omega)]
              all_goals (funext k2 i2 f2; simp only [up3]; repeat' split)
              all_goals first | rfl | (exfalso; omega) | (rename_i z; obtain ⟨rfl, rfl, rfl⟩ := z; rfl) | (rename_i z _; obtain ⟨rfl, rfl, rfl⟩ := z; rfl) | (rename_i z _ _; obtain ⟨rfl, rfl, rfl⟩ := z; rfl)
            exact s_vret (pc := 78) S hz hlo hr ⟨rfl, hst, rfl⟩ (Nat.le_of_ble_eq_true rfl) (Nat.le_of_ble_eq_true rfl) dX3_takeSheets_78
        · refine s_iload_n (pc := 44) S 2 dX3_takeSheets_44 rfl rfl ?_
          refine s_aload (pc := 45) S 0 dX3_takeSheets_45 rfl ?_
          refine s_get (pc := 47) S hz (ref := "SpoolFarm$Tray") (v := .int (nI (C 12 (3 * p + 1) 1))) (cc_tray (A := A) (C := (up3 C 12 (3 * p + 0) 1 ((C 12 (3 * p + 0) 1) - (min n (C 12 (3 * p + 0) 1))))) hp lv_21 (by omega)) i_RX4 rfl 1 (Nat.le_of_ble_eq_true rfl) (by decide +kernel) (fun _ h => h) (by rw [up3_i (show 3 * p + 1 ≠ 3 * p + 0 by omega)]; rfl) dX3_takeSheets_47 ?_
          refine s_min (pc := 50) S hml (by omega) (by omega) (by decide +kernel) (by decide +kernel) (by decide +kernel) (by decide +kernel) (Nat.le_of_ble_eq_true rfl) (Nat.le_of_ble_eq_true rfl) (Nat.le_of_ble_eq_true rfl) (Nat.le_of_ble_eq_true rfl) dX3_takeSheets_50 ?_
          refine s_istore (pc := 53) S [(8, .int (nI (min (n - (min n (C 12 (3 * p + 0) 1))) (C 12 (3 * p + 1) 1)))), (7, .ref (A 12 (3 * p + 1))), (6, .int (nI 1)), (3, .int (nI (n - (min n (C 12 (3 * p + 0) 1))))), (5, .int (nI 3)), (4, .ref (A 14 p)), (0, .ref (A 9 p)), (1, .int (nI q)), (2, .int (nI n))] dX3_takeSheets_53 (by decide) rfl ?_
          refine s_aload (pc := 55) S 1 dX3_takeSheets_55 rfl ?_
          refine s_dup (pc := 57) S dX3_takeSheets_57 rfl ?_
          refine s_get (pc := 58) S hz (ref := "SpoolFarm$Tray") (v := .int (nI (C 12 (3 * p + 1) 1))) (cc_tray (A := A) (C := (up3 C 12 (3 * p + 0) 1 ((C 12 (3 * p + 0) 1) - (min n (C 12 (3 * p + 0) 1))))) hp lv_21 (by omega)) i_RX4 rfl 1 (Nat.le_of_ble_eq_true rfl) (by decide +kernel) (fun _ h => h) (by rw [up3_i (show 3 * p + 1 ≠ 3 * p + 0 by omega)]; rfl) dX3_takeSheets_58 ?_
          refine s_iload (pc := 61) S 0 dX3_takeSheets_61 rfl ?_
          refine s_isubN (pc := 63) S dX3_takeSheets_63 (by omega) ?_
          refine s_put (pc := 64) S hz (ref := "SpoolFarm$Tray") (ty := .int) (cc_tray (A := A) (C := (up3 C 12 (3 * p + 0) 1 ((C 12 (3 * p + 0) 1) - (min n (C 12 (3 * p + 0) 1))))) hp lv_21 (by omega)) i_RX4 tyX4 tyX4_ok nmX4 rfl 1 (Nat.le_of_ble_eq_true rfl) (by decide +kernel) (fun _ h => h) rfl (by decide +kernel) rfl rfl (Nat.le_of_ble_eq_true rfl) (up3 (up3 C 12 (3 * p + 0) 1 ((C 12 (3 * p + 0) 1) - (min n (C 12 (3 * p + 0) 1)))) 12 (3 * p + 1) 1 ((C 12 (3 * p + 1) 1) - (min (n - (min n (C 12 (3 * p + 0) 1))) (C 12 (3 * p + 1) 1)))) cu_tray (by rw [(cc_tray (A := A) (C := (up3 (up3 C 12 (3 * p + 0) 1 ((C 12 (3 * p + 0) 1) - (min n (C 12 (3 * p + 0) 1)))) 12 (3 * p + 1) 1 ((C 12 (3 * p + 1) 1) - (min (n - (min n (C 12 (3 * p + 0) 1))) (C 12 (3 * p + 1) 1))))) hp lv_21 (by omega)), up3_u]; rfl) dX3_takeSheets_64 ?_
          refine s_iload_n (pc := 67) S 3 dX3_takeSheets_67 rfl rfl ?_
          refine s_iload (pc := 68) S 0 dX3_takeSheets_68 rfl ?_
          refine s_isubN (pc := 70) S dX3_takeSheets_70 (by omega) ?_
          refine s_istore_n (pc := 71) S [(3, .int (nI ((n - (min n (C 12 (3 * p + 0) 1))) - (min (n - (min n (C 12 (3 * p + 0) 1))) (C 12 (3 * p + 1) 1))))), (8, .int (nI (min (n - (min n (C 12 (3 * p + 0) 1))) (C 12 (3 * p + 1) 1)))), (7, .ref (A 12 (3 * p + 1))), (6, .int (nI 1)), (5, .int (nI 3)), (4, .ref (A 14 p)), (0, .ref (A 9 p)), (1, .int (nI q)), (2, .int (nI n))] dX3_takeSheets_71 rfl (by decide) rfl ?_
          refine s_iinc (pc := 72) S 3 [(6, .int (nI 2)), (3, .int (nI ((n - (min n (C 12 (3 * p + 0) 1))) - (min (n - (min n (C 12 (3 * p + 0) 1))) (C 12 (3 * p + 1) 1))))), (8, .int (nI (min (n - (min n (C 12 (3 * p + 0) 1))) (C 12 (3 * p + 1) 1)))), (7, .ref (A 12 (3 * p + 1))), (5, .int (nI 3)), (4, .ref (A 14 p)), (0, .ref (A 9 p)), (1, .int (nI q)), (2, .int (nI n))] dX3_takeSheets_72 rfl (by decide) (by decide) rfl ?_
          refine s_goto (pc := 75) S 16 dX3_takeSheets_75 (by decide) ?_
          refine s_iload (pc := 16) S 0 dX3_takeSheets_16 rfl ?_
          refine s_iload (pc := 18) S 4 dX3_takeSheets_18 rfl ?_
          refine s_icmp_geN (pc := 20) S 78 dX3_takeSheets_20 (by decide) (by decide) (by decide) (fun h => absurd h (by decide)) (fun _ => ?_)
          refine s_aload (pc := 23) S 5 dX3_takeSheets_23 rfl ?_
          refine s_iload (pc := 25) S 0 dX3_takeSheets_25 rfl ?_
          by_cases lv_29 : 2 < C 9 p 5
          · refine s_aald (pc := 27) S hz (v := .ref (A 12 (3 * p + 2))) (cc_trays (A := A) (C := (up3 (up3 C 12 (3 * p + 0) 1 ((C 12 (3 * p + 0) 1) - (min n (C 12 (3 * p + 0) 1)))) 12 (3 * p + 1) 1 ((C 12 (3 * p + 1) 1) - (min (n - (min n (C 12 (3 * p + 0) 1))) (C 12 (3 * p + 1) 1))))) hp) (by omega) (by decide) (congrArg va_rf (if_pos lv_29)) dX3_takeSheets_27 ?_
            obtain ⟨o_30, o_31⟩ := hT 2 lv_29
            refine s_astore (pc := 28) S [(7, .ref (A 12 (3 * p + 2))), (6, .int (nI 2)), (3, .int (nI ((n - (min n (C 12 (3 * p + 0) 1))) - (min (n - (min n (C 12 (3 * p + 0) 1))) (C 12 (3 * p + 1) 1))))), (8, .int (nI (min (n - (min n (C 12 (3 * p + 0) 1))) (C 12 (3 * p + 1) 1)))), (5, .int (nI 3)), (4, .ref (A 14 p)), (0, .ref (A 9 p)), (1, .int (nI q)), (2, .int (nI n))] dX3_takeSheets_28 (by decide) rfl ?_
            refine s_aload (pc := 30) S 0 dX3_takeSheets_30 rfl ?_
            refine s_ifnull (pc := 32) S dX3_takeSheets_32 ?_
            refine s_aload (pc := 35) S 0 dX3_takeSheets_35 rfl ?_
            refine s_get (pc := 37) S hz (ref := "SpoolFarm$Tray") (v := .int (nI (C 12 (3 * p + 2) 0))) (cc_tray (A := A) (C := (up3 (up3 C 12 (3 * p + 0) 1 ((C 12 (3 * p + 0) 1) - (min n (C 12 (3 * p + 0) 1)))) 12 (3 * p + 1) 1 ((C 12 (3 * p + 1) 1) - (min (n - (min n (C 12 (3 * p + 0) 1))) (C 12 (3 * p + 1) 1))))) hp lv_29 (by omega)) i_RX4 rfl 0 (Nat.le_of_ble_eq_true rfl) (by decide +kernel) (fun _ h => h) (by rw [up3_i (show 3 * p + 2 ≠ 3 * p + 1 by omega), up3_i (show 3 * p + 2 ≠ 3 * p + 0 by omega)]; rfl) dX3_takeSheets_37 ?_
            refine s_iload_n (pc := 40) S 7 dX3_takeSheets_40 rfl rfl ?_
            refine s_icmp_neN (pc := 41) S 72 dX3_takeSheets_41 (by decide) (by omega) (by omega) (fun c_32 => ?_) (fun c_32 => ?_)
            · refine s_iinc (pc := 72) S 1 [(6, .int (nI 3)), (7, .ref (A 12 (3 * p + 2))), (3, .int (nI ((n - (min n (C 12 (3 * p + 0) 1))) - (min (n - (min n (C 12 (3 * p + 0) 1))) (C 12 (3 * p + 1) 1))))), (8, .int (nI (min (n - (min n (C 12 (3 * p + 0) 1))) (C 12 (3 * p + 1) 1)))), (5, .int (nI 3)), (4, .ref (A 14 p)), (0, .ref (A 9 p)), (1, .int (nI q)), (2, .int (nI n))] dX3_takeSheets_72 rfl (by decide) (by decide) rfl ?_
              refine s_goto (pc := 75) S 16 dX3_takeSheets_75 (by decide) ?_
              refine s_iload (pc := 16) S 0 dX3_takeSheets_16 rfl ?_
              refine s_iload (pc := 18) S 4 dX3_takeSheets_18 rfl ?_
              refine s_icmp_geN (pc := 20) S 78 dX3_takeSheets_20 (by decide) (by decide) (by decide) (fun _ => ?_) (fun h => absurd h (by decide))
              have hst : tkC C p q n = (up3 (up3 C 12 (3 * p + 0) 1 ((C 12 (3 * p + 0) 1) - (min n (C 12 (3 * p + 0) 1)))) 12 (3 * p + 1) 1 ((C 12 (3 * p + 1) 1) - (min (n - (min n (C 12 (3 * p + 0) 1))) (C 12 (3 * p + 1) 1)))) := by
                unfold tkC
                rw [show C 12 (3 * p + 0) 1 - dK C p q n 0 = (C 12 (3 * p + 0) 1) - (min n (C 12 (3 * p + 0) 1)) by (unfold dK; rw [show avK C p q 0 = _ from avK_y lv_1 c_4, show avK C p q 1 = _ from avK_y lv_21 c_24, show avK C p q 2 = _ from avK_q c_32]; simp only [Nat.one_ne_zero, if_true, if_false, show (2 : Nat) ≠ 0 by decide, show (2 : Nat) ≠ 1 by decide]; all_goals omega)]
                rw [show C 12 (3 * p + 1) 1 - dK C p q n 1 = (C 12 (3 * p + 1) 1) - (min (n - (min n (C 12 (3 * p + 0) 1))) (C 12 (3 * p + 1) 1)) by (unfold dK; rw [show avK C p q 0 = _ from avK_y lv_1 c_4, show avK C p q 1 = _ from avK_y lv_21 c_24, show avK C p q 2 = _ from avK_q c_32]; simp only [Nat.one_ne_zero, if_true, if_false, show (2 : Nat) ≠ 0 by decide, show (2 : Nat) ≠ 1 by decide]; all_goals omega)]
                rw [show C 12 (3 * p + 2) 1 - dK C p q n 2 = C 12 (3 * p + 2) 1 by (unfold dK; rw [show avK C p q 0 = _ from avK_y lv_1 c_4, show avK C p q 1 = _ from avK_y lv_21 c_24, show avK C p q 2 = _ from avK_q c_32]; simp only [Nat.one_ne_zero, if_true, if_false, show (2 : Nat) ≠ 0 by decide, show (2 : Nat) ≠ 1 by decide]; all_goals omega)]
                all_goals (funext k2 i2 f2; simp only [up3]; repeat' split)
                all_goals first | rfl | (exfalso; omega) | (rename_i z; obtain ⟨rfl, rfl, rfl⟩ := z; rfl) | (rename_i z _; obtain ⟨rfl, rfl, rfl⟩ := z; rfl) | (rename_i z _ _; obtain ⟨rfl, rfl, rfl⟩ := z; rfl)
              exact s_vret (pc := 78) S hz hlo hr ⟨rfl, hst, rfl⟩ (Nat.le_of_ble_eq_true rfl) (Nat.le_of_ble_eq_true rfl) dX3_takeSheets_78
            · refine s_iload_n (pc := 44) S 2 dX3_takeSheets_44 rfl rfl ?_
              refine s_aload (pc := 45) S 0 dX3_takeSheets_45 rfl ?_
              refine s_get (pc := 47) S hz (ref := "SpoolFarm$Tray") (v := .int (nI (C 12 (3 * p + 2) 1))) (cc_tray (A := A) (C := (up3 (up3 C 12 (3 * p + 0) 1 ((C 12 (3 * p + 0) 1) - (min n (C 12 (3 * p + 0) 1)))) 12 (3 * p + 1) 1 ((C 12 (3 * p + 1) 1) - (min (n - (min n (C 12 (3 * p + 0) 1))) (C 12 (3 * p + 1) 1))))) hp lv_29 (by omega)) i_RX4 rfl 1 (Nat.le_of_ble_eq_true rfl) (by decide +kernel) (fun _ h => h) (by rw [up3_i (show 3 * p + 2 ≠ 3 * p + 1 by omega), up3_i (show 3 * p + 2 ≠ 3 * p + 0 by omega)]; rfl) dX3_takeSheets_47 ?_
              refine s_min (pc := 50) S hml (by omega) (by omega) (by decide +kernel) (by decide +kernel) (by decide +kernel) (by decide +kernel) (Nat.le_of_ble_eq_true rfl) (Nat.le_of_ble_eq_true rfl) (Nat.le_of_ble_eq_true rfl) (Nat.le_of_ble_eq_true rfl) dX3_takeSheets_50 ?_
              refine s_istore (pc := 53) S [(8, .int (nI (min ((n - (min n (C 12 (3 * p + 0) 1))) - (min (n - (min n (C 12 (3 * p + 0) 1))) (C 12 (3 * p + 1) 1))) (C 12 (3 * p + 2) 1)))), (7, .ref (A 12 (3 * p + 2))), (6, .int (nI 2)), (3, .int (nI ((n - (min n (C 12 (3 * p + 0) 1))) - (min (n - (min n (C 12 (3 * p + 0) 1))) (C 12 (3 * p + 1) 1))))), (5, .int (nI 3)), (4, .ref (A 14 p)), (0, .ref (A 9 p)), (1, .int (nI q)), (2, .int (nI n))] dX3_takeSheets_53 (by decide) rfl ?_
              refine s_aload (pc := 55) S 1 dX3_takeSheets_55 rfl ?_
              refine s_dup (pc := 57) S dX3_takeSheets_57 rfl ?_
              refine s_get (pc := 58) S hz (ref := "SpoolFarm$Tray") (v := .int (nI (C 12 (3 * p + 2) 1))) (cc_tray (A := A) (C := (up3 (up3 C 12 (3 * p + 0) 1 ((C 12 (3 * p + 0) 1) - (min n (C 12 (3 * p + 0) 1)))) 12 (3 * p + 1) 1 ((C 12 (3 * p + 1) 1) - (min (n - (min n (C 12 (3 * p + 0) 1))) (C 12 (3 * p + 1) 1))))) hp lv_29 (by omega)) i_RX4 rfl 1 (Nat.le_of_ble_eq_true rfl) (by decide +kernel) (fun _ h => h) (by rw [up3_i (show 3 * p + 2 ≠ 3 * p + 1 by omega), up3_i (show 3 * p + 2 ≠ 3 * p + 0 by omega)]; rfl) dX3_takeSheets_58 ?_
              refine s_iload (pc := 61) S 0 dX3_takeSheets_61 rfl ?_
              refine s_isubN (pc := 63) S dX3_takeSheets_63 (by omega) ?_
              refine s_put (pc := 64) S hz (ref := "SpoolFarm$Tray") (ty := .int) (cc_tray (A := A) (C := (up3 (up3 C 12 (3 * p + 0) 1 ((C 12 (3 * p + 0) 1) - (min n (C 12 (3 * p + 0) 1)))) 12 (3 * p + 1) 1 ((C 12 (3 * p + 1) 1) - (min (n - (min n (C 12 (3 * p + 0) 1))) (C 12 (3 * p + 1) 1))))) hp lv_29 (by omega)) i_RX4 tyX4 tyX4_ok nmX4 rfl 1 (Nat.le_of_ble_eq_true rfl) (by decide +kernel) (fun _ h => h) rfl (by decide +kernel) rfl rfl (Nat.le_of_ble_eq_true rfl) (up3 (up3 (up3 C 12 (3 * p + 0) 1 ((C 12 (3 * p + 0) 1) - (min n (C 12 (3 * p + 0) 1)))) 12 (3 * p + 1) 1 ((C 12 (3 * p + 1) 1) - (min (n - (min n (C 12 (3 * p + 0) 1))) (C 12 (3 * p + 1) 1)))) 12 (3 * p + 2) 1 ((C 12 (3 * p + 2) 1) - (min ((n - (min n (C 12 (3 * p + 0) 1))) - (min (n - (min n (C 12 (3 * p + 0) 1))) (C 12 (3 * p + 1) 1))) (C 12 (3 * p + 2) 1)))) cu_tray (by rw [(cc_tray (A := A) (C := (up3 (up3 (up3 C 12 (3 * p + 0) 1 ((C 12 (3 * p + 0) 1) - (min n (C 12 (3 * p + 0) 1)))) 12 (3 * p + 1) 1 ((C 12 (3 * p + 1) 1) - (min (n - (min n (C 12 (3 * p + 0) 1))) (C 12 (3 * p + 1) 1)))) 12 (3 * p + 2) 1 ((C 12 (3 * p + 2) 1) - (min ((n - (min n (C 12 (3 * p + 0) 1))) - (min (n - (min n (C 12 (3 * p + 0) 1))) (C 12 (3 * p + 1) 1))) (C 12 (3 * p + 2) 1))))) hp lv_29 (by omega)), up3_u]; rfl) dX3_takeSheets_64 ?_
              refine s_iload_n (pc := 67) S 3 dX3_takeSheets_67 rfl rfl ?_
              refine s_iload (pc := 68) S 0 dX3_takeSheets_68 rfl ?_
              refine s_isubN (pc := 70) S dX3_takeSheets_70 (by omega) ?_
              refine s_istore_n (pc := 71) S [(3, .int (nI (((n - (min n (C 12 (3 * p + 0) 1))) - (min (n - (min n (C 12 (3 * p + 0) 1))) (C 12 (3 * p + 1) 1))) - (min ((n - (min n (C 12 (3 * p + 0) 1))) - (min (n - (min n (C 12 (3 * p + 0) 1))) (C 12 (3 * p + 1) 1))) (C 12 (3 * p + 2) 1))))), (8, .int (nI (min ((n - (min n (C 12 (3 * p + 0) 1))) - (min (n - (min n (C 12 (3 * p + 0) 1))) (C 12 (3 * p + 1) 1))) (C 12 (3 * p + 2) 1)))), (7, .ref (A 12 (3 * p + 2))), (6, .int (nI 2)), (5, .int (nI 3)), (4, .ref (A 14 p)), (0, .ref (A 9 p)), (1, .int (nI q)), (2, .int (nI n))] dX3_takeSheets_71 rfl (by decide) rfl ?_
              refine s_iinc (pc := 72) S 3 [(6, .int (nI 3)), (3, .int (nI (((n - (min n (C 12 (3 * p + 0) 1))) - (min (n - (min n (C 12 (3 * p + 0) 1))) (C 12 (3 * p + 1) 1))) - (min ((n - (min n (C 12 (3 * p + 0) 1))) - (min (n - (min n (C 12 (3 * p + 0) 1))) (C 12 (3 * p + 1) 1))) (C 12 (3 * p + 2) 1))))), (8, .int (nI (min ((n - (min n (C 12 (3 * p + 0) 1))) - (min (n - (min n (C 12 (3 * p + 0) 1))) (C 12 (3 * p + 1) 1))) (C 12 (3 * p + 2) 1)))), (7, .ref (A 12 (3 * p + 2))), (5, .int (nI 3)), (4, .ref (A 14 p)), (0, .ref (A 9 p)), (1, .int (nI q)), (2, .int (nI n))] dX3_takeSheets_72 rfl (by decide) (by decide) rfl ?_
              refine s_goto (pc := 75) S 16 dX3_takeSheets_75 (by decide) ?_
              refine s_iload (pc := 16) S 0 dX3_takeSheets_16 rfl ?_
              refine s_iload (pc := 18) S 4 dX3_takeSheets_18 rfl ?_
              refine s_icmp_geN (pc := 20) S 78 dX3_takeSheets_20 (by decide) (by decide) (by decide) (fun _ => ?_) (fun h => absurd h (by decide))
              have hst : tkC C p q n = (up3 (up3 (up3 C 12 (3 * p + 0) 1 ((C 12 (3 * p + 0) 1) - (min n (C 12 (3 * p + 0) 1)))) 12 (3 * p + 1) 1 ((C 12 (3 * p + 1) 1) - (min (n - (min n (C 12 (3 * p + 0) 1))) (C 12 (3 * p + 1) 1)))) 12 (3 * p + 2) 1 ((C 12 (3 * p + 2) 1) - (min ((n - (min n (C 12 (3 * p + 0) 1))) - (min (n - (min n (C 12 (3 * p + 0) 1))) (C 12 (3 * p + 1) 1))) (C 12 (3 * p + 2) 1)))) := by
                unfold tkC
                rw [show C 12 (3 * p + 0) 1 - dK C p q n 0 = (C 12 (3 * p + 0) 1) - (min n (C 12 (3 * p + 0) 1)) by (unfold dK; rw [show avK C p q 0 = _ from avK_y lv_1 c_4, show avK C p q 1 = _ from avK_y lv_21 c_24, show avK C p q 2 = _ from avK_y lv_29 c_32]; simp only [Nat.one_ne_zero, if_true, if_false, show (2 : Nat) ≠ 0 by decide, show (2 : Nat) ≠ 1 by decide]; all_goals omega)]
                rw [show C 12 (3 * p + 1) 1 - dK C p q n 1 = (C 12 (3 * p + 1) 1) - (min (n - (min n (C 12 (3 * p + 0) 1))) (C 12 (3 * p + 1) 1)) by (unfold dK; rw [show avK C p q 0 = _ from avK_y lv_1 c_4, show avK C p q 1 = _ from avK_y lv_21 c_24, show avK C p q 2 = _ from avK_y lv_29 c_32]; simp only [Nat.one_ne_zero, if_true, if_false, show (2 : Nat) ≠ 0 by decide, show (2 : Nat) ≠ 1 by decide]; all_goals omega)]
                rw [show C 12 (3 * p + 2) 1 - dK C p q n 2 = (C 12 (3 * p + 2) 1) - (min ((n - (min n (C 12 (3 * p + 0) 1))) - (min (n - (min n (C 12 (3 * p + 0) 1))) (C 12 (3 * p + 1) 1))) (C 12 (3 * p + 2) 1)) by (unfold dK; rw [show avK C p q 0 = _ from avK_y lv_1 c_4, show avK C p q 1 = _ from avK_y lv_21 c_24, show avK C p q 2 = _ from avK_y lv_29 c_32]; simp only [Nat.one_ne_zero, if_true, if_false, show (2 : Nat) ≠ 0 by decide, show (2 : Nat) ≠ 1 by decide]; all_goals omega)]
                all_goals (funext k2 i2 f2; simp only [up3]; repeat' split)
                all_goals first | rfl | (exfalso; omega) | (rename_i z; obtain ⟨rfl, rfl, rfl⟩ := z; rfl) | (rename_i z _; obtain ⟨rfl, rfl, rfl⟩ := z; rfl) | (rename_i z _ _; obtain ⟨rfl, rfl, rfl⟩ := z; rfl)
              exact s_vret (pc := 78) S hz hlo hr ⟨rfl, hst, rfl⟩ (Nat.le_of_ble_eq_true rfl) (Nat.le_of_ble_eq_true rfl) dX3_takeSheets_78
          · refine s_aald (pc := 27) S hz (v := .null) (cc_trays (A := A) (C := (up3 (up3 C 12 (3 * p + 0) 1 ((C 12 (3 * p + 0) 1) - (min n (C 12 (3 * p + 0) 1)))) 12 (3 * p + 1) 1 ((C 12 (3 * p + 1) 1) - (min (n - (min n (C 12 (3 * p + 0) 1))) (C 12 (3 * p + 1) 1))))) hp) (by omega) (by decide) (congrArg va_rf (if_neg lv_29)) dX3_takeSheets_27 ?_
            refine s_astoreN (pc := 28) S [(7, .null), (6, .int (nI 2)), (3, .int (nI ((n - (min n (C 12 (3 * p + 0) 1))) - (min (n - (min n (C 12 (3 * p + 0) 1))) (C 12 (3 * p + 1) 1))))), (8, .int (nI (min (n - (min n (C 12 (3 * p + 0) 1))) (C 12 (3 * p + 1) 1)))), (5, .int (nI 3)), (4, .ref (A 14 p)), (0, .ref (A 9 p)), (1, .int (nI q)), (2, .int (nI n))] dX3_takeSheets_28 (by decide) rfl ?_
            refine s_aloadN (pc := 30) S 0 dX3_takeSheets_30 rfl ?_
            refine s_ifnullN (pc := 32) S 72 dX3_takeSheets_32 (by decide) ?_
            refine s_iinc (pc := 72) S 1 [(6, .int (nI 3)), (7, .null), (3, .int (nI ((n - (min n (C 12 (3 * p + 0) 1))) - (min (n - (min n (C 12 (3 * p + 0) 1))) (C 12 (3 * p + 1) 1))))), (8, .int (nI (min (n - (min n (C 12 (3 * p + 0) 1))) (C 12 (3 * p + 1) 1)))), (5, .int (nI 3)), (4, .ref (A 14 p)), (0, .ref (A 9 p)), (1, .int (nI q)), (2, .int (nI n))] dX3_takeSheets_72 rfl (by decide) (by decide) rfl ?_
            refine s_goto (pc := 75) S 16 dX3_takeSheets_75 (by decide) ?_
            refine s_iload (pc := 16) S 0 dX3_takeSheets_16 rfl ?_
            refine s_iload (pc := 18) S 4 dX3_takeSheets_18 rfl ?_
            refine s_icmp_geN (pc := 20) S 78 dX3_takeSheets_20 (by decide) (by decide) (by decide) (fun _ => ?_) (fun h => absurd h (by decide))
            have hst : tkC C p q n = (up3 (up3 C 12 (3 * p + 0) 1 ((C 12 (3 * p + 0) 1) - (min n (C 12 (3 * p + 0) 1)))) 12 (3 * p + 1) 1 ((C 12 (3 * p + 1) 1) - (min (n - (min n (C 12 (3 * p + 0) 1))) (C 12 (3 * p + 1) 1)))) := by
              unfold tkC
              rw [show C 12 (3 * p + 0) 1 - dK C p q n 0 = (C 12 (3 * p + 0) 1) - (min n (C 12 (3 * p + 0) 1)) by (unfold dK; rw [show avK C p q 0 = _ from avK_y lv_1 c_4, show avK C p q 1 = _ from avK_y lv_21 c_24, show avK C p q 2 = _ from avK_n lv_29]; simp only [Nat.one_ne_zero, if_true, if_false, show (2 : Nat) ≠ 0 by decide, show (2 : Nat) ≠ 1 by decide]; all_goals omega)]
              rw [show C 12 (3 * p + 1) 1 - dK C p q n 1 = (C 12 (3 * p + 1) 1) - (min (n - (min n (C 12 (3 * p + 0) 1))) (C 12 (3 * p + 1) 1)) by (unfold dK; rw [show avK C p q 0 = _ from avK_y lv_1 c_4, show avK C p q 1 = _ from avK_y lv_21 c_24, show avK C p q 2 = _ from avK_n lv_29]; simp only [Nat.one_ne_zero, if_true, if_false, show (2 : Nat) ≠ 0 by decide, show (2 : Nat) ≠ 1 by decide]; all_goals omega)]
              rw [show C 12 (3 * p + 2) 1 - dK C p q n 2 = C 12 (3 * p + 2) 1 by (unfold dK; rw [show avK C p q 0 = _ from avK_y lv_1 c_4, show avK C p q 1 = _ from avK_y lv_21 c_24, show avK C p q 2 = _ from avK_n lv_29]; simp only [Nat.one_ne_zero, if_true, if_false, show (2 : Nat) ≠ 0 by decide, show (2 : Nat) ≠ 1 by decide]; all_goals omega)]
              all_goals (funext k2 i2 f2; simp only [up3]; repeat' split)
              all_goals first | rfl | (exfalso; omega) | (rename_i z; obtain ⟨rfl, rfl, rfl⟩ := z; rfl) | (rename_i z _; obtain ⟨rfl, rfl, rfl⟩ := z; rfl) | (rename_i z _ _; obtain ⟨rfl, rfl, rfl⟩ := z; rfl)
            exact s_vret (pc := 78) S hz hlo hr ⟨rfl, hst, rfl⟩ (Nat.le_of_ble_eq_true rfl) (Nat.le_of_ble_eq_true rfl) dX3_takeSheets_78
      · refine s_aald (pc := 27) S hz (v := .null) (cc_trays (A := A) (C := (up3 C 12 (3 * p + 0) 1 ((C 12 (3 * p + 0) 1) - (min n (C 12 (3 * p + 0) 1))))) hp) (by omega) (by decide) (congrArg va_rf (if_neg lv_21)) dX3_takeSheets_27 ?_
        refine s_astoreN (pc := 28) S [(7, .null), (6, .int (nI 1)), (3, .int (nI (n - (min n (C 12 (3 * p + 0) 1))))), (8, .int (nI (min n (C 12 (3 * p + 0) 1)))), (5, .int (nI 3)), (4, .ref (A 14 p)), (0, .ref (A 9 p)), (1, .int (nI q)), (2, .int (nI n))] dX3_takeSheets_28 (by decide) rfl ?_
        refine s_aloadN (pc := 30) S 0 dX3_takeSheets_30 rfl ?_
        refine s_ifnullN (pc := 32) S 72 dX3_takeSheets_32 (by decide) ?_
        refine s_iinc (pc := 72) S 1 [(6, .int (nI 2)), (7, .null), (3, .int (nI (n - (min n (C 12 (3 * p + 0) 1))))), (8, .int (nI (min n (C 12 (3 * p + 0) 1)))), (5, .int (nI 3)), (4, .ref (A 14 p)), (0, .ref (A 9 p)), (1, .int (nI q)), (2, .int (nI n))] dX3_takeSheets_72 rfl (by decide) (by decide) rfl ?_
        refine s_goto (pc := 75) S 16 dX3_takeSheets_75 (by decide) ?_
        refine s_iload (pc := 16) S 0 dX3_takeSheets_16 rfl ?_
        refine s_iload (pc := 18) S 4 dX3_takeSheets_18 rfl ?_
        refine s_icmp_geN (pc := 20) S 78 dX3_takeSheets_20 (by decide) (by decide) (by decide) (fun h => absurd h (by decide)) (fun _ => ?_)
        refine s_aload (pc := 23) S 5 dX3_takeSheets_23 rfl ?_
        refine s_iload (pc := 25) S 0 dX3_takeSheets_25 rfl ?_
        by_cases lv_33 : 2 < C 9 p 5
        · refine s_aald (pc := 27) S hz (v := .ref (A 12 (3 * p + 2))) (cc_trays (A := A) (C := (up3 C 12 (3 * p + 0) 1 ((C 12 (3 * p + 0) 1) - (min n (C 12 (3 * p + 0) 1))))) hp) (by omega) (by decide) (congrArg va_rf (if_pos lv_33)) dX3_takeSheets_27 ?_
          obtain ⟨o_34, o_35⟩ := hT 2 lv_33
          refine s_astore (pc := 28) S [(7, .ref (A 12 (3 * p + 2))), (6, .int (nI 2)), (3, .int (nI (n - (min n (C 12 (3 * p + 0) 1))))), (8, .int (nI (min n (C 12 (3 * p + 0) 1)))), (5, .int (nI 3)), (4, .ref (A 14 p)), (0, .ref (A 9 p)), (1, .int (nI q)), (2, .int (nI n))] dX3_takeSheets_28 (by decide) rfl ?_
          refine s_aload (pc := 30) S 0 dX3_takeSheets_30 rfl ?_
          refine s_ifnull (pc := 32) S dX3_takeSheets_32 ?_
          refine s_aload (pc := 35) S 0 dX3_takeSheets_35 rfl ?_
          refine s_get (pc := 37) S hz (ref := "SpoolFarm$Tray") (v := .int (nI (C 12 (3 * p + 2) 0))) (cc_tray (A := A) (C := (up3 C 12 (3 * p + 0) 1 ((C 12 (3 * p + 0) 1) - (min n (C 12 (3 * p + 0) 1))))) hp lv_33 (by omega)) i_RX4 rfl 0 (Nat.le_of_ble_eq_true rfl) (by decide +kernel) (fun _ h => h) (by rw [up3_i (show 3 * p + 2 ≠ 3 * p + 0 by omega)]; rfl) dX3_takeSheets_37 ?_
          refine s_iload_n (pc := 40) S 7 dX3_takeSheets_40 rfl rfl ?_
          refine s_icmp_neN (pc := 41) S 72 dX3_takeSheets_41 (by decide) (by omega) (by omega) (fun c_36 => ?_) (fun c_36 => ?_)
          · refine s_iinc (pc := 72) S 1 [(6, .int (nI 3)), (7, .ref (A 12 (3 * p + 2))), (3, .int (nI (n - (min n (C 12 (3 * p + 0) 1))))), (8, .int (nI (min n (C 12 (3 * p + 0) 1)))), (5, .int (nI 3)), (4, .ref (A 14 p)), (0, .ref (A 9 p)), (1, .int (nI q)), (2, .int (nI n))] dX3_takeSheets_72 rfl (by decide) (by decide) rfl ?_
            refine s_goto (pc := 75) S 16 dX3_takeSheets_75 (by decide) ?_
            refine s_iload (pc := 16) S 0 dX3_takeSheets_16 rfl ?_
            refine s_iload (pc := 18) S 4 dX3_takeSheets_18 rfl ?_
            refine s_icmp_geN (pc := 20) S 78 dX3_takeSheets_20 (by decide) (by decide) (by decide) (fun _ => ?_) (fun h => absurd h (by decide))
            have hst : tkC C p q n = (up3 C 12 (3 * p + 0) 1 ((C 12 (3 * p + 0) 1) - (min n (C 12 (3 * p + 0) 1)))) := by
              unfold tkC
              rw [show C 12 (3 * p + 0) 1 - dK C p q n 0 = (C 12 (3 * p + 0) 1) - (min n (C 12 (3 * p + 0) 1)) by (unfold dK; rw [show avK C p q 0 = _ from avK_y lv_1 c_4, show avK C p q 1 = _ from avK_n lv_21, show avK C p q 2 = _ from avK_q c_36]; simp only [Nat.one_ne_zero, if_true, if_false, show (2 : Nat) ≠ 0 by decide, show (2 : Nat) ≠ 1 by decide]; all_goals omega)]
              rw [show C 12 (3 * p + 1) 1 - dK C p q n 1 = C 12 (3 * p + 1) 1 by (unfold dK; rw [show avK C p q 0 = _ from avK_y lv_1 c_4, show avK C p q 1 = _ from avK_n lv_21, show avK C p q 2 = _ from avK_q c_36]; simp only [Nat.one_ne_zero, if_true, if_false, show (2 : Nat) ≠ 0 by decide, show (2 : Nat) ≠ 1 by decide]; all_goals omega)]
              rw [show C 12 (3 * p + 2) 1 - dK C p q n 2 = C 12 (3 * p + 2) 1 by (unfold dK; rw [show avK C p q 0 = _ from avK_y lv_1 c_4, show avK C p q 1 = _ from avK_n lv_21, show avK C p q 2 = _ from avK_q c_36]; simp only [Nat.one_ne_zero, if_true, if_false, show (2 : Nat) ≠ 0 by decide, show (2 : Nat) ≠ 1 by decide]; all_goals omega)]
              all_goals (funext k2 i2 f2; simp only [up3]; repeat' split)
              all_goals first | rfl | (exfalso; omega) | (rename_i z; obtain ⟨rfl, rfl, rfl⟩ := z; rfl) | (rename_i z _; obtain ⟨rfl, rfl, rfl⟩ := z; rfl) | (rename_i z _ _; obtain ⟨rfl, rfl, rfl⟩ := z; rfl)
            exact s_vret (pc := 78) S hz hlo hr ⟨rfl, hst, rfl⟩ (Nat.le_of_ble_eq_true rfl) (Nat.le_of_ble_eq_true rfl) dX3_takeSheets_78
          · refine s_iload_n (pc := 44) S 2 dX3_takeSheets_44 rfl rfl ?_
            refine s_aload (pc := 45) S 0 dX3_takeSheets_45 rfl ?_
            refine s_get (pc := 47) S hz (ref := "SpoolFarm$Tray") (v := .int (nI (C 12 (3 * p + 2) 1))) (cc_tray (A := A) (C := (up3 C 12 (3 * p + 0) 1 ((C 12 (3 * p + 0) 1) - (min n (C 12 (3 * p + 0) 1))))) hp lv_33 (by omega)) i_RX4 rfl 1 (Nat.le_of_ble_eq_true rfl) (by decide +kernel) (fun _ h => h) (by rw [up3_i (show 3 * p + 2 ≠ 3 * p + 0 by omega)]; rfl) dX3_takeSheets_47 ?_
            refine s_min (pc := 50) S hml (by omega) (by omega) (by decide +kernel) (by decide +kernel) (by decide +kernel) (by decide +kernel) (Nat.le_of_ble_eq_true rfl) (Nat.le_of_ble_eq_true rfl) (Nat.le_of_ble_eq_true rfl) (Nat.le_of_ble_eq_true rfl) dX3_takeSheets_50 ?_
            refine s_istore (pc := 53) S [(8, .int (nI (min (n - (min n (C 12 (3 * p + 0) 1))) (C 12 (3 * p + 2) 1)))), (7, .ref (A 12 (3 * p + 2))), (6, .int (nI 2)), (3, .int (nI (n - (min n (C 12 (3 * p + 0) 1))))), (5, .int (nI 3)), (4, .ref (A 14 p)), (0, .ref (A 9 p)), (1, .int (nI q)), (2, .int (nI n))] dX3_takeSheets_53 (by decide) rfl ?_
            refine s_aload (pc := 55) S 1 dX3_takeSheets_55 rfl ?_
            refine s_dup (pc := 57) S dX3_takeSheets_57 rfl ?_
            refine s_get (pc := 58) S hz (ref := "SpoolFarm$Tray") (v := .int (nI (C 12 (3 * p + 2) 1))) (cc_tray (A := A) (C := (up3 C 12 (3 * p + 0) 1 ((C 12 (3 * p + 0) 1) - (min n (C 12 (3 * p + 0) 1))))) hp lv_33 (by omega)) i_RX4 rfl 1 (Nat.le_of_ble_eq_true rfl) (by decide +kernel) (fun _ h => h) (by rw [up3_i (show 3 * p + 2 ≠ 3 * p + 0 by omega)]; rfl) dX3_takeSheets_58 ?_
            refine s_iload (pc := 61) S 0 dX3_takeSheets_61 rfl ?_
            refine s_isubN (pc := 63) S dX3_takeSheets_63 (by omega) ?_
            refine s_put (pc := 64) S hz (ref := "SpoolFarm$Tray") (ty := .int) (cc_tray (A := A) (C := (up3 C 12 (3 * p + 0) 1 ((C 12 (3 * p + 0) 1) - (min n (C 12 (3 * p + 0) 1))))) hp lv_33 (by omega)) i_RX4 tyX4 tyX4_ok nmX4 rfl 1 (Nat.le_of_ble_eq_true rfl) (by decide +kernel) (fun _ h => h) rfl (by decide +kernel) rfl rfl (Nat.le_of_ble_eq_true rfl) (up3 (up3 C 12 (3 * p + 0) 1 ((C 12 (3 * p + 0) 1) - (min n (C 12 (3 * p + 0) 1)))) 12 (3 * p + 2) 1 ((C 12 (3 * p + 2) 1) - (min (n - (min n (C 12 (3 * p + 0) 1))) (C 12 (3 * p + 2) 1)))) cu_tray (by rw [(cc_tray (A := A) (C := (up3 (up3 C 12 (3 * p + 0) 1 ((C 12 (3 * p + 0) 1) - (min n (C 12 (3 * p + 0) 1)))) 12 (3 * p + 2) 1 ((C 12 (3 * p + 2) 1) - (min (n - (min n (C 12 (3 * p + 0) 1))) (C 12 (3 * p + 2) 1))))) hp lv_33 (by omega)), up3_u]; rfl) dX3_takeSheets_64 ?_
            refine s_iload_n (pc := 67) S 3 dX3_takeSheets_67 rfl rfl ?_
            refine s_iload (pc := 68) S 0 dX3_takeSheets_68 rfl ?_
            refine s_isubN (pc := 70) S dX3_takeSheets_70 (by omega) ?_
            refine s_istore_n (pc := 71) S [(3, .int (nI ((n - (min n (C 12 (3 * p + 0) 1))) - (min (n - (min n (C 12 (3 * p + 0) 1))) (C 12 (3 * p + 2) 1))))), (8, .int (nI (min (n - (min n (C 12 (3 * p + 0) 1))) (C 12 (3 * p + 2) 1)))), (7, .ref (A 12 (3 * p + 2))), (6, .int (nI 2)), (5, .int (nI 3)), (4, .ref (A 14 p)), (0, .ref (A 9 p)), (1, .int (nI q)), (2, .int (nI n))] dX3_takeSheets_71 rfl (by decide) rfl ?_
            refine s_iinc (pc := 72) S 3 [(6, .int (nI 3)), (3, .int (nI ((n - (min n (C 12 (3 * p + 0) 1))) - (min (n - (min n (C 12 (3 * p + 0) 1))) (C 12 (3 * p + 2) 1))))), (8, .int (nI (min (n - (min n (C 12 (3 * p + 0) 1))) (C 12 (3 * p + 2) 1)))), (7, .ref (A 12 (3 * p + 2))), (5, .int (nI 3)), (4, .ref (A 14 p)), (0, .ref (A 9 p)), (1, .int (nI q)), (2, .int (nI n))] dX3_takeSheets_72 rfl (by decide) (by decide) rfl ?_
            refine s_goto (pc := 75) S 16 dX3_takeSheets_75 (by decide) ?_
            refine s_iload (pc := 16) S 0 dX3_takeSheets_16 rfl ?_
            refine s_iload (pc := 18) S 4 dX3_takeSheets_18 rfl ?_
            refine s_icmp_geN (pc := 20) S 78 dX3_takeSheets_20 (by decide) (by decide) (by decide) (fun _ => ?_) (fun h => absurd h (by decide))
            have hst : tkC C p q n = (up3 (up3 C 12 (3 * p + 0) 1 ((C 12 (3 * p + 0) 1) - (min n (C 12 (3 * p + 0) 1)))) 12 (3 * p + 2) 1 ((C 12 (3 * p + 2) 1) - (min (n - (min n (C 12 (3 * p + 0) 1))) (C 12 (3 * p + 2) 1)))) := by
              unfold tkC
              rw [show C 12 (3 * p + 0) 1 - dK C p q n 0 = (C 12 (3 * p + 0) 1) - (min n (C 12 (3 * p + 0) 1)) by (unfold dK; rw [show avK C p q 0 = _ from avK_y lv_1 c_4, show avK C p q 1 = _ from avK_n lv_21, show avK C p q 2 = _ from avK_y lv_33 c_36]; simp only [Nat.one_ne_zero, if_true, if_false, show (2 : Nat) ≠ 0 by decide, show (2 : Nat) ≠ 1 by decide]; all_goals omega)]
              rw [show C 12 (3 * p + 1) 1 - dK C p q n 1 = C 12 (3 * p + 1) 1 by (unfold dK; rw [show avK C p q 0 = _ from avK_y lv_1 c_4, show avK C p q 1 = _ from avK_n lv_21, show avK C p q 2 = _ from avK_y lv_33 c_36]; simp only [Nat.one_ne_zero, if_true, if_false, show (2 : Nat) ≠ 0 by decide, show (2 : Nat) ≠ 1 by decide]; all_goals omega)]
              rw [show C 12 (3 * p + 2) 1 - dK C p q n 2 = (C 12 (3 * p + 2) 1) - (min (n - (min n (C 12 (3 * p + 0) 1))) (C 12 (3 * p + 2) 1)) by (unfold dK; rw [show avK C p q 0 = _ from avK_y lv_1 c_4, show avK C p q 1 = _ from avK_n lv_21, show avK C p q 2 = _ from avK_y lv_33 c_36]; simp only [Nat.one_ne_zero, if_true, if_false, show (2 : Nat) ≠ 0 by decide, show (2 : Nat) ≠ 1 by decide]; all_goals omega)]
              all_goals (funext k2 i2 f2; simp only [up3]; repeat' split)
              all_goals first | rfl | (exfalso; omega) | (rename_i z; obtain ⟨rfl, rfl, rfl⟩ := z; rfl) | (rename_i z _; obtain ⟨rfl, rfl, rfl⟩ := z; rfl) | (rename_i z _ _; obtain ⟨rfl, rfl, rfl⟩ := z; rfl)
            exact s_vret (pc := 78) S hz hlo hr ⟨rfl, hst, rfl⟩ (Nat.le_of_ble_eq_true rfl) (Nat.le_of_ble_eq_true rfl) dX3_takeSheets_78
        · refine s_aald (pc := 27) S hz (v := .null) (cc_trays (A := A) (C := (up3 C 12 (3 * p + 0) 1 ((C 12 (3 * p + 0) 1) - (min n (C 12 (3 * p + 0) 1))))) hp) (by omega) (by decide) (congrArg va_rf (if_neg lv_33)) dX3_takeSheets_27 ?_
          refine s_astoreN (pc := 28) S [(7, .null), (6, .int (nI 2)), (3, .int (nI (n - (min n (C 12 (3 * p + 0) 1))))), (8, .int (nI (min n (C 12 (3 * p + 0) 1)))), (5, .int (nI 3)), (4, .ref (A 14 p)), (0, .ref (A 9 p)), (1, .int (nI q)), (2, .int (nI n))] dX3_takeSheets_28 (by decide) rfl ?_
          refine s_aloadN (pc := 30) S 0 dX3_takeSheets_30 rfl ?_
          refine s_ifnullN (pc := 32) S 72 dX3_takeSheets_32 (by decide) ?_
          refine s_iinc (pc := 72) S 1 [(6, .int (nI 3)), (7, .null), (3, .int (nI (n - (min n (C 12 (3 * p + 0) 1))))), (8, .int (nI (min n (C 12 (3 * p + 0) 1)))), (5, .int (nI 3)), (4, .ref (A 14 p)), (0, .ref (A 9 p)), (1, .int (nI q)), (2, .int (nI n))] dX3_takeSheets_72 rfl (by decide) (by decide) rfl ?_
          refine s_goto (pc := 75) S 16 dX3_takeSheets_75 (by decide) ?_
          refine s_iload (pc := 16) S 0 dX3_takeSheets_16 rfl ?_
          refine s_iload (pc := 18) S 4 dX3_takeSheets_18 rfl ?_
          refine s_icmp_geN (pc := 20) S 78 dX3_takeSheets_20 (by decide) (by decide) (by decide) (fun _ => ?_) (fun h => absurd h (by decide))
          have hst : tkC C p q n = (up3 C 12 (3 * p + 0) 1 ((C 12 (3 * p + 0) 1) - (min n (C 12 (3 * p + 0) 1)))) := by
            unfold tkC
            rw [show C 12 (3 * p + 0) 1 - dK C p q n 0 = (C 12 (3 * p + 0) 1) - (min n (C 12 (3 * p + 0) 1)) by (unfold dK; rw [show avK C p q 0 = _ from avK_y lv_1 c_4, show avK C p q 1 = _ from avK_n lv_21, show avK C p q 2 = _ from avK_n lv_33]; simp only [Nat.one_ne_zero, if_true, if_false, show (2 : Nat) ≠ 0 by decide, show (2 : Nat) ≠ 1 by decide]; all_goals omega)]
            rw [show C 12 (3 * p + 1) 1 - dK C p q n 1 = C 12 (3 * p + 1) 1 by (unfold dK; rw [show avK C p q 0 = _ from avK_y lv_1 c_4, show avK C p q 1 = _ from avK_n lv_21, show avK C p q 2 = _ from avK_n lv_33]; simp only [Nat.one_ne_zero, if_true, if_false, show (2 : Nat) ≠ 0 by decide, show (2 : Nat) ≠ 1 by decide]; all_goals omega)]
            rw [show C 12 (3 * p + 2) 1 - dK C p q n 2 = C 12 (3 * p + 2) 1 by (unfold dK; rw [show avK C p q 0 = _ from avK_y lv_1 c_4, show avK C p q 1 = _ from avK_n lv_21, show avK C p q 2 = _ from avK_n lv_33]; simp only [Nat.one_ne_zero, if_true, if_false, show (2 : Nat) ≠ 0 by decide, show (2 : Nat) ≠ 1 by decide]; all_goals omega)]
            all_goals (funext k2 i2 f2; simp only [up3]; repeat' split)
            all_goals first | rfl | (exfalso; omega) | (rename_i z; obtain ⟨rfl, rfl, rfl⟩ := z; rfl) | (rename_i z _; obtain ⟨rfl, rfl, rfl⟩ := z; rfl) | (rename_i z _ _; obtain ⟨rfl, rfl, rfl⟩ := z; rfl)
          exact s_vret (pc := 78) S hz hlo hr ⟨rfl, hst, rfl⟩ (Nat.le_of_ble_eq_true rfl) (Nat.le_of_ble_eq_true rfl) dX3_takeSheets_78
  · refine s_aald (pc := 27) S hz (v := .null) (cc_trays (A := A) (C := C) hp) (by omega) (by decide) (by rw [if_neg lv_1]; rfl) dX3_takeSheets_27 ?_
    refine s_astoreN (pc := 28) S [(7, .null), (6, .int (nI 0)), (5, .int (nI 3)), (4, .ref (A 14 p)), (3, .int (nI n)), (0, .ref (A 9 p)), (1, .int (nI q)), (2, .int (nI n))] dX3_takeSheets_28 (by decide) rfl ?_
    refine s_aloadN (pc := 30) S 0 dX3_takeSheets_30 rfl ?_
    refine s_ifnullN (pc := 32) S 72 dX3_takeSheets_32 (by decide) ?_
    refine s_iinc (pc := 72) S 1 [(6, .int (nI 1)), (7, .null), (5, .int (nI 3)), (4, .ref (A 14 p)), (3, .int (nI n)), (0, .ref (A 9 p)), (1, .int (nI q)), (2, .int (nI n))] dX3_takeSheets_72 rfl (by decide) (by decide) rfl ?_
    refine s_goto (pc := 75) S 16 dX3_takeSheets_75 (by decide) ?_
    refine s_iload (pc := 16) S 0 dX3_takeSheets_16 rfl ?_
    refine s_iload (pc := 18) S 2 dX3_takeSheets_18 rfl ?_
    refine s_icmp_geN (pc := 20) S 78 dX3_takeSheets_20 (by decide) (by decide) (by decide) (fun h => absurd h (by decide)) (fun _ => ?_)
    refine s_aload (pc := 23) S 3 dX3_takeSheets_23 rfl ?_
    refine s_iload (pc := 25) S 0 dX3_takeSheets_25 rfl ?_
    by_cases lv_37 : 1 < C 9 p 5
    · refine s_aald (pc := 27) S hz (v := .ref (A 12 (3 * p + 1))) (cc_trays (A := A) (C := C) hp) (by omega) (by decide) (by rw [if_pos lv_37]; rfl) dX3_takeSheets_27 ?_
      obtain ⟨o_38, o_39⟩ := hT 1 lv_37
      refine s_astore (pc := 28) S [(7, .ref (A 12 (3 * p + 1))), (6, .int (nI 1)), (5, .int (nI 3)), (4, .ref (A 14 p)), (3, .int (nI n)), (0, .ref (A 9 p)), (1, .int (nI q)), (2, .int (nI n))] dX3_takeSheets_28 (by decide) rfl ?_
      refine s_aload (pc := 30) S 0 dX3_takeSheets_30 rfl ?_
      refine s_ifnull (pc := 32) S dX3_takeSheets_32 ?_
      refine s_aload (pc := 35) S 0 dX3_takeSheets_35 rfl ?_
      refine s_get (pc := 37) S hz (ref := "SpoolFarm$Tray") (v := .int (nI (C 12 (3 * p + 1) 0))) (cc_tray (A := A) (C := C) hp lv_37 (by omega)) i_RX4 rfl 0 (Nat.le_of_ble_eq_true rfl) (by decide +kernel) (fun _ h => h) rfl dX3_takeSheets_37 ?_
      refine s_iload_n (pc := 40) S 6 dX3_takeSheets_40 rfl rfl ?_
      refine s_icmp_neN (pc := 41) S 72 dX3_takeSheets_41 (by decide) (by omega) (by omega) (fun c_40 => ?_) (fun c_40 => ?_)
      · refine s_iinc (pc := 72) S 1 [(6, .int (nI 2)), (7, .ref (A 12 (3 * p + 1))), (5, .int (nI 3)), (4, .ref (A 14 p)), (3, .int (nI n)), (0, .ref (A 9 p)), (1, .int (nI q)), (2, .int (nI n))] dX3_takeSheets_72 rfl (by decide) (by decide) rfl ?_
        refine s_goto (pc := 75) S 16 dX3_takeSheets_75 (by decide) ?_
        refine s_iload (pc := 16) S 0 dX3_takeSheets_16 rfl ?_
        refine s_iload (pc := 18) S 2 dX3_takeSheets_18 rfl ?_
        refine s_icmp_geN (pc := 20) S 78 dX3_takeSheets_20 (by decide) (by decide) (by decide) (fun h => absurd h (by decide)) (fun _ => ?_)
        refine s_aload (pc := 23) S 3 dX3_takeSheets_23 rfl ?_
        refine s_iload (pc := 25) S 0 dX3_takeSheets_25 rfl ?_
        by_cases lv_41 : 2 < C 9 p 5
        · refine s_aald (pc := 27) S hz (v := .ref (A 12 (3 * p + 2))) (cc_trays (A := A) (C := C) hp) (by omega) (by decide) (by rw [if_pos lv_41]; rfl) dX3_takeSheets_27 ?_
          obtain ⟨o_42, o_43⟩ := hT 2 lv_41
          refine s_astore (pc := 28) S [(7, .ref (A 12 (3 * p + 2))), (6, .int (nI 2)), (5, .int (nI 3)), (4, .ref (A 14 p)), (3, .int (nI n)), (0, .ref (A 9 p)), (1, .int (nI q)), (2, .int (nI n))] dX3_takeSheets_28 (by decide) rfl ?_
          refine s_aload (pc := 30) S 0 dX3_takeSheets_30 rfl ?_
          refine s_ifnull (pc := 32) S dX3_takeSheets_32 ?_
          refine s_aload (pc := 35) S 0 dX3_takeSheets_35 rfl ?_
          refine s_get (pc := 37) S hz (ref := "SpoolFarm$Tray") (v := .int (nI (C 12 (3 * p + 2) 0))) (cc_tray (A := A) (C := C) hp lv_41 (by omega)) i_RX4 rfl 0 (Nat.le_of_ble_eq_true rfl) (by decide +kernel) (fun _ h => h) rfl dX3_takeSheets_37 ?_
          refine s_iload_n (pc := 40) S 6 dX3_takeSheets_40 rfl rfl ?_
          refine s_icmp_neN (pc := 41) S 72 dX3_takeSheets_41 (by decide) (by omega) (by omega) (fun c_44 => ?_) (fun c_44 => ?_)
          · refine s_iinc (pc := 72) S 1 [(6, .int (nI 3)), (7, .ref (A 12 (3 * p + 2))), (5, .int (nI 3)), (4, .ref (A 14 p)), (3, .int (nI n)), (0, .ref (A 9 p)), (1, .int (nI q)), (2, .int (nI n))] dX3_takeSheets_72 rfl (by decide) (by decide) rfl ?_
            refine s_goto (pc := 75) S 16 dX3_takeSheets_75 (by decide) ?_
            refine s_iload (pc := 16) S 0 dX3_takeSheets_16 rfl ?_
            refine s_iload (pc := 18) S 2 dX3_takeSheets_18 rfl ?_
            refine s_icmp_geN (pc := 20) S 78 dX3_takeSheets_20 (by decide) (by decide) (by decide) (fun _ => ?_) (fun h => absurd h (by decide))
            have hst : tkC C p q n = C := by
              unfold tkC
              rw [show C 12 (3 * p + 0) 1 - dK C p q n 0 = C 12 (3 * p + 0) 1 by (unfold dK; rw [show avK C p q 0 = _ from avK_n lv_1, show avK C p q 1 = _ from avK_q c_40, show avK C p q 2 = _ from avK_q c_44]; simp only [Nat.one_ne_zero, if_true, if_false, show (2 : Nat) ≠ 0 by decide, show (2 : Nat) ≠ 1 by decide]; all_goals omega)]
              rw [show C 12 (3 * p + 1) 1 - dK C p q n 1 = C 12 (3 * p + 1) 1 by (unfold dK; rw [show avK C p q 0 = _ from avK_n lv_1, show avK C p q 1 = _ from avK_q c_40, show avK C p q 2 = _ from avK_q c_44]; simp only [Nat.one_ne_zero, if_true, if_false, show (2 : Nat) ≠ 0 by decide, show (2 : Nat) ≠ 1 by decide]; all_goals omega)]
              rw [show C 12 (3 * p + 2) 1 - dK C p q n 2 = C 12 (3 * p + 2) 1 by (unfold dK; rw [show avK C p q 0 = _ from avK_n lv_1, show avK C p q 1 = _ from avK_q c_40, show avK C p q 2 = _ from avK_q c_44]; simp only [Nat.one_ne_zero, if_true, if_false, show (2 : Nat) ≠ 0 by decide, show (2 : Nat) ≠ 1 by decide]; all_goals omega)]
              all_goals (funext k2 i2 f2; simp only [up3]; repeat' split)
              all_goals first | rfl | (exfalso; omega) | (rename_i z; obtain ⟨rfl, rfl, rfl⟩ := z; rfl) | (rename_i z _; obtain ⟨rfl, rfl, rfl⟩ := z; rfl) | (rename_i z _ _; obtain ⟨rfl, rfl, rfl⟩ := z; rfl)
            exact s_vret (pc := 78) S hz hlo hr ⟨rfl, hst, rfl⟩ (Nat.le_of_ble_eq_true rfl) (Nat.le_of_ble_eq_true rfl) dX3_takeSheets_78
          · refine s_iload_n (pc := 44) S 4 dX3_takeSheets_44 rfl rfl ?_
            refine s_aload (pc := 45) S 0 dX3_takeSheets_45 rfl ?_
            refine s_get (pc := 47) S hz (ref := "SpoolFarm$Tray") (v := .int (nI (C 12 (3 * p + 2) 1))) (cc_tray (A := A) (C := C) hp lv_41 (by omega)) i_RX4 rfl 1 (Nat.le_of_ble_eq_true rfl) (by decide +kernel) (fun _ h => h) rfl dX3_takeSheets_47 ?_
            refine s_min (pc := 50) S hml (by omega) (by omega) (by decide +kernel) (by decide +kernel) (by decide +kernel) (by decide +kernel) (Nat.le_of_ble_eq_true rfl) (Nat.le_of_ble_eq_true rfl) (Nat.le_of_ble_eq_true rfl) (Nat.le_of_ble_eq_true rfl) dX3_takeSheets_50 ?_
            refine s_istore (pc := 53) S [(8, .int (nI (min n (C 12 (3 * p + 2) 1)))), (7, .ref (A 12 (3 * p + 2))), (6, .int (nI 2)), (5, .int (nI 3)), (4, .ref (A 14 p)), (3, .int (nI n)), (0, .ref (A 9 p)), (1, .int (nI q)), (2, .int (nI n))] dX3_takeSheets_53 (by decide) rfl ?_
            refine s_aload (pc := 55) S 1 dX3_takeSheets_55 rfl ?_
            refine s_dup (pc := 57) S dX3_takeSheets_57 rfl ?_
            refine s_get (pc := 58) S hz (ref := "SpoolFarm$Tray") (v := .int (nI (C 12 (3 * p + 2) 1))) (cc_tray (A := A) (C := C) hp lv_41 (by omega)) i_RX4 rfl 1 (Nat.le_of_ble_eq_true rfl) (by decide +kernel) (fun _ h => h) rfl dX3_takeSheets_58 ?_
            refine s_iload (pc := 61) S 0 dX3_takeSheets_61 rfl ?_
            refine s_isubN (pc := 63) S dX3_takeSheets_63 (by omega) ?_
            refine s_put (pc := 64) S hz (ref := "SpoolFarm$Tray") (ty := .int) (cc_tray (A := A) (C := C) hp lv_41 (by omega)) i_RX4 tyX4 tyX4_ok nmX4 rfl 1 (Nat.le_of_ble_eq_true rfl) (by decide +kernel) (fun _ h => h) rfl (by decide +kernel) rfl rfl (Nat.le_of_ble_eq_true rfl) (up3 C 12 (3 * p + 2) 1 ((C 12 (3 * p + 2) 1) - (min n (C 12 (3 * p + 2) 1)))) cu_tray (by rw [(cc_tray (A := A) (C := (up3 C 12 (3 * p + 2) 1 ((C 12 (3 * p + 2) 1) - (min n (C 12 (3 * p + 2) 1))))) hp lv_41 (by omega)), up3_u]; rfl) dX3_takeSheets_64 ?_
            refine s_iload_n (pc := 67) S 5 dX3_takeSheets_67 rfl rfl ?_
            refine s_iload (pc := 68) S 0 dX3_takeSheets_68 rfl ?_
            refine s_isubN (pc := 70) S dX3_takeSheets_70 (by omega) ?_
            refine s_istore_n (pc := 71) S [(3, .int (nI (n - (min n (C 12 (3 * p + 2) 1))))), (8, .int (nI (min n (C 12 (3 * p + 2) 1)))), (7, .ref (A 12 (3 * p + 2))), (6, .int (nI 2)), (5, .int (nI 3)), (4, .ref (A 14 p)), (0, .ref (A 9 p)), (1, .int (nI q)), (2, .int (nI n))] dX3_takeSheets_71 rfl (by decide) rfl ?_
            refine s_iinc (pc := 72) S 3 [(6, .int (nI 3)), (3, .int (nI (n - (min n (C 12 (3 * p + 2) 1))))), (8, .int (nI (min n (C 12 (3 * p + 2) 1)))), (7, .ref (A 12 (3 * p + 2))), (5, .int (nI 3)), (4, .ref (A 14 p)), (0, .ref (A 9 p)), (1, .int (nI q)), (2, .int (nI n))] dX3_takeSheets_72 rfl (by decide) (by decide) rfl ?_
            refine s_goto (pc := 75) S 16 dX3_takeSheets_75 (by decide) ?_
            refine s_iload (pc := 16) S 0 dX3_takeSheets_16 rfl ?_
            refine s_iload (pc := 18) S 4 dX3_takeSheets_18 rfl ?_
            refine s_icmp_geN (pc := 20) S 78 dX3_takeSheets_20 (by decide) (by decide) (by decide) (fun _ => ?_) (fun h => absurd h (by decide))
            have hst : tkC C p q n = (up3 C 12 (3 * p + 2) 1 ((C 12 (3 * p + 2) 1) - (min n (C 12 (3 * p + 2) 1)))) := by
              unfold tkC
              rw [show C 12 (3 * p + 0) 1 - dK C p q n 0 = C 12 (3 * p + 0) 1 by (unfold dK; rw [show avK C p q 0 = _ from avK_n lv_1, show avK C p q 1 = _ from avK_q c_40, show avK C p q 2 = _ from avK_y lv_41 c_44]; simp only [Nat.one_ne_zero, if_true, if_false, show (2 : Nat) ≠ 0 by decide, show (2 : Nat) ≠ 1 by decide]; all_goals omega)]
              rw [show C 12 (3 * p + 1) 1 - dK C p q n 1 = C 12 (3 * p + 1) 1 by (unfold dK; rw [show avK C p q 0 = _ from avK_n lv_1, show avK C p q 1 = _ from avK_q c_40, show avK C p q 2 = _ from avK_y lv_41 c_44]; simp only [Nat.one_ne_zero, if_true, if_false, show (2 : Nat) ≠ 0 by decide, show (2 : Nat) ≠ 1 by decide]; all_goals omega)]
              rw [show C 12 (3 * p + 2) 1 - dK C p q n 2 = (C 12 (3 * p + 2) 1) - (min n (C 12 (3 * p + 2) 1)) by (unfold dK; rw [show avK C p q 0 = _ from avK_n lv_1, show avK C p q 1 = _ from avK_q c_40, show avK C p q 2 = _ from avK_y lv_41 c_44]; simp only [Nat.one_ne_zero, if_true, if_false, show (2 : Nat) ≠ 0 by decide, show (2 : Nat) ≠ 1 by decide]; all_goals omega)]
              all_goals (funext k2 i2 f2; simp only [up3]; repeat' split)
              all_goals first | rfl | (exfalso; omega) | (rename_i z; obtain ⟨rfl, rfl, rfl⟩ := z; rfl) | (rename_i z _; obtain ⟨rfl, rfl, rfl⟩ := z; rfl) | (rename_i z _ _; obtain ⟨rfl, rfl, rfl⟩ := z; rfl)
            exact s_vret (pc := 78) S hz hlo hr ⟨rfl, hst, rfl⟩ (Nat.le_of_ble_eq_true rfl) (Nat.le_of_ble_eq_true rfl) dX3_takeSheets_78
        · refine s_aald (pc := 27) S hz (v := .null) (cc_trays (A := A) (C := C) hp) (by omega) (by decide) (by rw [if_neg lv_41]; rfl) dX3_takeSheets_27 ?_
          refine s_astoreN (pc := 28) S [(7, .null), (6, .int (nI 2)), (5, .int (nI 3)), (4, .ref (A 14 p)), (3, .int (nI n)), (0, .ref (A 9 p)), (1, .int (nI q)), (2, .int (nI n))] dX3_takeSheets_28 (by decide) rfl ?_
          refine s_aloadN (pc := 30) S 0 dX3_takeSheets_30 rfl ?_
          refine s_ifnullN (pc := 32) S 72 dX3_takeSheets_32 (by decide) ?_
          refine s_iinc (pc := 72) S 1 [(6, .int (nI 3)), (7, .null), (5, .int (nI 3)), (4, .ref (A 14 p)), (3, .int (nI n)), (0, .ref (A 9 p)), (1, .int (nI q)), (2, .int (nI n))] dX3_takeSheets_72 rfl (by decide) (by decide) rfl ?_
          refine s_goto (pc := 75) S 16 dX3_takeSheets_75 (by decide) ?_
          refine s_iload (pc := 16) S 0 dX3_takeSheets_16 rfl ?_
          refine s_iload (pc := 18) S 2 dX3_takeSheets_18 rfl ?_
          refine s_icmp_geN (pc := 20) S 78 dX3_takeSheets_20 (by decide) (by decide) (by decide) (fun _ => ?_) (fun h => absurd h (by decide))
          have hst : tkC C p q n = C := by
            unfold tkC
            rw [show C 12 (3 * p + 0) 1 - dK C p q n 0 = C 12 (3 * p + 0) 1 by (unfold dK; rw [show avK C p q 0 = _ from avK_n lv_1, show avK C p q 1 = _ from avK_q c_40, show avK C p q 2 = _ from avK_n lv_41]; simp only [Nat.one_ne_zero, if_true, if_false, show (2 : Nat) ≠ 0 by decide, show (2 : Nat) ≠ 1 by decide]; all_goals omega)]
            rw [show C 12 (3 * p + 1) 1 - dK C p q n 1 = C 12 (3 * p + 1) 1 by (unfold dK; rw [show avK C p q 0 = _ from avK_n lv_1, show avK C p q 1 = _ from avK_q c_40, show avK C p q 2 = _ from avK_n lv_41]; simp only [Nat.one_ne_zero, if_true, if_false, show (2 : Nat) ≠ 0 by decide, show (2 : Nat) ≠ 1 by decide]; all_goals omega)]
            rw [show C 12 (3 * p + 2) 1 - dK C p q n 2 = C 12 (3 * p + 2) 1 by (unfold dK; rw [show avK C p q 0 = _ from avK_n lv_1, show avK C p q 1 = _ from avK_q c_40, show avK C p q 2 = _ from avK_n lv_41]; simp only [Nat.one_ne_zero, if_true, if_false, show (2 : Nat) ≠ 0 by decide, show (2 : Nat) ≠ 1 by decide]; all_goals omega)]
            all_goals (funext k2 i2 f2; simp only [up3]; repeat' split)
            all_goals first | rfl | (exfalso; omega) | (rename_i z; obtain ⟨rfl, rfl, rfl⟩ := z; rfl) | (rename_i z _; obtain ⟨rfl, rfl, rfl⟩ := z; rfl) | (rename_i z _ _; obtain ⟨rfl, rfl, rfl⟩ := z; rfl)
          exact s_vret (pc := 78) S hz hlo hr ⟨rfl, hst, rfl⟩ (Nat.le_of_ble_eq_true rfl) (Nat.le_of_ble_eq_true rfl) dX3_takeSheets_78
      · refine s_iload_n (pc := 44) S 4 dX3_takeSheets_44 rfl rfl ?_
        refine s_aload (pc := 45) S 0 dX3_takeSheets_45 rfl ?_
        refine s_get (pc := 47) S hz (ref := "SpoolFarm$Tray") (v := .int (nI (C 12 (3 * p + 1) 1))) (cc_tray (A := A) (C := C) hp lv_37 (by omega)) i_RX4 rfl 1 (Nat.le_of_ble_eq_true rfl) (by decide +kernel) (fun _ h => h) rfl dX3_takeSheets_47 ?_
        refine s_min (pc := 50) S hml (by omega) (by omega) (by decide +kernel) (by decide +kernel) (by decide +kernel) (by decide +kernel) (Nat.le_of_ble_eq_true rfl) (Nat.le_of_ble_eq_true rfl) (Nat.le_of_ble_eq_true rfl) (Nat.le_of_ble_eq_true rfl) dX3_takeSheets_50 ?_
        refine s_istore (pc := 53) S [(8, .int (nI (min n (C 12 (3 * p + 1) 1)))), (7, .ref (A 12 (3 * p + 1))), (6, .int (nI 1)), (5, .int (nI 3)), (4, .ref (A 14 p)), (3, .int (nI n)), (0, .ref (A 9 p)), (1, .int (nI q)), (2, .int (nI n))] dX3_takeSheets_53 (by decide) rfl ?_
        refine s_aload (pc := 55) S 1 dX3_takeSheets_55 rfl ?_
        refine s_dup (pc := 57) S dX3_takeSheets_57 rfl ?_
        refine s_get (pc := 58) S hz (ref := "SpoolFarm$Tray") (v := .int (nI (C 12 (3 * p + 1) 1))) (cc_tray (A := A) (C := C) hp lv_37 (by omega)) i_RX4 rfl 1 (Nat.le_of_ble_eq_true rfl) (by decide +kernel) (fun _ h => h) rfl dX3_takeSheets_58 ?_
        refine s_iload (pc := 61) S 0 dX3_takeSheets_61 rfl ?_
        refine s_isubN (pc := 63) S dX3_takeSheets_63 (by omega) ?_
        refine s_put (pc := 64) S hz (ref := "SpoolFarm$Tray") (ty := .int) (cc_tray (A := A) (C := C) hp lv_37 (by omega)) i_RX4 tyX4 tyX4_ok nmX4 rfl 1 (Nat.le_of_ble_eq_true rfl) (by decide +kernel) (fun _ h => h) rfl (by decide +kernel) rfl rfl (Nat.le_of_ble_eq_true rfl) (up3 C 12 (3 * p + 1) 1 ((C 12 (3 * p + 1) 1) - (min n (C 12 (3 * p + 1) 1)))) cu_tray (by rw [(cc_tray (A := A) (C := (up3 C 12 (3 * p + 1) 1 ((C 12 (3 * p + 1) 1) - (min n (C 12 (3 * p + 1) 1))))) hp lv_37 (by omega)), up3_u]; rfl) dX3_takeSheets_64 ?_
        refine s_iload_n (pc := 67) S 5 dX3_takeSheets_67 rfl rfl ?_
        refine s_iload (pc := 68) S 0 dX3_takeSheets_68 rfl ?_
        refine s_isubN (pc := 70) S dX3_takeSheets_70 (by omega) ?_
        refine s_istore_n (pc := 71) S [(3, .int (nI (n - (min n (C 12 (3 * p + 1) 1))))), (8, .int (nI (min n (C 12 (3 * p + 1) 1)))), (7, .ref (A 12 (3 * p + 1))), (6, .int (nI 1)), (5, .int (nI 3)), (4, .ref (A 14 p)), (0, .ref (A 9 p)), (1, .int (nI q)), (2, .int (nI n))] dX3_takeSheets_71 rfl (by decide) rfl ?_
        refine s_iinc (pc := 72) S 3 [(6, .int (nI 2)), (3, .int (nI (n - (min n (C 12 (3 * p + 1) 1))))), (8, .int (nI (min n (C 12 (3 * p + 1) 1)))), (7, .ref (A 12 (3 * p + 1))), (5, .int (nI 3)), (4, .ref (A 14 p)), (0, .ref (A 9 p)), (1, .int (nI q)), (2, .int (nI n))] dX3_takeSheets_72 rfl (by decide) (by decide) rfl ?_
        refine s_goto (pc := 75) S 16 dX3_takeSheets_75 (by decide) ?_
        refine s_iload (pc := 16) S 0 dX3_takeSheets_16 rfl ?_
        refine s_iload (pc := 18) S 4 dX3_takeSheets_18 rfl ?_
        refine s_icmp_geN (pc := 20) S 78 dX3_takeSheets_20 (by decide) (by decide) (by decide) (fun h => absurd h (by decide)) (fun _ => ?_)
        refine s_aload (pc := 23) S 5 dX3_takeSheets_23 rfl ?_
        refine s_iload (pc := 25) S 0 dX3_takeSheets_25 rfl ?_
        by_cases lv_45 : 2 < C 9 p 5
        · refine s_aald (pc := 27) S hz (v := .ref (A 12 (3 * p + 2))) (cc_trays (A := A) (C := (up3 C 12 (3 * p + 1) 1 ((C 12 (3 * p + 1) 1) - (min n (C 12 (3 * p + 1) 1))))) hp) (by omega) (by decide) (congrArg va_rf (if_pos lv_45)) dX3_takeSheets_27 ?_
          obtain ⟨o_46, o_47⟩ := hT 2 lv_45
          refine s_astore (pc := 28) S [(7, .ref (A 12 (3 * p + 2))), (6, .int (nI 2)), (3, .int (nI (n - (min n (C 12 (3 * p + 1) 1))))), (8, .int (nI (min n (C 12 (3 * p + 1) 1)))), (5, .int (nI 3)), (4, .ref (A 14 p)), (0, .ref (A 9 p)), (1, .int (nI q)), (2, .int (nI n))] dX3_takeSheets_28 (by decide) rfl ?_
          refine s_aload (pc := 30) S 0 dX3_takeSheets_30 rfl ?_
          refine s_ifnull (pc := 32) S dX3_takeSheets_32 ?_
          refine s_aload (pc := 35) S 0 dX3_takeSheets_35 rfl ?_
          refine s_get (pc := 37) S hz (ref := "SpoolFarm$Tray") (v := .int (nI (C 12 (3 * p + 2) 0))) (cc_tray (A := A) (C := (up3 C 12 (3 * p + 1) 1 ((C 12 (3 * p + 1) 1) - (min n (C 12 (3 * p + 1) 1))))) hp lv_45 (by omega)) i_RX4 rfl 0 (Nat.le_of_ble_eq_true rfl) (by decide +kernel) (fun _ h => h) (by rw [up3_i (show 3 * p + 2 ≠ 3 * p + 1 by omega)]; rfl) dX3_takeSheets_37 ?_
          refine s_iload_n (pc := 40) S 7 dX3_takeSheets_40 rfl rfl ?_
          refine s_icmp_neN (pc := 41) S 72 dX3_takeSheets_41 (by decide) (by omega) (by omega) (fun c_48 => ?_) (fun c_48 => ?_)
          · refine s_iinc (pc := 72) S 1 [(6, .int (nI 3)), (7, .ref (A 12 (3 * p + 2))), (3, .int (nI (n - (min n (C 12 (3 * p + 1) 1))))), (8, .int (nI (min n (C 12 (3 * p + 1) 1)))), (5, .int (nI 3)), (4, .ref (A 14 p)), (0, .ref (A 9 p)), (1, .int (nI q)), (2, .int (nI n))] dX3_takeSheets_72 rfl (by decide) (by decide) rfl ?_
            refine s_goto (pc := 75) S 16 dX3_takeSheets_75 (by decide) ?_
            refine s_iload (pc := 16) S 0 dX3_takeSheets_16 rfl ?_
            refine s_iload (pc := 18) S 4 dX3_takeSheets_18 rfl ?_
            refine s_icmp_geN (pc := 20) S 78 dX3_takeSheets_20 (by decide) (by decide) (by decide) (fun _ => ?_) (fun h => absurd h (by decide))
            have hst : tkC C p q n = (up3 C 12 (3 * p + 1) 1 ((C 12 (3 * p + 1) 1) - (min n (C 12 (3 * p + 1) 1)))) := by
              unfold tkC
              rw [show C 12 (3 * p + 0) 1 - dK C p q n 0 = C 12 (3 * p + 0) 1 by (unfold dK; rw [show avK C p q 0 = _ from avK_n lv_1, show avK C p q 1 = _ from avK_y lv_37 c_40, show avK C p q 2 = _ from avK_q c_48]; simp only [Nat.one_ne_zero, if_true, if_false, show (2 : Nat) ≠ 0 by decide, show (2 : Nat) ≠ 1 by decide]; all_goals omega)]
              rw [show C 12 (3 * p + 1) 1 - dK C p q n 1 = (C 12 (3 * p + 1) 1) - (min n (C 12 (3 * p + 1) 1)) by (unfold dK; rw [show avK C p q 0 = _ from avK_n lv_1, show avK C p q 1 = _ from avK_y lv_37 c_40, show avK C p q 2 = _ from avK_q c_48]; simp only [Nat.one_ne_zero, if_true, if_false, show (2 : Nat) ≠ 0 by decide, show (2 : Nat) ≠ 1 by decide]; all_goals omega)]
              rw [show C 12 (3 * p + 2) 1 - dK C p q n 2 = C 12 (3 * p + 2) 1 by (unfold dK; rw [show avK C p q 0 = _ from avK_n lv_1, show avK C p q 1 = _ from avK_y lv_37 c_40, show avK C p q 2 = _ from avK_q c_48]; simp only [Nat.one_ne_zero, if_true, if_false, show (2 : Nat) ≠ 0 by decide, show (2 : Nat) ≠ 1 by decide]; all_goals omega)]
              all_goals (funext k2 i2 f2; simp only [up3]; repeat' split)
              all_goals first | rfl | (exfalso; omega) | (rename_i z; obtain ⟨rfl, rfl, rfl⟩ := z; rfl) | (rename_i z _; obtain ⟨rfl, rfl, rfl⟩ := z; rfl) | (rename_i z _ _; obtain ⟨rfl, rfl, rfl⟩ := z; rfl)
            exact s_vret (pc := 78) S hz hlo hr ⟨rfl, hst, rfl⟩ (Nat.le_of_ble_eq_true rfl) (Nat.le_of_ble_eq_true rfl) dX3_takeSheets_78
          · refine s_iload_n (pc := 44) S 2 dX3_takeSheets_44 rfl rfl ?_
            refine s_aload (pc := 45) S 0 dX3_takeSheets_45 rfl ?_
            refine s_get (pc := 47) S hz (ref := "SpoolFarm$Tray") (v := .int (nI (C 12 (3 * p + 2) 1))) (cc_tray (A := A) (C := (up3 C 12 (3 * p + 1) 1 ((C 12 (3 * p + 1) 1) - (min n (C 12 (3 * p + 1) 1))))) hp lv_45 (by omega)) i_RX4 rfl 1 (Nat.le_of_ble_eq_true rfl) (by decide +kernel) (fun _ h => h) (by rw [up3_i (show 3 * p + 2 ≠ 3 * p + 1 by omega)]; rfl) dX3_takeSheets_47 ?_
            refine s_min (pc := 50) S hml (by omega) (by omega) (by decide +kernel) (by decide +kernel) (by decide +kernel) (by decide +kernel) (Nat.le_of_ble_eq_true rfl) (Nat.le_of_ble_eq_true rfl) (Nat.le_of_ble_eq_true rfl) (Nat.le_of_ble_eq_true rfl) dX3_takeSheets_50 ?_
            refine s_istore (pc := 53) S [(8, .int (nI (min (n - (min n (C 12 (3 * p + 1) 1))) (C 12 (3 * p + 2) 1)))), (7, .ref (A 12 (3 * p + 2))), (6, .int (nI 2)), (3, .int (nI (n - (min n (C 12 (3 * p + 1) 1))))), (5, .int (nI 3)), (4, .ref (A 14 p)), (0, .ref (A 9 p)), (1, .int (nI q)), (2, .int (nI n))] dX3_takeSheets_53 (by decide) rfl ?_
            refine s_aload (pc := 55) S 1 dX3_takeSheets_55 rfl ?_
            refine s_dup (pc := 57) S dX3_takeSheets_57 rfl ?_
            refine s_get (pc := 58) S hz (ref := "SpoolFarm$Tray") (v := .int (nI (C 12 (3 * p + 2) 1))) (cc_tray (A := A) (C := (up3 C 12 (3 * p + 1) 1 ((C 12 (3 * p + 1) 1) - (min n (C 12 (3 * p + 1) 1))))) hp lv_45 (by omega)) i_RX4 rfl 1 (Nat.le_of_ble_eq_true rfl) (by decide +kernel) (fun _ h => h) (by rw [up3_i (show 3 * p + 2 ≠ 3 * p + 1 by omega)]; rfl) dX3_takeSheets_58 ?_
            refine s_iload (pc := 61) S 0 dX3_takeSheets_61 rfl ?_
            refine s_isubN (pc := 63) S dX3_takeSheets_63 (by omega) ?_
            refine s_put (pc := 64) S hz (ref := "SpoolFarm$Tray") (ty := .int) (cc_tray (A := A) (C := (up3 C 12 (3 * p + 1) 1 ((C 12 (3 * p + 1) 1) - (min n (C 12 (3 * p + 1) 1))))) hp lv_45 (by omega)) i_RX4 tyX4 tyX4_ok nmX4 rfl 1 (Nat.le_of_ble_eq_true rfl) (by decide +kernel) (fun _ h => h) rfl (by decide +kernel) rfl rfl (Nat.le_of_ble_eq_true rfl) (up3 (up3 C 12 (3 * p + 1) 1 ((C 12 (3 * p + 1) 1) - (min n (C 12 (3 * p + 1) 1)))) 12 (3 * p + 2) 1 ((C 12 (3 * p + 2) 1) - (min (n - (min n (C 12 (3 * p + 1) 1))) (C 12 (3 * p + 2) 1)))) cu_tray (by rw [(cc_tray (A := A) (C := (up3 (up3 C 12 (3 * p + 1) 1 ((C 12 (3 * p + 1) 1) - (min n (C 12 (3 * p + 1) 1)))) 12 (3 * p + 2) 1 ((C 12 (3 * p + 2) 1) - (min (n - (min n (C 12 (3 * p + 1) 1))) (C 12 (3 * p + 2) 1))))) hp lv_45 (by omega)), up3_u]; rfl) dX3_takeSheets_64 ?_
            refine s_iload_n (pc := 67) S 3 dX3_takeSheets_67 rfl rfl ?_
            refine s_iload (pc := 68) S 0 dX3_takeSheets_68 rfl ?_
            refine s_isubN (pc := 70) S dX3_takeSheets_70 (by omega) ?_
            refine s_istore_n (pc := 71) S [(3, .int (nI ((n - (min n (C 12 (3 * p + 1) 1))) - (min (n - (min n (C 12 (3 * p + 1) 1))) (C 12 (3 * p + 2) 1))))), (8, .int (nI (min (n - (min n (C 12 (3 * p + 1) 1))) (C 12 (3 * p + 2) 1)))), (7, .ref (A 12 (3 * p + 2))), (6, .int (nI 2)), (5, .int (nI 3)), (4, .ref (A 14 p)), (0, .ref (A 9 p)), (1, .int (nI q)), (2, .int (nI n))] dX3_takeSheets_71 rfl (by decide) rfl ?_
            refine s_iinc (pc := 72) S 3 [(6, .int (nI 3)), (3, .int (nI ((n - (min n (C 12 (3 * p + 1) 1))) - (min (n - (min n (C 12 (3 * p + 1) 1))) (C 12 (3 * p + 2) 1))))), (8, .int (nI (min (n - (min n (C 12 (3 * p + 1) 1))) (C 12 (3 * p + 2) 1)))), (7, .ref (A 12 (3 * p + 2))), (5, .int (nI 3)), (4, .ref (A 14 p)), (0, .ref (A 9 p)), (1, .int (nI q)), (2, .int (nI n))] dX3_takeSheets_72 rfl (by decide) (by decide) rfl ?_
            refine s_goto (pc := 75) S 16 dX3_takeSheets_75 (by decide) ?_
            refine s_iload (pc := 16) S 0 dX3_takeSheets_16 rfl ?_
            refine s_iload (pc := 18) S 4 dX3_takeSheets_18 rfl ?_
            refine s_icmp_geN (pc := 20) S 78 dX3_takeSheets_20 (by decide) (by decide) (by decide) (fun _ => ?_) (fun h => absurd h (by decide))
            have hst : tkC C p q n = (up3 (up3 C 12 (3 * p + 1) 1 ((C 12 (3 * p + 1) 1) - (min n (C 12 (3 * p + 1) 1)))) 12 (3 * p + 2) 1 ((C 12 (3 * p + 2) 1) - (min (n - (min n (C 12 (3 * p + 1) 1))) (C 12 (3 * p + 2) 1)))) := by
              unfold tkC
              rw [show C 12 (3 * p + 0) 1 - dK C p q n 0 = C 12 (3 * p + 0) 1 by (unfold dK; rw [show avK C p q 0 = _ from avK_n lv_1, show avK C p q 1 = _ from avK_y lv_37 c_40, show avK C p q 2 = _ from avK_y lv_45 c_48]; simp only [Nat.one_ne_zero, if_true, if_false, show (2 : Nat) ≠ 0 by decide, show (2 : Nat) ≠ 1 by decide]; all_goals omega)]
              rw [show C 12 (3 * p + 1) 1 - dK C p q n 1 = (C 12 (3 * p + 1) 1) - (min n (C 12 (3 * p + 1) 1)) by (unfold dK; rw [show avK C p q 0 = _ from avK_n lv_1, show avK C p q 1 = _ from avK_y lv_37 c_40, show avK C p q 2 = _ from avK_y lv_45 c_48]; simp only [Nat.one_ne_zero, if_true, if_false, show (2 : Nat) ≠ 0 by decide, show (2 : Nat) ≠ 1 by decide]; all_goals omega)]
              rw [show C 12 (3 * p + 2) 1 - dK C p q n 2 = (C 12 (3 * p + 2) 1) - (min (n - (min n (C 12 (3 * p + 1) 1))) (C 12 (3 * p + 2) 1)) by (unfold dK; rw [show avK C p q 0 = _ from avK_n lv_1, show avK C p q 1 = _ from avK_y lv_37 c_40, show avK C p q 2 = _ from avK_y lv_45 c_48]; simp only [Nat.one_ne_zero, if_true, if_false, show (2 : Nat) ≠ 0 by decide, show (2 : Nat) ≠ 1 by decide]; all_goals omega)]
              all_goals (funext k2 i2 f2; simp only [up3]; repeat' split)
              all_goals first | rfl | (exfalso; omega) | (rename_i z; obtain ⟨rfl, rfl, rfl⟩ := z; rfl) | (rename_i z _; obtain ⟨rfl, rfl, rfl⟩ := z; rfl) | (rename_i z _ _; obtain ⟨rfl, rfl, rfl⟩ := z; rfl)
            exact s_vret (pc := 78) S hz hlo hr ⟨rfl, hst, rfl⟩ (Nat.le_of_ble_eq_true rfl) (Nat.le_of_ble_eq_true rfl) dX3_takeSheets_78
        · refine s_aald (pc := 27) S hz (v := .null) (cc_trays (A := A) (C := (up3 C 12 (3 * p + 1) 1 ((C 12 (3 * p + 1) 1) - (min n (C 12 (3 * p + 1) 1))))) hp) (by omega) (by decide) (congrArg va_rf (if_neg lv_45)) dX3_takeSheets_27 ?_
          refine s_astoreN (pc := 28) S [(7, .null), (6, .int (nI 2)), (3, .int (nI (n - (min n (C 12 (3 * p + 1) 1))))), (8, .int (nI (min n (C 12 (3 * p + 1) 1)))), (5, .int (nI 3)), (4, .ref (A 14 p)), (0, .ref (A 9 p)), (1, .int (nI q)), (2, .int (nI n))] dX3_takeSheets_28 (by decide) rfl ?_
          refine s_aloadN (pc := 30) S 0 dX3_takeSheets_30 rfl ?_
          refine s_ifnullN (pc := 32) S 72 dX3_takeSheets_32 (by decide) ?_
          refine s_iinc (pc := 72) S 1 [(6, .int (nI 3)), (7, .null), (3, .int (nI (n - (min n (C 12 (3 * p + 1) 1))))), (8, .int (nI (min n (C 12 (3 * p + 1) 1)))), (5, .int (nI 3)), (4, .ref (A 14 p)), (0, .ref (A 9 p)), (1, .int (nI q)), (2, .int (nI n))] dX3_takeSheets_72 rfl (by decide) (by decide) rfl ?_
          refine s_goto (pc := 75) S 16 dX3_takeSheets_75 (by decide) ?_
          refine s_iload (pc := 16) S 0 dX3_takeSheets_16 rfl ?_
          refine s_iload (pc := 18) S 4 dX3_takeSheets_18 rfl ?_
          refine s_icmp_geN (pc := 20) S 78 dX3_takeSheets_20 (by decide) (by decide) (by decide) (fun _ => ?_) (fun h => absurd h (by decide))
          have hst : tkC C p q n = (up3 C 12 (3 * p + 1) 1 ((C 12 (3 * p + 1) 1) - (min n (C 12 (3 * p + 1) 1)))) := by
            unfold tkC
            rw [show C 12 (3 * p + 0) 1 - dK C p q n 0 = C 12 (3 * p + 0) 1 by (unfold dK; rw [show avK C p q 0 = _ from avK_n lv_1, show avK C p q 1 = _ from avK_y lv_37 c_40, show avK C p q 2 = _ from avK_n lv_45]; simp only [Nat.one_ne_zero, if_true, if_false, show (2 : Nat) ≠ 0 by decide, show (2 : Nat) ≠ 1 by decide]; all_goals omega)]
            rw [show C 12 (3 * p + 1) 1 - dK C p q n 1 = (C 12 (3 * p + 1) 1) - (min n (C 12 (3 * p + 1) 1)) by (unfold dK; rw [show avK C p q 0 = _ from avK_n lv_1, show avK C p q 1 = _ from avK_y lv_37 c_40, show avK C p q 2 = _ from avK_n lv_45]; simp only [Nat.one_ne_zero, if_true, if_false, show (2 : Nat) ≠ 0 by decide, show (2 : Nat) ≠ 1 by decide]; all_goals omega)]
            rw [show C 12 (3 * p + 2) 1 - dK C p q n 2 = C 12 (3 * p + 2) 1 by (unfold dK; rw [show avK C p q 0 = _ from avK_n lv_1, show avK C p q 1 = _ from avK_y lv_37 c_40, show avK C p q 2 = _ from avK_n lv_45]; simp only [Nat.one_ne_zero, if_true, if_false, show (2 : Nat) ≠ 0 by decide, show (2 : Nat) ≠ 1 by decide]; all_goals omega)]
            all_goals (funext k2 i2 f2; simp only [up3]; repeat' split)
            all_goals first | rfl | (exfalso; omega) | (rename_i z; obtain ⟨rfl, rfl, rfl⟩ := z; rfl) | (rename_i z _; obtain ⟨rfl, rfl, rfl⟩ := z; rfl) | (rename_i z _ _; obtain ⟨rfl, rfl, rfl⟩ := z; rfl)
          exact s_vret (pc := 78) S hz hlo hr ⟨rfl, hst, rfl⟩ (Nat.le_of_ble_eq_true rfl) (Nat.le_of_ble_eq_true rfl) dX3_takeSheets_78
    · refine s_aald (pc := 27) S hz (v := .null) (cc_trays (A := A) (C := C) hp) (by omega) (by decide) (by rw [if_neg lv_37]; rfl) dX3_takeSheets_27 ?_
      refine s_astoreN (pc := 28) S [(7, .null), (6, .int (nI 1)), (5, .int (nI 3)), (4, .ref (A 14 p)), (3, .int (nI n)), (0, .ref (A 9 p)), (1, .int (nI q)), (2, .int (nI n))] dX3_takeSheets_28 (by decide) rfl ?_
      refine s_aloadN (pc := 30) S 0 dX3_takeSheets_30 rfl ?_
      refine s_ifnullN (pc := 32) S 72 dX3_takeSheets_32 (by decide) ?_
      refine s_iinc (pc := 72) S 1 [(6, .int (nI 2)), (7, .null), (5, .int (nI 3)), (4, .ref (A 14 p)), (3, .int (nI n)), (0, .ref (A 9 p)), (1, .int (nI q)), (2, .int (nI n))] dX3_takeSheets_72 rfl (by decide) (by decide) rfl ?_
      refine s_goto (pc := 75) S 16 dX3_takeSheets_75 (by decide) ?_
      refine s_iload (pc := 16) S 0 dX3_takeSheets_16 rfl ?_
      refine s_iload (pc := 18) S 2 dX3_takeSheets_18 rfl ?_
      refine s_icmp_geN (pc := 20) S 78 dX3_takeSheets_20 (by decide) (by decide) (by decide) (fun h => absurd h (by decide)) (fun _ => ?_)
      refine s_aload (pc := 23) S 3 dX3_takeSheets_23 rfl ?_
      refine s_iload (pc := 25) S 0 dX3_takeSheets_25 rfl ?_
      by_cases lv_49 : 2 < C 9 p 5
      · refine s_aald (pc := 27) S hz (v := .ref (A 12 (3 * p + 2))) (cc_trays (A := A) (C := C) hp) (by omega) (by decide) (by rw [if_pos lv_49]; rfl) dX3_takeSheets_27 ?_
        obtain ⟨o_50, o_51⟩ := hT 2 lv_49
        refine s_astore (pc := 28) S [(7, .ref (A 12 (3 * p + 2))), (6, .int (nI 2)), (5, .int (nI 3)), (4, .ref (A 14 p)), (3, .int (nI n)), (0, .ref (A 9 p)), (1, .int (nI q)), (2, .int (nI n))] dX3_takeSheets_28 (by decide) rfl ?_
        refine s_aload (pc := 30) S 0 dX3_takeSheets_30 rfl ?_
        refine s_ifnull (pc := 32) S dX3_takeSheets_32 ?_
        refine s_aload (pc := 35) S 0 dX3_takeSheets_35 rfl ?_
        refine s_get (pc := 37) S hz (ref := "SpoolFarm$Tray") (v := .int (nI (C 12 (3 * p + 2) 0))) (cc_tray (A := A) (C := C) hp lv_49 (by omega)) i_RX4 rfl 0 (Nat.le_of_ble_eq_true rfl) (by decide +kernel) (fun _ h => h) rfl dX3_takeSheets_37 ?_
        refine s_iload_n (pc := 40) S 6 dX3_takeSheets_40 rfl rfl ?_
        refine s_icmp_neN (pc := 41) S 72 dX3_takeSheets_41 (by decide) (by omega) (by omega) (fun c_52 => ?_) (fun c_52 => ?_)
        · refine s_iinc (pc := 72) S 1 [(6, .int (nI 3)), (7, .ref (A 12 (3 * p + 2))), (5, .int (nI 3)), (4, .ref (A 14 p)), (3, .int (nI n)), (0, .ref (A 9 p)), (1, .int (nI q)), (2, .int (nI n))] dX3_takeSheets_72 rfl (by decide) (by decide) rfl ?_
          refine s_goto (pc := 75) S 16 dX3_takeSheets_75 (by decide) ?_
          refine s_iload (pc := 16) S 0 dX3_takeSheets_16 rfl ?_
          refine s_iload (pc := 18) S 2 dX3_takeSheets_18 rfl ?_
          refine s_icmp_geN (pc := 20) S 78 dX3_takeSheets_20 (by decide) (by decide) (by decide) (fun _ => ?_) (fun h => absurd h (by decide))
          have hst : tkC C p q n = C := by
            unfold tkC
            rw [show C 12 (3 * p + 0) 1 - dK C p q n 0 = C 12 (3 * p + 0) 1 by (unfold dK; rw [show avK C p q 0 = _ from avK_n lv_1, show avK C p q 1 = _ from avK_n lv_37, show avK C p q 2 = _ from avK_q c_52]; simp only [Nat.one_ne_zero, if_true, if_false, show (2 : Nat) ≠ 0 by decide, show (2 : Nat) ≠ 1 by decide]; all_goals omega)]
            rw [show C 12 (3 * p + 1) 1 - dK C p q n 1 = C 12 (3 * p + 1) 1 by (unfold dK; rw [show avK C p q 0 = _ from avK_n lv_1, show avK C p q 1 = _ from avK_n lv_37, show avK C p q 2 = _ from avK_q c_52]; simp only [Nat.one_ne_zero, if_true, if_false, show (2 : Nat) ≠ 0 by decide, show (2 : Nat) ≠ 1 by decide]; all_goals omega)]
            rw [show C 12 (3 * p + 2) 1 - dK C p q n 2 = C 12 (3 * p + 2) 1 by (unfold dK; rw [show avK C p q 0 = _ from avK_n lv_1, show avK C p q 1 = _ from avK_n lv_37, show avK C p q 2 = _ from avK_q c_52]; simp only [Nat.one_ne_zero, if_true, if_false, show (2 : Nat) ≠ 0 by decide, show (2 : Nat) ≠ 1 by decide]; all_goals omega)]
            all_goals (funext k2 i2 f2; simp only [up3]; repeat' split)
            all_goals first | rfl | (exfalso; omega) | (rename_i z; obtain ⟨rfl, rfl, rfl⟩ := z; rfl) | (rename_i z _; obtain ⟨rfl, rfl, rfl⟩ := z; rfl) | (rename_i z _ _; obtain ⟨rfl, rfl, rfl⟩ := z; rfl)
          exact s_vret (pc := 78) S hz hlo hr ⟨rfl, hst, rfl⟩ (Nat.le_of_ble_eq_true rfl) (Nat.le_of_ble_eq_true rfl) dX3_takeSheets_78
        · refine s_iload_n (pc := 44) S 4 dX3_takeSheets_44 rfl rfl ?_
          refine s_aload (pc := 45) S 0 dX3_takeSheets_45 rfl ?_
          refine s_get (pc := 47) S hz (ref := "SpoolFarm$Tray") (v := .int (nI (C 12 (3 * p + 2) 1))) (cc_tray (A := A) (C := C) hp lv_49 (by omega)) i_RX4 rfl 1 (Nat.le_of_ble_eq_true rfl) (by decide +kernel) (fun _ h => h) rfl dX3_takeSheets_47 ?_
          refine s_min (pc := 50) S hml (by omega) (by omega) (by decide +kernel) (by decide +kernel) (by decide +kernel) (by decide +kernel) (Nat.le_of_ble_eq_true rfl) (Nat.le_of_ble_eq_true rfl) (Nat.le_of_ble_eq_true rfl) (Nat.le_of_ble_eq_true rfl) dX3_takeSheets_50 ?_
          refine s_istore (pc := 53) S [(8, .int (nI (min n (C 12 (3 * p + 2) 1)))), (7, .ref (A 12 (3 * p + 2))), (6, .int (nI 2)), (5, .int (nI 3)), (4, .ref (A 14 p)), (3, .int (nI n)), (0, .ref (A 9 p)), (1, .int (nI q)), (2, .int (nI n))] dX3_takeSheets_53 (by decide) rfl ?_
          refine s_aload (pc := 55) S 1 dX3_takeSheets_55 rfl ?_
          refine s_dup (pc := 57) S dX3_takeSheets_57 rfl ?_
          refine s_get (pc := 58) S hz (ref := "SpoolFarm$Tray") (v := .int (nI (C 12 (3 * p + 2) 1))) (cc_tray (A := A) (C := C) hp lv_49 (by omega)) i_RX4 rfl 1 (Nat.le_of_ble_eq_true rfl) (by decide +kernel) (fun _ h => h) rfl dX3_takeSheets_58 ?_
          refine s_iload (pc := 61) S 0 dX3_takeSheets_61 rfl ?_
          refine s_isubN (pc := 63) S dX3_takeSheets_63 (by omega) ?_
          refine s_put (pc := 64) S hz (ref := "SpoolFarm$Tray") (ty := .int) (cc_tray (A := A) (C := C) hp lv_49 (by omega)) i_RX4 tyX4 tyX4_ok nmX4 rfl 1 (Nat.le_of_ble_eq_true rfl) (by decide +kernel) (fun _ h => h) rfl (by decide +kernel) rfl rfl (Nat.le_of_ble_eq_true rfl) (up3 C 12 (3 * p + 2) 1 ((C 12 (3 * p + 2) 1) - (min n (C 12 (3 * p + 2) 1)))) cu_tray (by rw [(cc_tray (A := A) (C := (up3 C 12 (3 * p + 2) 1 ((C 12 (3 * p + 2) 1) - (min n (C 12 (3 * p + 2) 1))))) hp lv_49 (by omega)), up3_u]; rfl) dX3_takeSheets_64 ?_
          refine s_iload_n (pc := 67) S 5 dX3_takeSheets_67 rfl rfl ?_
          refine s_iload (pc := 68) S 0 dX3_takeSheets_68 rfl ?_
          refine s_isubN (pc := 70) S dX3_takeSheets_70 (by omega) ?_
          refine s_istore_n (pc := 71) S [(3, .int (nI (n - (min n (C 12 (3 * p + 2) 1))))), (8, .int (nI (min n (C 12 (3 * p + 2) 1)))), (7, .ref (A 12 (3 * p + 2))), (6, .int (nI 2)), (5, .int (nI 3)), (4, .ref (A 14 p)), (0, .ref (A 9 p)), (1, .int (nI q)), (2, .int (nI n))] dX3_takeSheets_71 rfl (by decide) rfl ?_
          refine s_iinc (pc := 72) S 3 [(6, .int (nI 3)), (3, .int (nI (n - (min n (C 12 (3 * p + 2) 1))))), (8, .int (nI (min n (C 12 (3 * p + 2) 1)))), (7, .ref (A 12 (3 * p + 2))), (5, .int (nI 3)), (4, .ref (A 14 p)), (0, .ref (A 9 p)), (1, .int (nI q)), (2, .int (nI n))] dX3_takeSheets_72 rfl (by decide) (by decide) rfl ?_
          refine s_goto (pc := 75) S 16 dX3_takeSheets_75 (by decide) ?_
          refine s_iload (pc := 16) S 0 dX3_takeSheets_16 rfl ?_
          refine s_iload (pc := 18) S 4 dX3_takeSheets_18 rfl ?_
          refine s_icmp_geN (pc := 20) S 78 dX3_takeSheets_20 (by decide) (by decide) (by decide) (fun _ => ?_) (fun h => absurd h (by decide))
          have hst : tkC C p q n = (up3 C 12 (3 * p + 2) 1 ((C 12 (3 * p + 2) 1) - (min n (C 12 (3 * p + 2) 1)))) := by
            unfold tkC
            rw [show C 12 (3 * p + 0) 1 - dK C p q n 0 = C 12 (3 * p + 0) 1 by (unfold dK; rw [show avK C p q 0 = _ from avK_n lv_1, show avK C p q 1 = _ from avK_n lv_37, show avK C p q 2 = _ from avK_y lv_49 c_52]; simp only [Nat.one_ne_zero, if_true, if_false, show (2 : Nat) ≠ 0 by decide, show (2 : Nat) ≠ 1 by decide]; all_goals omega)]
            rw [show C 12 (3 * p + 1) 1 - dK C p q n 1 = C 12 (3 * p + 1) 1 by (unfold dK; rw [show avK C p q 0 = _ from avK_n lv_1, show avK C p q 1 = _ from avK_n lv_37, show avK C p q 2 = _ from avK_y lv_49 c_52]; simp only [Nat.one_ne_zero, if_true, if_false, show (2 : Nat) ≠ 0 by decide, show (2 : Nat) ≠ 1 by decide]; all_goals omega)]
            rw [show C 12 (3 * p + 2) 1 - dK C p q n 2 = (C 12 (3 * p + 2) 1) - (min n (C 12 (3 * p + 2) 1)) by (unfold dK; rw [show avK C p q 0 = _ from avK_n lv_1, show avK C p q 1 = _ from avK_n lv_37, show avK C p q 2 = _ from avK_y lv_49 c_52]; simp only [Nat.one_ne_zero, if_true, if_false, show (2 : Nat) ≠ 0 by decide, show (2 : Nat) ≠ 1 by decide]; all_goals omega)]
            all_goals (funext k2 i2 f2; simp only [up3]; repeat' split)
            all_goals first | rfl | (exfalso; omega) | (rename_i z; obtain ⟨rfl, rfl, rfl⟩ := z; rfl) | (rename_i z _; obtain ⟨rfl, rfl, rfl⟩ := z; rfl) | (rename_i z _ _; obtain ⟨rfl, rfl, rfl⟩ := z; rfl)
          exact s_vret (pc := 78) S hz hlo hr ⟨rfl, hst, rfl⟩ (Nat.le_of_ble_eq_true rfl) (Nat.le_of_ble_eq_true rfl) dX3_takeSheets_78
      · refine s_aald (pc := 27) S hz (v := .null) (cc_trays (A := A) (C := C) hp) (by omega) (by decide) (by rw [if_neg lv_49]; rfl) dX3_takeSheets_27 ?_
        refine s_astoreN (pc := 28) S [(7, .null), (6, .int (nI 2)), (5, .int (nI 3)), (4, .ref (A 14 p)), (3, .int (nI n)), (0, .ref (A 9 p)), (1, .int (nI q)), (2, .int (nI n))] dX3_takeSheets_28 (by decide) rfl ?_
        refine s_aloadN (pc := 30) S 0 dX3_takeSheets_30 rfl ?_
        refine s_ifnullN (pc := 32) S 72 dX3_takeSheets_32 (by decide) ?_
        refine s_iinc (pc := 72) S 1 [(6, .int (nI 3)), (7, .null), (5, .int (nI 3)), (4, .ref (A 14 p)), (3, .int (nI n)), (0, .ref (A 9 p)), (1, .int (nI q)), (2, .int (nI n))] dX3_takeSheets_72 rfl (by decide) (by decide) rfl ?_
        refine s_goto (pc := 75) S 16 dX3_takeSheets_75 (by decide) ?_
        refine s_iload (pc := 16) S 0 dX3_takeSheets_16 rfl ?_
        refine s_iload (pc := 18) S 2 dX3_takeSheets_18 rfl ?_
        refine s_icmp_geN (pc := 20) S 78 dX3_takeSheets_20 (by decide) (by decide) (by decide) (fun _ => ?_) (fun h => absurd h (by decide))
        have hst : tkC C p q n = C := by
          unfold tkC
          rw [show C 12 (3 * p + 0) 1 - dK C p q n 0 = C 12 (3 * p + 0) 1 by (unfold dK; rw [show avK C p q 0 = _ from avK_n lv_1, show avK C p q 1 = _ from avK_n lv_37, show avK C p q 2 = _ from avK_n lv_49]; simp only [Nat.one_ne_zero, if_true, if_false, show (2 : Nat) ≠ 0 by decide, show (2 : Nat) ≠ 1 by decide]; all_goals omega)]
          rw [show C 12 (3 * p + 1) 1 - dK C p q n 1 = C 12 (3 * p + 1) 1 by (unfold dK; rw [show avK C p q 0 = _ from avK_n lv_1, show avK C p q 1 = _ from avK_n lv_37, show avK C p q 2 = _ from avK_n lv_49]; simp only [Nat.one_ne_zero, if_true, if_false, show (2 : Nat) ≠ 0 by decide, show (2 : Nat) ≠ 1 by decide]; all_goals omega)]
          rw [show C 12 (3 * p + 2) 1 - dK C p q n 2 = C 12 (3 * p + 2) 1 by (unfold dK; rw [show avK C p q 0 = _ from avK_n lv_1, show avK C p q 1 = _ from avK_n lv_37, show avK C p q 2 = _ from avK_n lv_49]; simp only [Nat.one_ne_zero, if_true, if_false, show (2 : Nat) ≠ 0 by decide, show (2 : Nat) ≠ 1 by decide]; all_goals omega)]
          all_goals (funext k2 i2 f2; simp only [up3]; repeat' split)
          all_goals first | rfl | (exfalso; omega) | (rename_i z; obtain ⟨rfl, rfl, rfl⟩ := z; rfl) | (rename_i z _; obtain ⟨rfl, rfl, rfl⟩ := z; rfl) | (rename_i z _ _; obtain ⟨rfl, rfl, rfl⟩ := z; rfl)
        exact s_vret (pc := 78) S hz hlo hr ⟨rfl, hst, rfl⟩ (Nat.le_of_ble_eq_true rfl) (Nat.le_of_ble_eq_true rfl) dX3_takeSheets_78
