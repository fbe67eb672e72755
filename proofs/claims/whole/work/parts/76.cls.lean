set_option maxHeartbeats 4000000 in
set_option maxRecDepth 100000 in
theorem k_X6_trayCount (Z : Zp) (l : Launch) (A : AF) (C : CF) (x : Int32) (hK : OkK C) (hfl : l.stackTraces = false) : CtS Z l yX6_trayCount wsX6_trayCount ({ frames := 7, cells := 1, slots := 6, locals := 112 }) [.ref (A 0 0), .int x] A C 1 6 (fun v A2 C2 => A = A2 ∧ (∃ k_2 : Nat, k_2 < C 0 0 4 ∧ nI k_2 = x ∧ C = C2 ∧ some (.int (nI (C 9 k_2 5))) = v)) (fun E A2 C2 => A = A2 ∧ (E = "java/lang/IndexOutOfBoundsException" ∧ (∀ k : Nat, k < C 0 0 4 → nI k ≠ x) ∧ C = C2)) := by
  refine CtS.of (cc0 := cX6_trayCount) (maxL := 2) (ret := (some .int)) (by decide) rfl (Nat.le_of_ble_eq_true rfl) ?_
  intro M0_ p_ e_ s_ m_ args_ below_ meth_ c_ S hz hml hex hlo hr hin
  refine s_loc (L2 := [(0, .ref (A 0 0)), (1, .int x)]) rfl ?_
  have i_RX3 : ∀ w ∈ u_ws RX3 TX3 6, w ∈ wsX6_trayCount := by decide +kernel
  obtain ⟨⟨k3, k4, k5, k6, k7, k8⟩, kU, kP, kT, kJ, kL, kE, kB⟩ := id hK
  refine s_aload_n (pc := 0) S 0 dX6_trayCount_0 rfl rfl ?_
  refine s_iload_n (pc := 1) S 1 dX6_trayCount_1 rfl rfl ?_
  refine s_callV (pc := 2) S hz hml [.int x] (k_X6_printerAt Z l A C x k4 hfl) (cwV 1 S.2.2.2.2 gX6_trayCount_X6_printerAt rfl rfl rfl (by decide +kernel) ⟨Nat.le_of_ble_eq_true rfl, Nat.le_of_ble_eq_true rfl⟩) (cc_farm (A := A) (C := C)) rfl rfl rfl (Nat.le_of_ble_eq_true rfl) dX6_trayCount_2 ⟨Nat.le_of_ble_eq_true rfl, Nat.le_of_ble_eq_true rfl⟩ (fun E A2 C2 h_1 => ?_) (fun v A2 C2 h_1 => ?_)
  · obtain ⟨rfl, rfl, n_4, rfl⟩ := h_1
    exact s_out S hz hex hlo ⟨rfl, ⟨rfl, n_4, rfl⟩⟩ (Nat.le_of_ble_eq_true rfl) (Nat.le_of_ble_eq_true rfl)
  · obtain ⟨rfl, rfl, k_2, hk_3, rfl, rfl⟩ := h_1
    obtain ⟨o_5, o_6, o_7, o_8, o_9⟩ := kP k_2 hk_3
    refine s_get (pc := 5) S hz (ref := "SpoolFarm$Printer") (v := .int (nI (C 9 k_2 5))) (cc_prn (A := A) (C := C) hk_3) i_RX3 rfl 5 (Nat.le_of_ble_eq_true rfl) (by decide +kernel) (fun _ h => h) rfl dX6_trayCount_5 ?_
    exact s_iret (pc := 8) S hz hlo hr ⟨rfl, ⟨k_2, hk_3, rfl, rfl, rfl⟩⟩ (Nat.le_of_ble_eq_true rfl) (Nat.le_of_ble_eq_true rfl) dX6_trayCount_8
set_option maxHeartbeats 4000000 in
set_option maxRecDepth 100000 in
theorem k_X6_load (Z : Zp) (l : Launch) (A : AF) (C : CF) (x y w : Int32) (hK : OkK C) (hfl : l.stackTraces = false) : CtS Z l yX6_load wsX6_load ({ frames := 8, cells := 4, slots := 24, locals := 136 }) [.ref (A 0 0), .int x, .int y, .int w] A C 4 24 (fun v A2 C2 => A = A2 ∧ (∃ k_2 t_3 w_15 : Nat, k_2 < C 0 0 4 ∧ t_3 < C 9 k_2 5 ∧ nI k_2 = x ∧ nI t_3 = y ∧ 1 ≤ w_15 ∧ w_15 ≤ 500 ∧ nI w_15 = w ∧ (C 12 (3 * k_2 + t_3) 1) + w_15 ≤ 500 ∧ (up3 C 12 (3 * k_2 + t_3) 1 ((C 12 (3 * k_2 + t_3) 1) + w_15)) = C2 ∧ some (.int (nI ((C 12 (3 * k_2 + t_3) 1) + w_15))) = v)) (fun E A2 C2 => A = A2 ∧ ((E = "java/lang/IndexOutOfBoundsException" ∧ ((∀ p : Nat, p < C 0 0 4 → nI p ≠ x) ∨ ∃ p : Nat, p < C 0 0 4 ∧ nI p = x ∧ ∀ t : Nat, t < C 9 p 5 → nI t ≠ y) ∧ C = C2) ∨ (∃ k_2 t_3 : Nat, E = "java/lang/IllegalArgumentException" ∧ k_2 < C 0 0 4 ∧ t_3 < C 9 k_2 5 ∧ nI k_2 = x ∧ nI t_3 = y ∧ (∀ k : Nat, 1 ≤ k → k ≤ 500 → nI k ≠ w) ∧ C = C2) ∨ (∃ k_2 t_3 w_15 : Nat, E = "java/lang/IllegalStateException" ∧ k_2 < C 0 0 4 ∧ t_3 < C 9 k_2 5 ∧ nI k_2 = x ∧ nI t_3 = y ∧ 1 ≤ w_15 ∧ w_15 ≤ 500 ∧ nI w_15 = w ∧ ¬ (C 12 (3 * k_2 + t_3) 1) + w_15 ≤ 500 ∧ C = C2))) := by
  refine CtS.of (cc0 := cX6_load) (maxL := 5) (ret := (some .int)) (by decide) rfl (Nat.le_of_ble_eq_true rfl) ?_
  intro M0_ p_ e_ s_ m_ args_ below_ meth_ c_ S hz hml hex hlo hr hin
  refine s_loc (L2 := [(0, .ref (A 0 0)), (1, .int x), (2, .int y), (3, .int w)]) rfl ?_
  have i_RX4 : ∀ w ∈ u_ws RX4 TX4 2, w ∈ wsX6_load := by decide +kernel
  obtain ⟨⟨k3, k4, k5, k6, k7, k8⟩, kU, kP, kT, kJ, kL, kE, kB⟩ := id hK
  refine s_aload_n (pc := 0) S 0 dX6_load_0 rfl rfl ?_
  refine s_iload_n (pc := 1) S 1 dX6_load_1 rfl rfl ?_
  refine s_iload_n (pc := 2) S 2 dX6_load_2 rfl rfl ?_
  refine s_callV (pc := 3) S hz hml [.int x, .int y] (k_X6_trayAt Z l A C x y hK hfl) (cwV 2 S.2.2.2.2 gX6_load_X6_trayAt rfl rfl rfl (by decide +kernel) ⟨Nat.le_of_ble_eq_true rfl, Nat.le_of_ble_eq_true rfl⟩) (cc_farm (A := A) (C := C)) rfl rfl rfl (Nat.le_of_ble_eq_true rfl) dX6_load_3 ⟨Nat.le_of_ble_eq_true rfl, Nat.le_of_ble_eq_true rfl⟩ (fun E A2 C2 h_1 => ?_) (fun v A2 C2 h_1 => ?_)
  · obtain ⟨rfl, rfl, n_6, rfl⟩ := h_1
    exact s_out S hz hex hlo ⟨rfl, Or.inl ⟨rfl, n_6, rfl⟩⟩ (Nat.le_of_ble_eq_true rfl) (Nat.le_of_ble_eq_true rfl)
  · obtain ⟨rfl, rfl, k_2, t_3, hk_4, ht_5, rfl, rfl, rfl⟩ := h_1
    obtain ⟨o_7, o_8, o_9, o_10, o_11⟩ := kP k_2 hk_4
    obtain ⟨o_12, o_13⟩ := kT k_2 t_3 hk_4 ht_5
    refine s_astore (pc := 6) S [(4, .ref (A 12 (3 * k_2 + t_3))), (0, .ref (A 0 0)), (1, .int (nI k_2)), (2, .int (nI t_3)), (3, .int w)] dX6_load_6 (by decide) rfl ?_
    refine s_iload_n (pc := 8) S 4 dX6_load_8 rfl rfl ?_
    refine s_iconst (pc := 9) S (v := (nI 1)) dX6_load_9 (by decide) ?_
    refine s_sipush (pc := 10) S (v := (nI 500)) dX6_load_10 (by decide) ?_
    refine s_callS (pc := 13) S hz hml [.int w, .int (nI 1), .int (nI 500)] (k_X6_checkRange Z l A C w (nI 1) (nI 500) hfl) (cwS 3 S.2.2.2.2 gX6_load_X6_checkRange rfl rfl rfl (by decide +kernel) ⟨Nat.le_of_ble_eq_true rfl, Nat.le_of_ble_eq_true rfl⟩) rfl rfl (Nat.le_of_ble_eq_true rfl) dX6_load_13 ⟨Nat.le_of_ble_eq_true rfl, Nat.le_of_ble_eq_true rfl⟩ (fun E A2 C2 h_14 => ?_) (fun v A2 C2 h_14 => ?_)
    · obtain ⟨rfl, rfl, p_20, rfl⟩ := h_14
      have n_21 := rg_no (by decide) (by decide) p_20
      exact s_out S hz hex hlo ⟨rfl, Or.inr (Or.inl ⟨k_2, t_3, rfl, hk_4, ht_5, rfl, rfl, n_21, rfl⟩)⟩ (Nat.le_of_ble_eq_true rfl) (Nat.le_of_ble_eq_true rfl)
    · obtain ⟨rfl, rfl, rfl, p_18, p_19⟩ := h_14
      obtain ⟨w_15, r_16, r_17, rfl⟩ := rg_of (by decide) p_18 p_19 (by decide)
      refine s_aload (pc := 16) S 0 dX6_load_16 rfl ?_
      refine s_get (pc := 18) S hz (ref := "SpoolFarm$Tray") (v := .int (nI (C 12 (3 * k_2 + t_3) 1))) (cc_tray (A := A) (C := C) hk_4 ht_5 (by omega)) i_RX4 rfl 1 (Nat.le_of_ble_eq_true rfl) (by decide +kernel) (fun _ h => h) rfl dX6_load_18 ?_
      refine s_iload_n (pc := 21) S 4 dX6_load_21 rfl rfl ?_
      refine s_iaddN (pc := 22) S dX6_load_22 ?_
      refine s_sipush (pc := 23) S (v := (nI 500)) dX6_load_23 (by decide) ?_
      refine s_icmp_leN (pc := 26) S 39 dX6_load_26 (by decide) (by omega) (by omega) (fun c_22 => ?_) (fun c_22 => ?_)
      · refine s_aload (pc := 39) S 0 dX6_load_39 rfl ?_
        refine s_dup (pc := 41) S dX6_load_41 rfl ?_
        refine s_get (pc := 42) S hz (ref := "SpoolFarm$Tray") (v := .int (nI (C 12 (3 * k_2 + t_3) 1))) (cc_tray (A := A) (C := C) hk_4 ht_5 (by omega)) i_RX4 rfl 1 (Nat.le_of_ble_eq_true rfl) (by decide +kernel) (fun _ h => h) rfl dX6_load_42 ?_
        refine s_iload_n (pc := 45) S 4 dX6_load_45 rfl rfl ?_
        refine s_iaddN (pc := 46) S dX6_load_46 ?_
        refine s_put (pc := 47) S hz (ref := "SpoolFarm$Tray") (ty := .int) (cc_tray (A := A) (C := C) hk_4 ht_5 (by omega)) i_RX4 tyX4 tyX4_ok nmX4 rfl 1 (Nat.le_of_ble_eq_true rfl) (by decide +kernel) (fun _ h => h) rfl (by decide +kernel) rfl rfl (Nat.le_of_ble_eq_true rfl) (up3 C 12 (3 * k_2 + t_3) 1 ((C 12 (3 * k_2 + t_3) 1) + w_15)) cu_tray (by rw [(cc_tray (A := A) (C := (up3 C 12 (3 * k_2 + t_3) 1 ((C 12 (3 * k_2 + t_3) 1) + w_15))) hk_4 ht_5 (by omega)), up3_u]; rfl) dX6_load_47 ?_
        refine s_aload (pc := 50) S 0 dX6_load_50 rfl ?_
        refine s_get (pc := 52) S hz (ref := "SpoolFarm$Tray") (v := .int (nI ((C 12 (3 * k_2 + t_3) 1) + w_15))) (cc_tray (A := A) (C := (up3 C 12 (3 * k_2 + t_3) 1 ((C 12 (3 * k_2 + t_3) 1) + w_15))) hk_4 ht_5 (by omega)) i_RX4 rfl 1 (Nat.le_of_ble_eq_true rfl) (by decide +kernel) (fun _ h => h) (by simp [trayFs, up3]) dX6_load_52 ?_
        exact s_iret (pc := 55) S hz hlo hr ⟨rfl, ⟨k_2, t_3, w_15, hk_4, ht_5, rfl, rfl, r_16, r_17, rfl, c_22, rfl, rfl⟩⟩ (Nat.le_of_ble_eq_true rfl) (Nat.le_of_ble_eq_true rfl) dX6_load_55
      · exact s_thr (pc := 29) (text := "the tray would be too full") S hz hfl hml hex hlo thr_ISE (by decide +kernel) (by decide +kernel) (by decide +kernel) (by decide +kernel) dX6_load_29 dX6_load_32 dX6_load_33 dX6_load_35 dX6_load_38 (Nat.le_of_ble_eq_true rfl) (Nat.le_of_ble_eq_true rfl) (Nat.le_of_ble_eq_true rfl) (Nat.le_of_ble_eq_true rfl) ⟨rfl, Or.inr (Or.inr (⟨k_2, t_3, w_15, rfl, hk_4, ht_5, rfl, rfl, r_16, r_17, rfl, c_22, rfl⟩))⟩ (Nat.le_of_ble_eq_true rfl) (Nat.le_of_ble_eq_true rfl)
set_option maxHeartbeats 4000000 in
set_option maxRecDepth 100000 in
theorem k_X6_changePaper (Z : Zp) (l : Launch) (A : AF) (C : CF) (x y : Int32) (q : Nat) (hq : q < 65536) (hK : OkK C) (hfl : l.stackTraces = false) : CtS Z l yX6_changePaper wsX6_changePaper ({ frames := 8, cells := 4, slots := 24, locals := 136 }) [.ref (A 0 0), .int x, .int y, .int (nI q)] A C 4 24 (fun v A2 C2 => A = A2 ∧ (∃ k_2 t_3 : Nat, k_2 < C 0 0 4 ∧ t_3 < C 9 k_2 5 ∧ nI k_2 = x ∧ nI t_3 = y ∧ isPap q ∧ C 12 (3 * k_2 + t_3) 1 ≤ 0 ∧ (up3 C 12 (3 * k_2 + t_3) 0 q) = C2 ∧ some (.int (nI (C 12 (3 * k_2 + t_3) 0))) = v)) (fun E A2 C2 => A = A2 ∧ ((E = "java/lang/IndexOutOfBoundsException" ∧ ((∀ p : Nat, p < C 0 0 4 → nI p ≠ x) ∨ ∃ p : Nat, p < C 0 0 4 ∧ nI p = x ∧ ∀ t : Nat, t < C 9 p 5 → nI t ≠ y) ∧ C = C2) ∨ (∃ k_2 t_3 : Nat, E = "java/lang/IllegalArgumentException" ∧ k_2 < C 0 0 4 ∧ t_3 < C 9 k_2 5 ∧ nI k_2 = x ∧ nI t_3 = y ∧ ¬ isPap q ∧ C = C2) ∨ (∃ k_2 t_3 : Nat, E = "java/lang/IllegalStateException" ∧ k_2 < C 0 0 4 ∧ t_3 < C 9 k_2 5 ∧ nI k_2 = x ∧ nI t_3 = y ∧ isPap q ∧ ¬ C 12 (3 * k_2 + t_3) 1 ≤ 0 ∧ C = C2))) := by
  refine CtS.of (cc0 := cX6_changePaper) (maxL := 6) (ret := (some .char)) (by decide) rfl (Nat.le_of_ble_eq_true rfl) ?_
  intro M0_ p_ e_ s_ m_ args_ below_ meth_ c_ S hz hml hex hlo hr hin
  refine s_loc (L2 := [(0, .ref (A 0 0)), (1, .int x), (2, .int y), (3, .int (nI q))]) rfl ?_
  have i_RX4 : ∀ w ∈ u_ws RX4 TX4 2, w ∈ wsX6_changePaper := by decide +kernel
  obtain ⟨⟨k3, k4, k5, k6, k7, k8⟩, kU, kP, kT, kJ, kL, kE, kB⟩ := id hK
  refine s_aload_n (pc := 0) S 0 dX6_changePaper_0 rfl rfl ?_
  refine s_iload_n (pc := 1) S 1 dX6_changePaper_1 rfl rfl ?_
  refine s_iload_n (pc := 2) S 2 dX6_changePaper_2 rfl rfl ?_
  refine s_callV (pc := 3) S hz hml [.int x, .int y] (k_X6_trayAt Z l A C x y hK hfl) (cwV 2 S.2.2.2.2 gX6_changePaper_X6_trayAt rfl rfl rfl (by decide +kernel) ⟨Nat.le_of_ble_eq_true rfl, Nat.le_of_ble_eq_true rfl⟩) (cc_farm (A := A) (C := C)) rfl rfl rfl (Nat.le_of_ble_eq_true rfl) dX6_changePaper_3 ⟨Nat.le_of_ble_eq_true rfl, Nat.le_of_ble_eq_true rfl⟩ (fun E A2 C2 h_1 => ?_) (fun v A2 C2 h_1 => ?_)
  · obtain ⟨rfl, rfl, n_6, rfl⟩ := h_1
    exact s_out S hz hex hlo ⟨rfl, Or.inl ⟨rfl, n_6, rfl⟩⟩ (Nat.le_of_ble_eq_true rfl) (Nat.le_of_ble_eq_true rfl)
  · obtain ⟨rfl, rfl, k_2, t_3, hk_4, ht_5, rfl, rfl, rfl⟩ := h_1
    obtain ⟨o_7, o_8, o_9, o_10, o_11⟩ := kP k_2 hk_4
    obtain ⟨o_12, o_13⟩ := kT k_2 t_3 hk_4 ht_5
    refine s_astore (pc := 6) S [(4, .ref (A 12 (3 * k_2 + t_3))), (0, .ref (A 0 0)), (1, .int (nI k_2)), (2, .int (nI t_3)), (3, .int (nI q))] dX6_changePaper_6 (by decide) rfl ?_
    refine s_iload_n (pc := 8) S 4 dX6_changePaper_8 rfl rfl ?_
    refine s_callS (pc := 9) S hz hml [.int (nI q)] (k_X6_checkPaper Z l A C q hq hfl) (cwS 1 S.2.2.2.2 gX6_changePaper_X6_checkPaper rfl rfl rfl (by decide +kernel) ⟨Nat.le_of_ble_eq_true rfl, Nat.le_of_ble_eq_true rfl⟩) rfl rfl (Nat.le_of_ble_eq_true rfl) dX6_changePaper_9 ⟨Nat.le_of_ble_eq_true rfl, Nat.le_of_ble_eq_true rfl⟩ (fun E A2 C2 h_14 => ?_) (fun v A2 C2 h_14 => ?_)
    · obtain ⟨rfl, rfl, pq_16, rfl⟩ := h_14
      exact s_out S hz hex hlo ⟨rfl, Or.inr (Or.inl ⟨k_2, t_3, rfl, hk_4, ht_5, rfl, rfl, pq_16, rfl⟩)⟩ (Nat.le_of_ble_eq_true rfl) (Nat.le_of_ble_eq_true rfl)
    · obtain ⟨rfl, rfl, rfl, pq_15⟩ := h_14
      refine s_aload (pc := 12) S 0 dX6_changePaper_12 rfl ?_
      refine s_get (pc := 14) S hz (ref := "SpoolFarm$Tray") (v := .int (nI (C 12 (3 * k_2 + t_3) 1))) (cc_tray (A := A) (C := C) hk_4 ht_5 (by omega)) i_RX4 rfl 1 (Nat.le_of_ble_eq_true rfl) (by decide +kernel) (fun _ h => h) rfl dX6_changePaper_14 ?_
      refine s_if_leN (pc := 17) S 30 dX6_changePaper_17 (by decide) (by omega) (fun c_17 => ?_) (fun c_17 => ?_)
      · refine s_aload (pc := 30) S 0 dX6_changePaper_30 rfl ?_
        refine s_get (pc := 32) S hz (ref := "SpoolFarm$Tray") (v := .int (nI (C 12 (3 * k_2 + t_3) 0))) (cc_tray (A := A) (C := C) hk_4 ht_5 (by omega)) i_RX4 rfl 0 (Nat.le_of_ble_eq_true rfl) (by decide +kernel) (fun _ h => h) rfl dX6_changePaper_32 ?_
        refine s_istore (pc := 35) S [(5, .int (nI (C 12 (3 * k_2 + t_3) 0))), (4, .ref (A 12 (3 * k_2 + t_3))), (0, .ref (A 0 0)), (1, .int (nI k_2)), (2, .int (nI t_3)), (3, .int (nI q))] dX6_changePaper_35 (by decide) rfl ?_
        refine s_aload (pc := 37) S 1 dX6_changePaper_37 rfl ?_
        refine s_iload_n (pc := 39) S 5 dX6_changePaper_39 rfl rfl ?_
        refine s_put (pc := 40) S hz (ref := "SpoolFarm$Tray") (ty := .char) (cc_tray (A := A) (C := C) hk_4 ht_5 (by omega)) i_RX4 tyX4 tyX4_ok nmX4 rfl 0 (Nat.le_of_ble_eq_true rfl) (by decide +kernel) (fun _ h => h) rfl (by decide +kernel) (nar_c (by omega)) (fit_c (by omega)) (Nat.le_of_ble_eq_true rfl) (up3 C 12 (3 * k_2 + t_3) 0 q) cu_tray (by rw [(cc_tray (A := A) (C := (up3 C 12 (3 * k_2 + t_3) 0 q)) hk_4 ht_5 (by omega)), up3_u]; rfl) dX6_changePaper_40 ?_
        refine s_iload (pc := 43) S 0 dX6_changePaper_43 rfl ?_
        exact s_zret (pc := 45) S hz hlo (nar_c (by omega)) hr ⟨rfl, ⟨k_2, t_3, hk_4, ht_5, rfl, rfl, pq_15, c_17, rfl, rfl⟩⟩ (Nat.le_of_ble_eq_true rfl) (Nat.le_of_ble_eq_true rfl) dX6_changePaper_45
      · exact s_thr (pc := 20) (text := "the tray is not empty") S hz hfl hml hex hlo thr_ISE (by decide +kernel) (by decide +kernel) (by decide +kernel) (by decide +kernel) dX6_changePaper_20 dX6_changePaper_23 dX6_changePaper_24 dX6_changePaper_26 dX6_changePaper_29 (Nat.le_of_ble_eq_true rfl) (Nat.le_of_ble_eq_true rfl) (Nat.le_of_ble_eq_true rfl) (Nat.le_of_ble_eq_true rfl) ⟨rfl, Or.inr (Or.inr (⟨k_2, t_3, rfl, hk_4, ht_5, rfl, rfl, pq_15, c_17, rfl⟩))⟩ (Nat.le_of_ble_eq_true rfl) (Nat.le_of_ble_eq_true rfl)
set_option maxHeartbeats 4000000 in
set_option maxRecDepth 100000 in
theorem k_X6_sheetsIn (Z : Zp) (l : Launch) (A : AF) (C : CF) (x y : Int32) (hK : OkK C) (hfl : l.stackTraces = false) : CtS Z l yX6_sheetsIn wsX6_sheetsIn ({ frames := 8, cells := 2, slots := 12, locals := 136 }) [.ref (A 0 0), .int x, .int y] A C 2 12 (fun v A2 C2 => A = A2 ∧ (∃ k_2 t_3 : Nat, k_2 < C 0 0 4 ∧ t_3 < C 9 k_2 5 ∧ nI k_2 = x ∧ nI t_3 = y ∧ C = C2 ∧ some (.int (nI (C 12 (3 * k_2 + t_3) 1))) = v)) (fun E A2 C2 => A = A2 ∧ (E = "java/lang/IndexOutOfBoundsException" ∧ ((∀ p : Nat, p < C 0 0 4 → nI p ≠ x) ∨ ∃ p : Nat, p < C 0 0 4 ∧ nI p = x ∧ ∀ t : Nat, t < C 9 p 5 → nI t ≠ y) ∧ C = C2)) := by
  refine CtS.of (cc0 := cX6_sheetsIn) (maxL := 3) (ret := (some .int)) (by decide) rfl (Nat.le_of_ble_eq_true rfl) ?_
  intro M0_ p_ e_ s_ m_ args_ below_ meth_ c_ S hz hml hex hlo hr hin
  refine s_loc (L2 := [(0, .ref (A 0 0)), (1, .int x), (2, .int y)]) rfl ?_
  have i_RX4 : ∀ w ∈ u_ws RX4 TX4 2, w ∈ wsX6_sheetsIn := by decide +kernel
  obtain ⟨⟨k3, k4, k5, k6, k7, k8⟩, kU, kP, kT, kJ, kL, kE, kB⟩ := id hK
  refine s_aload_n (pc := 0) S 0 dX6_sheetsIn_0 rfl rfl ?_
  refine s_iload_n (pc := 1) S 1 dX6_sheetsIn_1 rfl rfl ?_
  refine s_iload_n (pc := 2) S 2 dX6_sheetsIn_2 rfl rfl ?_
  refine s_callV (pc := 3) S hz hml [.int x, .int y] (k_X6_trayAt Z l A C x y hK hfl) (cwV 2 S.2.2.2.2 gX6_sheetsIn_X6_trayAt rfl rfl rfl (by decide +kernel) ⟨Nat.le_of_ble_eq_true rfl, Nat.le_of_ble_eq_true rfl⟩) (cc_farm (A := A) (C := C)) rfl rfl rfl (Nat.le_of_ble_eq_true rfl) dX6_sheetsIn_3 ⟨Nat.le_of_ble_eq_true rfl, Nat.le_of_ble_eq_true rfl⟩ (fun E A2 C2 h_1 => ?_) (fun v A2 C2 h_1 => ?_)
  · obtain ⟨rfl, rfl, n_6, rfl⟩ := h_1
    exact s_out S hz hex hlo ⟨rfl, ⟨rfl, n_6, rfl⟩⟩ (Nat.le_of_ble_eq_true rfl) (Nat.le_of_ble_eq_true rfl)
  · obtain ⟨rfl, rfl, k_2, t_3, hk_4, ht_5, rfl, rfl, rfl⟩ := h_1
    obtain ⟨o_7, o_8, o_9, o_10, o_11⟩ := kP k_2 hk_4
    obtain ⟨o_12, o_13⟩ := kT k_2 t_3 hk_4 ht_5
    refine s_get (pc := 6) S hz (ref := "SpoolFarm$Tray") (v := .int (nI (C 12 (3 * k_2 + t_3) 1))) (cc_tray (A := A) (C := C) hk_4 ht_5 (by omega)) i_RX4 rfl 1 (Nat.le_of_ble_eq_true rfl) (by decide +kernel) (fun _ h => h) rfl dX6_sheetsIn_6 ?_
    exact s_iret (pc := 9) S hz hlo hr ⟨rfl, ⟨k_2, t_3, hk_4, ht_5, rfl, rfl, rfl, rfl⟩⟩ (Nat.le_of_ble_eq_true rfl) (Nat.le_of_ble_eq_true rfl) dX6_sheetsIn_9
set_option maxHeartbeats 4000000 in
set_option maxRecDepth 100000 in
theorem k_X6_paperOf (Z : Zp) (l : Launch) (A : AF) (C : CF) (x y : Int32) (hK : OkK C) (hfl : l.stackTraces = false) : CtS Z l yX6_paperOf wsX6_paperOf ({ frames := 8, cells := 2, slots := 12, locals := 136 }) [.ref (A 0 0), .int x, .int y] A C 2 12 (fun v A2 C2 => A = A2 ∧ (∃ k_2 t_3 : Nat, k_2 < C 0 0 4 ∧ t_3 < C 9 k_2 5 ∧ nI k_2 = x ∧ nI t_3 = y ∧ C = C2 ∧ some (.int (nI (C 12 (3 * k_2 + t_3) 0))) = v)) (fun E A2 C2 => A = A2 ∧ (E = "java/lang/IndexOutOfBoundsException" ∧ ((∀ p : Nat, p < C 0 0 4 → nI p ≠ x) ∨ ∃ p : Nat, p < C 0 0 4 ∧ nI p = x ∧ ∀ t : Nat, t < C 9 p 5 → nI t ≠ y) ∧ C = C2)) := by
  refine CtS.of (cc0 := cX6_paperOf) (maxL := 3) (ret := (some .char)) (by decide) rfl (Nat.le_of_ble_eq_true rfl) ?_
  intro M0_ p_ e_ s_ m_ args_ below_ meth_ c_ S hz hml hex hlo hr hin
  refine s_loc (L2 := [(0, .ref (A 0 0)), (1, .int x), (2, .int y)]) rfl ?_
  have i_RX4 : ∀ w ∈ u_ws RX4 TX4 2, w ∈ wsX6_paperOf := by decide +kernel
  obtain ⟨⟨k3, k4, k5, k6, k7, k8⟩, kU, kP, kT, kJ, kL, kE, kB⟩ := id hK
  refine s_aload_n (pc := 0) S 0 dX6_paperOf_0 rfl rfl ?_
  refine s_iload_n (pc := 1) S 1 dX6_paperOf_1 rfl rfl ?_
  refine s_iload_n (pc := 2) S 2 dX6_paperOf_2 rfl rfl ?_
  refine s_callV (pc := 3) S hz hml [.int x, .int y] (k_X6_trayAt Z l A C x y hK hfl) (cwV 2 S.2.2.2.2 gX6_paperOf_X6_trayAt rfl rfl rfl (by decide +kernel) ⟨Nat.le_of_ble_eq_true rfl, Nat.le_of_ble_eq_true rfl⟩) (cc_farm (A := A) (C := C)) rfl rfl rfl (Nat.le_of_ble_eq_true rfl) dX6_paperOf_3 ⟨Nat.le_of_ble_eq_true rfl, Nat.le_of_ble_eq_true rfl⟩ (fun E A2 C2 h_1 => ?_) (fun v A2 C2 h_1 => ?_)
  · obtain ⟨rfl, rfl, n_6, rfl⟩ := h_1
    exact s_out S hz hex hlo ⟨rfl, ⟨rfl, n_6, rfl⟩⟩ (Nat.le_of_ble_eq_true rfl) (Nat.le_of_ble_eq_true rfl)
  · obtain ⟨rfl, rfl, k_2, t_3, hk_4, ht_5, rfl, rfl, rfl⟩ := h_1
    obtain ⟨o_7, o_8, o_9, o_10, o_11⟩ := kP k_2 hk_4
    obtain ⟨o_12, o_13⟩ := kT k_2 t_3 hk_4 ht_5
    refine s_get (pc := 6) S hz (ref := "SpoolFarm$Tray") (v := .int (nI (C 12 (3 * k_2 + t_3) 0))) (cc_tray (A := A) (C := C) hk_4 ht_5 (by omega)) i_RX4 rfl 0 (Nat.le_of_ble_eq_true rfl) (by decide +kernel) (fun _ h => h) rfl dX6_paperOf_6 ?_
    exact s_zret (pc := 9) S hz hlo (nar_c (by omega)) hr ⟨rfl, ⟨k_2, t_3, hk_4, ht_5, rfl, rfl, rfl, rfl⟩⟩ (Nat.le_of_ble_eq_true rfl) (Nat.le_of_ble_eq_true rfl) dX6_paperOf_9
set_option maxHeartbeats 4000000 in
set_option maxRecDepth 100000 in
theorem k_X6_setToner (Z : Zp) (l : Launch) (A : AF) (C : CF) (x : Int32) (cb : Nat) (y : Int32) (hcb : cb < 2) (hK : OkK C) (hfl : l.stackTraces = false) : CtS Z l yX6_setToner wsX6_setToner ({ frames := 7, cells := 3, slots := 18, locals := 112 }) [.ref (A 0 0), .int x, .int (nI cb), .int y] A C 3 18 (fun v A2 C2 => A = A2 ∧ ((∃ k_2 w_11 : Nat, k_2 < C 0 0 4 ∧ nI k_2 = x ∧ 0 ≤ w_11 ∧ w_11 ≤ 1000 ∧ nI w_11 = y ∧ (cb = 0 ∨ C 9 k_2 0 ≠ 0) ∧ cb = 0 ∧ (up3 C 9 k_2 1 w_11) = C2 ∧ some (.int (nI (if cb = 0 then C 9 k_2 1 else C 9 k_2 2))) = v) ∨ (∃ k_2 w_11 : Nat, k_2 < C 0 0 4 ∧ nI k_2 = x ∧ 0 ≤ w_11 ∧ w_11 ≤ 1000 ∧ nI w_11 = y ∧ (cb = 0 ∨ C 9 k_2 0 ≠ 0) ∧ ¬ cb = 0 ∧ (up3 C 9 k_2 2 w_11) = C2 ∧ some (.int (nI (if cb = 0 then C 9 k_2 1 else C 9 k_2 2))) = v))) (fun E A2 C2 => A = A2 ∧ ((E = "java/lang/IndexOutOfBoundsException" ∧ (∀ k : Nat, k < C 0 0 4 → nI k ≠ x) ∧ C = C2) ∨ (∃ k_2 : Nat, E = "java/lang/IllegalArgumentException" ∧ k_2 < C 0 0 4 ∧ nI k_2 = x ∧ (∀ k : Nat, 0 ≤ k → k ≤ 1000 → nI k ≠ y) ∧ C = C2) ∨ (∃ k_2 w_11 : Nat, E = "java/lang/UnsupportedOperationException" ∧ k_2 < C 0 0 4 ∧ nI k_2 = x ∧ 0 ≤ w_11 ∧ w_11 ≤ 1000 ∧ nI w_11 = y ∧ cb ≠ 0 ∧ C 9 k_2 0 = 0 ∧ C = C2))) := by
  refine CtS.of (cc0 := cX6_setToner) (maxL := 6) (ret := (some .int)) (by decide) rfl (Nat.le_of_ble_eq_true rfl) ?_
  intro M0_ p_ e_ s_ m_ args_ below_ meth_ c_ S hz hml hex hlo hr hin
  refine s_loc (L2 := [(0, .ref (A 0 0)), (1, .int x), (2, .int (nI cb)), (3, .int y)]) rfl ?_
  have i_RX3 : ∀ w ∈ u_ws RX3 TX3 6, w ∈ wsX6_setToner := by decide +kernel
  obtain ⟨⟨k3, k4, k5, k6, k7, k8⟩, kU, kP, kT, kJ, kL, kE, kB⟩ := id hK
  refine s_aload_n (pc := 0) S 0 dX6_setToner_0 rfl rfl ?_
  refine s_iload_n (pc := 1) S 1 dX6_setToner_1 rfl rfl ?_
  refine s_callV (pc := 2) S hz hml [.int x] (k_X6_printerAt Z l A C x k4 hfl) (cwV 1 S.2.2.2.2 gX6_setToner_X6_printerAt rfl rfl rfl (by decide +kernel) ⟨Nat.le_of_ble_eq_true rfl, Nat.le_of_ble_eq_true rfl⟩) (cc_farm (A := A) (C := C)) rfl rfl rfl (Nat.le_of_ble_eq_true rfl) dX6_setToner_2 ⟨Nat.le_of_ble_eq_true rfl, Nat.le_of_ble_eq_true rfl⟩ (fun E A2 C2 h_1 => ?_) (fun v A2 C2 h_1 => ?_)
  · obtain ⟨rfl, rfl, n_4, rfl⟩ := h_1
    exact s_out S hz hex hlo ⟨rfl, Or.inl ⟨rfl, n_4, rfl⟩⟩ (Nat.le_of_ble_eq_true rfl) (Nat.le_of_ble_eq_true rfl)
  · obtain ⟨rfl, rfl, k_2, hk_3, rfl, rfl⟩ := h_1
    obtain ⟨o_5, o_6, o_7, o_8, o_9⟩ := kP k_2 hk_3
    refine s_astore (pc := 5) S [(4, .ref (A 9 k_2)), (0, .ref (A 0 0)), (1, .int (nI k_2)), (2, .int (nI cb)), (3, .int y)] dX6_setToner_5 (by decide) rfl ?_
    refine s_iload_n (pc := 7) S 4 dX6_setToner_7 rfl rfl ?_
    refine s_iconst (pc := 8) S (v := (nI 0)) dX6_setToner_8 (by decide) ?_
    refine s_sipush (pc := 9) S (v := (nI 1000)) dX6_setToner_9 (by decide) ?_
    refine s_callS (pc := 12) S hz hml [.int y, .int (nI 0), .int (nI 1000)] (k_X6_checkRange Z l A C y (nI 0) (nI 1000) hfl) (cwS 3 S.2.2.2.2 gX6_setToner_X6_checkRange rfl rfl rfl (by decide +kernel) ⟨Nat.le_of_ble_eq_true rfl, Nat.le_of_ble_eq_true rfl⟩) rfl rfl (Nat.le_of_ble_eq_true rfl) dX6_setToner_12 ⟨Nat.le_of_ble_eq_true rfl, Nat.le_of_ble_eq_true rfl⟩ (fun E A2 C2 h_10 => ?_) (fun v A2 C2 h_10 => ?_)
    · obtain ⟨rfl, rfl, p_16, rfl⟩ := h_10
      have n_17 := rg_no (by decide) (by decide) p_16
      exact s_out S hz hex hlo ⟨rfl, Or.inr (Or.inl ⟨k_2, rfl, hk_3, rfl, n_17, rfl⟩)⟩ (Nat.le_of_ble_eq_true rfl) (Nat.le_of_ble_eq_true rfl)
    · obtain ⟨rfl, rfl, rfl, p_14, p_15⟩ := h_10
      obtain ⟨w_11, r_12, r_13, rfl⟩ := rg_of (by decide) p_14 p_15 (by decide)
      refine s_aload (pc := 15) S 0 dX6_setToner_15 rfl ?_
      refine s_iload_n (pc := 17) S 3 dX6_setToner_17 rfl rfl ?_
      refine s_callS (pc := 18) S hz hml [.ref (A 9 k_2), .int (nI cb)] (k_X6_checkHasToner Z l A C k_2 hk_3 cb (by omega) (by omega) hfl) (cwS 2 S.2.2.2.2 gX6_setToner_X6_checkHasToner rfl rfl rfl (by decide +kernel) ⟨Nat.le_of_ble_eq_true rfl, Nat.le_of_ble_eq_true rfl⟩) rfl rfl (Nat.le_of_ble_eq_true rfl) dX6_setToner_18 ⟨Nat.le_of_ble_eq_true rfl, Nat.le_of_ble_eq_true rfl⟩ (fun E A2 C2 h_18 => ?_) (fun v A2 C2 h_18 => ?_)
      · obtain ⟨rfl, rfl, p_20, p_21, rfl⟩ := h_18
        exact s_out S hz hex hlo ⟨rfl, Or.inr (Or.inr (⟨k_2, w_11, rfl, hk_3, rfl, r_12, r_13, rfl, p_20, p_21, rfl⟩))⟩ (Nat.le_of_ble_eq_true rfl) (Nat.le_of_ble_eq_true rfl)
      · obtain ⟨rfl, rfl, rfl, p_19⟩ := h_18
        refine s_aload (pc := 21) S 0 dX6_setToner_21 rfl ?_
        refine s_iload_n (pc := 23) S 3 dX6_setToner_23 rfl rfl ?_
        refine s_callV (pc := 24) S hz hml [.int (nI cb)] (k_X3_toner Z l A C k_2 hk_3 cb (by omega)) (cwV 1 S.2.2.2.2 gX6_setToner_X3_toner rfl rfl rfl (by decide +kernel) ⟨Nat.le_of_ble_eq_true rfl, Nat.le_of_ble_eq_true rfl⟩) (cc_prn (A := A) (C := C) hk_3) rfl rfl rfl (Nat.le_of_ble_eq_true rfl) dX6_setToner_24 ⟨Nat.le_of_ble_eq_true rfl, Nat.le_of_ble_eq_true rfl⟩ (fun _ _ _ h => h.elim) (fun v A2 C2 h_22 => ?_)
        obtain ⟨rfl, rfl, rfl⟩ := h_22
        refine s_istore (pc := 27) S [(5, .int (nI (if cb = 0 then C 9 k_2 1 else C 9 k_2 2))), (4, .ref (A 9 k_2)), (0, .ref (A 0 0)), (1, .int (nI k_2)), (2, .int (nI cb)), (3, .int (nI w_11))] dX6_setToner_27 (by decide) rfl ?_
        refine s_iload_n (pc := 29) S 4 dX6_setToner_29 rfl rfl ?_
        refine s_if_eqN (pc := 30) S 42 dX6_setToner_30 (by decide) (by omega) (fun c_23 => ?_) (fun c_23 => ?_)
        · refine s_aload (pc := 42) S 1 dX6_setToner_42 rfl ?_
          refine s_iload_n (pc := 44) S 5 dX6_setToner_44 rfl rfl ?_
          refine s_put (pc := 45) S hz (ref := "SpoolFarm$Printer") (ty := .int) (cc_prn (A := A) (C := C) hk_3) i_RX3 tyX3 tyX3_ok nmX3 rfl 1 (Nat.le_of_ble_eq_true rfl) (by decide +kernel) (fun _ h => h) rfl (by decide +kernel) rfl rfl (Nat.le_of_ble_eq_true rfl) (up3 C 9 k_2 1 w_11) (cu_prn (by decide)) (by rw [(cc_prn (A := A) (C := (up3 C 9 k_2 1 w_11)) hk_3), up3_u]; rfl) dX6_setToner_45 ?_
          refine s_iload (pc := 48) S 0 dX6_setToner_48 rfl ?_
          exact s_iret (pc := 50) S hz hlo hr ⟨rfl, Or.inl ⟨k_2, w_11, hk_3, rfl, r_12, r_13, rfl, p_19, c_23, rfl, rfl⟩⟩ (Nat.le_of_ble_eq_true rfl) (Nat.le_of_ble_eq_true rfl) dX6_setToner_50
        · refine s_aload (pc := 33) S 1 dX6_setToner_33 rfl ?_
          refine s_iload_n (pc := 35) S 5 dX6_setToner_35 rfl rfl ?_
          refine s_put (pc := 36) S hz (ref := "SpoolFarm$Printer") (ty := .int) (cc_prn (A := A) (C := C) hk_3) i_RX3 tyX3 tyX3_ok nmX3 rfl 2 (Nat.le_of_ble_eq_true rfl) (by decide +kernel) (fun _ h => h) rfl (by decide +kernel) rfl rfl (Nat.le_of_ble_eq_true rfl) (up3 C 9 k_2 2 w_11) (cu_prn (by decide)) (by rw [(cc_prn (A := A) (C := (up3 C 9 k_2 2 w_11)) hk_3), up3_u]; rfl) dX6_setToner_36 ?_
          refine s_goto (pc := 39) S 48 dX6_setToner_39 (by decide) ?_
          refine s_iload (pc := 48) S 0 dX6_setToner_48 rfl ?_
          exact s_iret (pc := 50) S hz hlo hr ⟨rfl, Or.inr (⟨k_2, w_11, hk_3, rfl, r_12, r_13, rfl, p_19, c_23, rfl, rfl⟩)⟩ (Nat.le_of_ble_eq_true rfl) (Nat.le_of_ble_eq_true rfl) dX6_setToner_50
set_option maxHeartbeats 4000000 in
set_option maxRecDepth 100000 in
theorem k_X6_tonerOf (Z : Zp) (l : Launch) (A : AF) (C : CF) (x : Int32) (cb : Nat) (hcb : cb < 2) (hK : OkK C) (hfl : l.stackTraces = false) : CtS Z l yX6_tonerOf wsX6_tonerOf ({ frames := 7, cells := 2, slots := 12, locals := 112 }) [.ref (A 0 0), .int x, .int (nI cb)] A C 2 12 (fun v A2 C2 => A = A2 ∧ (∃ k_2 : Nat, k_2 < C 0 0 4 ∧ nI k_2 = x ∧ (cb = 0 ∨ C 9 k_2 0 ≠ 0) ∧ C = C2 ∧ some (.int (nI (if cb = 0 then C 9 k_2 1 else C 9 k_2 2))) = v)) (fun E A2 C2 => A = A2 ∧ ((E = "java/lang/IndexOutOfBoundsException" ∧ (∀ k : Nat, k < C 0 0 4 → nI k ≠ x) ∧ C = C2) ∨ (∃ k_2 : Nat, E = "java/lang/UnsupportedOperationException" ∧ k_2 < C 0 0 4 ∧ nI k_2 = x ∧ cb ≠ 0 ∧ C 9 k_2 0 = 0 ∧ C = C2))) := by
  refine CtS.of (cc0 := cX6_tonerOf) (maxL := 4) (ret := (some .int)) (by decide) rfl (Nat.le_of_ble_eq_true rfl) ?_
  intro M0_ p_ e_ s_ m_ args_ below_ meth_ c_ S hz hml hex hlo hr hin
  refine s_loc (L2 := [(0, .ref (A 0 0)), (1, .int x), (2, .int (nI cb))]) rfl ?_
  obtain ⟨⟨k3, k4, k5, k6, k7, k8⟩, kU, kP, kT, kJ, kL, kE, kB⟩ := id hK
  refine s_aload_n (pc := 0) S 0 dX6_tonerOf_0 rfl rfl ?_
  refine s_iload_n (pc := 1) S 1 dX6_tonerOf_1 rfl rfl ?_
  refine s_callV (pc := 2) S hz hml [.int x] (k_X6_printerAt Z l A C x k4 hfl) (cwV 1 S.2.2.2.2 gX6_tonerOf_X6_printerAt rfl rfl rfl (by decide +kernel) ⟨Nat.le_of_ble_eq_true rfl, Nat.le_of_ble_eq_true rfl⟩) (cc_farm (A := A) (C := C)) rfl rfl rfl (Nat.le_of_ble_eq_true rfl) dX6_tonerOf_2 ⟨Nat.le_of_ble_eq_true rfl, Nat.le_of_ble_eq_true rfl⟩ (fun E A2 C2 h_1 => ?_) (fun v A2 C2 h_1 => ?_)
  · obtain ⟨rfl, rfl, n_4, rfl⟩ := h_1
    exact s_out S hz hex hlo ⟨rfl, Or.inl ⟨rfl, n_4, rfl⟩⟩ (Nat.le_of_ble_eq_true rfl) (Nat.le_of_ble_eq_true rfl)
  · obtain ⟨rfl, rfl, k_2, hk_3, rfl, rfl⟩ := h_1
    obtain ⟨o_5, o_6, o_7, o_8, o_9⟩ := kP k_2 hk_3
    refine s_astore_n (pc := 5) S [(3, .ref (A 9 k_2)), (0, .ref (A 0 0)), (1, .int (nI k_2)), (2, .int (nI cb))] dX6_tonerOf_5 rfl (by decide) rfl ?_
    refine s_aload_n (pc := 6) S 0 dX6_tonerOf_6 rfl rfl ?_
    refine s_iload_n (pc := 7) S 3 dX6_tonerOf_7 rfl rfl ?_
    refine s_callS (pc := 8) S hz hml [.ref (A 9 k_2), .int (nI cb)] (k_X6_checkHasToner Z l A C k_2 hk_3 cb (by omega) (by omega) hfl) (cwS 2 S.2.2.2.2 gX6_tonerOf_X6_checkHasToner rfl rfl rfl (by decide +kernel) ⟨Nat.le_of_ble_eq_true rfl, Nat.le_of_ble_eq_true rfl⟩) rfl rfl (Nat.le_of_ble_eq_true rfl) dX6_tonerOf_8 ⟨Nat.le_of_ble_eq_true rfl, Nat.le_of_ble_eq_true rfl⟩ (fun E A2 C2 h_10 => ?_) (fun v A2 C2 h_10 => ?_)
    · obtain ⟨rfl, rfl, p_12, p_13, rfl⟩ := h_10
      exact s_out S hz hex hlo ⟨rfl, Or.inr (⟨k_2, rfl, hk_3, rfl, p_12, p_13, rfl⟩)⟩ (Nat.le_of_ble_eq_true rfl) (Nat.le_of_ble_eq_true rfl)
    · obtain ⟨rfl, rfl, rfl, p_11⟩ := h_10
      refine s_aload_n (pc := 11) S 0 dX6_tonerOf_11 rfl rfl ?_
      refine s_iload_n (pc := 12) S 3 dX6_tonerOf_12 rfl rfl ?_
      refine s_callV (pc := 13) S hz hml [.int (nI cb)] (k_X3_toner Z l A C k_2 hk_3 cb (by omega)) (cwV 1 S.2.2.2.2 gX6_tonerOf_X3_toner rfl rfl rfl (by decide +kernel) ⟨Nat.le_of_ble_eq_true rfl, Nat.le_of_ble_eq_true rfl⟩) (cc_prn (A := A) (C := C) hk_3) rfl rfl rfl (Nat.le_of_ble_eq_true rfl) dX6_tonerOf_13 ⟨Nat.le_of_ble_eq_true rfl, Nat.le_of_ble_eq_true rfl⟩ (fun _ _ _ h => h.elim) (fun v A2 C2 h_14 => ?_)
      obtain ⟨rfl, rfl, rfl⟩ := h_14
      exact s_iret (pc := 16) S hz hlo hr ⟨rfl, ⟨k_2, hk_3, rfl, p_11, rfl, rfl⟩⟩ (Nat.le_of_ble_eq_true rfl) (Nat.le_of_ble_eq_true rfl) dX6_tonerOf_16
set_option maxHeartbeats 4000000 in
set_option maxRecDepth 100000 in
theorem k_X6_setStaples (Z : Zp) (l : Launch) (A : AF) (C : CF) (x y : Int32) (hK : OkK C) (hfl : l.stackTraces = false) : CtS Z l yX6_setStaples wsX6_setStaples ({ frames := 7, cells := 2, slots := 12, locals := 112 }) [.ref (A 0 0), .int x, .int y] A C 2 12 (fun v A2 C2 => A = A2 ∧ (∃ k_2 w_11 : Nat, k_2 < C 0 0 4 ∧ nI k_2 = x ∧ 0 ≤ w_11 ∧ w_11 ≤ 100 ∧ nI w_11 = y ∧ (up3 C 9 k_2 3 w_11) = C2 ∧ some (.int (nI (C 9 k_2 3))) = v)) (fun E A2 C2 => A = A2 ∧ ((E = "java/lang/IndexOutOfBoundsException" ∧ (∀ k : Nat, k < C 0 0 4 → nI k ≠ x) ∧ C = C2) ∨ (∃ k_2 : Nat, E = "java/lang/IllegalArgumentException" ∧ k_2 < C 0 0 4 ∧ nI k_2 = x ∧ (∀ k : Nat, 0 ≤ k → k ≤ 100 → nI k ≠ y) ∧ C = C2))) := by
  refine CtS.of (cc0 := cX6_setStaples) (maxL := 5) (ret := (some .int)) (by decide) rfl (Nat.le_of_ble_eq_true rfl) ?_
  intro M0_ p_ e_ s_ m_ args_ below_ meth_ c_ S hz hml hex hlo hr hin
  refine s_loc (L2 := [(0, .ref (A 0 0)), (1, .int x), (2, .int y)]) rfl ?_
  have i_RX3 : ∀ w ∈ u_ws RX3 TX3 6, w ∈ wsX6_setStaples := by decide +kernel
  obtain ⟨⟨k3, k4, k5, k6, k7, k8⟩, kU, kP, kT, kJ, kL, kE, kB⟩ := id hK
  refine s_aload_n (pc := 0) S 0 dX6_setStaples_0 rfl rfl ?_
  refine s_iload_n (pc := 1) S 1 dX6_setStaples_1 rfl rfl ?_
  refine s_callV (pc := 2) S hz hml [.int x] (k_X6_printerAt Z l A C x k4 hfl) (cwV 1 S.2.2.2.2 gX6_setStaples_X6_printerAt rfl rfl rfl (by decide +kernel) ⟨Nat.le_of_ble_eq_true rfl, Nat.le_of_ble_eq_true rfl⟩) (cc_farm (A := A) (C := C)) rfl rfl rfl (Nat.le_of_ble_eq_true rfl) dX6_setStaples_2 ⟨Nat.le_of_ble_eq_true rfl, Nat.le_of_ble_eq_true rfl⟩ (fun E A2 C2 h_1 => ?_) (fun v A2 C2 h_1 => ?_)
  · obtain ⟨rfl, rfl, n_4, rfl⟩ := h_1
    exact s_out S hz hex hlo ⟨rfl, Or.inl ⟨rfl, n_4, rfl⟩⟩ (Nat.le_of_ble_eq_true rfl) (Nat.le_of_ble_eq_true rfl)
  · obtain ⟨rfl, rfl, k_2, hk_3, rfl, rfl⟩ := h_1
    obtain ⟨o_5, o_6, o_7, o_8, o_9⟩ := kP k_2 hk_3
    refine s_astore_n (pc := 5) S [(3, .ref (A 9 k_2)), (0, .ref (A 0 0)), (1, .int (nI k_2)), (2, .int y)] dX6_setStaples_5 rfl (by decide) rfl ?_
    refine s_iload_n (pc := 6) S 3 dX6_setStaples_6 rfl rfl ?_
    refine s_iconst (pc := 7) S (v := (nI 0)) dX6_setStaples_7 (by decide) ?_
    refine s_bipush (pc := 8) S (v := (nI 100)) dX6_setStaples_8 (by decide) ?_
    refine s_callS (pc := 10) S hz hml [.int y, .int (nI 0), .int (nI 100)] (k_X6_checkRange Z l A C y (nI 0) (nI 100) hfl) (cwS 3 S.2.2.2.2 gX6_setStaples_X6_checkRange rfl rfl rfl (by decide +kernel) ⟨Nat.le_of_ble_eq_true rfl, Nat.le_of_ble_eq_true rfl⟩) rfl rfl (Nat.le_of_ble_eq_true rfl) dX6_setStaples_10 ⟨Nat.le_of_ble_eq_true rfl, Nat.le_of_ble_eq_true rfl⟩ (fun E A2 C2 h_10 => ?_) (fun v A2 C2 h_10 => ?_)
    · obtain ⟨rfl, rfl, p_16, rfl⟩ := h_10
      have n_17 := rg_no (by decide) (by decide) p_16
      exact s_out S hz hex hlo ⟨rfl, Or.inr (⟨k_2, rfl, hk_3, rfl, n_17, rfl⟩)⟩ (Nat.le_of_ble_eq_true rfl) (Nat.le_of_ble_eq_true rfl)
    · obtain ⟨rfl, rfl, rfl, p_14, p_15⟩ := h_10
      obtain ⟨w_11, r_12, r_13, rfl⟩ := rg_of (by decide) p_14 p_15 (by decide)
      refine s_aload_n (pc := 13) S 0 dX6_setStaples_13 rfl rfl ?_
      refine s_get (pc := 14) S hz (ref := "SpoolFarm$Printer") (v := .int (nI (C 9 k_2 3))) (cc_prn (A := A) (C := C) hk_3) i_RX3 rfl 3 (Nat.le_of_ble_eq_true rfl) (by decide +kernel) (fun _ h => h) rfl dX6_setStaples_14 ?_
      refine s_istore (pc := 17) S [(4, .int (nI (C 9 k_2 3))), (3, .ref (A 9 k_2)), (0, .ref (A 0 0)), (1, .int (nI k_2)), (2, .int (nI w_11))] dX6_setStaples_17 (by decide) rfl ?_
      refine s_aload_n (pc := 19) S 1 dX6_setStaples_19 rfl rfl ?_
      refine s_iload_n (pc := 20) S 4 dX6_setStaples_20 rfl rfl ?_
      refine s_put (pc := 21) S hz (ref := "SpoolFarm$Printer") (ty := .int) (cc_prn (A := A) (C := C) hk_3) i_RX3 tyX3 tyX3_ok nmX3 rfl 3 (Nat.le_of_ble_eq_true rfl) (by decide +kernel) (fun _ h => h) rfl (by decide +kernel) rfl rfl (Nat.le_of_ble_eq_true rfl) (up3 C 9 k_2 3 w_11) (cu_prn (by decide)) (by rw [(cc_prn (A := A) (C := (up3 C 9 k_2 3 w_11)) hk_3), up3_u]; rfl) dX6_setStaples_21 ?_
      refine s_iload (pc := 24) S 0 dX6_setStaples_24 rfl ?_
      exact s_iret (pc := 26) S hz hlo hr ⟨rfl, ⟨k_2, w_11, hk_3, rfl, r_12, r_13, rfl, rfl, rfl⟩⟩ (Nat.le_of_ble_eq_true rfl) (Nat.le_of_ble_eq_true rfl) dX6_setStaples_26
set_option maxHeartbeats 4000000 in
set_option maxRecDepth 100000 in
theorem k_X6_staplesIn (Z : Zp) (l : Launch) (A : AF) (C : CF) (x : Int32) (hK : OkK C) (hfl : l.stackTraces = false) : CtS Z l yX6_staplesIn wsX6_staplesIn ({ frames := 7, cells := 1, slots := 6, locals := 112 }) [.ref (A 0 0), .int x] A C 1 6 (fun v A2 C2 => A = A2 ∧ (∃ k_2 : Nat, k_2 < C 0 0 4 ∧ nI k_2 = x ∧ C = C2 ∧ some (.int (nI (C 9 k_2 3))) = v)) (fun E A2 C2 => A = A2 ∧ (E = "java/lang/IndexOutOfBoundsException" ∧ (∀ k : Nat, k < C 0 0 4 → nI k ≠ x) ∧ C = C2)) := by
  refine CtS.of (cc0 := cX6_staplesIn) (maxL := 2) (ret := (some .int)) (by decide) rfl (Nat.le_of_ble_eq_true rfl) ?_
  intro M0_ p_ e_ s_ m_ args_ below_ meth_ c_ S hz hml hex hlo hr hin
  refine s_loc (L2 := [(0, .ref (A 0 0)), (1, .int x)]) rfl ?_
  have i_RX3 : ∀ w ∈ u_ws RX3 TX3 6, w ∈ wsX6_staplesIn := by decide +kernel
  obtain ⟨⟨k3, k4, k5, k6, k7, k8⟩, kU, kP, kT, kJ, kL, kE, kB⟩ := id hK
  refine s_aload_n (pc := 0) S 0 dX6_staplesIn_0 rfl rfl ?_
  refine s_iload_n (pc := 1) S 1 dX6_staplesIn_1 rfl rfl ?_
  refine s_callV (pc := 2) S hz hml [.int x] (k_X6_printerAt Z l A C x k4 hfl) (cwV 1 S.2.2.2.2 gX6_staplesIn_X6_printerAt rfl rfl rfl (by decide +kernel) ⟨Nat.le_of_ble_eq_true rfl, Nat.le_of_ble_eq_true rfl⟩) (cc_farm (A := A) (C := C)) rfl rfl rfl (Nat.le_of_ble_eq_true rfl) dX6_staplesIn_2 ⟨Nat.le_of_ble_eq_true rfl, Nat.le_of_ble_eq_true rfl⟩ (fun E A2 C2 h_1 => ?_) (fun v A2 C2 h_1 => ?_)
  · obtain ⟨rfl, rfl, n_4, rfl⟩ := h_1
    exact s_out S hz hex hlo ⟨rfl, ⟨rfl, n_4, rfl⟩⟩ (Nat.le_of_ble_eq_true rfl) (Nat.le_of_ble_eq_true rfl)
  · obtain ⟨rfl, rfl, k_2, hk_3, rfl, rfl⟩ := h_1
    obtain ⟨o_5, o_6, o_7, o_8, o_9⟩ := kP k_2 hk_3
    refine s_get (pc := 5) S hz (ref := "SpoolFarm$Printer") (v := .int (nI (C 9 k_2 3))) (cc_prn (A := A) (C := C) hk_3) i_RX3 rfl 3 (Nat.le_of_ble_eq_true rfl) (by decide +kernel) (fun _ h => h) rfl dX6_staplesIn_5 ?_
    exact s_iret (pc := 8) S hz hlo hr ⟨rfl, ⟨k_2, hk_3, rfl, rfl, rfl⟩⟩ (Nat.le_of_ble_eq_true rfl) (Nat.le_of_ble_eq_true rfl) dX6_staplesIn_8
set_option maxHeartbeats 4000000 in
set_option maxRecDepth 100000 in
theorem k_X6_grant (Z : Zp) (l : Launch) (A : AF) (C : CF) (x : Int32) (cb : Nat) (y : Int32) (hcb : cb < 2) (hK : OkK C) (hfl : l.stackTraces = false) : CtS Z l yX6_grant wsX6_grant ({ frames := 7, cells := 3, slots := 18, locals := 112 }) [.ref (A 0 0), .int x, .int (nI cb), .int y] A C 3 18 (fun v A2 C2 => A = A2 ∧ ((∃ k_2 w_10 : Nat, k_2 < C 0 0 3 ∧ nI k_2 = x ∧ 1 ≤ w_10 ∧ w_10 ≤ 999 ∧ nI w_10 = y ∧ (if cb = 0 then C 10 k_2 0 else C 10 k_2 1) + w_10 ≤ 9999 ∧ cb = 0 ∧ (up3 C 10 k_2 0 (C 10 k_2 0 + w_10)) = C2 ∧ some (.int (nI (if cb = 0 then (up3 C 10 k_2 0 (C 10 k_2 0 + w_10)) 10 k_2 0 else (up3 C 10 k_2 0 (C 10 k_2 0 + w_10)) 10 k_2 1))) = v) ∨ (∃ k_2 w_10 : Nat, k_2 < C 0 0 3 ∧ nI k_2 = x ∧ 1 ≤ w_10 ∧ w_10 ≤ 999 ∧ nI w_10 = y ∧ (if cb = 0 then C 10 k_2 0 else C 10 k_2 1) + w_10 ≤ 9999 ∧ ¬ cb = 0 ∧ (up3 C 10 k_2 1 (C 10 k_2 1 + w_10)) = C2 ∧ some (.int (nI (if cb = 0 then (up3 C 10 k_2 1 (C 10 k_2 1 + w_10)) 10 k_2 0 else (up3 C 10 k_2 1 (C 10 k_2 1 + w_10)) 10 k_2 1))) = v))) (fun E A2 C2 => A = A2 ∧ ((E = "java/lang/IndexOutOfBoundsException" ∧ (∀ k : Nat, k < C 0 0 3 → nI k ≠ x) ∧ C = C2) ∨ (∃ k_2 : Nat, E = "java/lang/IllegalArgumentException" ∧ k_2 < C 0 0 3 ∧ nI k_2 = x ∧ (∀ k : Nat, 1 ≤ k → k ≤ 999 → nI k ≠ y) ∧ C = C2) ∨ (∃ k_2 w_10 : Nat, E = "java/lang/IllegalStateException" ∧ k_2 < C 0 0 3 ∧ nI k_2 = x ∧ 1 ≤ w_10 ∧ w_10 ≤ 999 ∧ nI w_10 = y ∧ ¬ (if cb = 0 then C 10 k_2 0 else C 10 k_2 1) + w_10 ≤ 9999 ∧ C = C2))) := by
  refine CtS.of (cc0 := cX6_grant) (maxL := 5) (ret := (some .int)) (by decide) rfl (Nat.le_of_ble_eq_true rfl) ?_
  intro M0_ p_ e_ s_ m_ args_ below_ meth_ c_ S hz hml hex hlo hr hin
  refine s_loc (L2 := [(0, .ref (A 0 0)), (1, .int x), (2, .int (nI cb)), (3, .int y)]) rfl ?_
  obtain ⟨⟨k3, k4, k5, k6, k7, k8⟩, kU, kP, kT, kJ, kL, kE, kB⟩ := id hK
  refine s_aload_n (pc := 0) S 0 dX6_grant_0 rfl rfl ?_
  refine s_iload_n (pc := 1) S 1 dX6_grant_1 rfl rfl ?_
  refine s_callV (pc := 2) S hz hml [.int x] (k_X6_userAt Z l A C x k3 hfl) (cwV 1 S.2.2.2.2 gX6_grant_X6_userAt rfl rfl rfl (by decide +kernel) ⟨Nat.le_of_ble_eq_true rfl, Nat.le_of_ble_eq_true rfl⟩) (cc_farm (A := A) (C := C)) rfl rfl rfl (Nat.le_of_ble_eq_true rfl) dX6_grant_2 ⟨Nat.le_of_ble_eq_true rfl, Nat.le_of_ble_eq_true rfl⟩ (fun E A2 C2 h_1 => ?_) (fun v A2 C2 h_1 => ?_)
  · obtain ⟨rfl, rfl, n_4, rfl⟩ := h_1
    exact s_out S hz hex hlo ⟨rfl, Or.inl ⟨rfl, n_4, rfl⟩⟩ (Nat.le_of_ble_eq_true rfl) (Nat.le_of_ble_eq_true rfl)
  · obtain ⟨rfl, rfl, k_2, hk_3, rfl, rfl⟩ := h_1
    obtain ⟨o_5, o_6, o_7, o_8⟩ := kU k_2 hk_3
    refine s_astore (pc := 5) S [(4, .ref (A 10 k_2)), (0, .ref (A 0 0)), (1, .int (nI k_2)), (2, .int (nI cb)), (3, .int y)] dX6_grant_5 (by decide) rfl ?_
    refine s_iload_n (pc := 7) S 4 dX6_grant_7 rfl rfl ?_
    refine s_iconst (pc := 8) S (v := (nI 1)) dX6_grant_8 (by decide) ?_
    refine s_sipush (pc := 9) S (v := (nI 999)) dX6_grant_9 (by decide) ?_
    refine s_callS (pc := 12) S hz hml [.int y, .int (nI 1), .int (nI 999)] (k_X6_checkRange Z l A C y (nI 1) (nI 999) hfl) (cwS 3 S.2.2.2.2 gX6_grant_X6_checkRange rfl rfl rfl (by decide +kernel) ⟨Nat.le_of_ble_eq_true rfl, Nat.le_of_ble_eq_true rfl⟩) rfl rfl (Nat.le_of_ble_eq_true rfl) dX6_grant_12 ⟨Nat.le_of_ble_eq_true rfl, Nat.le_of_ble_eq_true rfl⟩ (fun E A2 C2 h_9 => ?_) (fun v A2 C2 h_9 => ?_)
    · obtain ⟨rfl, rfl, p_15, rfl⟩ := h_9
      have n_16 := rg_no (by decide) (by decide) p_15
      exact s_out S hz hex hlo ⟨rfl, Or.inr (Or.inl ⟨k_2, rfl, hk_3, rfl, n_16, rfl⟩)⟩ (Nat.le_of_ble_eq_true rfl) (Nat.le_of_ble_eq_true rfl)
    · obtain ⟨rfl, rfl, rfl, p_13, p_14⟩ := h_9
      obtain ⟨w_10, r_11, r_12, rfl⟩ := rg_of (by decide) p_13 p_14 (by decide)
      refine s_aload (pc := 15) S 0 dX6_grant_15 rfl ?_
      refine s_iload_n (pc := 17) S 3 dX6_grant_17 rfl rfl ?_
      refine s_callV (pc := 18) S hz hml [.int (nI cb)] (k_X5_quota Z l A C k_2 hk_3 cb (by omega)) (cwV 1 S.2.2.2.2 gX6_grant_X5_quota rfl rfl rfl (by decide +kernel) ⟨Nat.le_of_ble_eq_true rfl, Nat.le_of_ble_eq_true rfl⟩) (cc_user (A := A) (C := C) hk_3) rfl rfl rfl (Nat.le_of_ble_eq_true rfl) dX6_grant_18 ⟨Nat.le_of_ble_eq_true rfl, Nat.le_of_ble_eq_true rfl⟩ (fun _ _ _ h => h.elim) (fun v A2 C2 h_17 => ?_)
      obtain ⟨rfl, rfl, rfl⟩ := h_17
      have z_18 : (if cb = 0 then C 10 k_2 0 else C 10 k_2 1) ≤ 9999 := by split <;> omega
      refine s_iload_n (pc := 21) S 4 dX6_grant_21 rfl rfl ?_
      refine s_iaddN (pc := 22) S dX6_grant_22 ?_
      refine s_sipush (pc := 23) S (v := (nI 9999)) dX6_grant_23 (by decide) ?_
      refine s_icmp_leN (pc := 26) S 39 dX6_grant_26 (by decide) (by omega) (by omega) (fun c_19 => ?_) (fun c_19 => ?_)
      · refine s_aload (pc := 39) S 0 dX6_grant_39 rfl ?_
        refine s_iload_n (pc := 41) S 3 dX6_grant_41 rfl rfl ?_
        refine s_iload_n (pc := 42) S 4 dX6_grant_42 rfl rfl ?_
        refine s_callV (pc := 43) S hz hml [.int (nI cb), .int (nI w_10)] (k_X5_addQuota Z l A C k_2 hk_3 cb w_10 (by omega)) (cwV 2 S.2.2.2.2 gX6_grant_X5_addQuota rfl rfl rfl (by decide +kernel) ⟨Nat.le_of_ble_eq_true rfl, Nat.le_of_ble_eq_true rfl⟩) (cc_user (A := A) (C := C) hk_3) rfl rfl rfl (Nat.le_of_ble_eq_true rfl) dX6_grant_43 ⟨Nat.le_of_ble_eq_true rfl, Nat.le_of_ble_eq_true rfl⟩ (fun _ _ _ h => h.elim) (fun v A2 C2 h_20 => ?_)
        obtain ⟨rfl, hA, rfl⟩ := h_20
        by_cases hb0 : cb = 0
        · subst hA
          rw [if_pos hb0]
          refine s_aload (pc := 46) S 0 dX6_grant_46 rfl ?_
          refine s_iload_n (pc := 48) S 3 dX6_grant_48 rfl rfl ?_
          refine s_callV (pc := 49) S hz hml [.int (nI cb)] (k_X5_quota Z l A (up3 C 10 k_2 0 (C 10 k_2 0 + w_10)) k_2 hk_3 cb (by omega)) (cwV 1 S.2.2.2.2 gX6_grant_X5_quota rfl rfl rfl (by decide +kernel) ⟨Nat.le_of_ble_eq_true rfl, Nat.le_of_ble_eq_true rfl⟩) (cc_user (A := A) (C := (up3 C 10 k_2 0 (C 10 k_2 0 + w_10))) hk_3) rfl rfl rfl (Nat.le_of_ble_eq_true rfl) dX6_grant_49 ⟨Nat.le_of_ble_eq_true rfl, Nat.le_of_ble_eq_true rfl⟩ (fun _ _ _ h => h.elim) (fun v A2 C2 h_21 => ?_)
          obtain ⟨rfl, rfl, rfl⟩ := h_21
          exact s_iret (pc := 52) S hz hlo hr ⟨rfl, Or.inl ⟨k_2, w_10, hk_3, rfl, r_11, r_12, rfl, c_19, hb0, rfl, rfl⟩⟩ (Nat.le_of_ble_eq_true rfl) (Nat.le_of_ble_eq_true rfl) dX6_grant_52
        · subst hA
          rw [if_neg hb0]
          refine s_aload (pc := 46) S 0 dX6_grant_46 rfl ?_
          refine s_iload_n (pc := 48) S 3 dX6_grant_48 rfl rfl ?_
          refine s_callV (pc := 49) S hz hml [.int (nI cb)] (k_X5_quota Z l A (up3 C 10 k_2 1 (C 10 k_2 1 + w_10)) k_2 hk_3 cb (by omega)) (cwV 1 S.2.2.2.2 gX6_grant_X5_quota rfl rfl rfl (by decide +kernel) ⟨Nat.le_of_ble_eq_true rfl, Nat.le_of_ble_eq_true rfl⟩) (cc_user (A := A) (C := (up3 C 10 k_2 1 (C 10 k_2 1 + w_10))) hk_3) rfl rfl rfl (Nat.le_of_ble_eq_true rfl) dX6_grant_49 ⟨Nat.le_of_ble_eq_true rfl, Nat.le_of_ble_eq_true rfl⟩ (fun _ _ _ h => h.elim) (fun v A2 C2 h_22 => ?_)
          obtain ⟨rfl, rfl, rfl⟩ := h_22
          exact s_iret (pc := 52) S hz hlo hr ⟨rfl, Or.inr (⟨k_2, w_10, hk_3, rfl, r_11, r_12, rfl, c_19, hb0, rfl, rfl⟩)⟩ (Nat.le_of_ble_eq_true rfl) (Nat.le_of_ble_eq_true rfl) dX6_grant_52
      · exact s_thr (pc := 29) (text := "the quota would be too great") S hz hfl hml hex hlo thr_ISE (by decide +kernel) (by decide +kernel) (by decide +kernel) (by decide +kernel) dX6_grant_29 dX6_grant_32 dX6_grant_33 dX6_grant_35 dX6_grant_38 (Nat.le_of_ble_eq_true rfl) (Nat.le_of_ble_eq_true rfl) (Nat.le_of_ble_eq_true rfl) (Nat.le_of_ble_eq_true rfl) ⟨rfl, Or.inr (Or.inr (⟨k_2, w_10, rfl, hk_3, rfl, r_11, r_12, rfl, c_19, rfl⟩))⟩ (Nat.le_of_ble_eq_true rfl) (Nat.le_of_ble_eq_true rfl)
set_option maxHeartbeats 4000000 in
set_option maxRecDepth 100000 in
theorem k_X6_quotaOf (Z : Zp) (l : Launch) (A : AF) (C : CF) (x : Int32) (cb : Nat) (hcb : cb < 2) (hK : OkK C) (hfl : l.stackTraces = false) : CtS Z l yX6_quotaOf wsX6_quotaOf ({ frames := 7, cells := 1, slots := 6, locals := 112 }) [.ref (A 0 0), .int x, .int (nI cb)] A C 1 6 (fun v A2 C2 => A = A2 ∧ (∃ k_2 : Nat, k_2 < C 0 0 3 ∧ nI k_2 = x ∧ C = C2 ∧ some (.int (nI (if cb = 0 then C 10 k_2 0 else C 10 k_2 1))) = v)) (fun E A2 C2 => A = A2 ∧ (E = "java/lang/IndexOutOfBoundsException" ∧ (∀ k : Nat, k < C 0 0 3 → nI k ≠ x) ∧ C = C2)) := by
  refine CtS.of (cc0 := cX6_quotaOf) (maxL := 3) (ret := (some .int)) (by decide) rfl (Nat.le_of_ble_eq_true rfl) ?_
  intro M0_ p_ e_ s_ m_ args_ below_ meth_ c_ S hz hml hex hlo hr hin
  refine s_loc (L2 := [(0, .ref (A 0 0)), (1, .int x), (2, .int (nI cb))]) rfl ?_
  obtain ⟨⟨k3, k4, k5, k6, k7, k8⟩, kU, kP, kT, kJ, kL, kE, kB⟩ := id hK
  refine s_aload_n (pc := 0) S 0 dX6_quotaOf_0 rfl rfl ?_
  refine s_iload_n (pc := 1) S 1 dX6_quotaOf_1 rfl rfl ?_
  refine s_callV (pc := 2) S hz hml [.int x] (k_X6_userAt Z l A C x k3 hfl) (cwV 1 S.2.2.2.2 gX6_quotaOf_X6_userAt rfl rfl rfl (by decide +kernel) ⟨Nat.le_of_ble_eq_true rfl, Nat.le_of_ble_eq_true rfl⟩) (cc_farm (A := A) (C := C)) rfl rfl rfl (Nat.le_of_ble_eq_true rfl) dX6_quotaOf_2 ⟨Nat.le_of_ble_eq_true rfl, Nat.le_of_ble_eq_true rfl⟩ (fun E A2 C2 h_1 => ?_) (fun v A2 C2 h_1 => ?_)
  · obtain ⟨rfl, rfl, n_4, rfl⟩ := h_1
    exact s_out S hz hex hlo ⟨rfl, ⟨rfl, n_4, rfl⟩⟩ (Nat.le_of_ble_eq_true rfl) (Nat.le_of_ble_eq_true rfl)
  · obtain ⟨rfl, rfl, k_2, hk_3, rfl, rfl⟩ := h_1
    obtain ⟨o_5, o_6, o_7, o_8⟩ := kU k_2 hk_3
    refine s_iload_n (pc := 5) S 2 dX6_quotaOf_5 rfl rfl ?_
    refine s_callV (pc := 6) S hz hml [.int (nI cb)] (k_X5_quota Z l A C k_2 hk_3 cb (by omega)) (cwV 1 S.2.2.2.2 gX6_quotaOf_X5_quota rfl rfl rfl (by decide +kernel) ⟨Nat.le_of_ble_eq_true rfl, Nat.le_of_ble_eq_true rfl⟩) (cc_user (A := A) (C := C) hk_3) rfl rfl rfl (Nat.le_of_ble_eq_true rfl) dX6_quotaOf_6 ⟨Nat.le_of_ble_eq_true rfl, Nat.le_of_ble_eq_true rfl⟩ (fun _ _ _ h => h.elim) (fun v A2 C2 h_9 => ?_)
    obtain ⟨rfl, rfl, rfl⟩ := h_9
    have z_10 : (if cb = 0 then C 10 k_2 0 else C 10 k_2 1) ≤ 9999 := by split <;> omega
    exact s_iret (pc := 9) S hz hlo hr ⟨rfl, ⟨k_2, hk_3, rfl, rfl, rfl⟩⟩ (Nat.le_of_ble_eq_true rfl) (Nat.le_of_ble_eq_true rfl) dX6_quotaOf_9
set_option maxHeartbeats 4000000 in
set_option maxRecDepth 100000 in
theorem k_X6_setPrices (Z : Zp) (l : Launch) (A : AF) (C : CF) (x y w : Int32) (hK : OkK C) (hfl : l.stackTraces = false) : CtS Z l yX6_setPrices wsX6_setPrices ({ frames := 7, cells := 3, slots := 18, locals := 112 }) [.ref (A 0 0), .int x, .int y, .int w] A C 3 18 (fun v A2 C2 => A = A2 ∧ (∃ w_2 w_10 w_18 : Nat, 0 ≤ w_2 ∧ w_2 ≤ 99 ∧ nI w_2 = x ∧ 0 ≤ w_10 ∧ w_10 ≤ 99 ∧ nI w_10 = y ∧ 0 ≤ w_18 ∧ w_18 ≤ 99 ∧ nI w_18 = w ∧ (up3 (up3 (up3 C 0 0 6 w_2) 0 0 7 w_10) 0 0 8 w_18) = C2 ∧ some (.int (nI (C 0 0 6))) = v)) (fun E A2 C2 => A = A2 ∧ ((E = "java/lang/IllegalArgumentException" ∧ (∀ k : Nat, 0 ≤ k → k ≤ 99 → nI k ≠ x) ∧ C = C2) ∨ (∃ w_2 : Nat, E = "java/lang/IllegalArgumentException" ∧ 0 ≤ w_2 ∧ w_2 ≤ 99 ∧ nI w_2 = x ∧ (∀ k : Nat, 0 ≤ k → k ≤ 99 → nI k ≠ y) ∧ C = C2) ∨ (∃ w_2 w_10 : Nat, E = "java/lang/IllegalArgumentException" ∧ 0 ≤ w_2 ∧ w_2 ≤ 99 ∧ nI w_2 = x ∧ 0 ≤ w_10 ∧ w_10 ≤ 99 ∧ nI w_10 = y ∧ (∀ k : Nat, 0 ≤ k → k ≤ 99 → nI k ≠ w) ∧ C = C2))) := by
  refine CtS.of (cc0 := cX6_setPrices) (maxL := 5) (ret := (some .int)) (by decide) rfl (Nat.le_of_ble_eq_true rfl) ?_
  intro M0_ p_ e_ s_ m_ args_ below_ meth_ c_ S hz hml hex hlo hr hin
  refine s_loc (L2 := [(0, .ref (A 0 0)), (1, .int x), (2, .int y), (3, .int w)]) rfl ?_
  have i_RX6 : ∀ w ∈ u_ws RX6 TX6 12, w ∈ wsX6_setPrices := by decide +kernel
  obtain ⟨⟨k3, k4, k5, k6, k7, k8⟩, kU, kP, kT, kJ, kL, kE, kB⟩ := id hK
  refine s_iload_n (pc := 0) S 1 dX6_setPrices_0 rfl rfl ?_
  refine s_iconst (pc := 1) S (v := (nI 0)) dX6_setPrices_1 (by decide) ?_
  refine s_bipush (pc := 2) S (v := (nI 99)) dX6_setPrices_2 (by decide) ?_
  refine s_callS (pc := 4) S hz hml [.int x, .int (nI 0), .int (nI 99)] (k_X6_checkRange Z l A C x (nI 0) (nI 99) hfl) (cwS 3 S.2.2.2.2 gX6_setPrices_X6_checkRange rfl rfl rfl (by decide +kernel) ⟨Nat.le_of_ble_eq_true rfl, Nat.le_of_ble_eq_true rfl⟩) rfl rfl (Nat.le_of_ble_eq_true rfl) dX6_setPrices_4 ⟨Nat.le_of_ble_eq_true rfl, Nat.le_of_ble_eq_true rfl⟩ (fun E A2 C2 h_1 => ?_) (fun v A2 C2 h_1 => ?_)
  · obtain ⟨rfl, rfl, p_7, rfl⟩ := h_1
    have n_8 := rg_no (by decide) (by decide) p_7
    exact s_out S hz hex hlo ⟨rfl, Or.inl ⟨rfl, n_8, rfl⟩⟩ (Nat.le_of_ble_eq_true rfl) (Nat.le_of_ble_eq_true rfl)
  · obtain ⟨rfl, rfl, rfl, p_5, p_6⟩ := h_1
    obtain ⟨w_2, r_3, r_4, rfl⟩ := rg_of (by decide) p_5 p_6 (by decide)
    refine s_iload_n (pc := 7) S 2 dX6_setPrices_7 rfl rfl ?_
    refine s_iconst (pc := 8) S (v := (nI 0)) dX6_setPrices_8 (by decide) ?_
    refine s_bipush (pc := 9) S (v := (nI 99)) dX6_setPrices_9 (by decide) ?_
    refine s_callS (pc := 11) S hz hml [.int y, .int (nI 0), .int (nI 99)] (k_X6_checkRange Z l A C y (nI 0) (nI 99) hfl) (cwS 3 S.2.2.2.2 gX6_setPrices_X6_checkRange rfl rfl rfl (by decide +kernel) ⟨Nat.le_of_ble_eq_true rfl, Nat.le_of_ble_eq_true rfl⟩) rfl rfl (Nat.le_of_ble_eq_true rfl) dX6_setPrices_11 ⟨Nat.le_of_ble_eq_true rfl, Nat.le_of_ble_eq_true rfl⟩ (fun E A2 C2 h_9 => ?_) (fun v A2 C2 h_9 => ?_)
    · obtain ⟨rfl, rfl, p_15, rfl⟩ := h_9
      have n_16 := rg_no (by decide) (by decide) p_15
      exact s_out S hz hex hlo ⟨rfl, Or.inr (Or.inl ⟨w_2, rfl, r_3, r_4, rfl, n_16, rfl⟩)⟩ (Nat.le_of_ble_eq_true rfl) (Nat.le_of_ble_eq_true rfl)
    · obtain ⟨rfl, rfl, rfl, p_13, p_14⟩ := h_9
      obtain ⟨w_10, r_11, r_12, rfl⟩ := rg_of (by decide) p_13 p_14 (by decide)
      refine s_iload_n (pc := 14) S 3 dX6_setPrices_14 rfl rfl ?_
      refine s_iconst (pc := 15) S (v := (nI 0)) dX6_setPrices_15 (by decide) ?_
      refine s_bipush (pc := 16) S (v := (nI 99)) dX6_setPrices_16 (by decide) ?_
      refine s_callS (pc := 18) S hz hml [.int w, .int (nI 0), .int (nI 99)] (k_X6_checkRange Z l A C w (nI 0) (nI 99) hfl) (cwS 3 S.2.2.2.2 gX6_setPrices_X6_checkRange rfl rfl rfl (by decide +kernel) ⟨Nat.le_of_ble_eq_true rfl, Nat.le_of_ble_eq_true rfl⟩) rfl rfl (Nat.le_of_ble_eq_true rfl) dX6_setPrices_18 ⟨Nat.le_of_ble_eq_true rfl, Nat.le_of_ble_eq_true rfl⟩ (fun E A2 C2 h_17 => ?_) (fun v A2 C2 h_17 => ?_)
      · obtain ⟨rfl, rfl, p_23, rfl⟩ := h_17
        have n_24 := rg_no (by decide) (by decide) p_23
        exact s_out S hz hex hlo ⟨rfl, Or.inr (Or.inr (⟨w_2, w_10, rfl, r_3, r_4, rfl, r_11, r_12, rfl, n_24, rfl⟩))⟩ (Nat.le_of_ble_eq_true rfl) (Nat.le_of_ble_eq_true rfl)
      · obtain ⟨rfl, rfl, rfl, p_21, p_22⟩ := h_17
        obtain ⟨w_18, r_19, r_20, rfl⟩ := rg_of (by decide) p_21 p_22 (by decide)
        refine s_aload_n (pc := 21) S 0 dX6_setPrices_21 rfl rfl ?_
        refine s_get (pc := 22) S hz (ref := "SpoolFarm") (v := .int (nI (C 0 0 6))) (cc_farm (A := A) (C := C)) i_RX6 rfl 6 (Nat.le_of_ble_eq_true rfl) (by decide +kernel) (fun _ h => h) rfl dX6_setPrices_22 ?_
        refine s_istore (pc := 25) S [(4, .int (nI (C 0 0 6))), (0, .ref (A 0 0)), (1, .int (nI w_2)), (2, .int (nI w_10)), (3, .int (nI w_18))] dX6_setPrices_25 (by decide) rfl ?_
        refine s_aload_n (pc := 27) S 1 dX6_setPrices_27 rfl rfl ?_
        refine s_iload_n (pc := 28) S 2 dX6_setPrices_28 rfl rfl ?_
        refine s_put (pc := 29) S hz (ref := "SpoolFarm") (ty := .int) (cc_farm (A := A) (C := C)) i_RX6 tyX6 tyX6_ok nmX6 rfl 6 (Nat.le_of_ble_eq_true rfl) (by decide +kernel) (fun _ h => h) rfl (by decide +kernel) rfl rfl (Nat.le_of_ble_eq_true rfl) (up3 C 0 0 6 w_2) (cu_farm (by decide)) (by rw [(cc_farm (A := A) (C := (up3 C 0 0 6 w_2))), up3_u]; rfl) dX6_setPrices_29 ?_
        refine s_aload_n (pc := 32) S 1 dX6_setPrices_32 rfl rfl ?_
        refine s_iload_n (pc := 33) S 3 dX6_setPrices_33 rfl rfl ?_
        refine s_put (pc := 34) S hz (ref := "SpoolFarm") (ty := .int) (cc_farm (A := A) (C := (up3 C 0 0 6 w_2))) i_RX6 tyX6 tyX6_ok nmX6 rfl 7 (Nat.le_of_ble_eq_true rfl) (by decide +kernel) (fun _ h => h) rfl (by decide +kernel) rfl rfl (Nat.le_of_ble_eq_true rfl) (up3 (up3 C 0 0 6 w_2) 0 0 7 w_10) (cu_farm (by decide)) (by rw [(cc_farm (A := A) (C := (up3 (up3 C 0 0 6 w_2) 0 0 7 w_10))), up3_u]; rfl) dX6_setPrices_34 ?_
        refine s_aload_n (pc := 37) S 1 dX6_setPrices_37 rfl rfl ?_
        refine s_iload_n (pc := 38) S 4 dX6_setPrices_38 rfl rfl ?_
        refine s_put (pc := 39) S hz (ref := "SpoolFarm") (ty := .int) (cc_farm (A := A) (C := (up3 (up3 C 0 0 6 w_2) 0 0 7 w_10))) i_RX6 tyX6 tyX6_ok nmX6 rfl 8 (Nat.le_of_ble_eq_true rfl) (by decide +kernel) (fun _ h => h) rfl (by decide +kernel) rfl rfl (Nat.le_of_ble_eq_true rfl) (up3 (up3 (up3 C 0 0 6 w_2) 0 0 7 w_10) 0 0 8 w_18) (cu_farm (by decide)) (by rw [(cc_farm (A := A) (C := (up3 (up3 (up3 C 0 0 6 w_2) 0 0 7 w_10) 0 0 8 w_18))), up3_u]; rfl) dX6_setPrices_39 ?_
        refine s_iload (pc := 42) S 0 dX6_setPrices_42 rfl ?_
        exact s_iret (pc := 44) S hz hlo hr ⟨rfl, ⟨w_2, w_10, w_18, r_3, r_4, rfl, r_11, r_12, rfl, r_19, r_20, rfl, rfl, rfl⟩⟩ (Nat.le_of_ble_eq_true rfl) (Nat.le_of_ble_eq_true rfl) dX6_setPrices_44
set_option maxHeartbeats 4000000 in
set_option maxRecDepth 100000 in
theorem k_X6_setStapled (Z : Zp) (l : Launch) (A : AF) (C : CF) (x : Int32) (cb : Nat) (hcb : cb < 2) (hK : OkK C) (hfl : l.stackTraces = false) : CtS Z l yX6_setStapled wsX6_setStapled ({ frames := 7, cells := 1, slots := 6, locals := 112 }) [.ref (A 0 0), .int x, .int (nI cb)] A C 1 6 (fun v A2 C2 => A = A2 ∧ (∃ k_2 : Nat, k_2 < C 0 0 5 ∧ nI k_2 = x ∧ (up3 C 11 k_2 7 cb) = C2 ∧ some (.int (nI (C 11 k_2 7))) = v)) (fun E A2 C2 => A = A2 ∧ (E = "java/lang/IndexOutOfBoundsException" ∧ (∀ k : Nat, k < C 0 0 5 → nI k ≠ x) ∧ C = C2)) := by
  refine CtS.of (cc0 := cX6_setStapled) (maxL := 5) (ret := (some .boolean)) (by decide) rfl (Nat.le_of_ble_eq_true rfl) ?_
  intro M0_ p_ e_ s_ m_ args_ below_ meth_ c_ S hz hml hex hlo hr hin
  refine s_loc (L2 := [(0, .ref (A 0 0)), (1, .int x), (2, .int (nI cb))]) rfl ?_
  have i_RX1 : ∀ w ∈ u_ws RX1 TX1 14, w ∈ wsX6_setStapled := by decide +kernel
  obtain ⟨⟨k3, k4, k5, k6, k7, k8⟩, kU, kP, kT, kJ, kL, kE, kB⟩ := id hK
  refine s_aload_n (pc := 0) S 0 dX6_setStapled_0 rfl rfl ?_
  refine s_iload_n (pc := 1) S 1 dX6_setStapled_1 rfl rfl ?_
  refine s_callV (pc := 2) S hz hml [.int x] (k_X6_jobAt Z l A C x k5 hfl) (cwV 1 S.2.2.2.2 gX6_setStapled_X6_jobAt rfl rfl rfl (by decide +kernel) ⟨Nat.le_of_ble_eq_true rfl, Nat.le_of_ble_eq_true rfl⟩) (cc_farm (A := A) (C := C)) rfl rfl rfl (Nat.le_of_ble_eq_true rfl) dX6_setStapled_2 ⟨Nat.le_of_ble_eq_true rfl, Nat.le_of_ble_eq_true rfl⟩ (fun E A2 C2 h_1 => ?_) (fun v A2 C2 h_1 => ?_)
  · obtain ⟨rfl, rfl, n_4, rfl⟩ := h_1
    exact s_out S hz hex hlo ⟨rfl, ⟨rfl, n_4, rfl⟩⟩ (Nat.le_of_ble_eq_true rfl) (Nat.le_of_ble_eq_true rfl)
  · obtain ⟨rfl, rfl, k_2, hk_3, rfl, rfl⟩ := h_1
    obtain ⟨o_5, o_6, o_7, o_8, o_9, o_10, o_11, o_12, o_13, o_14, o_15, o_16, o_17, o_18, o_19⟩ := kJ k_2 hk_3
    refine s_astore_n (pc := 5) S [(3, .ref (A 11 k_2)), (0, .ref (A 0 0)), (1, .int (nI k_2)), (2, .int (nI cb))] dX6_setStapled_5 rfl (by decide) rfl ?_
    refine s_aload_n (pc := 6) S 0 dX6_setStapled_6 rfl rfl ?_
    refine s_get (pc := 7) S hz (ref := "SpoolFarm$Job") (v := .int (nI (C 11 k_2 7))) (cc_job (A := A) (C := C) hk_3) i_RX1 rfl 7 (Nat.le_of_ble_eq_true rfl) (by decide +kernel) (fun _ h => h) rfl dX6_setStapled_7 ?_
    refine s_istore (pc := 10) S [(4, .int (nI (C 11 k_2 7))), (3, .ref (A 11 k_2)), (0, .ref (A 0 0)), (1, .int (nI k_2)), (2, .int (nI cb))] dX6_setStapled_10 (by decide) rfl ?_
    refine s_aload_n (pc := 12) S 1 dX6_setStapled_12 rfl rfl ?_
    refine s_iload_n (pc := 13) S 4 dX6_setStapled_13 rfl rfl ?_
    refine s_put (pc := 14) S hz (ref := "SpoolFarm$Job") (ty := .boolean) (cc_job (A := A) (C := C) hk_3) i_RX1 tyX1 tyX1_ok nmX1 rfl 7 (Nat.le_of_ble_eq_true rfl) (by decide +kernel) (fun _ h => h) rfl (by decide +kernel) (nar_z (by omega)) (fit_z (by omega)) (Nat.le_of_ble_eq_true rfl) (up3 C 11 k_2 7 cb) cu_job (by rw [(cc_job (A := A) (C := (up3 C 11 k_2 7 cb)) hk_3), up3_u]; rfl) dX6_setStapled_14 ?_
    refine s_iload (pc := 17) S 0 dX6_setStapled_17 rfl ?_
    exact s_zret (pc := 19) S hz hlo (nar_z (by omega)) hr ⟨rfl, ⟨k_2, hk_3, rfl, rfl, rfl⟩⟩ (Nat.le_of_ble_eq_true rfl) (Nat.le_of_ble_eq_true rfl) dX6_setStapled_19
theorem okk_cancel {C : CF} {k : Nat} (hK : OkK C) : OkK (up3 C 11 k 8 1) := by
  obtain ⟨h1, h2, h3, h4, hJ, h6, h7, h8⟩ := hK
  refine ⟨h1, h2, h3, h4, fun j hj => ?_, h6, h7, h8⟩
  obtain ⟨q0, q1, q2, q2b, q3, q4, q5, q6, q7, q8, q9, q10, q11, q12, q13⟩ := hJ j hj
  have e : ∀ f : Nat, f ≠ 8 → up3 C 11 k 8 1 11 j f = C 11 j f := fun f hf => up3_f hf
  refine ⟨by rw [e 0 (by decide)]; exact q0, by rw [e 1 (by decide)]; exact q1, by rw [e 2 (by decide)]; exact q2, by rw [e 2 (by decide)]; exact q2b, by rw [e 3 (by decide)]; exact q3, by rw [e 4 (by decide)]; exact q4, by rw [e 5 (by decide)]; exact q5, by rw [e 6 (by decide)]; exact q6, by rw [e 7 (by decide)]; exact q7, ?_, by rw [e 9 (by decide), e 3 (by decide)]; exact q9, by rw [e 10 (by decide), e 2 (by decide)]; exact q10, by rw [e 11 (by decide)]; exact q11, by rw [e 12 (by decide)]; exact q12, by rw [e 13 (by decide)]; exact q13⟩
  show (if 11 = 11 ∧ j = k ∧ 8 = 8 then 1 else C 11 j 8) < 2
  split <;> omega
set_option maxHeartbeats 4000000 in
set_option maxRecDepth 100000 in
theorem k_X6_cancel (Z : Zp) (l : Launch) (A : AF) (C : CF) (x : Int32) (hK : OkK C) (hfl : l.stackTraces = false) : CtS Z l yX6_cancel wsX6_cancel ({ frames := 7, cells := 2, slots := 12, locals := 112 }) [.ref (A 0 0), .int x] A C 2 12 (fun v A2 C2 => A = A2 ∧ (∃ k_2 : Nat, k_2 < C 0 0 5 ∧ nI k_2 = x ∧ C 11 k_2 8 = 0 ∧ C 11 k_2 9 < C 11 k_2 3 ∧ (up3 C 11 k_2 8 1) = C2 ∧ some (.int (nI ((up3 C 11 k_2 8 1) 11 k_2 3 - (up3 C 11 k_2 8 1) 11 k_2 9))) = v)) (fun E A2 C2 => A = A2 ∧ ((E = "java/lang/IndexOutOfBoundsException" ∧ (∀ k : Nat, k < C 0 0 5 → nI k ≠ x) ∧ C = C2) ∨ (∃ k_2 : Nat, E = "java/lang/IllegalStateException" ∧ k_2 < C 0 0 5 ∧ nI k_2 = x ∧ ¬ (C 11 k_2 8 = 0 ∧ C 11 k_2 9 < C 11 k_2 3) ∧ C = C2))) := by
  refine CtS.of (cc0 := cX6_cancel) (maxL := 3) (ret := (some .int)) (by decide) rfl (Nat.le_of_ble_eq_true rfl) ?_
  intro M0_ p_ e_ s_ m_ args_ below_ meth_ c_ S hz hml hex hlo hr hin
  refine s_loc (L2 := [(0, .ref (A 0 0)), (1, .int x)]) rfl ?_
  have i_RX1 : ∀ w ∈ u_ws RX1 TX1 14, w ∈ wsX6_cancel := by decide +kernel
  obtain ⟨⟨k3, k4, k5, k6, k7, k8⟩, kU, kP, kT, kJ, kL, kE, kB⟩ := id hK
  refine s_aload_n (pc := 0) S 0 dX6_cancel_0 rfl rfl ?_
  refine s_iload_n (pc := 1) S 1 dX6_cancel_1 rfl rfl ?_
  refine s_callV (pc := 2) S hz hml [.int x] (k_X6_jobAt Z l A C x k5 hfl) (cwV 1 S.2.2.2.2 gX6_cancel_X6_jobAt rfl rfl rfl (by decide +kernel) ⟨Nat.le_of_ble_eq_true rfl, Nat.le_of_ble_eq_true rfl⟩) (cc_farm (A := A) (C := C)) rfl rfl rfl (Nat.le_of_ble_eq_true rfl) dX6_cancel_2 ⟨Nat.le_of_ble_eq_true rfl, Nat.le_of_ble_eq_true rfl⟩ (fun E A2 C2 h_1 => ?_) (fun v A2 C2 h_1 => ?_)
  · obtain ⟨rfl, rfl, n_4, rfl⟩ := h_1
    exact s_out S hz hex hlo ⟨rfl, Or.inl ⟨rfl, n_4, rfl⟩⟩ (Nat.le_of_ble_eq_true rfl) (Nat.le_of_ble_eq_true rfl)
  · obtain ⟨rfl, rfl, k_2, hk_3, rfl, rfl⟩ := h_1
    obtain ⟨o_5, o_6, o_7, o_8, o_9, o_10, o_11, o_12, o_13, o_14, o_15, o_16, o_17, o_18, o_19⟩ := kJ k_2 hk_3
    refine s_astore_n (pc := 5) S [(2, .ref (A 11 k_2)), (0, .ref (A 0 0)), (1, .int (nI k_2))] dX6_cancel_5 rfl (by decide) rfl ?_
    refine s_aload_n (pc := 6) S 0 dX6_cancel_6 rfl rfl ?_
    refine s_callV (pc := 7) S hz hml [] (k_X1_isHeld Z l A C k_2 hk_3 hK) (cwV 0 S.2.2.2.2 gX6_cancel_X1_isHeld rfl rfl rfl (by decide +kernel) ⟨Nat.le_of_ble_eq_true rfl, Nat.le_of_ble_eq_true rfl⟩) (cc_job (A := A) (C := C) hk_3) rfl rfl rfl (Nat.le_of_ble_eq_true rfl) dX6_cancel_7 ⟨Nat.le_of_ble_eq_true rfl, Nat.le_of_ble_eq_true rfl⟩ (fun _ _ _ h => h.elim) (fun v A2 C2 h_20 => ?_)
    rcases h_20 with ⟨rfl, rfl, ⟨p_21, p_22, rfl⟩ | ⟨p_23, rfl⟩⟩
    · refine s_if_neN (pc := 10) S 23 dX6_cancel_10 (by decide) (by decide) (fun _ => ?_) (fun h => absurd h (by decide))
      refine s_aload_n (pc := 23) S 0 dX6_cancel_23 rfl rfl ?_
      refine s_iconst (pc := 24) S (v := (nI 1)) dX6_cancel_24 (by decide) ?_
      refine s_put (pc := 25) S hz (ref := "SpoolFarm$Job") (ty := .boolean) (cc_job (A := A) (C := C) hk_3) i_RX1 tyX1 tyX1_ok nmX1 rfl 8 (Nat.le_of_ble_eq_true rfl) (by decide +kernel) (fun _ h => h) rfl (by decide +kernel) (nar_z (by omega)) (fit_z (by omega)) (Nat.le_of_ble_eq_true rfl) (up3 C 11 k_2 8 1) cu_job (by rw [(cc_job (A := A) (C := (up3 C 11 k_2 8 1)) hk_3), up3_u]; rfl) dX6_cancel_25 ?_
      refine s_aload_n (pc := 28) S 0 dX6_cancel_28 rfl rfl ?_
      have hK2 : OkK (up3 C 11 k_2 8 1) := okk_cancel hK
      refine s_callV (pc := 29) S hz hml [] (k_X1_pagesToCome Z l A (up3 C 11 k_2 8 1) k_2 hk_3 hK2) (cwV 0 S.2.2.2.2 gX6_cancel_X1_pagesToCome rfl rfl rfl (by decide +kernel) ⟨Nat.le_of_ble_eq_true rfl, Nat.le_of_ble_eq_true rfl⟩) (cc_job (A := A) (C := (up3 C 11 k_2 8 1)) hk_3) rfl rfl rfl (Nat.le_of_ble_eq_true rfl) dX6_cancel_29 ⟨Nat.le_of_ble_eq_true rfl, Nat.le_of_ble_eq_true rfl⟩ (fun _ _ _ h => h.elim) (fun v A2 C2 h_24 => ?_)
      obtain ⟨rfl, rfl, rfl⟩ := h_24
      exact s_iret (pc := 32) S hz hlo hr ⟨rfl, ⟨k_2, hk_3, rfl, p_21, p_22, rfl, rfl⟩⟩ (Nat.le_of_ble_eq_true rfl) (Nat.le_of_ble_eq_true rfl) dX6_cancel_32
    · refine s_if_neN (pc := 10) S 23 dX6_cancel_10 (by decide) (by decide) (fun h => absurd h (by decide)) (fun _ => ?_)
      exact s_thr (pc := 13) (text := "the job is done or canceled") S hz hfl hml hex hlo thr_ISE (by decide +kernel) (by decide +kernel) (by decide +kernel) (by decide +kernel) dX6_cancel_13 dX6_cancel_16 dX6_cancel_17 dX6_cancel_19 dX6_cancel_22 (Nat.le_of_ble_eq_true rfl) (Nat.le_of_ble_eq_true rfl) (Nat.le_of_ble_eq_true rfl) (Nat.le_of_ble_eq_true rfl) ⟨rfl, Or.inr (⟨k_2, rfl, hk_3, rfl, p_23, rfl⟩)⟩ (Nat.le_of_ble_eq_true rfl) (Nat.le_of_ble_eq_true rfl)
set_option maxHeartbeats 4000000 in
set_option maxRecDepth 100000 in
theorem k_X6_stateOf (Z : Zp) (l : Launch) (A : AF) (C : CF) (x : Int32) (hK : OkK C) (hfl : l.stackTraces = false) : CtS Z l yX6_stateOf wsX6_stateOf ({ frames := 7, cells := 1, slots := 6, locals := 112 }) [.ref (A 0 0), .int x] A C 1 6 (fun v A2 C2 => A = A2 ∧ ((∃ k_2 : Nat, k_2 < C 0 0 5 ∧ nI k_2 = x ∧ C 11 k_2 8 = 0 ∧ ¬ C 11 k_2 3 - C 11 k_2 9 = 0 ∧ ¬ C 11 k_2 9 = 0 ∧ C = C2 ∧ some (.int (nI 112)) = v) ∨ (∃ k_2 : Nat, k_2 < C 0 0 5 ∧ nI k_2 = x ∧ C 11 k_2 8 = 0 ∧ ¬ C 11 k_2 3 - C 11 k_2 9 = 0 ∧ C 11 k_2 9 = 0 ∧ C = C2 ∧ some (.int (nI 104)) = v) ∨ (∃ k_2 : Nat, k_2 < C 0 0 5 ∧ nI k_2 = x ∧ C 11 k_2 8 = 0 ∧ C 11 k_2 3 - C 11 k_2 9 = 0 ∧ C = C2 ∧ some (.int (nI 100)) = v) ∨ (∃ k_2 : Nat, k_2 < C 0 0 5 ∧ nI k_2 = x ∧ ¬ C 11 k_2 8 = 0 ∧ C = C2 ∧ some (.int (nI 120)) = v))) (fun E A2 C2 => A = A2 ∧ (E = "java/lang/IndexOutOfBoundsException" ∧ (∀ k : Nat, k < C 0 0 5 → nI k ≠ x) ∧ C = C2)) := by
  refine CtS.of (cc0 := cX6_stateOf) (maxL := 3) (ret := (some .char)) (by decide) rfl (Nat.le_of_ble_eq_true rfl) ?_
  intro M0_ p_ e_ s_ m_ args_ below_ meth_ c_ S hz hml hex hlo hr hin
  refine s_loc (L2 := [(0, .ref (A 0 0)), (1, .int x)]) rfl ?_
  have i_RX1 : ∀ w ∈ u_ws RX1 TX1 14, w ∈ wsX6_stateOf := by decide +kernel
  obtain ⟨⟨k3, k4, k5, k6, k7, k8⟩, kU, kP, kT, kJ, kL, kE, kB⟩ := id hK
  refine s_aload_n (pc := 0) S 0 dX6_stateOf_0 rfl rfl ?_
  refine s_iload_n (pc := 1) S 1 dX6_stateOf_1 rfl rfl ?_
  refine s_callV (pc := 2) S hz hml [.int x] (k_X6_jobAt Z l A C x k5 hfl) (cwV 1 S.2.2.2.2 gX6_stateOf_X6_jobAt rfl rfl rfl (by decide +kernel) ⟨Nat.le_of_ble_eq_true rfl, Nat.le_of_ble_eq_true rfl⟩) (cc_farm (A := A) (C := C)) rfl rfl rfl (Nat.le_of_ble_eq_true rfl) dX6_stateOf_2 ⟨Nat.le_of_ble_eq_true rfl, Nat.le_of_ble_eq_true rfl⟩ (fun E A2 C2 h_1 => ?_) (fun v A2 C2 h_1 => ?_)
  · obtain ⟨rfl, rfl, n_4, rfl⟩ := h_1
    exact s_out S hz hex hlo ⟨rfl, ⟨rfl, n_4, rfl⟩⟩ (Nat.le_of_ble_eq_true rfl) (Nat.le_of_ble_eq_true rfl)
  · obtain ⟨rfl, rfl, k_2, hk_3, rfl, rfl⟩ := h_1
    obtain ⟨o_5, o_6, o_7, o_8, o_9, o_10, o_11, o_12, o_13, o_14, o_15, o_16, o_17, o_18, o_19⟩ := kJ k_2 hk_3
    refine s_astore_n (pc := 5) S [(2, .ref (A 11 k_2)), (0, .ref (A 0 0)), (1, .int (nI k_2))] dX6_stateOf_5 rfl (by decide) rfl ?_
    refine s_aload_n (pc := 6) S 0 dX6_stateOf_6 rfl rfl ?_
    refine s_get (pc := 7) S hz (ref := "SpoolFarm$Job") (v := .int (nI (C 11 k_2 8))) (cc_job (A := A) (C := C) hk_3) i_RX1 rfl 8 (Nat.le_of_ble_eq_true rfl) (by decide +kernel) (fun _ h => h) rfl dX6_stateOf_7 ?_
    refine s_if_eqN (pc := 10) S 16 dX6_stateOf_10 (by decide) (by omega) (fun c_20 => ?_) (fun c_20 => ?_)
    · refine s_aload_n (pc := 16) S 0 dX6_stateOf_16 rfl rfl ?_
      refine s_callV (pc := 17) S hz hml [] (k_X1_pagesToCome Z l A C k_2 hk_3 hK) (cwV 0 S.2.2.2.2 gX6_stateOf_X1_pagesToCome rfl rfl rfl (by decide +kernel) ⟨Nat.le_of_ble_eq_true rfl, Nat.le_of_ble_eq_true rfl⟩) (cc_job (A := A) (C := C) hk_3) rfl rfl rfl (Nat.le_of_ble_eq_true rfl) dX6_stateOf_17 ⟨Nat.le_of_ble_eq_true rfl, Nat.le_of_ble_eq_true rfl⟩ (fun _ _ _ h => h.elim) (fun v A2 C2 h_21 => ?_)
      obtain ⟨rfl, rfl, rfl⟩ := h_21
      refine s_if_neN (pc := 20) S 26 dX6_stateOf_20 (by decide) (by omega) (fun c_22 => ?_) (fun c_22 => ?_)
      · refine s_aload_n (pc := 26) S 0 dX6_stateOf_26 rfl rfl ?_
        refine s_get (pc := 27) S hz (ref := "SpoolFarm$Job") (v := .int (nI (C 11 k_2 9))) (cc_job (A := A) (C := C) hk_3) i_RX1 rfl 9 (Nat.le_of_ble_eq_true rfl) (by decide +kernel) (fun _ h => h) rfl dX6_stateOf_27 ?_
        refine s_if_neN (pc := 30) S 38 dX6_stateOf_30 (by decide) (by omega) (fun c_23 => ?_) (fun c_23 => ?_)
        · refine s_bipush (pc := 38) S (v := (nI 112)) dX6_stateOf_38 (by decide) ?_
          exact s_zret (pc := 40) S hz hlo (nar_c (by omega)) hr ⟨rfl, Or.inl ⟨k_2, hk_3, rfl, c_20, c_22, c_23, rfl, rfl⟩⟩ (Nat.le_of_ble_eq_true rfl) (Nat.le_of_ble_eq_true rfl) dX6_stateOf_40
        · refine s_bipush (pc := 33) S (v := (nI 104)) dX6_stateOf_33 (by decide) ?_
          refine s_goto (pc := 35) S 40 dX6_stateOf_35 (by decide) ?_
          exact s_zret (pc := 40) S hz hlo (nar_c (by omega)) hr ⟨rfl, Or.inr (Or.inl ⟨k_2, hk_3, rfl, c_20, c_22, c_23, rfl, rfl⟩)⟩ (Nat.le_of_ble_eq_true rfl) (Nat.le_of_ble_eq_true rfl) dX6_stateOf_40
      · refine s_bipush (pc := 23) S (v := (nI 100)) dX6_stateOf_23 (by decide) ?_
        exact s_zret (pc := 25) S hz hlo (nar_c (by omega)) hr ⟨rfl, Or.inr (Or.inr (Or.inl ⟨k_2, hk_3, rfl, c_20, c_22, rfl, rfl⟩))⟩ (Nat.le_of_ble_eq_true rfl) (Nat.le_of_ble_eq_true rfl) dX6_stateOf_25
    · refine s_bipush (pc := 13) S (v := (nI 120)) dX6_stateOf_13 (by decide) ?_
      exact s_zret (pc := 15) S hz hlo (nar_c (by omega)) hr ⟨rfl, Or.inr (Or.inr (Or.inr (⟨k_2, hk_3, rfl, c_20, rfl, rfl⟩)))⟩ (Nat.le_of_ble_eq_true rfl) (Nat.le_of_ble_eq_true rfl) dX6_stateOf_15
set_option maxHeartbeats 4000000 in
set_option maxRecDepth 100000 in
theorem k_X6_pagesLeft (Z : Zp) (l : Launch) (A : AF) (C : CF) (x : Int32) (hK : OkK C) (hfl : l.stackTraces = false) : CtS Z l yX6_pagesLeft wsX6_pagesLeft ({ frames := 7, cells := 1, slots := 6, locals := 112 }) [.ref (A 0 0), .int x] A C 1 6 (fun v A2 C2 => A = A2 ∧ (∃ k_2 : Nat, k_2 < C 0 0 5 ∧ nI k_2 = x ∧ C = C2 ∧ some (.int (nI (C 11 k_2 3 - C 11 k_2 9))) = v)) (fun E A2 C2 => A = A2 ∧ (E = "java/lang/IndexOutOfBoundsException" ∧ (∀ k : Nat, k < C 0 0 5 → nI k ≠ x) ∧ C = C2)) := by
  refine CtS.of (cc0 := cX6_pagesLeft) (maxL := 2) (ret := (some .int)) (by decide) rfl (Nat.le_of_ble_eq_true rfl) ?_
  intro M0_ p_ e_ s_ m_ args_ below_ meth_ c_ S hz hml hex hlo hr hin
  refine s_loc (L2 := [(0, .ref (A 0 0)), (1, .int x)]) rfl ?_
  obtain ⟨⟨k3, k4, k5, k6, k7, k8⟩, kU, kP, kT, kJ, kL, kE, kB⟩ := id hK
  refine s_aload_n (pc := 0) S 0 dX6_pagesLeft_0 rfl rfl ?_
  refine s_iload_n (pc := 1) S 1 dX6_pagesLeft_1 rfl rfl ?_
  refine s_callV (pc := 2) S hz hml [.int x] (k_X6_jobAt Z l A C x k5 hfl) (cwV 1 S.2.2.2.2 gX6_pagesLeft_X6_jobAt rfl rfl rfl (by decide +kernel) ⟨Nat.le_of_ble_eq_true rfl, Nat.le_of_ble_eq_true rfl⟩) (cc_farm (A := A) (C := C)) rfl rfl rfl (Nat.le_of_ble_eq_true rfl) dX6_pagesLeft_2 ⟨Nat.le_of_ble_eq_true rfl, Nat.le_of_ble_eq_true rfl⟩ (fun E A2 C2 h_1 => ?_) (fun v A2 C2 h_1 => ?_)
  · obtain ⟨rfl, rfl, n_4, rfl⟩ := h_1
    exact s_out S hz hex hlo ⟨rfl, ⟨rfl, n_4, rfl⟩⟩ (Nat.le_of_ble_eq_true rfl) (Nat.le_of_ble_eq_true rfl)
  · obtain ⟨rfl, rfl, k_2, hk_3, rfl, rfl⟩ := h_1
    obtain ⟨o_5, o_6, o_7, o_8, o_9, o_10, o_11, o_12, o_13, o_14, o_15, o_16, o_17, o_18, o_19⟩ := kJ k_2 hk_3
    refine s_callV (pc := 5) S hz hml [] (k_X1_pagesToCome Z l A C k_2 hk_3 hK) (cwV 0 S.2.2.2.2 gX6_pagesLeft_X1_pagesToCome rfl rfl rfl (by decide +kernel) ⟨Nat.le_of_ble_eq_true rfl, Nat.le_of_ble_eq_true rfl⟩) (cc_job (A := A) (C := C) hk_3) rfl rfl rfl (Nat.le_of_ble_eq_true rfl) dX6_pagesLeft_5 ⟨Nat.le_of_ble_eq_true rfl, Nat.le_of_ble_eq_true rfl⟩ (fun _ _ _ h => h.elim) (fun v A2 C2 h_20 => ?_)
    obtain ⟨rfl, rfl, rfl⟩ := h_20
    exact s_iret (pc := 8) S hz hlo hr ⟨rfl, ⟨k_2, hk_3, rfl, rfl, rfl⟩⟩ (Nat.le_of_ble_eq_true rfl) (Nat.le_of_ble_eq_true rfl) dX6_pagesLeft_8
set_option maxHeartbeats 4000000 in
set_option maxRecDepth 100000 in
theorem k_X6_sheetsOut (Z : Zp) (l : Launch) (A : AF) (C : CF) (x : Int32) (hK : OkK C) (hfl : l.stackTraces = false) : CtS Z l yX6_sheetsOut wsX6_sheetsOut ({ frames := 7, cells := 1, slots := 6, locals := 112 }) [.ref (A 0 0), .int x] A C 1 6 (fun v A2 C2 => A = A2 ∧ (∃ k_2 : Nat, k_2 < C 0 0 5 ∧ nI k_2 = x ∧ C = C2 ∧ some (.int (nI (C 11 k_2 11))) = v)) (fun E A2 C2 => A = A2 ∧ (E = "java/lang/IndexOutOfBoundsException" ∧ (∀ k : Nat, k < C 0 0 5 → nI k ≠ x) ∧ C = C2)) := by
  refine CtS.of (cc0 := cX6_sheetsOut) (maxL := 2) (ret := (some .int)) (by decide) rfl (Nat.le_of_ble_eq_true rfl) ?_
  intro M0_ p_ e_ s_ m_ args_ below_ meth_ c_ S hz hml hex hlo hr hin
  refine s_loc (L2 := [(0, .ref (A 0 0)), (1, .int x)]) rfl ?_
  have i_RX1 : ∀ w ∈ u_ws RX1 TX1 14, w ∈ wsX6_sheetsOut := by decide +kernel
  obtain ⟨⟨k3, k4, k5, k6, k7, k8⟩, kU, kP, kT, kJ, kL, kE, kB⟩ := id hK
  refine s_aload_n (pc := 0) S 0 dX6_sheetsOut_0 rfl rfl ?_
  refine s_iload_n (pc := 1) S 1 dX6_sheetsOut_1 rfl rfl ?_
  refine s_callV (pc := 2) S hz hml [.int x] (k_X6_jobAt Z l A C x k5 hfl) (cwV 1 S.2.2.2.2 gX6_sheetsOut_X6_jobAt rfl rfl rfl (by decide +kernel) ⟨Nat.le_of_ble_eq_true rfl, Nat.le_of_ble_eq_true rfl⟩) (cc_farm (A := A) (C := C)) rfl rfl rfl (Nat.le_of_ble_eq_true rfl) dX6_sheetsOut_2 ⟨Nat.le_of_ble_eq_true rfl, Nat.le_of_ble_eq_true rfl⟩ (fun E A2 C2 h_1 => ?_) (fun v A2 C2 h_1 => ?_)
  · obtain ⟨rfl, rfl, n_4, rfl⟩ := h_1
    exact s_out S hz hex hlo ⟨rfl, ⟨rfl, n_4, rfl⟩⟩ (Nat.le_of_ble_eq_true rfl) (Nat.le_of_ble_eq_true rfl)
  · obtain ⟨rfl, rfl, k_2, hk_3, rfl, rfl⟩ := h_1
    obtain ⟨o_5, o_6, o_7, o_8, o_9, o_10, o_11, o_12, o_13, o_14, o_15, o_16, o_17, o_18, o_19⟩ := kJ k_2 hk_3
    refine s_get (pc := 5) S hz (ref := "SpoolFarm$Job") (v := .int (nI (C 11 k_2 11))) (cc_job (A := A) (C := C) hk_3) i_RX1 rfl 11 (Nat.le_of_ble_eq_true rfl) (by decide +kernel) (fun _ h => h) rfl dX6_sheetsOut_5 ?_
    exact s_iret (pc := 8) S hz hlo hr ⟨rfl, ⟨k_2, hk_3, rfl, rfl, rfl⟩⟩ (Nat.le_of_ble_eq_true rfl) (Nat.le_of_ble_eq_true rfl) dX6_sheetsOut_8
set_option maxHeartbeats 4000000 in
set_option maxRecDepth 100000 in
theorem k_X6_stapledCopies (Z : Zp) (l : Launch) (A : AF) (C : CF) (x : Int32) (hK : OkK C) (hfl : l.stackTraces = false) : CtS Z l yX6_stapledCopies wsX6_stapledCopies ({ frames := 7, cells := 1, slots := 6, locals := 112 }) [.ref (A 0 0), .int x] A C 1 6 (fun v A2 C2 => A = A2 ∧ (∃ k_2 : Nat, k_2 < C 0 0 5 ∧ nI k_2 = x ∧ C = C2 ∧ some (.int (nI (C 11 k_2 12))) = v)) (fun E A2 C2 => A = A2 ∧ (E = "java/lang/IndexOutOfBoundsException" ∧ (∀ k : Nat, k < C 0 0 5 → nI k ≠ x) ∧ C = C2)) := by
  refine CtS.of (cc0 := cX6_stapledCopies) (maxL := 2) (ret := (some .int)) (by decide) rfl (Nat.le_of_ble_eq_true rfl) ?_
  intro M0_ p_ e_ s_ m_ args_ below_ meth_ c_ S hz hml hex hlo hr hin
  refine s_loc (L2 := [(0, .ref (A 0 0)), (1, .int x)]) rfl ?_
  have i_RX1 : ∀ w ∈ u_ws RX1 TX1 14, w ∈ wsX6_stapledCopies := by decide +kernel
  obtain ⟨⟨k3, k4, k5, k6, k7, k8⟩, kU, kP, kT, kJ, kL, kE, kB⟩ := id hK
  refine s_aload_n (pc := 0) S 0 dX6_stapledCopies_0 rfl rfl ?_
  refine s_iload_n (pc := 1) S 1 dX6_stapledCopies_1 rfl rfl ?_
  refine s_callV (pc := 2) S hz hml [.int x] (k_X6_jobAt Z l A C x k5 hfl) (cwV 1 S.2.2.2.2 gX6_stapledCopies_X6_jobAt rfl rfl rfl (by decide +kernel) ⟨Nat.le_of_ble_eq_true rfl, Nat.le_of_ble_eq_true rfl⟩) (cc_farm (A := A) (C := C)) rfl rfl rfl (Nat.le_of_ble_eq_true rfl) dX6_stapledCopies_2 ⟨Nat.le_of_ble_eq_true rfl, Nat.le_of_ble_eq_true rfl⟩ (fun E A2 C2 h_1 => ?_) (fun v A2 C2 h_1 => ?_)
  · obtain ⟨rfl, rfl, n_4, rfl⟩ := h_1
    exact s_out S hz hex hlo ⟨rfl, ⟨rfl, n_4, rfl⟩⟩ (Nat.le_of_ble_eq_true rfl) (Nat.le_of_ble_eq_true rfl)
  · obtain ⟨rfl, rfl, k_2, hk_3, rfl, rfl⟩ := h_1
    obtain ⟨o_5, o_6, o_7, o_8, o_9, o_10, o_11, o_12, o_13, o_14, o_15, o_16, o_17, o_18, o_19⟩ := kJ k_2 hk_3
    refine s_get (pc := 5) S hz (ref := "SpoolFarm$Job") (v := .int (nI (C 11 k_2 12))) (cc_job (A := A) (C := C) hk_3) i_RX1 rfl 12 (Nat.le_of_ble_eq_true rfl) (by decide +kernel) (fun _ h => h) rfl dX6_stapledCopies_5 ?_
    exact s_iret (pc := 8) S hz hlo hr ⟨rfl, ⟨k_2, hk_3, rfl, rfl, rfl⟩⟩ (Nat.le_of_ble_eq_true rfl) (Nat.le_of_ble_eq_true rfl) dX6_stapledCopies_8
set_option maxHeartbeats 4000000 in
set_option maxRecDepth 100000 in
theorem k_X6_stopOf (Z : Zp) (l : Launch) (A : AF) (C : CF) (x : Int32) (hK : OkK C) (hfl : l.stackTraces = false) : CtS Z l yX6_stopOf wsX6_stopOf ({ frames := 7, cells := 2, slots := 12, locals := 112 }) [.ref (A 0 0), .int x] A C 2 12 (fun v A2 C2 => A = A2 ∧ (∃ k_2 : Nat, k_2 < C 0 0 5 ∧ nI k_2 = x ∧ ¬ C 11 k_2 13 = 45 ∧ C = C2 ∧ some (.int (nI (C 11 k_2 13))) = v)) (fun E A2 C2 => A = A2 ∧ ((E = "java/lang/IndexOutOfBoundsException" ∧ (∀ k : Nat, k < C 0 0 5 → nI k ≠ x) ∧ C = C2) ∨ (∃ k_2 : Nat, E = "java/util/NoSuchElementException" ∧ k_2 < C 0 0 5 ∧ nI k_2 = x ∧ C 11 k_2 13 = 45 ∧ C = C2))) := by
  refine CtS.of (cc0 := cX6_stopOf) (maxL := 3) (ret := (some .char)) (by decide) rfl (Nat.le_of_ble_eq_true rfl) ?_
  intro M0_ p_ e_ s_ m_ args_ below_ meth_ c_ S hz hml hex hlo hr hin
  refine s_loc (L2 := [(0, .ref (A 0 0)), (1, .int x)]) rfl ?_
  have i_RX1 : ∀ w ∈ u_ws RX1 TX1 14, w ∈ wsX6_stopOf := by decide +kernel
  obtain ⟨⟨k3, k4, k5, k6, k7, k8⟩, kU, kP, kT, kJ, kL, kE, kB⟩ := id hK
  refine s_aload_n (pc := 0) S 0 dX6_stopOf_0 rfl rfl ?_
  refine s_iload_n (pc := 1) S 1 dX6_stopOf_1 rfl rfl ?_
  refine s_callV (pc := 2) S hz hml [.int x] (k_X6_jobAt Z l A C x k5 hfl) (cwV 1 S.2.2.2.2 gX6_stopOf_X6_jobAt rfl rfl rfl (by decide +kernel) ⟨Nat.le_of_ble_eq_true rfl, Nat.le_of_ble_eq_true rfl⟩) (cc_farm (A := A) (C := C)) rfl rfl rfl (Nat.le_of_ble_eq_true rfl) dX6_stopOf_2 ⟨Nat.le_of_ble_eq_true rfl, Nat.le_of_ble_eq_true rfl⟩ (fun E A2 C2 h_1 => ?_) (fun v A2 C2 h_1 => ?_)
  · obtain ⟨rfl, rfl, n_4, rfl⟩ := h_1
    exact s_out S hz hex hlo ⟨rfl, Or.inl ⟨rfl, n_4, rfl⟩⟩ (Nat.le_of_ble_eq_true rfl) (Nat.le_of_ble_eq_true rfl)
  · obtain ⟨rfl, rfl, k_2, hk_3, rfl, rfl⟩ := h_1
    obtain ⟨o_5, o_6, o_7, o_8, o_9, o_10, o_11, o_12, o_13, o_14, o_15, o_16, o_17, o_18, o_19⟩ := kJ k_2 hk_3
    refine s_astore_n (pc := 5) S [(2, .ref (A 11 k_2)), (0, .ref (A 0 0)), (1, .int (nI k_2))] dX6_stopOf_5 rfl (by decide) rfl ?_
    refine s_aload_n (pc := 6) S 0 dX6_stopOf_6 rfl rfl ?_
    refine s_get (pc := 7) S hz (ref := "SpoolFarm$Job") (v := .int (nI (C 11 k_2 13))) (cc_job (A := A) (C := C) hk_3) i_RX1 rfl 13 (Nat.le_of_ble_eq_true rfl) (by decide +kernel) (fun _ h => h) rfl dX6_stopOf_7 ?_
    refine s_bipush (pc := 10) S (v := (nI 45)) dX6_stopOf_10 (by decide) ?_
    refine s_icmp_neN (pc := 12) S 25 dX6_stopOf_12 (by decide) (by omega) (by omega) (fun c_20 => ?_) (fun c_20 => ?_)
    · refine s_aload_n (pc := 25) S 0 dX6_stopOf_25 rfl rfl ?_
      refine s_get (pc := 26) S hz (ref := "SpoolFarm$Job") (v := .int (nI (C 11 k_2 13))) (cc_job (A := A) (C := C) hk_3) i_RX1 rfl 13 (Nat.le_of_ble_eq_true rfl) (by decide +kernel) (fun _ h => h) rfl dX6_stopOf_26 ?_
      exact s_zret (pc := 29) S hz hlo (nar_c (by omega)) hr ⟨rfl, ⟨k_2, hk_3, rfl, c_20, rfl, rfl⟩⟩ (Nat.le_of_ble_eq_true rfl) (Nat.le_of_ble_eq_true rfl) dX6_stopOf_29
    · exact s_throwN (pc := 15) (text := "the job has not been released") S hz hfl hml hex hlo (by decide +kernel) (by decide +kernel) (by decide +kernel) (by decide +kernel) dX6_stopOf_15 dX6_stopOf_18 dX6_stopOf_19 dX6_stopOf_21 dX6_stopOf_24 (Nat.le_of_ble_eq_true rfl) (Nat.le_of_ble_eq_true rfl) (Nat.le_of_ble_eq_true rfl) (Nat.le_of_ble_eq_true rfl) ⟨rfl, Or.inr (⟨k_2, rfl, hk_3, rfl, c_20, rfl⟩)⟩ (Nat.le_of_ble_eq_true rfl) (Nat.le_of_ble_eq_true rfl)
set_option maxHeartbeats 4000000 in
set_option maxRecDepth 100000 in
theorem k_X6_logSize (Z : Zp) (l : Launch) (A : AF) (C : CF) (hK : OkK C) : CtS Z l yX6_logSize wsX6_logSize ({ frames := 1, cells := 0, slots := 0, locals := 20 }) [.ref (A 0 0)] A C 0 0 (fun v A2 C2 => A = A2 ∧ (C = C2 ∧ some (.int (nI (C 4 0 2))) = v)) (fun _ _ _ => False) := by
  refine CtS.of (cc0 := cX6_logSize) (maxL := 1) (ret := (some .int)) (by decide) rfl (Nat.le_of_ble_eq_true rfl) ?_
  intro M0_ p_ e_ s_ m_ args_ below_ meth_ c_ S hz hml hex hlo hr hin
  refine s_loc (L2 := [(0, .ref (A 0 0))]) rfl ?_
  have i_RX6 : ∀ w ∈ u_ws RX6 TX6 12, w ∈ wsX6_logSize := by decide +kernel
  obtain ⟨⟨k3, k4, k5, k6, k7, k8⟩, kU, kP, kT, kJ, kL, kE, kB⟩ := id hK
  refine s_aload_n (pc := 0) S 0 dX6_logSize_0 rfl rfl ?_
  refine s_get (pc := 1) S hz (ref := "SpoolFarm") (v := .ref (A 4 0)) (cc_farm (A := A) (C := C)) i_RX6 rfl 9 (Nat.le_of_ble_eq_true rfl) (by decide +kernel) (fun _ h => h) rfl dX6_logSize_1 ?_
  refine s_callV (pc := 4) S hz hml [] (k_logSize Z l A C) (cwV 0 S.2.2.2.2 gX6_logSize_Jx4a65c_size_8abf5 rfl rfl rfl (by decide +kernel) ⟨Nat.le_of_ble_eq_true rfl, Nat.le_of_ble_eq_true rfl⟩) (cc_list (A := A) (C := C)) rfl rfl rfl (Nat.le_of_ble_eq_true rfl) dX6_logSize_4 ⟨Nat.le_of_ble_eq_true rfl, Nat.le_of_ble_eq_true rfl⟩ (fun _ _ _ h => h.elim) (fun v A2 C2 h_1 => ?_)
  obtain ⟨rfl, rfl, rfl⟩ := h_1
  exact s_iret (pc := 7) S hz hlo hr ⟨rfl, ⟨rfl, rfl⟩⟩ (Nat.le_of_ble_eq_true rfl) (Nat.le_of_ble_eq_true rfl) dX6_logSize_7
set_option maxHeartbeats 4000000 in
set_option maxRecDepth 100000 in
theorem k_X6_logJob (Z : Zp) (l : Launch) (A : AF) (C : CF) (x : Int32) (hK : OkK C) (hfl : l.stackTraces = false) : CtS Z l yX6_logJob wsX6_logJob ({ frames := 7, cells := 1, slots := 6, locals := 111 }) [.ref (A 0 0), .int x] A C 1 6 (fun v A2 C2 => A = A2 ∧ (∃ k_2 : Nat, k_2 < C 4 0 2 ∧ nI k_2 = x ∧ C = C2 ∧ some (.int (nI (C 13 k_2 0))) = v)) (fun E A2 C2 => A = A2 ∧ (E = "java/lang/IndexOutOfBoundsException" ∧ (∀ k : Nat, k < C 4 0 2 → nI k ≠ x) ∧ C = C2)) := by
  refine CtS.of (cc0 := cX6_logJob) (maxL := 2) (ret := (some .int)) (by decide) rfl (Nat.le_of_ble_eq_true rfl) ?_
  intro M0_ p_ e_ s_ m_ args_ below_ meth_ c_ S hz hml hex hlo hr hin
  refine s_loc (L2 := [(0, .ref (A 0 0)), (1, .int x)]) rfl ?_
  have i_RX0 : ∀ w ∈ u_ws RX0 TX0 6, w ∈ wsX6_logJob := by decide +kernel
  obtain ⟨⟨k3, k4, k5, k6, k7, k8⟩, kU, kP, kT, kJ, kL, kE, kB⟩ := id hK
  refine s_aload_n (pc := 0) S 0 dX6_logJob_0 rfl rfl ?_
  refine s_iload_n (pc := 1) S 1 dX6_logJob_1 rfl rfl ?_
  refine s_callV (pc := 2) S hz hml [.int x] (k_X6_entryAt Z l A C x hK hfl) (cwV 1 S.2.2.2.2 gX6_logJob_X6_entryAt rfl rfl rfl (by decide +kernel) ⟨Nat.le_of_ble_eq_true rfl, Nat.le_of_ble_eq_true rfl⟩) (cc_farm (A := A) (C := C)) rfl rfl rfl (Nat.le_of_ble_eq_true rfl) dX6_logJob_2 ⟨Nat.le_of_ble_eq_true rfl, Nat.le_of_ble_eq_true rfl⟩ (fun E A2 C2 h_1 => ?_) (fun v A2 C2 h_1 => ?_)
  · obtain ⟨rfl, rfl, n_4, rfl⟩ := h_1
    exact s_out S hz hex hlo ⟨rfl, ⟨rfl, n_4, rfl⟩⟩ (Nat.le_of_ble_eq_true rfl) (Nat.le_of_ble_eq_true rfl)
  · obtain ⟨rfl, rfl, k_2, hk_3, rfl, rfl⟩ := h_1
    obtain ⟨o_5, o_6, o_7, o_8, o_9, o_10⟩ := kE k_2 hk_3
    refine s_get (pc := 5) S hz (ref := "SpoolFarm$Entry") (v := .int (nI (C 13 k_2 0))) (cc_entry (A := A) (C := C) hk_3) i_RX0 rfl 0 (Nat.le_of_ble_eq_true rfl) (by decide +kernel) (fun _ h => h) rfl dX6_logJob_5 ?_
    exact s_iret (pc := 8) S hz hlo hr ⟨rfl, ⟨k_2, hk_3, rfl, rfl, rfl⟩⟩ (Nat.le_of_ble_eq_true rfl) (Nat.le_of_ble_eq_true rfl) dX6_logJob_8
set_option maxHeartbeats 4000000 in
set_option maxRecDepth 100000 in
theorem k_X6_logPrinter (Z : Zp) (l : Launch) (A : AF) (C : CF) (x : Int32) (hK : OkK C) (hfl : l.stackTraces = false) : CtS Z l yX6_logPrinter wsX6_logPrinter ({ frames := 7, cells := 1, slots := 6, locals := 111 }) [.ref (A 0 0), .int x] A C 1 6 (fun v A2 C2 => A = A2 ∧ (∃ k_2 : Nat, k_2 < C 4 0 2 ∧ nI k_2 = x ∧ C = C2 ∧ some (.int (nI (C 13 k_2 2))) = v)) (fun E A2 C2 => A = A2 ∧ (E = "java/lang/IndexOutOfBoundsException" ∧ (∀ k : Nat, k < C 4 0 2 → nI k ≠ x) ∧ C = C2)) := by
  refine CtS.of (cc0 := cX6_logPrinter) (maxL := 2) (ret := (some .int)) (by decide) rfl (Nat.le_of_ble_eq_true rfl) ?_
  intro M0_ p_ e_ s_ m_ args_ below_ meth_ c_ S hz hml hex hlo hr hin
  refine s_loc (L2 := [(0, .ref (A 0 0)), (1, .int x)]) rfl ?_
  have i_RX0 : ∀ w ∈ u_ws RX0 TX0 6, w ∈ wsX6_logPrinter := by decide +kernel
  obtain ⟨⟨k3, k4, k5, k6, k7, k8⟩, kU, kP, kT, kJ, kL, kE, kB⟩ := id hK
  refine s_aload_n (pc := 0) S 0 dX6_logPrinter_0 rfl rfl ?_
  refine s_iload_n (pc := 1) S 1 dX6_logPrinter_1 rfl rfl ?_
  refine s_callV (pc := 2) S hz hml [.int x] (k_X6_entryAt Z l A C x hK hfl) (cwV 1 S.2.2.2.2 gX6_logPrinter_X6_entryAt rfl rfl rfl (by decide +kernel) ⟨Nat.le_of_ble_eq_true rfl, Nat.le_of_ble_eq_true rfl⟩) (cc_farm (A := A) (C := C)) rfl rfl rfl (Nat.le_of_ble_eq_true rfl) dX6_logPrinter_2 ⟨Nat.le_of_ble_eq_true rfl, Nat.le_of_ble_eq_true rfl⟩ (fun E A2 C2 h_1 => ?_) (fun v A2 C2 h_1 => ?_)
  · obtain ⟨rfl, rfl, n_4, rfl⟩ := h_1
    exact s_out S hz hex hlo ⟨rfl, ⟨rfl, n_4, rfl⟩⟩ (Nat.le_of_ble_eq_true rfl) (Nat.le_of_ble_eq_true rfl)
  · obtain ⟨rfl, rfl, k_2, hk_3, rfl, rfl⟩ := h_1
    obtain ⟨o_5, o_6, o_7, o_8, o_9, o_10⟩ := kE k_2 hk_3
    refine s_get (pc := 5) S hz (ref := "SpoolFarm$Entry") (v := .int (nI (C 13 k_2 2))) (cc_entry (A := A) (C := C) hk_3) i_RX0 rfl 2 (Nat.le_of_ble_eq_true rfl) (by decide +kernel) (fun _ h => h) rfl dX6_logPrinter_5 ?_
    exact s_iret (pc := 8) S hz hlo hr ⟨rfl, ⟨k_2, hk_3, rfl, rfl, rfl⟩⟩ (Nat.le_of_ble_eq_true rfl) (Nat.le_of_ble_eq_true rfl) dX6_logPrinter_8
set_option maxHeartbeats 4000000 in
set_option maxRecDepth 100000 in
theorem k_X6_logPages (Z : Zp) (l : Launch) (A : AF) (C : CF) (x : Int32) (hK : OkK C) (hfl : l.stackTraces = false) : CtS Z l yX6_logPages wsX6_logPages ({ frames := 7, cells := 1, slots := 6, locals := 111 }) [.ref (A 0 0), .int x] A C 1 6 (fun v A2 C2 => A = A2 ∧ (∃ k_2 : Nat, k_2 < C 4 0 2 ∧ nI k_2 = x ∧ C = C2 ∧ some (.int (nI (C 13 k_2 3))) = v)) (fun E A2 C2 => A = A2 ∧ (E = "java/lang/IndexOutOfBoundsException" ∧ (∀ k : Nat, k < C 4 0 2 → nI k ≠ x) ∧ C = C2)) := by
  refine CtS.of (cc0 := cX6_logPages) (maxL := 2) (ret := (some .int)) (by decide) rfl (Nat.le_of_ble_eq_true rfl) ?_
  intro M0_ p_ e_ s_ m_ args_ below_ meth_ c_ S hz hml hex hlo hr hin
  refine s_loc (L2 := [(0, .ref (A 0 0)), (1, .int x)]) rfl ?_
  have i_RX0 : ∀ w ∈ u_ws RX0 TX0 6, w ∈ wsX6_logPages := by decide +kernel
  obtain ⟨⟨k3, k4, k5, k6, k7, k8⟩, kU, kP, kT, kJ, kL, kE, kB⟩ := id hK
  refine s_aload_n (pc := 0) S 0 dX6_logPages_0 rfl rfl ?_
  refine s_iload_n (pc := 1) S 1 dX6_logPages_1 rfl rfl ?_
  refine s_callV (pc := 2) S hz hml [.int x] (k_X6_entryAt Z l A C x hK hfl) (cwV 1 S.2.2.2.2 gX6_logPages_X6_entryAt rfl rfl rfl (by decide +kernel) ⟨Nat.le_of_ble_eq_true rfl, Nat.le_of_ble_eq_true rfl⟩) (cc_farm (A := A) (C := C)) rfl rfl rfl (Nat.le_of_ble_eq_true rfl) dX6_logPages_2 ⟨Nat.le_of_ble_eq_true rfl, Nat.le_of_ble_eq_true rfl⟩ (fun E A2 C2 h_1 => ?_) (fun v A2 C2 h_1 => ?_)
  · obtain ⟨rfl, rfl, n_4, rfl⟩ := h_1
    exact s_out S hz hex hlo ⟨rfl, ⟨rfl, n_4, rfl⟩⟩ (Nat.le_of_ble_eq_true rfl) (Nat.le_of_ble_eq_true rfl)
  · obtain ⟨rfl, rfl, k_2, hk_3, rfl, rfl⟩ := h_1
    obtain ⟨o_5, o_6, o_7, o_8, o_9, o_10⟩ := kE k_2 hk_3
    refine s_get (pc := 5) S hz (ref := "SpoolFarm$Entry") (v := .int (nI (C 13 k_2 3))) (cc_entry (A := A) (C := C) hk_3) i_RX0 rfl 3 (Nat.le_of_ble_eq_true rfl) (by decide +kernel) (fun _ h => h) rfl dX6_logPages_5 ?_
    exact s_iret (pc := 8) S hz hlo hr ⟨rfl, ⟨k_2, hk_3, rfl, rfl, rfl⟩⟩ (Nat.le_of_ble_eq_true rfl) (Nat.le_of_ble_eq_true rfl) dX6_logPages_8
set_option maxHeartbeats 4000000 in
set_option maxRecDepth 100000 in
theorem k_X6_logSheets (Z : Zp) (l : Launch) (A : AF) (C : CF) (x : Int32) (hK : OkK C) (hfl : l.stackTraces = false) : CtS Z l yX6_logSheets wsX6_logSheets ({ frames := 7, cells := 1, slots := 6, locals := 111 }) [.ref (A 0 0), .int x] A C 1 6 (fun v A2 C2 => A = A2 ∧ (∃ k_2 : Nat, k_2 < C 4 0 2 ∧ nI k_2 = x ∧ C = C2 ∧ some (.int (nI (C 13 k_2 4))) = v)) (fun E A2 C2 => A = A2 ∧ (E = "java/lang/IndexOutOfBoundsException" ∧ (∀ k : Nat, k < C 4 0 2 → nI k ≠ x) ∧ C = C2)) := by
  refine CtS.of (cc0 := cX6_logSheets) (maxL := 2) (ret := (some .int)) (by decide) rfl (Nat.le_of_ble_eq_true rfl) ?_
  intro M0_ p_ e_ s_ m_ args_ below_ meth_ c_ S hz hml hex hlo hr hin
  refine s_loc (L2 := [(0, .ref (A 0 0)), (1, .int x)]) rfl ?_
  have i_RX0 : ∀ w ∈ u_ws RX0 TX0 6, w ∈ wsX6_logSheets := by decide +kernel
  obtain ⟨⟨k3, k4, k5, k6, k7, k8⟩, kU, kP, kT, kJ, kL, kE, kB⟩ := id hK
  refine s_aload_n (pc := 0) S 0 dX6_logSheets_0 rfl rfl ?_
  refine s_iload_n (pc := 1) S 1 dX6_logSheets_1 rfl rfl ?_
  refine s_callV (pc := 2) S hz hml [.int x] (k_X6_entryAt Z l A C x hK hfl) (cwV 1 S.2.2.2.2 gX6_logSheets_X6_entryAt rfl rfl rfl (by decide +kernel) ⟨Nat.le_of_ble_eq_true rfl, Nat.le_of_ble_eq_true rfl⟩) (cc_farm (A := A) (C := C)) rfl rfl rfl (Nat.le_of_ble_eq_true rfl) dX6_logSheets_2 ⟨Nat.le_of_ble_eq_true rfl, Nat.le_of_ble_eq_true rfl⟩ (fun E A2 C2 h_1 => ?_) (fun v A2 C2 h_1 => ?_)
  · obtain ⟨rfl, rfl, n_4, rfl⟩ := h_1
    exact s_out S hz hex hlo ⟨rfl, ⟨rfl, n_4, rfl⟩⟩ (Nat.le_of_ble_eq_true rfl) (Nat.le_of_ble_eq_true rfl)
  · obtain ⟨rfl, rfl, k_2, hk_3, rfl, rfl⟩ := h_1
    obtain ⟨o_5, o_6, o_7, o_8, o_9, o_10⟩ := kE k_2 hk_3
    refine s_get (pc := 5) S hz (ref := "SpoolFarm$Entry") (v := .int (nI (C 13 k_2 4))) (cc_entry (A := A) (C := C) hk_3) i_RX0 rfl 4 (Nat.le_of_ble_eq_true rfl) (by decide +kernel) (fun _ h => h) rfl dX6_logSheets_5 ?_
    exact s_iret (pc := 8) S hz hlo hr ⟨rfl, ⟨k_2, hk_3, rfl, rfl, rfl⟩⟩ (Nat.le_of_ble_eq_true rfl) (Nat.le_of_ble_eq_true rfl) dX6_logSheets_8
set_option maxHeartbeats 4000000 in
set_option maxRecDepth 100000 in
theorem k_X6_pagesOf (Z : Zp) (l : Launch) (A : AF) (C : CF) (x : Int32) (hK : OkK C) (hfl : l.stackTraces = false) : CtS Z l yX6_pagesOf wsX6_pagesOf ({ frames := 7, cells := 1, slots := 6, locals := 112 }) [.ref (A 0 0), .int x] A C 1 6 (fun v A2 C2 => A = A2 ∧ (∃ k_2 : Nat, k_2 < C 0 0 3 ∧ nI k_2 = x ∧ C = C2 ∧ some (.int (nI (C 10 k_2 2))) = v)) (fun E A2 C2 => A = A2 ∧ (E = "java/lang/IndexOutOfBoundsException" ∧ (∀ k : Nat, k < C 0 0 3 → nI k ≠ x) ∧ C = C2)) := by
  refine CtS.of (cc0 := cX6_pagesOf) (maxL := 2) (ret := (some .int)) (by decide) rfl (Nat.le_of_ble_eq_true rfl) ?_
  intro M0_ p_ e_ s_ m_ args_ below_ meth_ c_ S hz hml hex hlo hr hin
  refine s_loc (L2 := [(0, .ref (A 0 0)), (1, .int x)]) rfl ?_
  have i_RX5 : ∀ w ∈ u_ws RX5 TX5 4, w ∈ wsX6_pagesOf := by decide +kernel
  obtain ⟨⟨k3, k4, k5, k6, k7, k8⟩, kU, kP, kT, kJ, kL, kE, kB⟩ := id hK
  refine s_aload_n (pc := 0) S 0 dX6_pagesOf_0 rfl rfl ?_
  refine s_iload_n (pc := 1) S 1 dX6_pagesOf_1 rfl rfl ?_
  refine s_callV (pc := 2) S hz hml [.int x] (k_X6_userAt Z l A C x k3 hfl) (cwV 1 S.2.2.2.2 gX6_pagesOf_X6_userAt rfl rfl rfl (by decide +kernel) ⟨Nat.le_of_ble_eq_true rfl, Nat.le_of_ble_eq_true rfl⟩) (cc_farm (A := A) (C := C)) rfl rfl rfl (Nat.le_of_ble_eq_true rfl) dX6_pagesOf_2 ⟨Nat.le_of_ble_eq_true rfl, Nat.le_of_ble_eq_true rfl⟩ (fun E A2 C2 h_1 => ?_) (fun v A2 C2 h_1 => ?_)
  · obtain ⟨rfl, rfl, n_4, rfl⟩ := h_1
    exact s_out S hz hex hlo ⟨rfl, ⟨rfl, n_4, rfl⟩⟩ (Nat.le_of_ble_eq_true rfl) (Nat.le_of_ble_eq_true rfl)
  · obtain ⟨rfl, rfl, k_2, hk_3, rfl, rfl⟩ := h_1
    obtain ⟨o_5, o_6, o_7, o_8⟩ := kU k_2 hk_3
    refine s_get (pc := 5) S hz (ref := "SpoolFarm$User") (v := .int (nI (C 10 k_2 2))) (cc_user (A := A) (C := C) hk_3) i_RX5 rfl 2 (Nat.le_of_ble_eq_true rfl) (by decide +kernel) (fun _ h => h) rfl dX6_pagesOf_5 ?_
    exact s_iret (pc := 8) S hz hlo hr ⟨rfl, ⟨k_2, hk_3, rfl, rfl, rfl⟩⟩ (Nat.le_of_ble_eq_true rfl) (Nat.le_of_ble_eq_true rfl) dX6_pagesOf_8
set_option maxHeartbeats 4000000 in
set_option maxRecDepth 100000 in
theorem k_X6_billOf (Z : Zp) (l : Launch) (A : AF) (C : CF) (x : Int32) (hK : OkK C) (hfl : l.stackTraces = false) : CtS Z l yX6_billOf wsX6_billOf ({ frames := 7, cells := 1, slots := 6, locals := 112 }) [.ref (A 0 0), .int x] A C 1 6 (fun v A2 C2 => A = A2 ∧ (∃ k_2 : Nat, k_2 < C 0 0 3 ∧ nI k_2 = x ∧ C = C2 ∧ some (.long (lN (C 10 k_2 3))) = v)) (fun E A2 C2 => A = A2 ∧ (E = "java/lang/IndexOutOfBoundsException" ∧ (∀ k : Nat, k < C 0 0 3 → nI k ≠ x) ∧ C = C2)) := by
  refine CtS.of (cc0 := cX6_billOf) (maxL := 2) (ret := (some .long)) (by decide) rfl (Nat.le_of_ble_eq_true rfl) ?_
  intro M0_ p_ e_ s_ m_ args_ below_ meth_ c_ S hz hml hex hlo hr hin
  refine s_loc (L2 := [(0, .ref (A 0 0)), (1, .int x)]) rfl ?_
  have i_RX5 : ∀ w ∈ u_ws RX5 TX5 4, w ∈ wsX6_billOf := by decide +kernel
  obtain ⟨⟨k3, k4, k5, k6, k7, k8⟩, kU, kP, kT, kJ, kL, kE, kB⟩ := id hK
  refine s_aload_n (pc := 0) S 0 dX6_billOf_0 rfl rfl ?_
  refine s_iload_n (pc := 1) S 1 dX6_billOf_1 rfl rfl ?_
  refine s_callV (pc := 2) S hz hml [.int x] (k_X6_userAt Z l A C x k3 hfl) (cwV 1 S.2.2.2.2 gX6_billOf_X6_userAt rfl rfl rfl (by decide +kernel) ⟨Nat.le_of_ble_eq_true rfl, Nat.le_of_ble_eq_true rfl⟩) (cc_farm (A := A) (C := C)) rfl rfl rfl (Nat.le_of_ble_eq_true rfl) dX6_billOf_2 ⟨Nat.le_of_ble_eq_true rfl, Nat.le_of_ble_eq_true rfl⟩ (fun E A2 C2 h_1 => ?_) (fun v A2 C2 h_1 => ?_)
  · obtain ⟨rfl, rfl, n_4, rfl⟩ := h_1
    exact s_out S hz hex hlo ⟨rfl, ⟨rfl, n_4, rfl⟩⟩ (Nat.le_of_ble_eq_true rfl) (Nat.le_of_ble_eq_true rfl)
  · obtain ⟨rfl, rfl, k_2, hk_3, rfl, rfl⟩ := h_1
    obtain ⟨o_5, o_6, o_7, o_8⟩ := kU k_2 hk_3
    refine s_get (pc := 5) S hz (ref := "SpoolFarm$User") (v := .long (lN (C 10 k_2 3))) (cc_user (A := A) (C := C) hk_3) i_RX5 rfl 3 (Nat.le_of_ble_eq_true rfl) (by decide +kernel) (fun _ h => h) rfl dX6_billOf_5 ?_
    exact s_lret (pc := 8) S hz hlo hr ⟨rfl, ⟨k_2, hk_3, rfl, rfl, rfl⟩⟩ (Nat.le_of_ble_eq_true rfl) (Nat.le_of_ble_eq_true rfl) dX6_billOf_8
set_option maxHeartbeats 4000000 in
set_option maxRecDepth 100000 in
theorem k_X6_lineAt (Z : Zp) (l : Launch) (A : AF) (C : CF) (x : Int32) (hK : OkK C) (hfl : l.stackTraces = false) : CtS Z l yX6_lineAt wsX6_lineAt ({ frames := 6, cells := 1, slots := 6, locals := 90 }) [.ref (A 0 0), .int x] A C 1 6 (fun v A2 C2 => A = A2 ∧ (∃ k : Nat, k < C 5 0 3 ∧ nI k = x ∧ C = C2 ∧ some (.int (nI (C 8 0 k))) = v)) (fun E A2 C2 => A = A2 ∧ ((E = "java/lang/IndexOutOfBoundsException" ∧ (∀ k : Nat, k < C 5 0 3 → nI k ≠ x) ∧ C = C2) ∨ (E = "java/lang/IndexOutOfBoundsException" ∧ (∀ k : Nat, k < C 5 0 3 → nI k ≠ x) ∧ C = C2))) := by
  refine CtS.of (cc0 := cX6_lineAt) (maxL := 2) (ret := (some .char)) (by decide) rfl (Nat.le_of_ble_eq_true rfl) ?_
  intro M0_ p_ e_ s_ m_ args_ below_ meth_ c_ S hz hml hex hlo hr hin
  refine s_loc (L2 := [(0, .ref (A 0 0)), (1, .int x)]) rfl ?_
  have i_RX6 : ∀ w ∈ u_ws RX6 TX6 12, w ∈ wsX6_lineAt := by decide +kernel
  obtain ⟨⟨k3, k4, k5, k6, k7, k8⟩, kU, kP, kT, kJ, kL, kE, kB⟩ := id hK
  have kB1 := kB.1
  rcases ix3 x (n := C 5 0 3) (by omega) with ⟨k, hk, rfl⟩ | hx
  · refine s_iload_n (pc := 0) S 1 dX6_lineAt_0 rfl rfl ?_
    refine s_if_ltN (pc := 1) S 15 dX6_lineAt_1 (by decide) (by omega) (fun c_1 => absurd c_1 (by omega)) (fun c_1 => ?_)
    refine s_iload_n (pc := 4) S 1 dX6_lineAt_4 rfl rfl ?_
    refine s_aload_n (pc := 5) S 0 dX6_lineAt_5 rfl rfl ?_
    refine s_get (pc := 6) S hz (ref := "SpoolFarm") (v := .ref (A 5 0)) (cc_farm (A := A) (C := C)) i_RX6 rfl 10 (Nat.le_of_ble_eq_true rfl) (by decide +kernel) (fun _ h => h) rfl dX6_lineAt_6 ?_
    refine s_callV (pc := 9) S hz hml [] (k_lineLen Z l A C) (cwV 0 S.2.2.2.2 gX6_lineAt_J4_length_8abf5 rfl rfl rfl (by decide +kernel) ⟨Nat.le_of_ble_eq_true rfl, Nat.le_of_ble_eq_true rfl⟩) (cc_line (A := A) (C := C)) rfl rfl rfl (Nat.le_of_ble_eq_true rfl) dX6_lineAt_9 ⟨Nat.le_of_ble_eq_true rfl, Nat.le_of_ble_eq_true rfl⟩ (fun _ _ _ h => h.elim) (fun v A2 C2 h_2 => ?_)
    obtain ⟨rfl, rfl, rfl⟩ := h_2
    refine s_icmp_ltN (pc := 12) S 26 dX6_lineAt_12 (by decide) (by omega) (by omega) (fun _ => ?_) (fun h => absurd hk h)
    refine s_aload_n (pc := 26) S 0 dX6_lineAt_26 rfl rfl ?_
    refine s_get (pc := 27) S hz (ref := "SpoolFarm") (v := .ref (A 5 0)) (cc_farm (A := A) (C := C)) i_RX6 rfl 10 (Nat.le_of_ble_eq_true rfl) (by decide +kernel) (fun _ h => h) rfl dX6_lineAt_27 ?_
    refine s_iload_n (pc := 30) S 1 dX6_lineAt_30 rfl rfl ?_
    refine s_callV (pc := 31) S hz hml [.int (nI k)] (k_lineChar Z l A C k (by omega) kB.2.1 (cpO_le kB.2.2.1).1 (kB.2.2.2 _ (by omega))) (cwV 1 S.2.2.2.2 gX6_lineAt_J4_charAt_5068e rfl rfl rfl (by decide +kernel) ⟨Nat.le_of_ble_eq_true rfl, Nat.le_of_ble_eq_true rfl⟩) (cc_line (A := A) (C := C)) rfl rfl rfl (Nat.le_of_ble_eq_true rfl) dX6_lineAt_31 ⟨Nat.le_of_ble_eq_true rfl, Nat.le_of_ble_eq_true rfl⟩ (fun _ _ _ h => h.elim) (fun v A2 C2 h_3 => ?_)
    obtain ⟨rfl, rfl, rfl⟩ := h_3
    have z_4 := kB.2.2.2 k (by omega)
    exact s_zret (pc := 34) S hz hlo (nar_c (by omega)) hr ⟨rfl, ⟨k, hk, rfl, rfl, rfl⟩⟩ (Nat.le_of_ble_eq_true rfl) (Nat.le_of_ble_eq_true rfl) dX6_lineAt_34
  · refine s_iload_n (pc := 0) S 1 dX6_lineAt_0 rfl rfl ?_
    refine s_if_lt (pc := 1) S 15 dX6_lineAt_1 (by decide) (fun _ => ?_) (fun c_5 => ?_)
    · exact s_thrW (pc := 15) (text := "no such character") S hz hfl hml hex hlo thr_IOB (by decide +kernel) (by decide +kernel) (by decide +kernel) (by decide +kernel) dX6_lineAt_15 dX6_lineAt_18 dX6_lineAt_19 dX6_lineAt_22 dX6_lineAt_25 (Nat.le_of_ble_eq_true rfl) (Nat.le_of_ble_eq_true rfl) (Nat.le_of_ble_eq_true rfl) (Nat.le_of_ble_eq_true rfl) ⟨rfl, Or.inl ⟨rfl, ix_out (by omega) hx (Nat.le_refl _), rfl⟩⟩ (Nat.le_of_ble_eq_true rfl) (Nat.le_of_ble_eq_true rfl)
    · refine s_iload_n (pc := 4) S 1 dX6_lineAt_4 rfl rfl ?_
      refine s_aload_n (pc := 5) S 0 dX6_lineAt_5 rfl rfl ?_
      refine s_get (pc := 6) S hz (ref := "SpoolFarm") (v := .ref (A 5 0)) (cc_farm (A := A) (C := C)) i_RX6 rfl 10 (Nat.le_of_ble_eq_true rfl) (by decide +kernel) (fun _ h => h) rfl dX6_lineAt_6 ?_
      refine s_callV (pc := 9) S hz hml [] (k_lineLen Z l A C) (cwV 0 S.2.2.2.2 gX6_lineAt_J4_length_8abf5 rfl rfl rfl (by decide +kernel) ⟨Nat.le_of_ble_eq_true rfl, Nat.le_of_ble_eq_true rfl⟩) (cc_line (A := A) (C := C)) rfl rfl rfl (Nat.le_of_ble_eq_true rfl) dX6_lineAt_9 ⟨Nat.le_of_ble_eq_true rfl, Nat.le_of_ble_eq_true rfl⟩ (fun _ _ _ h => h.elim) (fun v A2 C2 h_6 => ?_)
      obtain ⟨rfl, rfl, rfl⟩ := h_6
      refine s_icmp_lt (pc := 12) S 26 dX6_lineAt_12 (by decide) (fun h => absurd (hx.resolve_left c_5) (i_nle h)) (fun _ => ?_)
      exact s_thrW (pc := 15) (text := "no such character") S hz hfl hml hex hlo thr_IOB (by decide +kernel) (by decide +kernel) (by decide +kernel) (by decide +kernel) dX6_lineAt_15 dX6_lineAt_18 dX6_lineAt_19 dX6_lineAt_22 dX6_lineAt_25 (Nat.le_of_ble_eq_true rfl) (Nat.le_of_ble_eq_true rfl) (Nat.le_of_ble_eq_true rfl) (Nat.le_of_ble_eq_true rfl) ⟨rfl, Or.inr (⟨rfl, ix_out (by omega) hx (Nat.le_refl _), rfl⟩)⟩ (Nat.le_of_ble_eq_true rfl) (Nat.le_of_ble_eq_true rfl)
