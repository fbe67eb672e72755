theorem ne80 {r : Role} {k i : Nat} (h : 80 ≤ r.1) (hk : k < 80) : r ≠ (k, i) := fun z => by
  rw [z] at h
  exact absurd h (show ¬ 80 ≤ k by omega)
theorem frm_w {M0 M M2 : Wd} {i : Nat} {q : Role} (h : FrM M0 M) (hf : ∀ r2 : Role, 80 ≤ r2.1 → M2 r2 = M r2) (hq : q.1 < 80) : FrM M0 (wmv M2 (50, i) q) := by
  intro r hr
  show (if r = q then _ else if r = (50, i) then _ else _) = _
  rw [if_neg (fun z => by rw [z] at hr; omega), if_neg (ne80 hr (by decide)), hf r hr]
  exact h r hr
set_option maxHeartbeats 4000000 in
set_option maxRecDepth 100000 in
theorem k_X6_addUser (Z : Zp) (l : Launch) (A : AF) (C : CF) (x y : Int32) (hK : OkK C) (hfl : l.stackTraces = false) : CtS Z l yX6_addUser wsX6_addUser ({ frames := 7, cells := 3, slots := 18, locals := 112 }) [.ref (A 0 0), .int x, .int y] A C 3 18 (fun v A2 C2 => ∃ w_2 w_10 : Nat, 0 ≤ w_2 ∧ w_2 ≤ 999 ∧ nI w_2 = x ∧ 0 ≤ w_10 ∧ w_10 ≤ 999 ∧ nI w_10 = y ∧ C 0 0 3 < 6 ∧ (∃ y_ : Nat, up2 A 10 (C 0 0 3) y_ = A2) ∧ adO C 10 (C 0 0 3) (usF w_2 w_10) 3 = C2 ∧ some (.int (nI (C 0 0 3))) = v) (fun E A2 C2 => A = A2 ∧ ((E = "java/lang/IllegalArgumentException" ∧ (∀ k : Nat, 0 ≤ k → k ≤ 999 → nI k ≠ x) ∧ C = C2) ∨ (∃ w_2 : Nat, E = "java/lang/IllegalArgumentException" ∧ 0 ≤ w_2 ∧ w_2 ≤ 999 ∧ nI w_2 = x ∧ (∀ k : Nat, 0 ≤ k → k ≤ 999 → nI k ≠ y) ∧ C = C2) ∨ (∃ w_2 w_10 : Nat, E = "java/lang/IllegalStateException" ∧ 0 ≤ w_2 ∧ w_2 ≤ 999 ∧ nI w_2 = x ∧ 0 ≤ w_10 ∧ w_10 ≤ 999 ∧ nI w_10 = y ∧ ¬ C 0 0 3 < 6 ∧ C = C2))) := by
  refine CtS.of (cc0 := cX6_addUser) (maxL := 4) (ret := (some .int)) (by decide) rfl (Nat.le_of_ble_eq_true rfl) ?_
  intro M0_ p_ e_ s_ m_ args_ below_ meth_ c_ S hz hml hex hlo hr hin
  refine s_loc (L2 := [(0, .ref (A 0 0)), (1, .int x), (2, .int y)]) rfl ?_
  have i_RX5 : ∀ w ∈ u_ws RX5 TX5 4, w ∈ wsX6_addUser := by decide +kernel
  have i_RX6 : ∀ w ∈ u_ws RX6 TX6 12, w ∈ wsX6_addUser := by decide +kernel
  obtain ⟨⟨k3, k4, k5, k6, k7, k8⟩, kU, kP, kT, kJ, kL, kE, kB⟩ := id hK
  refine s_iload_n (pc := 0) S 1 dX6_addUser_0 rfl rfl ?_
  refine s_iconst (pc := 1) S (v := (nI 0)) dX6_addUser_1 (by decide) ?_
  refine s_sipush (pc := 2) S (v := (nI 999)) dX6_addUser_2 (by decide) ?_
  refine s_callS (pc := 5) S hz hml [.int x, .int (nI 0), .int (nI 999)] (k_X6_checkRange Z l A C x (nI 0) (nI 999) hfl) (cwS 3 S.2.2.2.2 gX6_addUser_X6_checkRange rfl rfl rfl (by decide +kernel) ⟨Nat.le_of_ble_eq_true rfl, Nat.le_of_ble_eq_true rfl⟩) rfl rfl (Nat.le_of_ble_eq_true rfl) dX6_addUser_5 ⟨Nat.le_of_ble_eq_true rfl, Nat.le_of_ble_eq_true rfl⟩ (fun E A2 C2 h_1 => ?_) (fun v A2 C2 h_1 => ?_)
  · obtain ⟨rfl, rfl, p_7, rfl⟩ := h_1
    have n_8 := rg_no (by decide) (by decide) p_7
    exact s_out S hz hex hlo ⟨rfl, Or.inl ⟨rfl, n_8, rfl⟩⟩ (Nat.le_of_ble_eq_true rfl) (Nat.le_of_ble_eq_true rfl)
  · obtain ⟨rfl, rfl, rfl, p_5, p_6⟩ := h_1
    obtain ⟨w_2, r_3, r_4, rfl⟩ := rg_of (by decide) p_5 p_6 (by decide)
    refine s_iload_n (pc := 8) S 2 dX6_addUser_8 rfl rfl ?_
    refine s_iconst (pc := 9) S (v := (nI 0)) dX6_addUser_9 (by decide) ?_
    refine s_sipush (pc := 10) S (v := (nI 999)) dX6_addUser_10 (by decide) ?_
    refine s_callS (pc := 13) S hz hml [.int y, .int (nI 0), .int (nI 999)] (k_X6_checkRange Z l A C y (nI 0) (nI 999) hfl) (cwS 3 S.2.2.2.2 gX6_addUser_X6_checkRange rfl rfl rfl (by decide +kernel) ⟨Nat.le_of_ble_eq_true rfl, Nat.le_of_ble_eq_true rfl⟩) rfl rfl (Nat.le_of_ble_eq_true rfl) dX6_addUser_13 ⟨Nat.le_of_ble_eq_true rfl, Nat.le_of_ble_eq_true rfl⟩ (fun E A2 C2 h_9 => ?_) (fun v A2 C2 h_9 => ?_)
    · obtain ⟨rfl, rfl, p_15, rfl⟩ := h_9
      have n_16 := rg_no (by decide) (by decide) p_15
      exact s_out S hz hex hlo ⟨rfl, Or.inr (Or.inl ⟨w_2, rfl, r_3, r_4, rfl, n_16, rfl⟩)⟩ (Nat.le_of_ble_eq_true rfl) (Nat.le_of_ble_eq_true rfl)
    · obtain ⟨rfl, rfl, rfl, p_13, p_14⟩ := h_9
      obtain ⟨w_10, r_11, r_12, rfl⟩ := rg_of (by decide) p_13 p_14 (by decide)
      refine s_aload_n (pc := 16) S 0 dX6_addUser_16 rfl rfl ?_
      refine s_get (pc := 17) S hz (ref := "SpoolFarm") (v := .int (nI (C 0 0 3))) (cc_farm (A := A) (C := C)) i_RX6 rfl 3 (Nat.le_of_ble_eq_true rfl) (by decide +kernel) (fun _ h => h) rfl dX6_addUser_17 ?_
      refine s_istore_n (pc := 20) S [(3, .int (nI (C 0 0 3))), (0, .ref (A 0 0)), (1, .int (nI w_2)), (2, .int (nI w_10))] dX6_addUser_20 rfl (by decide) rfl ?_
      refine s_iload_n (pc := 21) S 0 dX6_addUser_21 rfl rfl ?_
      refine s_aload_n (pc := 22) S 1 dX6_addUser_22 rfl rfl ?_
      refine s_get (pc := 23) S hz (ref := "SpoolFarm") (v := .ref (A 1 0)) (cc_farm (A := A) (C := C)) i_RX6 rfl 0 (Nat.le_of_ble_eq_true rfl) (by decide +kernel) (fun _ h => h) rfl dX6_addUser_23 ?_
      refine s_alen (pc := 26) S hz (n := 6) (cc_users (A := A) (C := C)) dX6_addUser_26 ?_
      refine s_icmp_ltN (pc := 27) S 40 dX6_addUser_27 (by decide) (by omega) (by omega) (fun c_17 => ?_) (fun c_17 => ?_)
      · intro M hM hF0
        refine g_aload_n (pc := 40) S 1 dX6_addUser_40 rfl rfl ?_
        refine g_get (pc := 41) S hz (ref := "SpoolFarm") (v := .ref (A 1 0)) (hM 0 0 _ cc_farm) i_RX6 rfl 0 (Nat.le_of_ble_eq_true rfl) (by decide +kernel) (fun _ h => h) rfl dX6_addUser_41 ?_
        refine g_iload_n (pc := 44) S 0 dX6_addUser_44 rfl rfl ?_
        refine g_new (pc := 45) S hz (ci := 10) (fs := [.int (nI 0), .int (nI 0), .int (nI 0), .long (lN 0)]) (50, 0) i_RX5 tyX5 tyX5_ok (by decide +kernel) (by decide +kernel) (by decide +kernel) rfl (fun j hj => by revert j; decide) (Nat.le_of_ble_eq_true rfl) (Nat.le_of_ble_eq_true rfl) dX6_addUser_45 (fun y_ M1 f1 m1 => ?_)
        refine g_dup (pc := 48) S dX6_addUser_48 rfl ?_
        refine g_iload_n (pc := 49) S 2 dX6_addUser_49 rfl rfl ?_
        refine g_iload_n (pc := 50) S 3 dX6_addUser_50 rfl rfl ?_
        refine g_callI (pc := 51) S hz hml [.int (nI w_2), .int (nI w_10)] (k_X5_init Z l M1 (50, 0) y_ m1 w_2 w_10) (cwI 2 S.2.2.2.2 gX6_addUser_X5_init rfl rfl rfl (S.2.2.2.2 _ (by decide +kernel)) (S.2.2.2.2 _ (by decide +kernel)) (S.2.2.2.2 _ (by decide +kernel)) rfl (by decide +kernel) ⟨Nat.le_of_ble_eq_true rfl, Nat.le_of_ble_eq_true rfl⟩) rfl rfl (Nat.le_of_ble_eq_true rfl) dX6_addUser_51 ⟨Nat.le_of_ble_eq_true rfl, Nat.le_of_ble_eq_true rfl⟩ (fun v_20 M_19 h_18 => ?_)
        obtain ⟨rfl, f2, m2⟩ := h_18
        refine g_aast (pc := 54) S hz ((f2 _ (fun z => by cases z)).trans ((f1 _ (fun z => by cases z)).trans (hM 1 0 _ cc_users))) m2 rfl (by omega) (by decide) dX6_addUser_54 (fun M_22 f_21 m_23 => ?_)
        refine g_aload_n (pc := 55) S 1 dX6_addUser_55 rfl rfl ?_
        refine g_iload_n (pc := 56) S 0 dX6_addUser_56 rfl rfl ?_
        refine g_iconst (pc := 57) S (v := (nI 1)) dX6_addUser_57 (by decide) ?_
        refine g_iaddN (pc := 58) S dX6_addUser_58 ?_
        refine g_put (pc := 59) S hz (ref := "SpoolFarm") (r := (0, 0)) (v := .int (nI ((C 0 0 3) + 1))) (ty := .int) ((f_21 _ (fun z => by cases z)).trans ((f2 _ (fun z => by cases z)).trans ((f1 _ (fun z => by cases z)).trans (hM 0 0 _ cc_farm)))) i_RX6 tyX6 tyX6_ok nmX6 rfl 3 (Nat.le_of_ble_eq_true rfl) (by decide +kernel) (fun _ h => h) rfl (by decide +kernel) rfl rfl _ (Nat.le_of_ble_eq_true rfl) rfl dX6_addUser_59 (fun M_24 f_25 m_26 => ?_)
        refine g_iload_n (pc := 62) S 0 dX6_addUser_62 rfl rfl ?_
        have hE := Rep.user (F := usF w_2 w_10) (y := y_) hM (fun r2 z1 z2 z3 => by rw [f_25 r2 z1, f_21 r2 z2, f2 r2 z3, f1 r2 z3]) (by (rw [m_26]) <;> rfl) ((f_25 _ (fun z => by cases z)).trans m_23) (by (rw [((f_25 _ (fun z => by cases z)).trans ((f_21 _ (fun z => by cases z)).trans m2))]) <;> rfl)
        refine g_world (M2 := wmv M_24 (50, 0) (10, C 0 0 3)) (fun H h => h.mv) ?_
        exact g_iret (pc := 63) S hz hlo hr ⟨_, _, hE, (frm_w hF0 (fun r2 h8 => by rw [f_25 r2 (ne80 h8 (by decide)), f_21 r2 (ne80 h8 (by decide)), f2 r2 (ne80 h8 (by decide)), f1 r2 (ne80 h8 (by decide))]) (show 10 < 80 by decide)), w_2, w_10, r_3, r_4, rfl, r_11, r_12, rfl, c_17, ⟨y_, rfl⟩, rfl, rfl⟩ (Nat.le_of_ble_eq_true rfl) (Nat.le_of_ble_eq_true rfl) dX6_addUser_63
      · exact s_thr (pc := 30) (text := "no more users") S hz hfl hml hex hlo thr_ISE (by decide +kernel) (by decide +kernel) (by decide +kernel) (by decide +kernel) dX6_addUser_30 dX6_addUser_33 dX6_addUser_34 dX6_addUser_36 dX6_addUser_39 (Nat.le_of_ble_eq_true rfl) (Nat.le_of_ble_eq_true rfl) (Nat.le_of_ble_eq_true rfl) (Nat.le_of_ble_eq_true rfl) ⟨rfl, Or.inr (Or.inr (⟨w_2, w_10, rfl, r_3, r_4, rfl, r_11, r_12, rfl, c_17, rfl⟩))⟩ (Nat.le_of_ble_eq_true rfl) (Nat.le_of_ble_eq_true rfl)
set_option maxHeartbeats 4000000 in
set_option maxRecDepth 100000 in
theorem k_X6_addPrinter (Z : Zp) (l : Launch) (A : AF) (C : CF) (cb : Nat) (x y : Int32) (hcb : cb < 2) (hK : OkK C) (hfl : l.stackTraces = false) : CtS Z l yX6_addPrinter wsX6_addPrinter ({ frames := 7, cells := 4, slots := 21, locals := 112 }) [.ref (A 0 0), .int (nI cb), .int x, .int y] A C 4 21 (fun v A2 C2 => ∃ w_2 w_10 : Nat, 0 ≤ w_2 ∧ w_2 ≤ 1000 ∧ nI w_2 = x ∧ 0 ≤ w_10 ∧ w_10 ≤ 100 ∧ nI w_10 = y ∧ C 0 0 4 < 4 ∧ (∃ y_ q_ : Nat, up2 (up2 A 9 (C 0 0 4) y_) 14 (C 0 0 4) q_ = A2) ∧ adO C 9 (C 0 0 4) (prF cb w_2 w_10) 4 = C2 ∧ some (.int (nI (C 0 0 4))) = v) (fun E A2 C2 => A = A2 ∧ ((E = "java/lang/IllegalArgumentException" ∧ (∀ k : Nat, 0 ≤ k → k ≤ 1000 → nI k ≠ x) ∧ C = C2) ∨ (∃ w_2 : Nat, E = "java/lang/IllegalArgumentException" ∧ 0 ≤ w_2 ∧ w_2 ≤ 1000 ∧ nI w_2 = x ∧ (∀ k : Nat, 0 ≤ k → k ≤ 100 → nI k ≠ y) ∧ C = C2) ∨ (∃ w_2 w_10 : Nat, E = "java/lang/IllegalStateException" ∧ 0 ≤ w_2 ∧ w_2 ≤ 1000 ∧ nI w_2 = x ∧ 0 ≤ w_10 ∧ w_10 ≤ 100 ∧ nI w_10 = y ∧ ¬ C 0 0 4 < 4 ∧ C = C2))) := by
  refine CtS.of (cc0 := cX6_addPrinter) (maxL := 5) (ret := (some .int)) (by decide) rfl (Nat.le_of_ble_eq_true rfl) ?_
  intro M0_ p_ e_ s_ m_ args_ below_ meth_ c_ S hz hml hex hlo hr hin
  refine s_loc (L2 := [(0, .ref (A 0 0)), (1, .int (nI cb)), (2, .int x), (3, .int y)]) rfl ?_
  have i_RX3 : ∀ w ∈ u_ws RX3 TX3 6, w ∈ wsX6_addPrinter := by decide +kernel
  have i_RX6 : ∀ w ∈ u_ws RX6 TX6 12, w ∈ wsX6_addPrinter := by decide +kernel
  obtain ⟨⟨k3, k4, k5, k6, k7, k8⟩, kU, kP, kT, kJ, kL, kE, kB⟩ := id hK
  refine s_iload_n (pc := 0) S 2 dX6_addPrinter_0 rfl rfl ?_
  refine s_iconst (pc := 1) S (v := (nI 0)) dX6_addPrinter_1 (by decide) ?_
  refine s_sipush (pc := 2) S (v := (nI 1000)) dX6_addPrinter_2 (by decide) ?_
  refine s_callS (pc := 5) S hz hml [.int x, .int (nI 0), .int (nI 1000)] (k_X6_checkRange Z l A C x (nI 0) (nI 1000) hfl) (cwS 3 S.2.2.2.2 gX6_addPrinter_X6_checkRange rfl rfl rfl (by decide +kernel) ⟨Nat.le_of_ble_eq_true rfl, Nat.le_of_ble_eq_true rfl⟩) rfl rfl (Nat.le_of_ble_eq_true rfl) dX6_addPrinter_5 ⟨Nat.le_of_ble_eq_true rfl, Nat.le_of_ble_eq_true rfl⟩ (fun E A2 C2 h_1 => ?_) (fun v A2 C2 h_1 => ?_)
  · obtain ⟨rfl, rfl, p_7, rfl⟩ := h_1
    have n_8 := rg_no (by decide) (by decide) p_7
    exact s_out S hz hex hlo ⟨rfl, Or.inl ⟨rfl, n_8, rfl⟩⟩ (Nat.le_of_ble_eq_true rfl) (Nat.le_of_ble_eq_true rfl)
  · obtain ⟨rfl, rfl, rfl, p_5, p_6⟩ := h_1
    obtain ⟨w_2, r_3, r_4, rfl⟩ := rg_of (by decide) p_5 p_6 (by decide)
    refine s_iload_n (pc := 8) S 3 dX6_addPrinter_8 rfl rfl ?_
    refine s_iconst (pc := 9) S (v := (nI 0)) dX6_addPrinter_9 (by decide) ?_
    refine s_bipush (pc := 10) S (v := (nI 100)) dX6_addPrinter_10 (by decide) ?_
    refine s_callS (pc := 12) S hz hml [.int y, .int (nI 0), .int (nI 100)] (k_X6_checkRange Z l A C y (nI 0) (nI 100) hfl) (cwS 3 S.2.2.2.2 gX6_addPrinter_X6_checkRange rfl rfl rfl (by decide +kernel) ⟨Nat.le_of_ble_eq_true rfl, Nat.le_of_ble_eq_true rfl⟩) rfl rfl (Nat.le_of_ble_eq_true rfl) dX6_addPrinter_12 ⟨Nat.le_of_ble_eq_true rfl, Nat.le_of_ble_eq_true rfl⟩ (fun E A2 C2 h_9 => ?_) (fun v A2 C2 h_9 => ?_)
    · obtain ⟨rfl, rfl, p_15, rfl⟩ := h_9
      have n_16 := rg_no (by decide) (by decide) p_15
      exact s_out S hz hex hlo ⟨rfl, Or.inr (Or.inl ⟨w_2, rfl, r_3, r_4, rfl, n_16, rfl⟩)⟩ (Nat.le_of_ble_eq_true rfl) (Nat.le_of_ble_eq_true rfl)
    · obtain ⟨rfl, rfl, rfl, p_13, p_14⟩ := h_9
      obtain ⟨w_10, r_11, r_12, rfl⟩ := rg_of (by decide) p_13 p_14 (by decide)
      refine s_aload_n (pc := 15) S 0 dX6_addPrinter_15 rfl rfl ?_
      refine s_get (pc := 16) S hz (ref := "SpoolFarm") (v := .int (nI (C 0 0 4))) (cc_farm (A := A) (C := C)) i_RX6 rfl 4 (Nat.le_of_ble_eq_true rfl) (by decide +kernel) (fun _ h => h) rfl dX6_addPrinter_16 ?_
      refine s_istore (pc := 19) S [(4, .int (nI (C 0 0 4))), (0, .ref (A 0 0)), (1, .int (nI cb)), (2, .int (nI w_2)), (3, .int (nI w_10))] dX6_addPrinter_19 (by decide) rfl ?_
      refine s_iload (pc := 21) S 0 dX6_addPrinter_21 rfl ?_
      refine s_aload_n (pc := 23) S 1 dX6_addPrinter_23 rfl rfl ?_
      refine s_get (pc := 24) S hz (ref := "SpoolFarm") (v := .ref (A 2 0)) (cc_farm (A := A) (C := C)) i_RX6 rfl 1 (Nat.le_of_ble_eq_true rfl) (by decide +kernel) (fun _ h => h) rfl dX6_addPrinter_24 ?_
      refine s_alen (pc := 27) S hz (n := 4) (cc_prns (A := A) (C := C)) dX6_addPrinter_27 ?_
      refine s_icmp_ltN (pc := 28) S 41 dX6_addPrinter_28 (by decide) (by omega) (by omega) (fun c_17 => ?_) (fun c_17 => ?_)
      · intro M hM hF0
        refine g_aload_n (pc := 41) S 1 dX6_addPrinter_41 rfl rfl ?_
        refine g_get (pc := 42) S hz (ref := "SpoolFarm") (v := .ref (A 2 0)) (hM 0 0 _ cc_farm) i_RX6 rfl 1 (Nat.le_of_ble_eq_true rfl) (by decide +kernel) (fun _ h => h) rfl dX6_addPrinter_42 ?_
        refine g_iload (pc := 45) S 0 dX6_addPrinter_45 rfl ?_
        refine g_new (pc := 47) S hz (ci := 8) (fs := [.int (nI 0), .int (nI 0), .int (nI 0), .int (nI 0), .null, .int (nI 0)]) (50, 0) i_RX3 tyX3 tyX3_ok (by decide +kernel) (by decide +kernel) (by decide +kernel) rfl (fun j hj => by revert j; decide) (Nat.le_of_ble_eq_true rfl) (Nat.le_of_ble_eq_true rfl) dX6_addPrinter_47 (fun y_ M1 f1 m1 => ?_)
        refine g_dup (pc := 50) S dX6_addPrinter_50 rfl ?_
        refine g_iload_n (pc := 51) S 2 dX6_addPrinter_51 rfl rfl ?_
        refine g_iload_n (pc := 52) S 3 dX6_addPrinter_52 rfl rfl ?_
        refine g_iload_n (pc := 53) S 4 dX6_addPrinter_53 rfl rfl ?_
        refine g_callI (pc := 54) S hz hml [.int (nI cb), .int (nI w_2), .int (nI w_10)] (k_X3_init Z l M1 (50, 0) (50, 1) y_ m1 (by decide) cb w_2 w_10 (by omega)) (cwI 3 S.2.2.2.2 gX6_addPrinter_X3_init rfl rfl rfl (S.2.2.2.2 _ (by decide +kernel)) (S.2.2.2.2 _ (by decide +kernel)) (S.2.2.2.2 _ (by decide +kernel)) rfl (by decide +kernel) ⟨Nat.le_of_ble_eq_true rfl, Nat.le_of_ble_eq_true rfl⟩) rfl rfl (Nat.le_of_ble_eq_true rfl) dX6_addPrinter_54 ⟨Nat.le_of_ble_eq_true rfl, Nat.le_of_ble_eq_true rfl⟩ (fun v_20 M_19 h_18 => ?_)
        obtain ⟨rfl, q_, f2, m2, m3⟩ := h_18
        refine g_aast (pc := 57) S hz ((f2 _ (fun z => by cases z) (fun z => by cases z)).trans ((f1 _ (fun z => by cases z)).trans (hM 2 0 _ cc_prns))) m2 rfl (by omega) (by decide) dX6_addPrinter_57 (fun M_22 f_21 m_23 => ?_)
        refine g_aload_n (pc := 58) S 1 dX6_addPrinter_58 rfl rfl ?_
        refine g_iload (pc := 59) S 0 dX6_addPrinter_59 rfl ?_
        refine g_iconst (pc := 61) S (v := (nI 1)) dX6_addPrinter_61 (by decide) ?_
        refine g_iaddN (pc := 62) S dX6_addPrinter_62 ?_
        refine g_put (pc := 63) S hz (ref := "SpoolFarm") (r := (0, 0)) (v := .int (nI ((C 0 0 4) + 1))) (ty := .int) ((f_21 _ (fun z => by cases z)).trans ((f2 _ (fun z => by cases z) (fun z => by cases z)).trans ((f1 _ (fun z => by cases z)).trans (hM 0 0 _ cc_farm)))) i_RX6 tyX6 tyX6_ok nmX6 rfl 4 (Nat.le_of_ble_eq_true rfl) (by decide +kernel) (fun _ h => h) rfl (by decide +kernel) rfl rfl _ (Nat.le_of_ble_eq_true rfl) rfl dX6_addPrinter_63 (fun M_24 f_25 m_26 => ?_)
        refine g_iload (pc := 66) S 0 dX6_addPrinter_66 rfl ?_
        have hE := Rep.prn (c := cb) (b := w_2) (s := w_10) (y := y_) (q := q_) hM (fun r2 z1 z2 z3 z4 => by rw [f_25 r2 z1, f_21 r2 z2, f2 r2 z3 z4, f1 r2 z3]) (by (rw [m_26]) <;> rfl) ((f_25 _ (fun z => by cases z)).trans m_23) (by (rw [((f_25 _ (fun z => by cases z)).trans ((f_21 _ (fun z => by cases z)).trans m2))]) <;> rfl) ((f_25 _ (fun z => by cases z)).trans ((f_21 _ (fun z => by cases z)).trans m3))
        refine g_world (M2 := wmv M_24 (50, 0) (9, C 0 0 4)) (fun H h => h.mv) ?_
        refine g_world (M2 := wmv (wmv M_24 (50, 0) (9, C 0 0 4)) (50, 1) (14, C 0 0 4)) (fun H h => h.mv) ?_
        exact g_iret (pc := 68) S hz hlo hr ⟨_, _, hE, (frm_w (frm_w hF0 (fun r2 h8 => by rw [f_25 r2 (ne80 h8 (by decide)), f_21 r2 (ne80 h8 (by decide)), f2 r2 (ne80 h8 (by decide)) (ne80 h8 (by decide)), f1 r2 (ne80 h8 (by decide))]) (show 9 < 80 by decide)) (fun _ _ => rfl) (show 14 < 80 by decide)), w_2, w_10, r_3, r_4, rfl, r_11, r_12, rfl, c_17, ⟨y_, q_, rfl⟩, rfl, rfl⟩ (Nat.le_of_ble_eq_true rfl) (Nat.le_of_ble_eq_true rfl) dX6_addPrinter_68
      · exact s_thr (pc := 31) (text := "no more printers") S hz hfl hml hex hlo thr_ISE (by decide +kernel) (by decide +kernel) (by decide +kernel) (by decide +kernel) dX6_addPrinter_31 dX6_addPrinter_34 dX6_addPrinter_35 dX6_addPrinter_37 dX6_addPrinter_40 (Nat.le_of_ble_eq_true rfl) (Nat.le_of_ble_eq_true rfl) (Nat.le_of_ble_eq_true rfl) (Nat.le_of_ble_eq_true rfl) ⟨rfl, Or.inr (Or.inr (⟨w_2, w_10, rfl, r_3, r_4, rfl, r_11, r_12, rfl, c_17, rfl⟩))⟩ (Nat.le_of_ble_eq_true rfl) (Nat.le_of_ble_eq_true rfl)
set_option maxHeartbeats 4000000 in
set_option maxRecDepth 100000 in
theorem k_X6_addTray (Z : Zp) (l : Launch) (A : AF) (C : CF) (x : Int32) (q : Nat) (y : Int32) (hq : q < 65536) (hK : OkK C) (hfl : l.stackTraces = false) : CtS Z l yX6_addTray wsX6_addTray ({ frames := 7, cells := 4, slots := 24, locals := 112 }) [.ref (A 0 0), .int x, .int (nI q), .int y] A C 4 24 (fun v A2 C2 => ∃ k_2 w_14 : Nat, k_2 < C 0 0 4 ∧ nI k_2 = x ∧ isPap q ∧ 0 ≤ w_14 ∧ w_14 ≤ 500 ∧ nI w_14 = y ∧ C 9 k_2 5 < 3 ∧ (∃ y_ : Nat, up2 A 12 (3 * k_2 + C 9 k_2 5) y_ = A2) ∧ adT C k_2 q w_14 = C2 ∧ some (.int (nI (C 9 k_2 5))) = v) (fun E A2 C2 => A = A2 ∧ ((E = "java/lang/IndexOutOfBoundsException" ∧ (∀ k : Nat, k < C 0 0 4 → nI k ≠ x) ∧ C = C2) ∨ (∃ k_2 : Nat, E = "java/lang/IllegalArgumentException" ∧ k_2 < C 0 0 4 ∧ nI k_2 = x ∧ ¬ isPap q ∧ C = C2) ∨ (∃ k_2 : Nat, E = "java/lang/IllegalArgumentException" ∧ k_2 < C 0 0 4 ∧ nI k_2 = x ∧ isPap q ∧ (∀ k : Nat, 0 ≤ k → k ≤ 500 → nI k ≠ y) ∧ C = C2) ∨ (∃ k_2 w_14 : Nat, E = "java/lang/IllegalStateException" ∧ k_2 < C 0 0 4 ∧ nI k_2 = x ∧ isPap q ∧ 0 ≤ w_14 ∧ w_14 ≤ 500 ∧ nI w_14 = y ∧ ¬ C 9 k_2 5 < 3 ∧ C = C2))) := by
  refine CtS.of (cc0 := cX6_addTray) (maxL := 6) (ret := (some .int)) (by decide) rfl (Nat.le_of_ble_eq_true rfl) ?_
  intro M0_ p_ e_ s_ m_ args_ below_ meth_ c_ S hz hml hex hlo hr hin
  refine s_loc (L2 := [(0, .ref (A 0 0)), (1, .int x), (2, .int (nI q)), (3, .int y)]) rfl ?_
  have i_RX3 : ∀ w ∈ u_ws RX3 TX3 6, w ∈ wsX6_addTray := by decide +kernel
  have i_RX4 : ∀ w ∈ u_ws RX4 TX4 2, w ∈ wsX6_addTray := by decide +kernel
  obtain ⟨⟨k3, k4, k5, k6, k7, k8⟩, kU, kP, kT, kJ, kL, kE, kB⟩ := id hK
  refine s_aload_n (pc := 0) S 0 dX6_addTray_0 rfl rfl ?_
  refine s_iload_n (pc := 1) S 1 dX6_addTray_1 rfl rfl ?_
  refine s_callV (pc := 2) S hz hml [.int x] (k_X6_printerAt Z l A C x k4 hfl) (cwV 1 S.2.2.2.2 gX6_addTray_X6_printerAt rfl rfl rfl (by decide +kernel) ⟨Nat.le_of_ble_eq_true rfl, Nat.le_of_ble_eq_true rfl⟩) (cc_farm (A := A) (C := C)) rfl rfl rfl (Nat.le_of_ble_eq_true rfl) dX6_addTray_2 ⟨Nat.le_of_ble_eq_true rfl, Nat.le_of_ble_eq_true rfl⟩ (fun E A2 C2 h_1 => ?_) (fun v A2 C2 h_1 => ?_)
  · obtain ⟨rfl, rfl, n_4, rfl⟩ := h_1
    exact s_out S hz hex hlo ⟨rfl, Or.inl ⟨rfl, n_4, rfl⟩⟩ (Nat.le_of_ble_eq_true rfl) (Nat.le_of_ble_eq_true rfl)
  · obtain ⟨rfl, rfl, k_2, hk_3, rfl, rfl⟩ := h_1
    obtain ⟨o_5, o_6, o_7, o_8, o_9⟩ := kP k_2 hk_3
    refine s_astore (pc := 5) S [(4, .ref (A 9 k_2)), (0, .ref (A 0 0)), (1, .int (nI k_2)), (2, .int (nI q)), (3, .int y)] dX6_addTray_5 (by decide) rfl ?_
    refine s_iload_n (pc := 7) S 3 dX6_addTray_7 rfl rfl ?_
    refine s_callS (pc := 8) S hz hml [.int (nI q)] (k_X6_checkPaper Z l A C q hq hfl) (cwS 1 S.2.2.2.2 gX6_addTray_X6_checkPaper rfl rfl rfl (by decide +kernel) ⟨Nat.le_of_ble_eq_true rfl, Nat.le_of_ble_eq_true rfl⟩) rfl rfl (Nat.le_of_ble_eq_true rfl) dX6_addTray_8 ⟨Nat.le_of_ble_eq_true rfl, Nat.le_of_ble_eq_true rfl⟩ (fun E A2 C2 h_10 => ?_) (fun v A2 C2 h_10 => ?_)
    · obtain ⟨rfl, rfl, pq_12, rfl⟩ := h_10
      exact s_out S hz hex hlo ⟨rfl, Or.inr (Or.inl ⟨k_2, rfl, hk_3, rfl, pq_12, rfl⟩)⟩ (Nat.le_of_ble_eq_true rfl) (Nat.le_of_ble_eq_true rfl)
    · obtain ⟨rfl, rfl, rfl, pq_11⟩ := h_10
      refine s_iload_n (pc := 11) S 4 dX6_addTray_11 rfl rfl ?_
      refine s_iconst (pc := 12) S (v := (nI 0)) dX6_addTray_12 (by decide) ?_
      refine s_sipush (pc := 13) S (v := (nI 500)) dX6_addTray_13 (by decide) ?_
      refine s_callS (pc := 16) S hz hml [.int y, .int (nI 0), .int (nI 500)] (k_X6_checkRange Z l A C y (nI 0) (nI 500) hfl) (cwS 3 S.2.2.2.2 gX6_addTray_X6_checkRange rfl rfl rfl (by decide +kernel) ⟨Nat.le_of_ble_eq_true rfl, Nat.le_of_ble_eq_true rfl⟩) rfl rfl (Nat.le_of_ble_eq_true rfl) dX6_addTray_16 ⟨Nat.le_of_ble_eq_true rfl, Nat.le_of_ble_eq_true rfl⟩ (fun E A2 C2 h_13 => ?_) (fun v A2 C2 h_13 => ?_)
      · obtain ⟨rfl, rfl, p_19, rfl⟩ := h_13
        have n_20 := rg_no (by decide) (by decide) p_19
        exact s_out S hz hex hlo ⟨rfl, Or.inr (Or.inr (Or.inl ⟨k_2, rfl, hk_3, rfl, pq_11, n_20, rfl⟩))⟩ (Nat.le_of_ble_eq_true rfl) (Nat.le_of_ble_eq_true rfl)
      · obtain ⟨rfl, rfl, rfl, p_17, p_18⟩ := h_13
        obtain ⟨w_14, r_15, r_16, rfl⟩ := rg_of (by decide) p_17 p_18 (by decide)
        refine s_aload (pc := 19) S 0 dX6_addTray_19 rfl ?_
        refine s_get (pc := 21) S hz (ref := "SpoolFarm$Printer") (v := .int (nI (C 9 k_2 5))) (cc_prn (A := A) (C := C) hk_3) i_RX3 rfl 5 (Nat.le_of_ble_eq_true rfl) (by decide +kernel) (fun _ h => h) rfl dX6_addTray_21 ?_
        refine s_istore (pc := 24) S [(5, .int (nI (C 9 k_2 5))), (4, .ref (A 9 k_2)), (0, .ref (A 0 0)), (1, .int (nI k_2)), (2, .int (nI q)), (3, .int (nI w_14))] dX6_addTray_24 (by decide) rfl ?_
        refine s_iload (pc := 26) S 0 dX6_addTray_26 rfl ?_
        refine s_aload (pc := 28) S 1 dX6_addTray_28 rfl ?_
        refine s_get (pc := 30) S hz (ref := "SpoolFarm$Printer") (v := .ref (A 14 k_2)) (cc_prn (A := A) (C := C) hk_3) i_RX3 rfl 4 (Nat.le_of_ble_eq_true rfl) (by decide +kernel) (fun _ h => h) rfl dX6_addTray_30 ?_
        refine s_alen (pc := 33) S hz (n := 3) (cc_trays (A := A) (C := C) hk_3) dX6_addTray_33 ?_
        refine s_icmp_ltN (pc := 34) S 47 dX6_addTray_34 (by decide) (by omega) (by omega) (fun c_21 => ?_) (fun c_21 => ?_)
        · intro M hM hF0
          refine g_aload (pc := 47) S 1 dX6_addTray_47 rfl ?_
          refine g_get (pc := 49) S hz (ref := "SpoolFarm$Printer") (v := .ref (A 14 k_2)) (hM 9 k_2 _ (cc_prn hk_3)) i_RX3 rfl 4 (Nat.le_of_ble_eq_true rfl) (by decide +kernel) (fun _ h => h) rfl dX6_addTray_49 ?_
          refine g_iload (pc := 52) S 0 dX6_addTray_52 rfl ?_
          refine g_new (pc := 54) S hz (ci := 9) (fs := [.int (nI 0), .int (nI 0)]) (50, 0) i_RX4 tyX4 tyX4_ok (by decide +kernel) (by decide +kernel) (by decide +kernel) rfl (fun j hj => by revert j; decide) (Nat.le_of_ble_eq_true rfl) (Nat.le_of_ble_eq_true rfl) dX6_addTray_54 (fun y_ M1 f1 m1 => ?_)
          refine g_dup (pc := 57) S dX6_addTray_57 rfl ?_
          refine g_iload_n (pc := 58) S 4 dX6_addTray_58 rfl rfl ?_
          refine g_iload_n (pc := 59) S 5 dX6_addTray_59 rfl rfl ?_
          refine g_callI (pc := 60) S hz hml [.int (nI q), .int (nI w_14)] (k_X4_init Z l M1 (50, 0) y_ m1 q w_14 (by omega)) (cwI 2 S.2.2.2.2 gX6_addTray_X4_init rfl rfl rfl (S.2.2.2.2 _ (by decide +kernel)) (S.2.2.2.2 _ (by decide +kernel)) (S.2.2.2.2 _ (by decide +kernel)) rfl (by decide +kernel) ⟨Nat.le_of_ble_eq_true rfl, Nat.le_of_ble_eq_true rfl⟩) rfl rfl (Nat.le_of_ble_eq_true rfl) dX6_addTray_60 ⟨Nat.le_of_ble_eq_true rfl, Nat.le_of_ble_eq_true rfl⟩ (fun v_24 M_23 h_22 => ?_)
          obtain ⟨rfl, f2, m2⟩ := h_22
          refine g_aast (pc := 63) S hz ((f2 _ (fun z => by cases z)).trans ((f1 _ (fun z => by cases z)).trans (hM 14 k_2 _ (cc_trays hk_3)))) m2 rfl (by omega) (by decide) dX6_addTray_63 (fun M_26 f_25 m_27 => ?_)
          refine g_aload (pc := 64) S 1 dX6_addTray_64 rfl ?_
          refine g_iload (pc := 66) S 0 dX6_addTray_66 rfl ?_
          refine g_iconst (pc := 68) S (v := (nI 1)) dX6_addTray_68 (by decide) ?_
          refine g_iaddN (pc := 69) S dX6_addTray_69 ?_
          refine g_put (pc := 70) S hz (ref := "SpoolFarm$Printer") (r := (9, k_2)) (v := .int (nI ((C 9 k_2 5) + 1))) (ty := .int) ((f_25 _ (fun z => by cases z)).trans ((f2 _ (fun z => by cases z)).trans ((f1 _ (fun z => by cases z)).trans (hM 9 k_2 _ (cc_prn hk_3))))) i_RX3 tyX3 tyX3_ok nmX3 rfl 5 (Nat.le_of_ble_eq_true rfl) (by decide +kernel) (fun _ h => h) rfl (by decide +kernel) rfl rfl _ (Nat.le_of_ble_eq_true rfl) rfl dX6_addTray_70 (fun M_28 f_29 m_30 => ?_)
          refine g_iload (pc := 73) S 0 dX6_addTray_73 rfl ?_
          have hE := Rep.tray (q := q) (s := w_14) (y := y_) hM hk_3 (by omega) (fun i hi => (kP i hi).2.2.2.2) (fun r2 z1 z2 z3 => by rw [f_29 r2 z1, f_25 r2 z2, f2 r2 z3, f1 r2 z3]) (by (rw [m_30]) <;> rfl) ((f_29 _ (fun z => by cases z)).trans m_27) (by rw [((f_29 _ (fun z => by cases z)).trans ((f_25 _ (fun z => by cases z)).trans m2))])
          refine g_world (M2 := wmv M_28 (50, 0) (12, 3 * k_2 + C 9 k_2 5)) (fun H h => h.mv) ?_
          exact g_iret (pc := 75) S hz hlo hr ⟨_, _, hE, (frm_w hF0 (fun r2 h8 => by rw [f_29 r2 (ne80 h8 (by decide)), f_25 r2 (ne80 h8 (by decide)), f2 r2 (ne80 h8 (by decide)), f1 r2 (ne80 h8 (by decide))]) (show 12 < 80 by decide)), k_2, w_14, hk_3, rfl, pq_11, r_15, r_16, rfl, c_21, ⟨y_, rfl⟩, rfl, rfl⟩ (Nat.le_of_ble_eq_true rfl) (Nat.le_of_ble_eq_true rfl) dX6_addTray_75
        · exact s_thr (pc := 37) (text := "no more trays") S hz hfl hml hex hlo thr_ISE (by decide +kernel) (by decide +kernel) (by decide +kernel) (by decide +kernel) dX6_addTray_37 dX6_addTray_40 dX6_addTray_41 dX6_addTray_43 dX6_addTray_46 (Nat.le_of_ble_eq_true rfl) (Nat.le_of_ble_eq_true rfl) (Nat.le_of_ble_eq_true rfl) (Nat.le_of_ble_eq_true rfl) ⟨rfl, Or.inr (Or.inr (Or.inr (⟨k_2, w_14, rfl, hk_3, rfl, pq_11, r_15, r_16, rfl, c_21, rfl⟩)))⟩ (Nat.le_of_ble_eq_true rfl) (Nat.le_of_ble_eq_true rfl)
set_option maxHeartbeats 4000000 in
set_option maxRecDepth 100000 in
theorem k_X6_submit (Z : Zp) (l : Launch) (A : AF) (C : CF) (x y w : Int32) (q cb db : Nat) (hq : q < 65536) (hcb : cb < 2) (hdb : db < 2) (hK : OkK C) (hfl : l.stackTraces = false) : CtS Z l yX6_submit wsX6_submit ({ frames := 7, cells := 5, slots := 38, locals := 112 }) [.ref (A 0 0), .int x, .int y, .int w, .int (nI q), .int (nI cb), .int (nI db)] A C 5 38 (fun v A2 C2 => ∃ k_2 w_10 w_18 : Nat, k_2 < C 0 0 3 ∧ nI k_2 = x ∧ 1 ≤ w_10 ∧ w_10 ≤ 100 ∧ nI w_10 = y ∧ 1 ≤ w_18 ∧ w_18 ≤ 9 ∧ nI w_18 = w ∧ isPap q ∧ C 0 0 5 < 40 ∧ (∃ y_ : Nat, up2 A 11 (C 0 0 5) y_ = A2) ∧ adO C 11 (C 0 0 5) (joF (C 0 0 5) k_2 w_10 w_18 q cb db) 5 = C2 ∧ some (.int (nI (C 0 0 5))) = v) (fun E A2 C2 => A = A2 ∧ ((E = "java/lang/IndexOutOfBoundsException" ∧ (∀ k : Nat, k < C 0 0 3 → nI k ≠ x) ∧ C = C2) ∨ (∃ k_2 : Nat, E = "java/lang/IllegalArgumentException" ∧ k_2 < C 0 0 3 ∧ nI k_2 = x ∧ (∀ k : Nat, 1 ≤ k → k ≤ 100 → nI k ≠ y) ∧ C = C2) ∨ (∃ k_2 w_10 : Nat, E = "java/lang/IllegalArgumentException" ∧ k_2 < C 0 0 3 ∧ nI k_2 = x ∧ 1 ≤ w_10 ∧ w_10 ≤ 100 ∧ nI w_10 = y ∧ (∀ k : Nat, 1 ≤ k → k ≤ 9 → nI k ≠ w) ∧ C = C2) ∨ (∃ k_2 w_10 w_18 : Nat, E = "java/lang/IllegalArgumentException" ∧ k_2 < C 0 0 3 ∧ nI k_2 = x ∧ 1 ≤ w_10 ∧ w_10 ≤ 100 ∧ nI w_10 = y ∧ 1 ≤ w_18 ∧ w_18 ≤ 9 ∧ nI w_18 = w ∧ ¬ isPap q ∧ C = C2) ∨ (∃ k_2 w_10 w_18 : Nat, E = "java/lang/IllegalStateException" ∧ k_2 < C 0 0 3 ∧ nI k_2 = x ∧ 1 ≤ w_10 ∧ w_10 ≤ 100 ∧ nI w_10 = y ∧ 1 ≤ w_18 ∧ w_18 ≤ 9 ∧ nI w_18 = w ∧ isPap q ∧ ¬ C 0 0 5 < 40 ∧ C = C2))) := by
  refine CtS.of (cc0 := cX6_submit) (maxL := 9) (ret := (some .int)) (by decide) rfl (Nat.le_of_ble_eq_true rfl) ?_
  intro M0_ p_ e_ s_ m_ args_ below_ meth_ c_ S hz hml hex hlo hr hin
  refine s_loc (L2 := [(0, .ref (A 0 0)), (1, .int x), (2, .int y), (3, .int w), (4, .int (nI q)), (5, .int (nI cb)), (6, .int (nI db))]) rfl ?_
  have i_RX1 : ∀ w ∈ u_ws RX1 TX1 14, w ∈ wsX6_submit := by decide +kernel
  have i_RX6 : ∀ w ∈ u_ws RX6 TX6 12, w ∈ wsX6_submit := by decide +kernel
  obtain ⟨⟨k3, k4, k5, k6, k7, k8⟩, kU, kP, kT, kJ, kL, kE, kB⟩ := id hK
  refine s_aload_n (pc := 0) S 0 dX6_submit_0 rfl rfl ?_
  refine s_iload_n (pc := 1) S 1 dX6_submit_1 rfl rfl ?_
  refine s_callV (pc := 2) S hz hml [.int x] (k_X6_userAt Z l A C x k3 hfl) (cwV 1 S.2.2.2.2 gX6_submit_X6_userAt rfl rfl rfl (by decide +kernel) ⟨Nat.le_of_ble_eq_true rfl, Nat.le_of_ble_eq_true rfl⟩) (cc_farm (A := A) (C := C)) rfl rfl rfl (Nat.le_of_ble_eq_true rfl) dX6_submit_2 ⟨Nat.le_of_ble_eq_true rfl, Nat.le_of_ble_eq_true rfl⟩ (fun E A2 C2 h_1 => ?_) (fun v A2 C2 h_1 => ?_)
  · obtain ⟨rfl, rfl, n_4, rfl⟩ := h_1
    exact s_out S hz hex hlo ⟨rfl, Or.inl ⟨rfl, n_4, rfl⟩⟩ (Nat.le_of_ble_eq_true rfl) (Nat.le_of_ble_eq_true rfl)
  · obtain ⟨rfl, rfl, k_2, hk_3, rfl, rfl⟩ := h_1
    obtain ⟨o_5, o_6, o_7, o_8⟩ := kU k_2 hk_3
    refine s_pop (pc := 5) S dX6_submit_5 rfl ?_
    refine s_iload_n (pc := 6) S 2 dX6_submit_6 rfl rfl ?_
    refine s_iconst (pc := 7) S (v := (nI 1)) dX6_submit_7 (by decide) ?_
    refine s_bipush (pc := 8) S (v := (nI 100)) dX6_submit_8 (by decide) ?_
    refine s_callS (pc := 10) S hz hml [.int y, .int (nI 1), .int (nI 100)] (k_X6_checkRange Z l A C y (nI 1) (nI 100) hfl) (cwS 3 S.2.2.2.2 gX6_submit_X6_checkRange rfl rfl rfl (by decide +kernel) ⟨Nat.le_of_ble_eq_true rfl, Nat.le_of_ble_eq_true rfl⟩) rfl rfl (Nat.le_of_ble_eq_true rfl) dX6_submit_10 ⟨Nat.le_of_ble_eq_true rfl, Nat.le_of_ble_eq_true rfl⟩ (fun E A2 C2 h_9 => ?_) (fun v A2 C2 h_9 => ?_)
    · obtain ⟨rfl, rfl, p_15, rfl⟩ := h_9
      have n_16 := rg_no (by decide) (by decide) p_15
      exact s_out S hz hex hlo ⟨rfl, Or.inr (Or.inl ⟨k_2, rfl, hk_3, rfl, n_16, rfl⟩)⟩ (Nat.le_of_ble_eq_true rfl) (Nat.le_of_ble_eq_true rfl)
    · obtain ⟨rfl, rfl, rfl, p_13, p_14⟩ := h_9
      obtain ⟨w_10, r_11, r_12, rfl⟩ := rg_of (by decide) p_13 p_14 (by decide)
      refine s_iload_n (pc := 13) S 3 dX6_submit_13 rfl rfl ?_
      refine s_iconst (pc := 14) S (v := (nI 1)) dX6_submit_14 (by decide) ?_
      refine s_bipush (pc := 15) S (v := (nI 9)) dX6_submit_15 (by decide) ?_
      refine s_callS (pc := 17) S hz hml [.int w, .int (nI 1), .int (nI 9)] (k_X6_checkRange Z l A C w (nI 1) (nI 9) hfl) (cwS 3 S.2.2.2.2 gX6_submit_X6_checkRange rfl rfl rfl (by decide +kernel) ⟨Nat.le_of_ble_eq_true rfl, Nat.le_of_ble_eq_true rfl⟩) rfl rfl (Nat.le_of_ble_eq_true rfl) dX6_submit_17 ⟨Nat.le_of_ble_eq_true rfl, Nat.le_of_ble_eq_true rfl⟩ (fun E A2 C2 h_17 => ?_) (fun v A2 C2 h_17 => ?_)
      · obtain ⟨rfl, rfl, p_23, rfl⟩ := h_17
        have n_24 := rg_no (by decide) (by decide) p_23
        exact s_out S hz hex hlo ⟨rfl, Or.inr (Or.inr (Or.inl ⟨k_2, w_10, rfl, hk_3, rfl, r_11, r_12, rfl, n_24, rfl⟩))⟩ (Nat.le_of_ble_eq_true rfl) (Nat.le_of_ble_eq_true rfl)
      · obtain ⟨rfl, rfl, rfl, p_21, p_22⟩ := h_17
        obtain ⟨w_18, r_19, r_20, rfl⟩ := rg_of (by decide) p_21 p_22 (by decide)
        refine s_iload (pc := 20) S 4 dX6_submit_20 rfl ?_
        refine s_callS (pc := 22) S hz hml [.int (nI q)] (k_X6_checkPaper Z l A C q hq hfl) (cwS 1 S.2.2.2.2 gX6_submit_X6_checkPaper rfl rfl rfl (by decide +kernel) ⟨Nat.le_of_ble_eq_true rfl, Nat.le_of_ble_eq_true rfl⟩) rfl rfl (Nat.le_of_ble_eq_true rfl) dX6_submit_22 ⟨Nat.le_of_ble_eq_true rfl, Nat.le_of_ble_eq_true rfl⟩ (fun E A2 C2 h_25 => ?_) (fun v A2 C2 h_25 => ?_)
        · obtain ⟨rfl, rfl, pq_27, rfl⟩ := h_25
          exact s_out S hz hex hlo ⟨rfl, Or.inr (Or.inr (Or.inr (Or.inl ⟨k_2, w_10, w_18, rfl, hk_3, rfl, r_11, r_12, rfl, r_19, r_20, rfl, pq_27, rfl⟩)))⟩ (Nat.le_of_ble_eq_true rfl) (Nat.le_of_ble_eq_true rfl)
        · obtain ⟨rfl, rfl, rfl, pq_26⟩ := h_25
          refine s_aload_n (pc := 25) S 0 dX6_submit_25 rfl rfl ?_
          refine s_get (pc := 26) S hz (ref := "SpoolFarm") (v := .int (nI (C 0 0 5))) (cc_farm (A := A) (C := C)) i_RX6 rfl 5 (Nat.le_of_ble_eq_true rfl) (by decide +kernel) (fun _ h => h) rfl dX6_submit_26 ?_
          refine s_istore (pc := 29) S [(7, .int (nI (C 0 0 5))), (0, .ref (A 0 0)), (1, .int (nI k_2)), (2, .int (nI w_10)), (3, .int (nI w_18)), (4, .int (nI q)), (5, .int (nI cb)), (6, .int (nI db))] dX6_submit_29 (by decide) rfl ?_
          refine s_iload (pc := 31) S 0 dX6_submit_31 rfl ?_
          refine s_aload_n (pc := 33) S 1 dX6_submit_33 rfl rfl ?_
          refine s_get (pc := 34) S hz (ref := "SpoolFarm") (v := .ref (A 3 0)) (cc_farm (A := A) (C := C)) i_RX6 rfl 2 (Nat.le_of_ble_eq_true rfl) (by decide +kernel) (fun _ h => h) rfl dX6_submit_34 ?_
          refine s_alen (pc := 37) S hz (n := 40) (cc_jobs (A := A) (C := C)) dX6_submit_37 ?_
          refine s_icmp_ltN (pc := 38) S 51 dX6_submit_38 (by decide) (by omega) (by omega) (fun c_28 => ?_) (fun c_28 => ?_)
          · intro M hM hF0
            refine g_new (pc := 51) S hz (ci := 6) (fs := [.int (nI 0), .int (nI 0), .int (nI 0), .int (nI 0), .int (nI 0), .int (nI 0), .int (nI 0), .int (nI 0), .int (nI 0), .int (nI 0), .int (nI 0), .int (nI 0), .int (nI 0), .int (nI 0)]) (50, 0) i_RX1 tyX1 tyX1_ok (by decide +kernel) (by decide +kernel) (by decide +kernel) rfl (fun j hj => by revert j; decide) (Nat.le_of_ble_eq_true rfl) (Nat.le_of_ble_eq_true rfl) dX6_submit_51 (fun y_ M1 f1 m1 => ?_)
            refine g_dup (pc := 54) S dX6_submit_54 rfl ?_
            refine g_iload (pc := 55) S 0 dX6_submit_55 rfl ?_
            refine g_iload_n (pc := 57) S 2 dX6_submit_57 rfl rfl ?_
            refine g_iload_n (pc := 58) S 3 dX6_submit_58 rfl rfl ?_
            refine g_iload_n (pc := 59) S 4 dX6_submit_59 rfl rfl ?_
            refine g_callI (pc := 60) S hz hml [.int (nI (C 0 0 5)), .int (nI k_2), .int (nI w_10), .int (nI w_18)] (k_X1_init Z l M1 (50, 0) y_ m1 (C 0 0 5) k_2 w_10 w_18) (cwI 4 S.2.2.2.2 gX6_submit_X1_init rfl rfl rfl (S.2.2.2.2 _ (by decide +kernel)) (S.2.2.2.2 _ (by decide +kernel)) (S.2.2.2.2 _ (by decide +kernel)) rfl (by decide +kernel) ⟨Nat.le_of_ble_eq_true rfl, Nat.le_of_ble_eq_true rfl⟩) rfl rfl (Nat.le_of_ble_eq_true rfl) dX6_submit_60 ⟨Nat.le_of_ble_eq_true rfl, Nat.le_of_ble_eq_true rfl⟩ (fun v_31 M_30 h_29 => ?_)
            obtain ⟨rfl, f2, m2⟩ := h_29
            refine g_astore (pc := 63) S [(8, .ref y_), (7, .int (nI (C 0 0 5))), (0, .ref (A 0 0)), (1, .int (nI k_2)), (2, .int (nI w_10)), (3, .int (nI w_18)), (4, .int (nI q)), (5, .int (nI cb)), (6, .int (nI db))] dX6_submit_63 (by decide) rfl ?_
            refine g_aload (pc := 65) S 0 dX6_submit_65 rfl ?_
            refine g_iload (pc := 67) S 6 dX6_submit_67 rfl ?_
            refine g_put (pc := 69) S hz (ref := "SpoolFarm$Job") (r := (50, 0)) (v := .int (nI q)) (ty := .char) m2 i_RX1 tyX1 tyX1_ok nmX1 rfl 4 (Nat.le_of_ble_eq_true rfl) (by decide +kernel) (fun _ h => h) rfl (by decide +kernel) (nar_c (by first | decide | omega)) (fit_c (by first | decide | omega)) _ (Nat.le_of_ble_eq_true rfl) rfl dX6_submit_69 (fun M_32 f_33 m_34 => ?_)
            refine g_aload (pc := 72) S 0 dX6_submit_72 rfl ?_
            refine g_iload (pc := 74) S 7 dX6_submit_74 rfl ?_
            refine g_put (pc := 76) S hz (ref := "SpoolFarm$Job") (r := (50, 0)) (v := .int (nI cb)) (ty := .boolean) m_34 i_RX1 tyX1 tyX1_ok nmX1 rfl 5 (Nat.le_of_ble_eq_true rfl) (by decide +kernel) (fun _ h => h) rfl (by decide +kernel) (nar_z (by first | decide | omega)) (fit_z (by first | decide | omega)) _ (Nat.le_of_ble_eq_true rfl) rfl dX6_submit_76 (fun M_35 f_36 m_37 => ?_)
            refine g_aload (pc := 79) S 0 dX6_submit_79 rfl ?_
            refine g_iload (pc := 81) S 8 dX6_submit_81 rfl ?_
            refine g_put (pc := 83) S hz (ref := "SpoolFarm$Job") (r := (50, 0)) (v := .int (nI db)) (ty := .boolean) m_37 i_RX1 tyX1 tyX1_ok nmX1 rfl 6 (Nat.le_of_ble_eq_true rfl) (by decide +kernel) (fun _ h => h) rfl (by decide +kernel) (nar_z (by first | decide | omega)) (fit_z (by first | decide | omega)) _ (Nat.le_of_ble_eq_true rfl) rfl dX6_submit_83 (fun M_38 f_39 m_40 => ?_)
            refine g_aload_n (pc := 86) S 2 dX6_submit_86 rfl rfl ?_
            refine g_get (pc := 87) S hz (ref := "SpoolFarm") (v := .ref (A 3 0)) ((f_39 _ (fun z => by cases z)).trans ((f_36 _ (fun z => by cases z)).trans ((f_33 _ (fun z => by cases z)).trans ((f2 _ (fun z => by cases z)).trans ((f1 _ (fun z => by cases z)).trans (hM 0 0 _ cc_farm)))))) i_RX6 rfl 2 (Nat.le_of_ble_eq_true rfl) (by decide +kernel) (fun _ h => h) rfl dX6_submit_87 ?_
            refine g_iload (pc := 90) S 1 dX6_submit_90 rfl ?_
            refine g_aload (pc := 92) S 0 dX6_submit_92 rfl ?_
            refine g_aast (pc := 94) S hz ((f_39 _ (fun z => by cases z)).trans ((f_36 _ (fun z => by cases z)).trans ((f_33 _ (fun z => by cases z)).trans ((f2 _ (fun z => by cases z)).trans ((f1 _ (fun z => by cases z)).trans (hM 3 0 _ cc_jobs)))))) m_40 rfl (by omega) (by decide) dX6_submit_94 (fun M_42 f_41 m_43 => ?_)
            refine g_aload_n (pc := 95) S 2 dX6_submit_95 rfl rfl ?_
            refine g_iload (pc := 96) S 1 dX6_submit_96 rfl ?_
            refine g_iconst (pc := 98) S (v := (nI 1)) dX6_submit_98 (by decide) ?_
            refine g_iaddN (pc := 99) S dX6_submit_99 ?_
            refine g_put (pc := 100) S hz (ref := "SpoolFarm") (r := (0, 0)) (v := .int (nI ((C 0 0 5) + 1))) (ty := .int) ((f_41 _ (fun z => by cases z)).trans ((f_39 _ (fun z => by cases z)).trans ((f_36 _ (fun z => by cases z)).trans ((f_33 _ (fun z => by cases z)).trans ((f2 _ (fun z => by cases z)).trans ((f1 _ (fun z => by cases z)).trans (hM 0 0 _ cc_farm))))))) i_RX6 tyX6 tyX6_ok nmX6 rfl 5 (Nat.le_of_ble_eq_true rfl) (by decide +kernel) (fun _ h => h) rfl (by decide +kernel) rfl rfl _ (Nat.le_of_ble_eq_true rfl) rfl dX6_submit_100 (fun M_44 f_45 m_46 => ?_)
            refine g_iload (pc := 103) S 1 dX6_submit_103 rfl ?_
            have hE := Rep.job (F := joF (C 0 0 5) k_2 w_10 w_18 q cb db) (y := y_) hM (fun r2 z1 z2 z3 => by rw [f_45 r2 z1, f_41 r2 z2, f_39 r2 z3, f_36 r2 z3, f_33 r2 z3, f2 r2 z3, f1 r2 z3]) (by (rw [m_46]) <;> rfl) ((f_45 _ (fun z => by cases z)).trans m_43) (by (rw [((f_45 _ (fun z => by cases z)).trans ((f_41 _ (fun z => by cases z)).trans m_40))]) <;> rfl)
            refine g_world (M2 := wmv M_44 (50, 0) (11, C 0 0 5)) (fun H h => h.mv) ?_
            exact g_iret (pc := 105) S hz hlo hr ⟨_, _, hE, (frm_w hF0 (fun r2 h8 => by rw [f_45 r2 (ne80 h8 (by decide)), f_41 r2 (ne80 h8 (by decide)), f_39 r2 (ne80 h8 (by decide)), f_36 r2 (ne80 h8 (by decide)), f_33 r2 (ne80 h8 (by decide)), f2 r2 (ne80 h8 (by decide)), f1 r2 (ne80 h8 (by decide))]) (show 11 < 80 by decide)), k_2, w_10, w_18, hk_3, rfl, r_11, r_12, rfl, r_19, r_20, rfl, pq_26, c_28, ⟨y_, rfl⟩, rfl, rfl⟩ (Nat.le_of_ble_eq_true rfl) (Nat.le_of_ble_eq_true rfl) dX6_submit_105
          · exact s_thr (pc := 41) (text := "no more jobs") S hz hfl hml hex hlo thr_ISE (by decide +kernel) (by decide +kernel) (by decide +kernel) (by decide +kernel) dX6_submit_41 dX6_submit_44 dX6_submit_45 dX6_submit_47 dX6_submit_50 (Nat.le_of_ble_eq_true rfl) (Nat.le_of_ble_eq_true rfl) (Nat.le_of_ble_eq_true rfl) (Nat.le_of_ble_eq_true rfl) ⟨rfl, Or.inr (Or.inr (Or.inr (Or.inr (⟨k_2, w_10, w_18, rfl, hk_3, rfl, r_11, r_12, rfl, r_19, r_20, rfl, pq_26, c_28, rfl⟩))))⟩ (Nat.le_of_ble_eq_true rfl) (Nat.le_of_ble_eq_true rfl)
