theorem k_modLen (Z : Zp) (l : Launch) (A : AF) (C : CF) : CtS Z l yJ0_length_8abf5 wsJ0_length_8abf5 ({ frames := 1, cells := 0, slots := 0, locals := 20 }) [.ref (A 60 26)] A C 0 0 (fun v A2 C2 => A = A2 ∧ C = C2 ∧ some (.int (nI (C 61 27 0))) = v) (fun _ _ _ => False) :=
  CtS.pure (fun M hM => k_strLen Z l M (60, 26) (A 60 26) (A 60 27) (hM 60 26 _ cc_str) (60, 27) (C 61 27 0) (C 60 27) (hM 60 27 _ cc_strb))
theorem k_modChar (Z : Zp) (l : Launch) (A : AF) (C : CF) (i : Nat) (hi : i < C 61 27 0) (h1 : C 61 27 0 ≤ 60) (h2 : C 60 27 i < 128) : CtS Z l yJ0_charAt_5068e wsJ0_charAt_5068e ({ frames := 3, cells := 0, slots := 0, locals := 64 }) [.ref (A 60 26), .int (nI i)] A C 0 0 (fun v A2 C2 => A = A2 ∧ C = C2 ∧ some (.int (nI (C 60 27 i))) = v) (fun _ _ _ => False) :=
  CtS.pure (fun M hM => k_strChar Z l M i (60, 26) (A 60 26) (A 60 27) (hM 60 26 _ cc_str) (60, 27) (C 61 27 0) (C 60 27) (hM 60 27 _ cc_strb) hi (by omega) h2)
set_option maxHeartbeats 4000000 in
set_option maxRecDepth 100000 in
theorem k_X7_lineAt (Z : Zp) (l : Launch) (A : AF) (C : CF) (x : Int32) (hln : C 61 27 0 ≤ 60) (hlc : ∀ j : Nat, j < C 61 27 0 → C 60 27 j < 128) (hO : OkR C) : CtS Z l yX7_lineAt wsX7_lineAt ({ frames := 4, cells := 0, slots := 0, locals := 85 }) [.ref (A 60 100), .int x] A C 0 0 (fun v A2 C2 => A = A2 ∧ ((∃ w : Nat, w < C 61 27 0 ∧ nI w = x ∧ (up3 C 60 100 27 0) = C2 ∧ some (.int (nI (C 60 27 w))) = v) ∨ ((∀ k : Nat, k < C 61 27 0 → nI k ≠ x) ∧ (up3 C 60 100 27 1) = C2 ∧ some (.int (nI 32)) = v))) (fun _ _ _ => False) := by
  refine CtS.of (cc0 := cX7_lineAt) (maxL := 2) (ret := (some .char)) (by decide) rfl (Nat.le_of_ble_eq_true rfl) ?_
  intro M0_ p_ e_ s_ m_ args_ below_ meth_ c_ S hz hml hex hlo hr hin
  refine s_loc (L2 := [(0, .ref (A 60 100)), (1, .int x)]) rfl ?_
  have i_RX7 : ∀ w ∈ u_ws RX7 TX7 38, w ∈ wsX7_lineAt := by decide +kernel
  obtain ⟨oU, oP, oJ, oTc, oY, o8, o9, o10, o11, o12, o13, o14, o15, oX, oQ, oB, oK, oS, oJk, oM, oCo, oSh, oLg, oPo, oLl, oL2, oL3, oL4, oLle, oE1, oE2, oE3, oE4⟩ := id hO
  have hu : C 60 100 28 < 2 ^ 30 := by omega
  have hp : C 60 100 29 < 2 ^ 30 := by omega
  have hj : C 60 100 30 < 2 ^ 30 := by omega
  have hlg : C 60 100 31 < 2 ^ 30 := by omega
  have hp4 := oP
  have htc := oTc
  refine s_aload_n (pc := 0) S 0 dX7_lineAt_0 rfl rfl ?_
  refine s_iload_n (pc := 1) S 1 dX7_lineAt_1 rfl rfl ?_
  refine s_iconst (pc := 2) S (v := (nI 0)) dX7_lineAt_2 (by decide) ?_
  refine s_aload_n (pc := 3) S 0 dX7_lineAt_3 rfl rfl ?_
  refine s_get (pc := 4) S hz (ref := "SpoolFarmModel") (v := .ref (A 60 26)) (cc_mod (A := A) (C := C)) i_RX7 rfl 26 (Nat.le_of_ble_eq_true rfl) (by decide +kernel) (fun _ h => h) rfl dX7_lineAt_4 ?_
  refine s_callV (pc := 7) S hz hml [] (k_modLen Z l A C) (cwV 0 S.2.2.2.2 gX7_lineAt_J0_length_8abf5 rfl rfl rfl (by decide +kernel) ⟨Nat.le_of_ble_eq_true rfl, Nat.le_of_ble_eq_true rfl⟩) (cc_str (A := A) (C := C)) rfl rfl rfl (Nat.le_of_ble_eq_true rfl) dX7_lineAt_7 ⟨Nat.le_of_ble_eq_true rfl, Nat.le_of_ble_eq_true rfl⟩ (fun _ _ _ h => h.elim) (fun v A2 C2 h_1 => ?_)
  obtain ⟨rfl, rfl, rfl⟩ := h_1
  refine s_top (u := .int (nI (C 61 27 0))) rfl ?_
  refine s_iconst (pc := 10) S (v := (nI 1)) dX7_lineAt_10 (by decide) ?_
  refine s_isub (pc := 11) S dX7_lineAt_11 ?_
  refine s_callS (pc := 12) S hz hml [.int x, .int (nI 0), .int ((nI (C 61 27 0)) - (nI 1))] (k_X7_in Z l A C x (nI 0) ((nI (C 61 27 0)) - (nI 1))) (cwS 3 S.2.2.2.2 gX7_lineAt_X7_in rfl rfl rfl (by decide +kernel) ⟨Nat.le_of_ble_eq_true rfl, Nat.le_of_ble_eq_true rfl⟩) rfl rfl (Nat.le_of_ble_eq_true rfl) dX7_lineAt_12 ⟨Nat.le_of_ble_eq_true rfl, Nat.le_of_ble_eq_true rfl⟩ (fun _ _ _ h => h.elim) (fun v A2 C2 h_2 => ?_)
  rcases h_2 with ⟨rfl, rfl, ⟨p_3, p_4, rfl⟩ | ⟨p_5, rfl⟩⟩
  · obtain ⟨w, hw, rfl⟩ := ix_of (n := C 61 27 0) (by omega) p_3 p_4
    refine s_callV (pc := 15) S hz hml [.int (nI 1)] (k_X7_checked Z l A C 1 (by decide)) (cwV 1 S.2.2.2.2 gX7_lineAt_X7_checked rfl rfl rfl (by decide +kernel) ⟨Nat.le_of_ble_eq_true rfl, Nat.le_of_ble_eq_true rfl⟩) (cc_mod (A := A) (C := C)) rfl rfl rfl (Nat.le_of_ble_eq_true rfl) dX7_lineAt_15 ⟨Nat.le_of_ble_eq_true rfl, Nat.le_of_ble_eq_true rfl⟩ (fun _ _ _ h => h.elim) (fun v A2 C2 h_6 => ?_)
    obtain ⟨rfl, rfl, rfl⟩ := h_6
    refine s_if_leN (pc := 18) S 26 dX7_lineAt_18 (by decide) (by decide) (fun _ => ?_) (fun h => absurd h (by decide))
    refine s_aload_n (pc := 26) S 0 dX7_lineAt_26 rfl rfl ?_
    refine s_get (pc := 27) S hz (ref := "SpoolFarmModel") (v := .ref (A 60 26)) (cc_mod (A := A) (C := (up3 C 60 100 27 0))) i_RX7 rfl 26 (Nat.le_of_ble_eq_true rfl) (by decide +kernel) (fun _ h => h) rfl dX7_lineAt_27 ?_
    refine s_iload_n (pc := 30) S 1 dX7_lineAt_30 rfl rfl ?_
    refine s_callV (pc := 31) S hz hml [.int (nI w)] (k_modChar Z l A (up3 C 60 100 27 0) w (by show w < C 61 27 0; omega) hln (hlc w (by omega))) (cwV 1 S.2.2.2.2 gX7_lineAt_J0_charAt_5068e rfl rfl rfl (by decide +kernel) ⟨Nat.le_of_ble_eq_true rfl, Nat.le_of_ble_eq_true rfl⟩) (cc_str (A := A) (C := (up3 C 60 100 27 0))) rfl rfl rfl (Nat.le_of_ble_eq_true rfl) dX7_lineAt_31 ⟨Nat.le_of_ble_eq_true rfl, Nat.le_of_ble_eq_true rfl⟩ (fun _ _ _ h => h.elim) (fun v A2 C2 h_7 => ?_)
    obtain ⟨rfl, rfl, rfl⟩ := h_7
    refine s_top (u := .int (nI (C 60 27 w))) rfl ?_
    have z_8 := hlc w (by omega)
    exact s_zret (pc := 34) S hz hlo (nar_c (by omega)) hr ⟨rfl, Or.inl ⟨w, hw, rfl, rfl, rfl⟩⟩ (Nat.le_of_ble_eq_true rfl) (Nat.le_of_ble_eq_true rfl) dX7_lineAt_34
  · have n_9 := ix_no (n := C 61 27 0) (by omega) p_5
    refine s_callV (pc := 15) S hz hml [.int (nI 0)] (k_X7_checked Z l A C 0 (by decide)) (cwV 1 S.2.2.2.2 gX7_lineAt_X7_checked rfl rfl rfl (by decide +kernel) ⟨Nat.le_of_ble_eq_true rfl, Nat.le_of_ble_eq_true rfl⟩) (cc_mod (A := A) (C := C)) rfl rfl rfl (Nat.le_of_ble_eq_true rfl) dX7_lineAt_15 ⟨Nat.le_of_ble_eq_true rfl, Nat.le_of_ble_eq_true rfl⟩ (fun _ _ _ h => h.elim) (fun v A2 C2 h_10 => ?_)
    obtain ⟨rfl, rfl, rfl⟩ := h_10
    refine s_if_leN (pc := 18) S 26 dX7_lineAt_18 (by decide) (by decide) (fun h => absurd h (by decide)) (fun _ => ?_)
    refine s_bipush (pc := 21) S (v := (nI 32)) dX7_lineAt_21 (by decide) ?_
    refine s_goto (pc := 23) S 34 dX7_lineAt_23 (by decide) ?_
    exact s_zret (pc := 34) S hz hlo (nar_c (by omega)) hr ⟨rfl, Or.inr (⟨n_9, rfl, rfl⟩)⟩ (Nat.le_of_ble_eq_true rfl) (Nat.le_of_ble_eq_true rfl) dX7_lineAt_34
