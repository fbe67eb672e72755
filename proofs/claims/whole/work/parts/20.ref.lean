set_option maxHeartbeats 4000000 in
set_option maxRecDepth 100000 in
theorem k_X7_in (Z : Zp) (l : Launch) (A : AF) (C : CF) (x a b : Int32) : CtS Z l yX7_in wsX7_in ({ frames := 0, cells := 0, slots := 0, locals := 0 }) [.int x, .int a, .int b] A C 0 0 (fun v A2 C2 => A = A2 ∧ C = C2 ∧ ((a ≤ x ∧ x ≤ b ∧ some (.int (nI 1)) = v) ∨ (¬ (a ≤ x ∧ x ≤ b) ∧ some (.int (nI 0)) = v))) (fun _ _ _ => False) := by
  refine CtS.of (cc0 := cX7_in) (maxL := 3) (ret := (some .boolean)) (by decide) rfl (Nat.le_of_ble_eq_true rfl) ?_
  intro M0_ p_ e_ s_ m_ args_ below_ meth_ c_ S hz hml hex hlo hr hin
  refine s_loc (L2 := [(0, .int x), (1, .int a), (2, .int b)]) rfl ?_
  refine s_iload_n (pc := 0) S 0 dX7_in_0 rfl rfl ?_
  refine s_iload_n (pc := 1) S 1 dX7_in_1 rfl rfl ?_
  refine s_icmp_lt (pc := 2) S 14 dX7_in_2 (by decide) (fun c_1 => ?_) (fun c_1 => ?_)
  · refine s_iconst (pc := 14) S (v := (nI 0)) dX7_in_14 (by decide) ?_
    exact s_zret (pc := 15) S hz hlo (nar_z (by omega)) hr ⟨rfl, rfl, Or.inr ⟨fun z => i_nle c_1 z.1, rfl⟩⟩ (Nat.le_of_ble_eq_true rfl) (Nat.le_of_ble_eq_true rfl) dX7_in_15
  · refine s_iload_n (pc := 5) S 0 dX7_in_5 rfl rfl ?_
    refine s_iload_n (pc := 6) S 2 dX7_in_6 rfl rfl ?_
    refine s_icmp_gt (pc := 7) S 14 dX7_in_7 (by decide) (fun c_2 => ?_) (fun c_2 => ?_)
    · refine s_iconst (pc := 14) S (v := (nI 0)) dX7_in_14 (by decide) ?_
      exact s_zret (pc := 15) S hz hlo (nar_z (by omega)) hr ⟨rfl, rfl, Or.inr ⟨fun z => i_nle c_2 z.2, rfl⟩⟩ (Nat.le_of_ble_eq_true rfl) (Nat.le_of_ble_eq_true rfl) dX7_in_15
    · refine s_iconst (pc := 10) S (v := (nI 1)) dX7_in_10 (by decide) ?_
      refine s_goto (pc := 11) S 15 dX7_in_11 (by decide) ?_
      exact s_zret (pc := 15) S hz hlo (nar_z (by omega)) hr ⟨rfl, rfl, Or.inl ⟨i_le c_1, i_le c_2, rfl⟩⟩ (Nat.le_of_ble_eq_true rfl) (Nat.le_of_ble_eq_true rfl) dX7_in_15
set_option maxHeartbeats 4000000 in
set_option maxRecDepth 100000 in
theorem k_X7_isUser (Z : Zp) (l : Launch) (A : AF) (C : CF) (x : Int32) (hu : C 60 100 28 < 2 ^ 30) : CtS Z l yX7_isUser wsX7_isUser ({ frames := 1, cells := 0, slots := 0, locals := 22 }) [.ref (A 60 100), .int x] A C 0 0 (fun v A2 C2 => A = A2 ∧ C = C2 ∧ ((∃ k : Nat, k < C 60 100 28 ∧ nI k = x ∧ some (.int (nI 1)) = v) ∨ ((∀ k : Nat, k < C 60 100 28 → nI k ≠ x) ∧ some (.int (nI 0)) = v))) (fun _ _ _ => False) := by
  refine CtS.of (cc0 := cX7_isUser) (maxL := 2) (ret := (some .boolean)) (by decide) rfl (Nat.le_of_ble_eq_true rfl) ?_
  intro M0_ p_ e_ s_ m_ args_ below_ meth_ c_ S hz hml hex hlo hr hin
  refine s_loc (L2 := [(0, .ref (A 60 100)), (1, .int x)]) rfl ?_
  have i_RX7 : ∀ w ∈ u_ws RX7 TX7 38, w ∈ wsX7_isUser := by decide +kernel
  refine s_iload_n (pc := 0) S 1 dX7_isUser_0 rfl rfl ?_
  refine s_iconst (pc := 1) S (v := (nI 0)) dX7_isUser_1 (by decide) ?_
  refine s_aload_n (pc := 2) S 0 dX7_isUser_2 rfl rfl ?_
  refine s_get (pc := 3) S hz (ref := "SpoolFarmModel") (v := .int (nI (C 60 100 28))) (cc_mod (A := A) (C := C)) i_RX7 rfl 28 (Nat.le_of_ble_eq_true rfl) (by decide +kernel) (fun _ h => h) rfl dX7_isUser_3 ?_
  refine s_iconst (pc := 6) S (v := (nI 1)) dX7_isUser_6 (by decide) ?_
  refine s_isub (pc := 7) S dX7_isUser_7 ?_
  refine s_callS (pc := 8) S hz hml [.int x, .int (nI 0), .int ((nI (C 60 100 28)) - (nI 1))] (k_X7_in Z l A C x (nI 0) ((nI (C 60 100 28)) - (nI 1))) (cwS 3 S.2.2.2.2 gX7_isUser_X7_in rfl rfl rfl (by decide +kernel) ⟨Nat.le_of_ble_eq_true rfl, Nat.le_of_ble_eq_true rfl⟩) rfl rfl (Nat.le_of_ble_eq_true rfl) dX7_isUser_8 ⟨Nat.le_of_ble_eq_true rfl, Nat.le_of_ble_eq_true rfl⟩ (fun _ _ _ h => h.elim) (fun v A2 C2 h_1 => ?_)
  rcases h_1 with ⟨rfl, rfl, ⟨p_2, p_3, rfl⟩ | ⟨p_4, rfl⟩⟩
  · exact s_zret (pc := 11) S hz hlo (nar_z (by omega)) hr ⟨rfl, rfl, Or.inl (by obtain ⟨k, hk, e⟩ := ix_of hu p_2 p_3; exact ⟨k, hk, e, rfl⟩)⟩ (Nat.le_of_ble_eq_true rfl) (Nat.le_of_ble_eq_true rfl) dX7_isUser_11
  · exact s_zret (pc := 11) S hz hlo (nar_z (by omega)) hr ⟨rfl, rfl, Or.inr ⟨ix_no hu p_4, rfl⟩⟩ (Nat.le_of_ble_eq_true rfl) (Nat.le_of_ble_eq_true rfl) dX7_isUser_11
set_option maxHeartbeats 4000000 in
set_option maxRecDepth 100000 in
theorem k_X7_isPrinter (Z : Zp) (l : Launch) (A : AF) (C : CF) (x : Int32) (hu : C 60 100 29 < 2 ^ 30) : CtS Z l yX7_isPrinter wsX7_isPrinter ({ frames := 1, cells := 0, slots := 0, locals := 22 }) [.ref (A 60 100), .int x] A C 0 0 (fun v A2 C2 => A = A2 ∧ C = C2 ∧ ((∃ k : Nat, k < C 60 100 29 ∧ nI k = x ∧ some (.int (nI 1)) = v) ∨ ((∀ k : Nat, k < C 60 100 29 → nI k ≠ x) ∧ some (.int (nI 0)) = v))) (fun _ _ _ => False) := by
  refine CtS.of (cc0 := cX7_isPrinter) (maxL := 2) (ret := (some .boolean)) (by decide) rfl (Nat.le_of_ble_eq_true rfl) ?_
  intro M0_ p_ e_ s_ m_ args_ below_ meth_ c_ S hz hml hex hlo hr hin
  refine s_loc (L2 := [(0, .ref (A 60 100)), (1, .int x)]) rfl ?_
  have i_RX7 : ∀ w ∈ u_ws RX7 TX7 38, w ∈ wsX7_isPrinter := by decide +kernel
  refine s_iload_n (pc := 0) S 1 dX7_isPrinter_0 rfl rfl ?_
  refine s_iconst (pc := 1) S (v := (nI 0)) dX7_isPrinter_1 (by decide) ?_
  refine s_aload_n (pc := 2) S 0 dX7_isPrinter_2 rfl rfl ?_
  refine s_get (pc := 3) S hz (ref := "SpoolFarmModel") (v := .int (nI (C 60 100 29))) (cc_mod (A := A) (C := C)) i_RX7 rfl 29 (Nat.le_of_ble_eq_true rfl) (by decide +kernel) (fun _ h => h) rfl dX7_isPrinter_3 ?_
  refine s_iconst (pc := 6) S (v := (nI 1)) dX7_isPrinter_6 (by decide) ?_
  refine s_isub (pc := 7) S dX7_isPrinter_7 ?_
  refine s_callS (pc := 8) S hz hml [.int x, .int (nI 0), .int ((nI (C 60 100 29)) - (nI 1))] (k_X7_in Z l A C x (nI 0) ((nI (C 60 100 29)) - (nI 1))) (cwS 3 S.2.2.2.2 gX7_isPrinter_X7_in rfl rfl rfl (by decide +kernel) ⟨Nat.le_of_ble_eq_true rfl, Nat.le_of_ble_eq_true rfl⟩) rfl rfl (Nat.le_of_ble_eq_true rfl) dX7_isPrinter_8 ⟨Nat.le_of_ble_eq_true rfl, Nat.le_of_ble_eq_true rfl⟩ (fun _ _ _ h => h.elim) (fun v A2 C2 h_1 => ?_)
  rcases h_1 with ⟨rfl, rfl, ⟨p_2, p_3, rfl⟩ | ⟨p_4, rfl⟩⟩
  · exact s_zret (pc := 11) S hz hlo (nar_z (by omega)) hr ⟨rfl, rfl, Or.inl (by obtain ⟨k, hk, e⟩ := ix_of hu p_2 p_3; exact ⟨k, hk, e, rfl⟩)⟩ (Nat.le_of_ble_eq_true rfl) (Nat.le_of_ble_eq_true rfl) dX7_isPrinter_11
  · exact s_zret (pc := 11) S hz hlo (nar_z (by omega)) hr ⟨rfl, rfl, Or.inr ⟨ix_no hu p_4, rfl⟩⟩ (Nat.le_of_ble_eq_true rfl) (Nat.le_of_ble_eq_true rfl) dX7_isPrinter_11
set_option maxHeartbeats 4000000 in
set_option maxRecDepth 100000 in
theorem k_X7_isJob (Z : Zp) (l : Launch) (A : AF) (C : CF) (x : Int32) (hu : C 60 100 30 < 2 ^ 30) : CtS Z l yX7_isJob wsX7_isJob ({ frames := 1, cells := 0, slots := 0, locals := 22 }) [.ref (A 60 100), .int x] A C 0 0 (fun v A2 C2 => A = A2 ∧ C = C2 ∧ ((∃ k : Nat, k < C 60 100 30 ∧ nI k = x ∧ some (.int (nI 1)) = v) ∨ ((∀ k : Nat, k < C 60 100 30 → nI k ≠ x) ∧ some (.int (nI 0)) = v))) (fun _ _ _ => False) := by
  refine CtS.of (cc0 := cX7_isJob) (maxL := 2) (ret := (some .boolean)) (by decide) rfl (Nat.le_of_ble_eq_true rfl) ?_
  intro M0_ p_ e_ s_ m_ args_ below_ meth_ c_ S hz hml hex hlo hr hin
  refine s_loc (L2 := [(0, .ref (A 60 100)), (1, .int x)]) rfl ?_
  have i_RX7 : ∀ w ∈ u_ws RX7 TX7 38, w ∈ wsX7_isJob := by decide +kernel
  refine s_iload_n (pc := 0) S 1 dX7_isJob_0 rfl rfl ?_
  refine s_iconst (pc := 1) S (v := (nI 0)) dX7_isJob_1 (by decide) ?_
  refine s_aload_n (pc := 2) S 0 dX7_isJob_2 rfl rfl ?_
  refine s_get (pc := 3) S hz (ref := "SpoolFarmModel") (v := .int (nI (C 60 100 30))) (cc_mod (A := A) (C := C)) i_RX7 rfl 30 (Nat.le_of_ble_eq_true rfl) (by decide +kernel) (fun _ h => h) rfl dX7_isJob_3 ?_
  refine s_iconst (pc := 6) S (v := (nI 1)) dX7_isJob_6 (by decide) ?_
  refine s_isub (pc := 7) S dX7_isJob_7 ?_
  refine s_callS (pc := 8) S hz hml [.int x, .int (nI 0), .int ((nI (C 60 100 30)) - (nI 1))] (k_X7_in Z l A C x (nI 0) ((nI (C 60 100 30)) - (nI 1))) (cwS 3 S.2.2.2.2 gX7_isJob_X7_in rfl rfl rfl (by decide +kernel) ⟨Nat.le_of_ble_eq_true rfl, Nat.le_of_ble_eq_true rfl⟩) rfl rfl (Nat.le_of_ble_eq_true rfl) dX7_isJob_8 ⟨Nat.le_of_ble_eq_true rfl, Nat.le_of_ble_eq_true rfl⟩ (fun _ _ _ h => h.elim) (fun v A2 C2 h_1 => ?_)
  rcases h_1 with ⟨rfl, rfl, ⟨p_2, p_3, rfl⟩ | ⟨p_4, rfl⟩⟩
  · exact s_zret (pc := 11) S hz hlo (nar_z (by omega)) hr ⟨rfl, rfl, Or.inl (by obtain ⟨k, hk, e⟩ := ix_of hu p_2 p_3; exact ⟨k, hk, e, rfl⟩)⟩ (Nat.le_of_ble_eq_true rfl) (Nat.le_of_ble_eq_true rfl) dX7_isJob_11
  · exact s_zret (pc := 11) S hz hlo (nar_z (by omega)) hr ⟨rfl, rfl, Or.inr ⟨ix_no hu p_4, rfl⟩⟩ (Nat.le_of_ble_eq_true rfl) (Nat.le_of_ble_eq_true rfl) dX7_isJob_11
set_option maxHeartbeats 4000000 in
set_option maxRecDepth 100000 in
theorem k_X7_isEntry (Z : Zp) (l : Launch) (A : AF) (C : CF) (x : Int32) (hu : C 60 100 31 < 2 ^ 30) : CtS Z l yX7_isEntry wsX7_isEntry ({ frames := 1, cells := 0, slots := 0, locals := 22 }) [.ref (A 60 100), .int x] A C 0 0 (fun v A2 C2 => A = A2 ∧ C = C2 ∧ ((∃ k : Nat, k < C 60 100 31 ∧ nI k = x ∧ some (.int (nI 1)) = v) ∨ ((∀ k : Nat, k < C 60 100 31 → nI k ≠ x) ∧ some (.int (nI 0)) = v))) (fun _ _ _ => False) := by
  refine CtS.of (cc0 := cX7_isEntry) (maxL := 2) (ret := (some .boolean)) (by decide) rfl (Nat.le_of_ble_eq_true rfl) ?_
  intro M0_ p_ e_ s_ m_ args_ below_ meth_ c_ S hz hml hex hlo hr hin
  refine s_loc (L2 := [(0, .ref (A 60 100)), (1, .int x)]) rfl ?_
  have i_RX7 : ∀ w ∈ u_ws RX7 TX7 38, w ∈ wsX7_isEntry := by decide +kernel
  refine s_iload_n (pc := 0) S 1 dX7_isEntry_0 rfl rfl ?_
  refine s_iconst (pc := 1) S (v := (nI 0)) dX7_isEntry_1 (by decide) ?_
  refine s_aload_n (pc := 2) S 0 dX7_isEntry_2 rfl rfl ?_
  refine s_get (pc := 3) S hz (ref := "SpoolFarmModel") (v := .int (nI (C 60 100 31))) (cc_mod (A := A) (C := C)) i_RX7 rfl 31 (Nat.le_of_ble_eq_true rfl) (by decide +kernel) (fun _ h => h) rfl dX7_isEntry_3 ?_
  refine s_iconst (pc := 6) S (v := (nI 1)) dX7_isEntry_6 (by decide) ?_
  refine s_isub (pc := 7) S dX7_isEntry_7 ?_
  refine s_callS (pc := 8) S hz hml [.int x, .int (nI 0), .int ((nI (C 60 100 31)) - (nI 1))] (k_X7_in Z l A C x (nI 0) ((nI (C 60 100 31)) - (nI 1))) (cwS 3 S.2.2.2.2 gX7_isEntry_X7_in rfl rfl rfl (by decide +kernel) ⟨Nat.le_of_ble_eq_true rfl, Nat.le_of_ble_eq_true rfl⟩) rfl rfl (Nat.le_of_ble_eq_true rfl) dX7_isEntry_8 ⟨Nat.le_of_ble_eq_true rfl, Nat.le_of_ble_eq_true rfl⟩ (fun _ _ _ h => h.elim) (fun v A2 C2 h_1 => ?_)
  rcases h_1 with ⟨rfl, rfl, ⟨p_2, p_3, rfl⟩ | ⟨p_4, rfl⟩⟩
  · exact s_zret (pc := 11) S hz hlo (nar_z (by omega)) hr ⟨rfl, rfl, Or.inl (by obtain ⟨k, hk, e⟩ := ix_of hu p_2 p_3; exact ⟨k, hk, e, rfl⟩)⟩ (Nat.le_of_ble_eq_true rfl) (Nat.le_of_ble_eq_true rfl) dX7_isEntry_11
  · exact s_zret (pc := 11) S hz hlo (nar_z (by omega)) hr ⟨rfl, rfl, Or.inr ⟨ix_no hu p_4, rfl⟩⟩ (Nat.le_of_ble_eq_true rfl) (Nat.le_of_ble_eq_true rfl) dX7_isEntry_11
set_option maxHeartbeats 4000000 in
set_option maxRecDepth 100000 in
theorem k_X7_isPaper (Z : Zp) (l : Launch) (A : AF) (C : CF) (q : Nat) (hq : q < 65536) : CtS Z l yX7_isPaper wsX7_isPaper ({ frames := 0, cells := 0, slots := 0, locals := 0 }) [.int (nI q)] A C 0 0 (fun v A2 C2 => A = A2 ∧ C = C2 ∧ ((isPap q ∧ some (.int (nI 1)) = v) ∨ (¬ isPap q ∧ some (.int (nI 0)) = v))) (fun _ _ _ => False) := by
  refine CtS.of (cc0 := cX7_isPaper) (maxL := 1) (ret := (some .boolean)) (by decide) rfl (Nat.le_of_ble_eq_true rfl) ?_
  intro M0_ p_ e_ s_ m_ args_ below_ meth_ c_ S hz hml hex hlo hr hin
  refine s_loc (L2 := [(0, .int (nI q))]) rfl ?_
  refine s_iload_n (pc := 0) S 0 dX7_isPaper_0 rfl rfl ?_
  refine s_bipush (pc := 1) S (v := (nI 97)) dX7_isPaper_1 (by decide) ?_
  refine s_icmp_eqN (pc := 3) S 18 dX7_isPaper_3 (by decide) (by omega) (by omega) (fun c_1 => ?_) (fun c_1 => ?_)
  · refine s_iconst (pc := 18) S (v := (nI 1)) dX7_isPaper_18 (by decide) ?_
    refine s_goto (pc := 19) S 23 dX7_isPaper_19 (by decide) ?_
    exact s_zret (pc := 23) S hz hlo (nar_z (by omega)) hr ⟨rfl, rfl, Or.inl ⟨by omega, rfl⟩⟩ (Nat.le_of_ble_eq_true rfl) (Nat.le_of_ble_eq_true rfl) dX7_isPaper_23
  · refine s_iload_n (pc := 6) S 0 dX7_isPaper_6 rfl rfl ?_
    refine s_bipush (pc := 7) S (v := (nI 98)) dX7_isPaper_7 (by decide) ?_
    refine s_icmp_eqN (pc := 9) S 18 dX7_isPaper_9 (by decide) (by omega) (by omega) (fun c_2 => ?_) (fun c_2 => ?_)
    · refine s_iconst (pc := 18) S (v := (nI 1)) dX7_isPaper_18 (by decide) ?_
      refine s_goto (pc := 19) S 23 dX7_isPaper_19 (by decide) ?_
      exact s_zret (pc := 23) S hz hlo (nar_z (by omega)) hr ⟨rfl, rfl, Or.inl ⟨by omega, rfl⟩⟩ (Nat.le_of_ble_eq_true rfl) (Nat.le_of_ble_eq_true rfl) dX7_isPaper_23
    · refine s_iload_n (pc := 12) S 0 dX7_isPaper_12 rfl rfl ?_
      refine s_bipush (pc := 13) S (v := (nI 108)) dX7_isPaper_13 (by decide) ?_
      refine s_icmp_neN (pc := 15) S 22 dX7_isPaper_15 (by decide) (by omega) (by omega) (fun c_3 => ?_) (fun c_3 => ?_)
      · refine s_iconst (pc := 22) S (v := (nI 0)) dX7_isPaper_22 (by decide) ?_
        exact s_zret (pc := 23) S hz hlo (nar_z (by omega)) hr ⟨rfl, rfl, Or.inr ⟨by omega, rfl⟩⟩ (Nat.le_of_ble_eq_true rfl) (Nat.le_of_ble_eq_true rfl) dX7_isPaper_23
      · refine s_iconst (pc := 18) S (v := (nI 1)) dX7_isPaper_18 (by decide) ?_
        refine s_goto (pc := 19) S 23 dX7_isPaper_19 (by decide) ?_
        exact s_zret (pc := 23) S hz hlo (nar_z (by omega)) hr ⟨rfl, rfl, Or.inl ⟨by omega, rfl⟩⟩ (Nat.le_of_ble_eq_true rfl) (Nat.le_of_ble_eq_true rfl) dX7_isPaper_23
set_option maxHeartbeats 4000000 in
set_option maxRecDepth 100000 in
theorem k_X7_checked (Z : Zp) (l : Launch) (A : AF) (C : CF) (b : Nat) (hb : b < 2) : CtS Z l yX7_checked wsX7_checked ({ frames := 0, cells := 0, slots := 0, locals := 0 }) [.ref (A 60 100), .int (nI b)] A C 0 0 (fun v A2 C2 => A = A2 ∧ up3 C 60 100 27 (1 - b) = C2 ∧ some (.int (nI (1 - b))) = v) (fun _ _ _ => False) := by
  refine CtS.of (cc0 := cX7_checked) (maxL := 2) (ret := (some .int)) (by decide) rfl (Nat.le_of_ble_eq_true rfl) ?_
  intro M0_ p_ e_ s_ m_ args_ below_ meth_ c_ S hz hml hex hlo hr hin
  refine s_loc (L2 := [(0, .ref (A 60 100)), (1, .int (nI b))]) rfl ?_
  have i_RX7 : ∀ w ∈ u_ws RX7 TX7 38, w ∈ wsX7_checked := by decide +kernel
  refine s_aload_n (pc := 0) S 0 dX7_checked_0 rfl rfl ?_
  refine s_iload_n (pc := 1) S 1 dX7_checked_1 rfl rfl ?_
  refine s_if_eqN (pc := 2) S 9 dX7_checked_2 (by decide) (by omega) (fun c_1 => ?_) (fun c_1 => ?_)
  · refine s_iconst (pc := 9) S (v := (nI 1)) dX7_checked_9 (by decide) ?_
    refine s_put (pc := 10) S hz (ref := "SpoolFarmModel") (ty := .int) (cc_mod (A := A) (C := C)) i_RX7 tyX7 tyX7_ok nmX7 rfl 27 (Nat.le_of_ble_eq_true rfl) (by decide +kernel) (fun _ h => h) rfl (by decide +kernel) rfl rfl (Nat.le_of_ble_eq_true rfl) (up3 C 60 100 27 1) cu_mod (by rw [(cc_mod (A := A) (C := (up3 C 60 100 27 1))), up3_u]; rfl) dX7_checked_10 ?_
    refine s_aload_n (pc := 13) S 0 dX7_checked_13 rfl rfl ?_
    refine s_get (pc := 14) S hz (ref := "SpoolFarmModel") (v := .int (nI 1)) (cc_mod (A := A) (C := (up3 C 60 100 27 1))) i_RX7 rfl 27 (Nat.le_of_ble_eq_true rfl) (by decide +kernel) (fun _ h => h) rfl dX7_checked_14 ?_
    exact s_iret (pc := 17) S hz hlo hr (by rcases (show b = 0 ∨ b = 1 by omega) with e | e <;> first | (subst e; exact ⟨rfl, rfl, rfl⟩) | (exfalso; omega)) (Nat.le_of_ble_eq_true rfl) (Nat.le_of_ble_eq_true rfl) dX7_checked_17
  · refine s_iconst (pc := 5) S (v := (nI 0)) dX7_checked_5 (by decide) ?_
    refine s_goto (pc := 6) S 10 dX7_checked_6 (by decide) ?_
    refine s_put (pc := 10) S hz (ref := "SpoolFarmModel") (ty := .int) (cc_mod (A := A) (C := C)) i_RX7 tyX7 tyX7_ok nmX7 rfl 27 (Nat.le_of_ble_eq_true rfl) (by decide +kernel) (fun _ h => h) rfl (by decide +kernel) rfl rfl (Nat.le_of_ble_eq_true rfl) (up3 C 60 100 27 0) cu_mod (by rw [(cc_mod (A := A) (C := (up3 C 60 100 27 0))), up3_u]; rfl) dX7_checked_10 ?_
    refine s_aload_n (pc := 13) S 0 dX7_checked_13 rfl rfl ?_
    refine s_get (pc := 14) S hz (ref := "SpoolFarmModel") (v := .int (nI 0)) (cc_mod (A := A) (C := (up3 C 60 100 27 0))) i_RX7 rfl 27 (Nat.le_of_ble_eq_true rfl) (by decide +kernel) (fun _ h => h) rfl dX7_checked_14 ?_
    exact s_iret (pc := 17) S hz hlo hr (by rcases (show b = 0 ∨ b = 1 by omega) with e | e <;> first | (subst e; exact ⟨rfl, rfl, rfl⟩) | (exfalso; omega)) (Nat.le_of_ble_eq_true rfl) (Nat.le_of_ble_eq_true rfl) dX7_checked_17
set_option maxHeartbeats 4000000 in
set_option maxRecDepth 100000 in
theorem k_X7_plain (Z : Zp) (l : Launch) (A : AF) (C : CF) (b : Nat) : CtS Z l yX7_plain wsX7_plain ({ frames := 0, cells := 0, slots := 0, locals := 0 }) [.ref (A 60 100), .int (nI b)] A C 0 0 (fun v A2 C2 => A = A2 ∧ up3 C 60 100 27 0 = C2 ∧ some (.int (nI b)) = v) (fun _ _ _ => False) := by
  refine CtS.of (cc0 := cX7_plain) (maxL := 2) (ret := (some .int)) (by decide) rfl (Nat.le_of_ble_eq_true rfl) ?_
  intro M0_ p_ e_ s_ m_ args_ below_ meth_ c_ S hz hml hex hlo hr hin
  refine s_loc (L2 := [(0, .ref (A 60 100)), (1, .int (nI b))]) rfl ?_
  have i_RX7 : ∀ w ∈ u_ws RX7 TX7 38, w ∈ wsX7_plain := by decide +kernel
  refine s_aload_n (pc := 0) S 0 dX7_plain_0 rfl rfl ?_
  refine s_iconst (pc := 1) S (v := (nI 0)) dX7_plain_1 (by decide) ?_
  refine s_put (pc := 2) S hz (ref := "SpoolFarmModel") (ty := .int) (cc_mod (A := A) (C := C)) i_RX7 tyX7 tyX7_ok nmX7 rfl 27 (Nat.le_of_ble_eq_true rfl) (by decide +kernel) (fun _ h => h) rfl (by decide +kernel) rfl rfl (Nat.le_of_ble_eq_true rfl) (up3 C 60 100 27 0) cu_mod (by rw [(cc_mod (A := A) (C := (up3 C 60 100 27 0))), up3_u]; rfl) dX7_plain_2 ?_
  refine s_iload_n (pc := 5) S 1 dX7_plain_5 rfl rfl ?_
  exact s_iret (pc := 6) S hz hlo hr ⟨rfl, rfl, rfl⟩ (Nat.le_of_ble_eq_true rfl) (Nat.le_of_ble_eq_true rfl) dX7_plain_6
set_option maxHeartbeats 4000000 in
set_option maxRecDepth 100000 in
theorem k_X7_thrown (Z : Zp) (l : Launch) (A : AF) (C : CF)  : CtS Z l yX7_thrown wsX7_thrown ({ frames := 0, cells := 0, slots := 0, locals := 0 }) [.ref (A 60 100)] A C 0 0 (fun v A2 C2 => A = A2 ∧ C = C2 ∧ some (.int (nI (C 60 100 27))) = v) (fun _ _ _ => False) := by
  refine CtS.of (cc0 := cX7_thrown) (maxL := 1) (ret := (some .int)) (by decide) rfl (Nat.le_of_ble_eq_true rfl) ?_
  intro M0_ p_ e_ s_ m_ args_ below_ meth_ c_ S hz hml hex hlo hr hin
  refine s_loc (L2 := [(0, .ref (A 60 100))]) rfl ?_
  have i_RX7 : ∀ w ∈ u_ws RX7 TX7 38, w ∈ wsX7_thrown := by decide +kernel
  refine s_aload_n (pc := 0) S 0 dX7_thrown_0 rfl rfl ?_
  refine s_get (pc := 1) S hz (ref := "SpoolFarmModel") (v := .int (nI (C 60 100 27))) (cc_mod (A := A) (C := C)) i_RX7 rfl 27 (Nat.le_of_ble_eq_true rfl) (by decide +kernel) (fun _ h => h) rfl dX7_thrown_1 ?_
  exact s_iret (pc := 4) S hz hlo hr ⟨rfl, rfl, rfl⟩ (Nat.le_of_ble_eq_true rfl) (Nat.le_of_ble_eq_true rfl) dX7_thrown_4
set_option maxHeartbeats 4000000 in
set_option maxRecDepth 100000 in
theorem k_X7_isTray (Z : Zp) (l : Launch) (A : AF) (C : CF) (x y : Int32) (hp : C 60 100 29 < 2 ^ 30) (hp4 : C 60 100 29 ≤ 4) (htc : ∀ p : Nat, C 60 2 p ≤ 3) : CtS Z l yX7_isTray wsX7_isTray ({ frames := 2, cells := 0, slots := 0, locals := 43 }) [.ref (A 60 100), .int x, .int y] A C 0 0 (fun v A2 C2 => A = A2 ∧ C = C2 ∧ ((∃ p t : Nat, p < C 60 100 29 ∧ t < C 60 2 p ∧ nI p = x ∧ nI t = y ∧ some (.int (nI 1)) = v) ∨ (((∀ p : Nat, p < C 60 100 29 → nI p ≠ x) ∨ ∃ p : Nat, p < C 60 100 29 ∧ nI p = x ∧ ∀ t : Nat, t < C 60 2 p → nI t ≠ y) ∧ some (.int (nI 0)) = v))) (fun _ _ _ => False) := by
  refine CtS.of (cc0 := cX7_isTray) (maxL := 3) (ret := (some .boolean)) (by decide) rfl (Nat.le_of_ble_eq_true rfl) ?_
  intro M0_ p_ e_ s_ m_ args_ below_ meth_ c_ S hz hml hex hlo hr hin
  refine s_loc (L2 := [(0, .ref (A 60 100)), (1, .int x), (2, .int y)]) rfl ?_
  have i_RX7 : ∀ w ∈ u_ws RX7 TX7 38, w ∈ wsX7_isTray := by decide +kernel
  refine s_aload_n (pc := 0) S 0 dX7_isTray_0 rfl rfl ?_
  refine s_iload_n (pc := 1) S 1 dX7_isTray_1 rfl rfl ?_
  refine s_callV (pc := 2) S hz hml [.int x] (k_X7_isPrinter Z l A C x hp) (cwV 1 S.2.2.2.2 gX7_isTray_X7_isPrinter rfl rfl rfl (by decide +kernel) ⟨Nat.le_of_ble_eq_true rfl, Nat.le_of_ble_eq_true rfl⟩) (cc_mod (A := A) (C := C)) rfl rfl rfl (Nat.le_of_ble_eq_true rfl) dX7_isTray_2 ⟨Nat.le_of_ble_eq_true rfl, Nat.le_of_ble_eq_true rfl⟩ (fun _ _ _ h => h.elim) (fun v A2 C2 h_1 => ?_)
  rcases h_1 with ⟨rfl, rfl, ⟨k_2, hk_3, rfl, rfl⟩ | ⟨no_4, rfl⟩⟩
  · refine s_if_eqN (pc := 5) S 28 dX7_isTray_5 (by decide) (by decide) (fun h => absurd h (by decide)) (fun _ => ?_)
    refine s_iload_n (pc := 8) S 2 dX7_isTray_8 rfl rfl ?_
    refine s_iconst (pc := 9) S (v := (nI 0)) dX7_isTray_9 (by decide) ?_
    refine s_aload_n (pc := 10) S 0 dX7_isTray_10 rfl rfl ?_
    refine s_get (pc := 11) S hz (ref := "SpoolFarmModel") (v := .ref (A 60 2)) (cc_mod (A := A) (C := C)) i_RX7 rfl 2 (Nat.le_of_ble_eq_true rfl) (by decide +kernel) (fun _ h => h) rfl dX7_isTray_11 ?_
    refine s_iload_n (pc := 14) S 1 dX7_isTray_14 rfl rfl ?_
    refine s_iald (pc := 15) S hz (x := C 60 2 k_2) (cc_row (A := A) (C := C) (x := aN .int 4 (C 60 2)) 2 (by decide) rfl) (by omega) (by omega) rfl dX7_isTray_15 ?_
    refine s_iconst (pc := 16) S (v := (nI 1)) dX7_isTray_16 (by decide) ?_
    refine s_isub (pc := 17) S dX7_isTray_17 ?_
    refine s_callS (pc := 18) S hz hml [.int y, .int (nI 0), .int ((nI (C 60 2 k_2)) - (nI 1))] (k_X7_in Z l A C y (nI 0) ((nI (C 60 2 k_2)) - (nI 1))) (cwS 3 S.2.2.2.2 gX7_isTray_X7_in rfl rfl rfl (by decide +kernel) ⟨Nat.le_of_ble_eq_true rfl, Nat.le_of_ble_eq_true rfl⟩) rfl rfl (Nat.le_of_ble_eq_true rfl) dX7_isTray_18 ⟨Nat.le_of_ble_eq_true rfl, Nat.le_of_ble_eq_true rfl⟩ (fun _ _ _ h => h.elim) (fun v A2 C2 h_5 => ?_)
    rcases h_5 with ⟨rfl, rfl, ⟨p_6, p_7, rfl⟩ | ⟨p_8, rfl⟩⟩
    · refine s_if_eqN (pc := 21) S 28 dX7_isTray_21 (by decide) (by decide) (fun h => absurd h (by decide)) (fun _ => ?_)
      refine s_iconst (pc := 24) S (v := (nI 1)) dX7_isTray_24 (by decide) ?_
      refine s_goto (pc := 25) S 29 dX7_isTray_25 (by decide) ?_
      exact s_zret (pc := 29) S hz hlo (nar_z (by omega)) hr ⟨rfl, rfl, Or.inl (by obtain ⟨t, ht, e⟩ := ix_of (n := C 60 2 k_2) (by have := htc k_2; omega) p_6 p_7; exact ⟨k_2, t, hk_3, ht, rfl, e, rfl⟩)⟩ (Nat.le_of_ble_eq_true rfl) (Nat.le_of_ble_eq_true rfl) dX7_isTray_29
    · refine s_if_eqN (pc := 21) S 28 dX7_isTray_21 (by decide) (by decide) (fun _ => ?_) (fun h => absurd h (by decide))
      refine s_iconst (pc := 28) S (v := (nI 0)) dX7_isTray_28 (by decide) ?_
      exact s_zret (pc := 29) S hz hlo (nar_z (by omega)) hr ⟨rfl, rfl, Or.inr ⟨Or.inr ⟨k_2, hk_3, rfl, ix_no (n := C 60 2 k_2) (by have := htc k_2; omega) p_8⟩, rfl⟩⟩ (Nat.le_of_ble_eq_true rfl) (Nat.le_of_ble_eq_true rfl) dX7_isTray_29
  · refine s_if_eqN (pc := 5) S 28 dX7_isTray_5 (by decide) (by decide) (fun _ => ?_) (fun h => absurd h (by decide))
    refine s_iconst (pc := 28) S (v := (nI 0)) dX7_isTray_28 (by decide) ?_
    exact s_zret (pc := 29) S hz hlo (nar_z (by omega)) hr ⟨rfl, rfl, Or.inr ⟨Or.inl no_4, rfl⟩⟩ (Nat.le_of_ble_eq_true rfl) (Nat.le_of_ble_eq_true rfl) dX7_isTray_29
set_option maxHeartbeats 4000000 in
set_option maxRecDepth 100000 in
theorem k_X7_quotaAt (Z : Zp) (l : Launch) (A : AF) (C : CF) (u b : Nat) (hb : b < 2 ^ 31) : CtS Z l yX7_quotaAt wsX7_quotaAt ({ frames := 0, cells := 0, slots := 0, locals := 0 }) [.int (nI u), .int (nI b)] A C 0 0 (fun v A2 C2 => A = A2 ∧ C = C2 ∧ some (.int (nI (2 * u + (if b = 0 then 0 else 1)))) = v) (fun _ _ _ => False) := by
  refine CtS.of (cc0 := cX7_quotaAt) (maxL := 2) (ret := (some .int)) (by decide) rfl (Nat.le_of_ble_eq_true rfl) ?_
  intro M0_ p_ e_ s_ m_ args_ below_ meth_ c_ S hz hml hex hlo hr hin
  refine s_loc (L2 := [(0, .int (nI u)), (1, .int (nI b))]) rfl ?_
  refine s_iconst (pc := 0) S (v := (nI 2)) dX7_quotaAt_0 (by decide) ?_
  refine s_iload_n (pc := 1) S 0 dX7_quotaAt_1 rfl rfl ?_
  refine s_imulN (pc := 2) S dX7_quotaAt_2 ?_
  refine s_iload_n (pc := 3) S 1 dX7_quotaAt_3 rfl rfl ?_
  refine s_if_eqN (pc := 4) S 11 dX7_quotaAt_4 (by decide) (by omega) (fun c_1 => ?_) (fun c_1 => ?_)
  · refine s_iconst (pc := 11) S (v := (nI 0)) dX7_quotaAt_11 (by decide) ?_
    refine s_iaddN (pc := 12) S dX7_quotaAt_12 ?_
    exact s_iret (pc := 13) S hz hlo hr ⟨rfl, rfl, by rw [show (if b = 0 then 0 else 1) = 0 by simp [c_1]]⟩ (Nat.le_of_ble_eq_true rfl) (Nat.le_of_ble_eq_true rfl) dX7_quotaAt_13
  · refine s_iconst (pc := 7) S (v := (nI 1)) dX7_quotaAt_7 (by decide) ?_
    refine s_goto (pc := 8) S 12 dX7_quotaAt_8 (by decide) ?_
    refine s_iaddN (pc := 12) S dX7_quotaAt_12 ?_
    exact s_iret (pc := 13) S hz hlo hr ⟨rfl, rfl, by rw [show (if b = 0 then 0 else 1) = 1 by simp [c_1]]⟩ (Nat.le_of_ble_eq_true rfl) (Nat.le_of_ble_eq_true rfl) dX7_quotaAt_13
set_option maxHeartbeats 4000000 in
set_option maxRecDepth 100000 in
theorem k_X7_copySheets (Z : Zp) (l : Launch) (A : AF) (C : CF) (k : Nat) (hk : k < 40) (hd : C 60 13 k < 2) (hg : 1 ≤ C 60 17 k) (hg2 : C 60 17 k ≤ 100) : CtS Z l yX7_copySheets wsX7_copySheets ({ frames := 0, cells := 0, slots := 0, locals := 0 }) [.ref (A 60 100), .int (nI k)] A C 0 0 (fun v A2 C2 => A = A2 ∧ C = C2 ∧ some (.int (nI (csN (C 60 13 k) (C 60 17 k)))) = v) (fun _ _ _ => False) := by
  refine CtS.of (cc0 := cX7_copySheets) (maxL := 2) (ret := (some .int)) (by decide) rfl (Nat.le_of_ble_eq_true rfl) ?_
  intro M0_ p_ e_ s_ m_ args_ below_ meth_ c_ S hz hml hex hlo hr hin
  refine s_loc (L2 := [(0, .ref (A 60 100)), (1, .int (nI k))]) rfl ?_
  have i_RX7 : ∀ w ∈ u_ws RX7 TX7 38, w ∈ wsX7_copySheets := by decide +kernel
  refine s_aload_n (pc := 0) S 0 dX7_copySheets_0 rfl rfl ?_
  refine s_get (pc := 1) S hz (ref := "SpoolFarmModel") (v := .ref (A 60 13)) (cc_mod (A := A) (C := C)) i_RX7 rfl 13 (Nat.le_of_ble_eq_true rfl) (by decide +kernel) (fun _ h => h) rfl dX7_copySheets_1 ?_
  refine s_iload_n (pc := 4) S 1 dX7_copySheets_4 rfl rfl ?_
  refine s_zald (pc := 5) S hz (x := C 60 13 k) (cc_row (A := A) (C := C) (x := aN .boolean 40 (C 60 13)) 13 (by decide) rfl) (by omega) (by omega) rfl dX7_copySheets_5 ?_
  refine s_if_eqN (pc := 6) S 22 dX7_copySheets_6 (by decide) (by omega) (fun c_1 => ?_) (fun c_1 => ?_)
  · refine s_aload_n (pc := 22) S 0 dX7_copySheets_22 rfl rfl ?_
    refine s_get (pc := 23) S hz (ref := "SpoolFarmModel") (v := .ref (A 60 17)) (cc_mod (A := A) (C := C)) i_RX7 rfl 17 (Nat.le_of_ble_eq_true rfl) (by decide +kernel) (fun _ h => h) rfl dX7_copySheets_23 ?_
    refine s_iload_n (pc := 26) S 1 dX7_copySheets_26 rfl rfl ?_
    refine s_iald (pc := 27) S hz (x := C 60 17 k) (cc_row (A := A) (C := C) (x := aN .int 40 (C 60 17)) 17 (by decide) rfl) (by omega) (by omega) rfl dX7_copySheets_27 ?_
    exact s_iret (pc := 28) S hz hlo hr ⟨rfl, rfl, by rw [show csN (C 60 13 k) (C 60 17 k) = C 60 17 k by simp [csN, c_1]]⟩ (Nat.le_of_ble_eq_true rfl) (Nat.le_of_ble_eq_true rfl) dX7_copySheets_28
  · refine s_aload_n (pc := 9) S 0 dX7_copySheets_9 rfl rfl ?_
    refine s_get (pc := 10) S hz (ref := "SpoolFarmModel") (v := .ref (A 60 17)) (cc_mod (A := A) (C := C)) i_RX7 rfl 17 (Nat.le_of_ble_eq_true rfl) (by decide +kernel) (fun _ h => h) rfl dX7_copySheets_10 ?_
    refine s_iload_n (pc := 13) S 1 dX7_copySheets_13 rfl rfl ?_
    refine s_iald (pc := 14) S hz (x := C 60 17 k) (cc_row (A := A) (C := C) (x := aN .int 40 (C 60 17)) 17 (by decide) rfl) (by omega) (by omega) rfl dX7_copySheets_14 ?_
    refine s_iconst (pc := 15) S (v := (nI 1)) dX7_copySheets_15 (by decide) ?_
    refine s_iaddN (pc := 16) S dX7_copySheets_16 ?_
    refine s_iconst (pc := 17) S (v := (nI 2)) dX7_copySheets_17 (by decide) ?_
    refine s_idivN (pc := 18) S dX7_copySheets_18 (by omega) (by omega) (by omega) ?_
    refine s_goto (pc := 19) S 28 dX7_copySheets_19 (by decide) ?_
    exact s_iret (pc := 28) S hz hlo hr ⟨rfl, rfl, by rw [show csN (C 60 13 k) (C 60 17 k) = ((C 60 17 k) + 1) / 2 by simp [csN, c_1]]⟩ (Nat.le_of_ble_eq_true rfl) (Nat.le_of_ble_eq_true rfl) dX7_copySheets_28
set_option maxHeartbeats 4000000 in
set_option maxRecDepth 100000 in
theorem k_X7_allSheets (Z : Zp) (l : Launch) (A : AF) (C : CF) (k : Nat) (hk : k < 40) (hd : C 60 13 k < 2) (hg : 1 ≤ C 60 17 k) (hg2 : C 60 17 k ≤ 100) : CtS Z l yX7_allSheets wsX7_allSheets ({ frames := 1, cells := 0, slots := 0, locals := 21 }) [.ref (A 60 100), .int (nI k)] A C 0 0 (fun v A2 C2 => A = A2 ∧ C = C2 ∧ some (.int (nI (csN (C 60 13 k) (C 60 17 k) * C 60 18 k))) = v) (fun _ _ _ => False) := by
  refine CtS.of (cc0 := cX7_allSheets) (maxL := 2) (ret := (some .int)) (by decide) rfl (Nat.le_of_ble_eq_true rfl) ?_
  intro M0_ p_ e_ s_ m_ args_ below_ meth_ c_ S hz hml hex hlo hr hin
  refine s_loc (L2 := [(0, .ref (A 60 100)), (1, .int (nI k))]) rfl ?_
  have i_RX7 : ∀ w ∈ u_ws RX7 TX7 38, w ∈ wsX7_allSheets := by decide +kernel
  refine s_aload_n (pc := 0) S 0 dX7_allSheets_0 rfl rfl ?_
  refine s_iload_n (pc := 1) S 1 dX7_allSheets_1 rfl rfl ?_
  refine s_callV (pc := 2) S hz hml [.int (nI k)] (k_X7_copySheets Z l A C k hk hd hg hg2) (cwV 1 S.2.2.2.2 gX7_allSheets_X7_copySheets rfl rfl rfl (by decide +kernel) ⟨Nat.le_of_ble_eq_true rfl, Nat.le_of_ble_eq_true rfl⟩) (cc_mod (A := A) (C := C)) rfl rfl rfl (Nat.le_of_ble_eq_true rfl) dX7_allSheets_2 ⟨Nat.le_of_ble_eq_true rfl, Nat.le_of_ble_eq_true rfl⟩ (fun _ _ _ h => h.elim) (fun v A2 C2 h_1 => ?_)
  obtain ⟨rfl, rfl, rfl⟩ := h_1
  refine s_aload_n (pc := 5) S 0 dX7_allSheets_5 rfl rfl ?_
  refine s_get (pc := 6) S hz (ref := "SpoolFarmModel") (v := .ref (A 60 18)) (cc_mod (A := A) (C := C)) i_RX7 rfl 18 (Nat.le_of_ble_eq_true rfl) (by decide +kernel) (fun _ h => h) rfl dX7_allSheets_6 ?_
  refine s_iload_n (pc := 9) S 1 dX7_allSheets_9 rfl rfl ?_
  refine s_iald (pc := 10) S hz (x := C 60 18 k) (cc_row (A := A) (C := C) (x := aN .int 40 (C 60 18)) 18 (by decide) rfl) (by omega) (by omega) rfl dX7_allSheets_10 ?_
  refine s_imulN (pc := 11) S dX7_allSheets_11 ?_
  exact s_iret (pc := 12) S hz hlo hr ⟨rfl, rfl, rfl⟩ (Nat.le_of_ble_eq_true rfl) (Nat.le_of_ble_eq_true rfl) dX7_allSheets_12
set_option maxHeartbeats 4000000 in
set_option maxRecDepth 100000 in
theorem k_X7_pagesOn (Z : Zp) (l : Launch) (A : AF) (C : CF) (k : Nat) (hk : k < 40) (hd : C 60 13 k < 2) (hg : 1 ≤ C 60 17 k) (hg2 : C 60 17 k ≤ 100) (s0 : Nat) (hs : s0 < 2 ^ 31) : CtS Z l yX7_pagesOn wsX7_pagesOn ({ frames := 1, cells := 0, slots := 0, locals := 21 }) [.ref (A 60 100), .int (nI k), .int (nI s0)] A C 0 0 (fun v A2 C2 => A = A2 ∧ C = C2 ∧ some (.int (nI (ponN (C 60 13 k) (C 60 17 k) s0))) = v) (fun _ _ _ => False) := by
  refine CtS.of (cc0 := cX7_pagesOn) (maxL := 3) (ret := (some .int)) (by decide) rfl (Nat.le_of_ble_eq_true rfl) ?_
  intro M0_ p_ e_ s_ m_ args_ below_ meth_ c_ S hz hml hex hlo hr hin
  refine s_loc (L2 := [(0, .ref (A 60 100)), (1, .int (nI k)), (2, .int (nI s0))]) rfl ?_
  have i_RX7 : ∀ w ∈ u_ws RX7 TX7 38, w ∈ wsX7_pagesOn := by decide +kernel
  have hc1 := csN_pos (d := C 60 13 k) hg
  have hc2 := csN_le (d := C 60 13 k) hg
  have hmd := Nat.mod_lt s0 (show 0 < csN (C 60 13 k) (C 60 17 k) by omega)
  refine s_aload_n (pc := 0) S 0 dX7_pagesOn_0 rfl rfl ?_
  refine s_get (pc := 1) S hz (ref := "SpoolFarmModel") (v := .ref (A 60 13)) (cc_mod (A := A) (C := C)) i_RX7 rfl 13 (Nat.le_of_ble_eq_true rfl) (by decide +kernel) (fun _ h => h) rfl dX7_pagesOn_1 ?_
  refine s_iload_n (pc := 4) S 1 dX7_pagesOn_4 rfl rfl ?_
  refine s_zald (pc := 5) S hz (x := C 60 13 k) (cc_row (A := A) (C := C) (x := aN .boolean 40 (C 60 13)) 13 (by decide) rfl) (by omega) (by omega) rfl dX7_pagesOn_5 ?_
  refine s_if_neN (pc := 6) S 11 dX7_pagesOn_6 (by decide) (by omega) (fun c_1 => ?_) (fun c_1 => ?_)
  · refine s_iload_n (pc := 11) S 2 dX7_pagesOn_11 rfl rfl ?_
    refine s_aload_n (pc := 12) S 0 dX7_pagesOn_12 rfl rfl ?_
    refine s_iload_n (pc := 13) S 1 dX7_pagesOn_13 rfl rfl ?_
    refine s_callV (pc := 14) S hz hml [.int (nI k)] (k_X7_copySheets Z l A C k hk hd hg hg2) (cwV 1 S.2.2.2.2 gX7_pagesOn_X7_copySheets rfl rfl rfl (by decide +kernel) ⟨Nat.le_of_ble_eq_true rfl, Nat.le_of_ble_eq_true rfl⟩) (cc_mod (A := A) (C := C)) rfl rfl rfl (Nat.le_of_ble_eq_true rfl) dX7_pagesOn_14 ⟨Nat.le_of_ble_eq_true rfl, Nat.le_of_ble_eq_true rfl⟩ (fun _ _ _ h => h.elim) (fun v A2 C2 h_2 => ?_)
    obtain ⟨rfl, rfl, rfl⟩ := h_2
    refine s_iremN (pc := 17) S dX7_pagesOn_17 (by omega) (by omega) (by omega) ?_
    refine s_aload_n (pc := 18) S 0 dX7_pagesOn_18 rfl rfl ?_
    refine s_iload_n (pc := 19) S 1 dX7_pagesOn_19 rfl rfl ?_
    refine s_callV (pc := 20) S hz hml [.int (nI k)] (k_X7_copySheets Z l A C k hk hd hg hg2) (cwV 1 S.2.2.2.2 gX7_pagesOn_X7_copySheets rfl rfl rfl (by decide +kernel) ⟨Nat.le_of_ble_eq_true rfl, Nat.le_of_ble_eq_true rfl⟩) (cc_mod (A := A) (C := C)) rfl rfl rfl (Nat.le_of_ble_eq_true rfl) dX7_pagesOn_20 ⟨Nat.le_of_ble_eq_true rfl, Nat.le_of_ble_eq_true rfl⟩ (fun _ _ _ h => h.elim) (fun v A2 C2 h_3 => ?_)
    obtain ⟨rfl, rfl, rfl⟩ := h_3
    refine s_iconst (pc := 23) S (v := (nI 1)) dX7_pagesOn_23 (by decide) ?_
    refine s_isubN (pc := 24) S dX7_pagesOn_24 (by omega) ?_
    refine s_icmp_neN (pc := 25) S 44 dX7_pagesOn_25 (by decide) (by omega) (by omega) (fun c_4 => ?_) (fun c_4 => ?_)
    · refine s_iconst (pc := 44) S (v := (nI 2)) dX7_pagesOn_44 (by decide) ?_
      exact s_iret (pc := 45) S hz hlo hr ⟨rfl, rfl, by rw [show ponN (C 60 13 k) (C 60 17 k) s0 = 2 by unfold ponN; (repeat' split) <;> omega]⟩ (Nat.le_of_ble_eq_true rfl) (Nat.le_of_ble_eq_true rfl) dX7_pagesOn_45
    · refine s_aload_n (pc := 28) S 0 dX7_pagesOn_28 rfl rfl ?_
      refine s_get (pc := 29) S hz (ref := "SpoolFarmModel") (v := .ref (A 60 17)) (cc_mod (A := A) (C := C)) i_RX7 rfl 17 (Nat.le_of_ble_eq_true rfl) (by decide +kernel) (fun _ h => h) rfl dX7_pagesOn_29 ?_
      refine s_iload_n (pc := 32) S 1 dX7_pagesOn_32 rfl rfl ?_
      refine s_iald (pc := 33) S hz (x := C 60 17 k) (cc_row (A := A) (C := C) (x := aN .int 40 (C 60 17)) 17 (by decide) rfl) (by omega) (by omega) rfl dX7_pagesOn_33 ?_
      refine s_iconst (pc := 34) S (v := (nI 2)) dX7_pagesOn_34 (by decide) ?_
      refine s_iremN (pc := 35) S dX7_pagesOn_35 (by omega) (by omega) (by omega) ?_
      refine s_iconst (pc := 36) S (v := (nI 1)) dX7_pagesOn_36 (by decide) ?_
      refine s_icmp_neN (pc := 37) S 44 dX7_pagesOn_37 (by decide) (by omega) (by omega) (fun c_5 => ?_) (fun c_5 => ?_)
      · refine s_iconst (pc := 44) S (v := (nI 2)) dX7_pagesOn_44 (by decide) ?_
        exact s_iret (pc := 45) S hz hlo hr ⟨rfl, rfl, by rw [show ponN (C 60 13 k) (C 60 17 k) s0 = 2 by unfold ponN; (repeat' split) <;> omega]⟩ (Nat.le_of_ble_eq_true rfl) (Nat.le_of_ble_eq_true rfl) dX7_pagesOn_45
      · refine s_iconst (pc := 40) S (v := (nI 1)) dX7_pagesOn_40 (by decide) ?_
        refine s_goto (pc := 41) S 45 dX7_pagesOn_41 (by decide) ?_
        exact s_iret (pc := 45) S hz hlo hr ⟨rfl, rfl, by rw [show ponN (C 60 13 k) (C 60 17 k) s0 = 1 by unfold ponN; (repeat' split) <;> omega]⟩ (Nat.le_of_ble_eq_true rfl) (Nat.le_of_ble_eq_true rfl) dX7_pagesOn_45
  · refine s_iconst (pc := 9) S (v := (nI 1)) dX7_pagesOn_9 (by decide) ?_
    exact s_iret (pc := 10) S hz hlo hr ⟨rfl, rfl, by rw [show ponN (C 60 13 k) (C 60 17 k) s0 = 1 by unfold ponN; (repeat' split) <;> omega]⟩ (Nat.le_of_ble_eq_true rfl) (Nat.le_of_ble_eq_true rfl) dX7_pagesOn_10
set_option maxHeartbeats 4000000 in
set_option maxRecDepth 100000 in
theorem k_X7_pagesTo (Z : Zp) (l : Launch) (A : AF) (C : CF) (k : Nat) (hk : k < 40) (hd : C 60 13 k < 2) (hg : 1 ≤ C 60 17 k) (hg2 : C 60 17 k ≤ 100) (s0 : Nat) (hs : s0 < 2 ^ 31) : CtS Z l yX7_pagesTo wsX7_pagesTo ({ frames := 1, cells := 0, slots := 0, locals := 21 }) [.ref (A 60 100), .int (nI k), .int (nI s0)] A C 0 0 (fun v A2 C2 => A = A2 ∧ C = C2 ∧ some (.int (nI (ptoN (C 60 13 k) (C 60 17 k) s0))) = v) (fun _ _ _ => False) := by
  refine CtS.of (cc0 := cX7_pagesTo) (maxL := 4) (ret := (some .int)) (by decide) rfl (Nat.le_of_ble_eq_true rfl) ?_
  intro M0_ p_ e_ s_ m_ args_ below_ meth_ c_ S hz hml hex hlo hr hin
  refine s_loc (L2 := [(0, .ref (A 60 100)), (1, .int (nI k)), (2, .int (nI s0))]) rfl ?_
  have i_RX7 : ∀ w ∈ u_ws RX7 TX7 38, w ∈ wsX7_pagesTo := by decide +kernel
  have hc1 := csN_pos (d := C 60 13 k) hg
  have hc2 := csN_le (d := C 60 13 k) hg
  refine s_iload_n (pc := 0) S 2 dX7_pagesTo_0 rfl rfl ?_
  refine s_aload_n (pc := 1) S 0 dX7_pagesTo_1 rfl rfl ?_
  refine s_iload_n (pc := 2) S 1 dX7_pagesTo_2 rfl rfl ?_
  refine s_callV (pc := 3) S hz hml [.int (nI k)] (k_X7_copySheets Z l A C k hk hd hg hg2) (cwV 1 S.2.2.2.2 gX7_pagesTo_X7_copySheets rfl rfl rfl (by decide +kernel) ⟨Nat.le_of_ble_eq_true rfl, Nat.le_of_ble_eq_true rfl⟩) (cc_mod (A := A) (C := C)) rfl rfl rfl (Nat.le_of_ble_eq_true rfl) dX7_pagesTo_3 ⟨Nat.le_of_ble_eq_true rfl, Nat.le_of_ble_eq_true rfl⟩ (fun _ _ _ h => h.elim) (fun v A2 C2 h_1 => ?_)
  obtain ⟨rfl, rfl, rfl⟩ := h_1
  refine s_iremN (pc := 6) S dX7_pagesTo_6 (by omega) (by omega) (by omega) ?_
  refine s_istore_n (pc := 7) S [(3, .int (nI (s0 % (csN (C 60 13 k) (C 60 17 k))))), (0, .ref (A 60 100)), (1, .int (nI k)), (2, .int (nI s0))] dX7_pagesTo_7 rfl (by decide) rfl ?_
  refine s_iload_n (pc := 8) S 3 dX7_pagesTo_8 rfl rfl ?_
  refine s_aload_n (pc := 9) S 1 dX7_pagesTo_9 rfl rfl ?_
  refine s_iload_n (pc := 10) S 2 dX7_pagesTo_10 rfl rfl ?_
  refine s_callV (pc := 11) S hz hml [.int (nI k)] (k_X7_copySheets Z l A C k hk hd hg hg2) (cwV 1 S.2.2.2.2 gX7_pagesTo_X7_copySheets rfl rfl rfl (by decide +kernel) ⟨Nat.le_of_ble_eq_true rfl, Nat.le_of_ble_eq_true rfl⟩) (cc_mod (A := A) (C := C)) rfl rfl rfl (Nat.le_of_ble_eq_true rfl) dX7_pagesTo_11 ⟨Nat.le_of_ble_eq_true rfl, Nat.le_of_ble_eq_true rfl⟩ (fun _ _ _ h => h.elim) (fun v A2 C2 h_2 => ?_)
  obtain ⟨rfl, rfl, rfl⟩ := h_2
  refine s_idivN (pc := 14) S dX7_pagesTo_14 (by omega) (by omega) (by omega) ?_
  refine s_aload_n (pc := 15) S 1 dX7_pagesTo_15 rfl rfl ?_
  refine s_get (pc := 16) S hz (ref := "SpoolFarmModel") (v := .ref (A 60 17)) (cc_mod (A := A) (C := C)) i_RX7 rfl 17 (Nat.le_of_ble_eq_true rfl) (by decide +kernel) (fun _ h => h) rfl dX7_pagesTo_16 ?_
  refine s_iload_n (pc := 19) S 2 dX7_pagesTo_19 rfl rfl ?_
  refine s_iald (pc := 20) S hz (x := C 60 17 k) (cc_row (A := A) (C := C) (x := aN .int 40 (C 60 17)) 17 (by decide) rfl) (by omega) (by omega) rfl dX7_pagesTo_20 ?_
  refine s_imulN (pc := 21) S dX7_pagesTo_21 ?_
  refine s_aload_n (pc := 22) S 1 dX7_pagesTo_22 rfl rfl ?_
  refine s_get (pc := 23) S hz (ref := "SpoolFarmModel") (v := .ref (A 60 13)) (cc_mod (A := A) (C := C)) i_RX7 rfl 13 (Nat.le_of_ble_eq_true rfl) (by decide +kernel) (fun _ h => h) rfl dX7_pagesTo_23 ?_
  refine s_iload_n (pc := 26) S 2 dX7_pagesTo_26 rfl rfl ?_
  refine s_zald (pc := 27) S hz (x := C 60 13 k) (cc_row (A := A) (C := C) (x := aN .boolean 40 (C 60 13)) 13 (by decide) rfl) (by omega) (by omega) rfl dX7_pagesTo_27 ?_
  refine s_if_eqN (pc := 28) S 37 dX7_pagesTo_28 (by decide) (by omega) (fun c_3 => ?_) (fun c_3 => ?_)
  · refine s_iload_n (pc := 37) S 0 dX7_pagesTo_37 rfl rfl ?_
    refine s_iaddN (pc := 38) S dX7_pagesTo_38 ?_
    exact s_iret (pc := 39) S hz hlo hr ⟨rfl, rfl, by rw [show ptoN (C 60 13 k) (C 60 17 k) s0 = ((s0 / (csN (C 60 13 k) (C 60 17 k))) * (C 60 17 k)) + (s0 % (csN (C 60 13 k) (C 60 17 k))) by simp [ptoN, c_3]]⟩ (Nat.le_of_ble_eq_true rfl) (Nat.le_of_ble_eq_true rfl) dX7_pagesTo_39
  · refine s_iconst (pc := 31) S (v := (nI 2)) dX7_pagesTo_31 (by decide) ?_
    refine s_iload_n (pc := 32) S 0 dX7_pagesTo_32 rfl rfl ?_
    refine s_imulN (pc := 33) S dX7_pagesTo_33 ?_
    refine s_goto (pc := 34) S 38 dX7_pagesTo_34 (by decide) ?_
    refine s_iaddN (pc := 38) S dX7_pagesTo_38 ?_
    exact s_iret (pc := 39) S hz hlo hr ⟨rfl, rfl, by rw [show ptoN (C 60 13 k) (C 60 17 k) s0 = ((s0 / (csN (C 60 13 k) (C 60 17 k))) * (C 60 17 k)) + (2 * (s0 % (csN (C 60 13 k) (C 60 17 k)))) by simp [ptoN, c_3]]⟩ (Nat.le_of_ble_eq_true rfl) (Nat.le_of_ble_eq_true rfl) dX7_pagesTo_39
set_option maxHeartbeats 4000000 in
set_option maxRecDepth 100000 in
theorem k_X7_isDone (Z : Zp) (l : Launch) (A : AF) (C : CF) (k : Nat) (hk : k < 40) (hd : C 60 13 k < 2) (hg : 1 ≤ C 60 17 k) (hg2 : C 60 17 k ≤ 100) (hal : csN (C 60 13 k) (C 60 17 k) * C 60 18 k < 2 ^ 31) (ho : C 60 19 k < 2 ^ 31) : CtS Z l yX7_isDone wsX7_isDone ({ frames := 2, cells := 0, slots := 0, locals := 42 }) [.ref (A 60 100), .int (nI k)] A C 0 0 (fun v A2 C2 => A = A2 ∧ C = C2 ∧ ((C 60 19 k = csN (C 60 13 k) (C 60 17 k) * C 60 18 k ∧ some (.int (nI 1)) = v) ∨ (C 60 19 k ≠ csN (C 60 13 k) (C 60 17 k) * C 60 18 k ∧ some (.int (nI 0)) = v))) (fun _ _ _ => False) := by
  refine CtS.of (cc0 := cX7_isDone) (maxL := 2) (ret := (some .boolean)) (by decide) rfl (Nat.le_of_ble_eq_true rfl) ?_
  intro M0_ p_ e_ s_ m_ args_ below_ meth_ c_ S hz hml hex hlo hr hin
  refine s_loc (L2 := [(0, .ref (A 60 100)), (1, .int (nI k))]) rfl ?_
  have i_RX7 : ∀ w ∈ u_ws RX7 TX7 38, w ∈ wsX7_isDone := by decide +kernel
  refine s_aload_n (pc := 0) S 0 dX7_isDone_0 rfl rfl ?_
  refine s_get (pc := 1) S hz (ref := "SpoolFarmModel") (v := .ref (A 60 19)) (cc_mod (A := A) (C := C)) i_RX7 rfl 19 (Nat.le_of_ble_eq_true rfl) (by decide +kernel) (fun _ h => h) rfl dX7_isDone_1 ?_
  refine s_iload_n (pc := 4) S 1 dX7_isDone_4 rfl rfl ?_
  refine s_iald (pc := 5) S hz (x := C 60 19 k) (cc_row (A := A) (C := C) (x := aN .int 40 (C 60 19)) 19 (by decide) rfl) (by omega) (by omega) rfl dX7_isDone_5 ?_
  refine s_aload_n (pc := 6) S 0 dX7_isDone_6 rfl rfl ?_
  refine s_iload_n (pc := 7) S 1 dX7_isDone_7 rfl rfl ?_
  refine s_callV (pc := 8) S hz hml [.int (nI k)] (k_X7_allSheets Z l A C k hk hd hg hg2) (cwV 1 S.2.2.2.2 gX7_isDone_X7_allSheets rfl rfl rfl (by decide +kernel) ⟨Nat.le_of_ble_eq_true rfl, Nat.le_of_ble_eq_true rfl⟩) (cc_mod (A := A) (C := C)) rfl rfl rfl (Nat.le_of_ble_eq_true rfl) dX7_isDone_8 ⟨Nat.le_of_ble_eq_true rfl, Nat.le_of_ble_eq_true rfl⟩ (fun _ _ _ h => h.elim) (fun v A2 C2 h_1 => ?_)
  obtain ⟨rfl, rfl, rfl⟩ := h_1
  refine s_icmp_neN (pc := 11) S 18 dX7_isDone_11 (by decide) (by omega) (by omega) (fun c_2 => ?_) (fun c_2 => ?_)
  · refine s_iconst (pc := 18) S (v := (nI 0)) dX7_isDone_18 (by decide) ?_
    exact s_zret (pc := 19) S hz hlo (nar_z (by omega)) hr ⟨rfl, rfl, Or.inr ⟨c_2, rfl⟩⟩ (Nat.le_of_ble_eq_true rfl) (Nat.le_of_ble_eq_true rfl) dX7_isDone_19
  · refine s_iconst (pc := 14) S (v := (nI 1)) dX7_isDone_14 (by decide) ?_
    refine s_goto (pc := 15) S 19 dX7_isDone_15 (by decide) ?_
    exact s_zret (pc := 19) S hz hlo (nar_z (by omega)) hr ⟨rfl, rfl, Or.inl ⟨c_2, rfl⟩⟩ (Nat.le_of_ble_eq_true rfl) (Nat.le_of_ble_eq_true rfl) dX7_isDone_19
set_option maxHeartbeats 4000000 in
set_option maxRecDepth 100000 in
theorem k_X7_leftOf (Z : Zp) (l : Launch) (A : AF) (C : CF) (k : Nat) (hk : k < 40) (hd : C 60 13 k < 2) (hg : 1 ≤ C 60 17 k) (hg2 : C 60 17 k ≤ 100) (ho : C 60 19 k < 2 ^ 31) (hle : ptoN (C 60 13 k) (C 60 17 k) (C 60 19 k) ≤ C 60 17 k * C 60 18 k) : CtS Z l yX7_leftOf wsX7_leftOf ({ frames := 2, cells := 0, slots := 0, locals := 44 }) [.ref (A 60 100), .int (nI k)] A C 0 0 (fun v A2 C2 => A = A2 ∧ C = C2 ∧ some (.int (nI (C 60 17 k * C 60 18 k - (ptoN (C 60 13 k) (C 60 17 k) (C 60 19 k))))) = v) (fun _ _ _ => False) := by
  refine CtS.of (cc0 := cX7_leftOf) (maxL := 2) (ret := (some .int)) (by decide) rfl (Nat.le_of_ble_eq_true rfl) ?_
  intro M0_ p_ e_ s_ m_ args_ below_ meth_ c_ S hz hml hex hlo hr hin
  refine s_loc (L2 := [(0, .ref (A 60 100)), (1, .int (nI k))]) rfl ?_
  have i_RX7 : ∀ w ∈ u_ws RX7 TX7 38, w ∈ wsX7_leftOf := by decide +kernel
  refine s_aload_n (pc := 0) S 0 dX7_leftOf_0 rfl rfl ?_
  refine s_get (pc := 1) S hz (ref := "SpoolFarmModel") (v := .ref (A 60 17)) (cc_mod (A := A) (C := C)) i_RX7 rfl 17 (Nat.le_of_ble_eq_true rfl) (by decide +kernel) (fun _ h => h) rfl dX7_leftOf_1 ?_
  refine s_iload_n (pc := 4) S 1 dX7_leftOf_4 rfl rfl ?_
  refine s_iald (pc := 5) S hz (x := C 60 17 k) (cc_row (A := A) (C := C) (x := aN .int 40 (C 60 17)) 17 (by decide) rfl) (by omega) (by omega) rfl dX7_leftOf_5 ?_
  refine s_aload_n (pc := 6) S 0 dX7_leftOf_6 rfl rfl ?_
  refine s_get (pc := 7) S hz (ref := "SpoolFarmModel") (v := .ref (A 60 18)) (cc_mod (A := A) (C := C)) i_RX7 rfl 18 (Nat.le_of_ble_eq_true rfl) (by decide +kernel) (fun _ h => h) rfl dX7_leftOf_7 ?_
  refine s_iload_n (pc := 10) S 1 dX7_leftOf_10 rfl rfl ?_
  refine s_iald (pc := 11) S hz (x := C 60 18 k) (cc_row (A := A) (C := C) (x := aN .int 40 (C 60 18)) 18 (by decide) rfl) (by omega) (by omega) rfl dX7_leftOf_11 ?_
  refine s_imulN (pc := 12) S dX7_leftOf_12 ?_
  refine s_aload_n (pc := 13) S 0 dX7_leftOf_13 rfl rfl ?_
  refine s_iload_n (pc := 14) S 1 dX7_leftOf_14 rfl rfl ?_
  refine s_aload_n (pc := 15) S 0 dX7_leftOf_15 rfl rfl ?_
  refine s_get (pc := 16) S hz (ref := "SpoolFarmModel") (v := .ref (A 60 19)) (cc_mod (A := A) (C := C)) i_RX7 rfl 19 (Nat.le_of_ble_eq_true rfl) (by decide +kernel) (fun _ h => h) rfl dX7_leftOf_16 ?_
  refine s_iload_n (pc := 19) S 1 dX7_leftOf_19 rfl rfl ?_
  refine s_iald (pc := 20) S hz (x := C 60 19 k) (cc_row (A := A) (C := C) (x := aN .int 40 (C 60 19)) 19 (by decide) rfl) (by omega) (by omega) rfl dX7_leftOf_20 ?_
  refine s_callV (pc := 21) S hz hml [.int (nI k), .int (nI (C 60 19 k))] (k_X7_pagesTo Z l A C k hk hd hg hg2 (C 60 19 k) (by omega)) (cwV 2 S.2.2.2.2 gX7_leftOf_X7_pagesTo rfl rfl rfl (by decide +kernel) ⟨Nat.le_of_ble_eq_true rfl, Nat.le_of_ble_eq_true rfl⟩) (cc_mod (A := A) (C := C)) rfl rfl rfl (Nat.le_of_ble_eq_true rfl) dX7_leftOf_21 ⟨Nat.le_of_ble_eq_true rfl, Nat.le_of_ble_eq_true rfl⟩ (fun _ _ _ h => h.elim) (fun v A2 C2 h_1 => ?_)
  obtain ⟨rfl, rfl, rfl⟩ := h_1
  refine s_isubN (pc := 24) S dX7_leftOf_24 (by omega) ?_
  exact s_iret (pc := 25) S hz hlo hr ⟨rfl, rfl, rfl⟩ (Nat.le_of_ble_eq_true rfl) (Nat.le_of_ble_eq_true rfl) dX7_leftOf_25
set_option maxHeartbeats 4000000 in
set_option maxRecDepth 100000 in
theorem k_X7_laysTrial (Z : Zp) (l : Launch) (A : AF) (C : CF) (k p : Nat) (hk : k < 40) (hp : p < 4) (hb : C 60 12 k < 2) (hu : C 60 16 k < 6) : CtS Z l yX7_laysTrial wsX7_laysTrial ({ frames := 1, cells := 0, slots := 0, locals := 21 }) [.ref (A 60 100), .int (nI k), .int (nI p)] A C 0 0 (fun v A2 C2 => A = A2 ∧ S6 C (C 60 3 (3 * p + 0)) (C 60 3 (3 * p + 1)) (C 60 3 (3 * p + 2)) (C 60 4 p) (C 60 5 p) (C 60 0 (2 * C 60 16 k + (if C 60 12 k = 0 then 0 else 1))) = C2 ∧ none = v) (fun _ _ _ => False) := by
  refine CtS.of (cc0 := cX7_laysTrial) (maxL := 4) (ret := none) (by decide) rfl (Nat.le_of_ble_eq_true rfl) ?_
  intro M0_ p_ e_ s_ m_ args_ below_ meth_ c_ S hz hml hex hlo hr hin
  refine s_loc (L2 := [(0, .ref (A 60 100)), (1, .int (nI k)), (2, .int (nI p))]) rfl ?_
  have i_RX7 : ∀ w ∈ u_ws RX7 TX7 38, w ∈ wsX7_laysTrial := by decide +kernel
  have hif : (if C 60 12 k = 0 then 0 else 1) < 2 := by split <;> omega
  refine s_iconst (pc := 0) S (v := (nI 0)) dX7_laysTrial_0 (by decide) ?_
  refine s_istore_n (pc := 1) S [(3, .int (nI 0)), (0, .ref (A 60 100)), (1, .int (nI k)), (2, .int (nI p))] dX7_laysTrial_1 rfl (by decide) rfl ?_
  refine s_iload_n (pc := 2) S 0 dX7_laysTrial_2 rfl rfl ?_
  refine s_iconst (pc := 3) S (v := (nI 3)) dX7_laysTrial_3 (by decide) ?_
  refine s_icmp_geN (pc := 4) S 29 dX7_laysTrial_4 (by decide) (by decide) (by decide) (fun h => absurd h (by decide)) (fun _ => ?_)
  refine s_aload_n (pc := 7) S 1 dX7_laysTrial_7 rfl rfl ?_
  refine s_get (pc := 8) S hz (ref := "SpoolFarmModel") (v := .ref (A 60 25)) (cc_mod (A := A) (C := C)) i_RX7 rfl 25 (Nat.le_of_ble_eq_true rfl) (by decide +kernel) (fun _ h => h) rfl dX7_laysTrial_8 ?_
  refine s_iload_n (pc := 11) S 0 dX7_laysTrial_11 rfl rfl ?_
  refine s_aload_n (pc := 12) S 1 dX7_laysTrial_12 rfl rfl ?_
  refine s_get (pc := 13) S hz (ref := "SpoolFarmModel") (v := .ref (A 60 3)) (cc_mod (A := A) (C := C)) i_RX7 rfl 3 (Nat.le_of_ble_eq_true rfl) (by decide +kernel) (fun _ h => h) rfl dX7_laysTrial_13 ?_
  refine s_iconst (pc := 16) S (v := (nI 3)) dX7_laysTrial_16 (by decide) ?_
  refine s_iload_n (pc := 17) S 3 dX7_laysTrial_17 rfl rfl ?_
  refine s_imulN (pc := 18) S dX7_laysTrial_18 ?_
  refine s_iload_n (pc := 19) S 0 dX7_laysTrial_19 rfl rfl ?_
  refine s_iaddN (pc := 20) S dX7_laysTrial_20 ?_
  refine s_iald (pc := 21) S hz (x := C 60 3 ((3 * p) + 0)) (cc_row (A := A) (C := C) (x := aN .int 12 (C 60 3)) 3 (by decide) rfl) (by omega) (by omega) rfl dX7_laysTrial_21 ?_
  refine s_iast (pc := 22) S hz (cc_row (A := A) (C := C) (x := aN .int 3 (C 60 25)) 25 (by decide) rfl) (by omega) (by omega) (up3 C 60 25 0 (C 60 3 ((3 * p) + 0))) cu_mod (by rw [(cc_row (A := A) (C := (up3 C 60 25 0 (C 60 3 ((3 * p) + 0)))) (x := aN .int 3 ((up3 C 60 25 0 (C 60 3 ((3 * p) + 0))) 60 25)) 25 (by decide) rfl), up3_u]) dX7_laysTrial_22 ?_
  refine s_iinc (pc := 23) S 0 [(3, .int (nI 1)), (0, .ref (A 60 100)), (1, .int (nI k)), (2, .int (nI p))] dX7_laysTrial_23 rfl (by decide) (by decide) rfl ?_
  refine s_goto (pc := 26) S 2 dX7_laysTrial_26 (by decide) ?_
  refine s_iload_n (pc := 2) S 0 dX7_laysTrial_2 rfl rfl ?_
  refine s_iconst (pc := 3) S (v := (nI 3)) dX7_laysTrial_3 (by decide) ?_
  refine s_icmp_geN (pc := 4) S 29 dX7_laysTrial_4 (by decide) (by decide) (by decide) (fun h => absurd h (by decide)) (fun _ => ?_)
  refine s_aload_n (pc := 7) S 1 dX7_laysTrial_7 rfl rfl ?_
  refine s_get (pc := 8) S hz (ref := "SpoolFarmModel") (v := .ref (A 60 25)) (cc_mod (A := A) (C := (up3 C 60 25 0 (C 60 3 ((3 * p) + 0))))) i_RX7 rfl 25 (Nat.le_of_ble_eq_true rfl) (by decide +kernel) (fun _ h => h) rfl dX7_laysTrial_8 ?_
  refine s_iload_n (pc := 11) S 0 dX7_laysTrial_11 rfl rfl ?_
  refine s_aload_n (pc := 12) S 1 dX7_laysTrial_12 rfl rfl ?_
  refine s_get (pc := 13) S hz (ref := "SpoolFarmModel") (v := .ref (A 60 3)) (cc_mod (A := A) (C := (up3 C 60 25 0 (C 60 3 ((3 * p) + 0))))) i_RX7 rfl 3 (Nat.le_of_ble_eq_true rfl) (by decide +kernel) (fun _ h => h) rfl dX7_laysTrial_13 ?_
  refine s_iconst (pc := 16) S (v := (nI 3)) dX7_laysTrial_16 (by decide) ?_
  refine s_iload_n (pc := 17) S 3 dX7_laysTrial_17 rfl rfl ?_
  refine s_imulN (pc := 18) S dX7_laysTrial_18 ?_
  refine s_iload_n (pc := 19) S 0 dX7_laysTrial_19 rfl rfl ?_
  refine s_iaddN (pc := 20) S dX7_laysTrial_20 ?_
  refine s_iald (pc := 21) S hz (x := C 60 3 ((3 * p) + 1)) (cc_row (A := A) (C := (up3 C 60 25 0 (C 60 3 ((3 * p) + 0)))) (x := aN .int 12 ((up3 C 60 25 0 (C 60 3 ((3 * p) + 0))) 60 3)) 3 (by decide) rfl) (by omega) (by omega) rfl dX7_laysTrial_21 ?_
  refine s_iast (pc := 22) S hz (cc_row (A := A) (C := (up3 C 60 25 0 (C 60 3 ((3 * p) + 0)))) (x := aN .int 3 ((up3 C 60 25 0 (C 60 3 ((3 * p) + 0))) 60 25)) 25 (by decide) rfl) (by omega) (by omega) (up3 (up3 C 60 25 0 (C 60 3 ((3 * p) + 0))) 60 25 1 (C 60 3 ((3 * p) + 1))) cu_mod (by rw [(cc_row (A := A) (C := (up3 (up3 C 60 25 0 (C 60 3 ((3 * p) + 0))) 60 25 1 (C 60 3 ((3 * p) + 1)))) (x := aN .int 3 ((up3 (up3 C 60 25 0 (C 60 3 ((3 * p) + 0))) 60 25 1 (C 60 3 ((3 * p) + 1))) 60 25)) 25 (by decide) rfl), up3_u]) dX7_laysTrial_22 ?_
  refine s_iinc (pc := 23) S 0 [(3, .int (nI 2)), (0, .ref (A 60 100)), (1, .int (nI k)), (2, .int (nI p))] dX7_laysTrial_23 rfl (by decide) (by decide) rfl ?_
  refine s_goto (pc := 26) S 2 dX7_laysTrial_26 (by decide) ?_
  refine s_iload_n (pc := 2) S 0 dX7_laysTrial_2 rfl rfl ?_
  refine s_iconst (pc := 3) S (v := (nI 3)) dX7_laysTrial_3 (by decide) ?_
  refine s_icmp_geN (pc := 4) S 29 dX7_laysTrial_4 (by decide) (by decide) (by decide) (fun h => absurd h (by decide)) (fun _ => ?_)
  refine s_aload_n (pc := 7) S 1 dX7_laysTrial_7 rfl rfl ?_
  refine s_get (pc := 8) S hz (ref := "SpoolFarmModel") (v := .ref (A 60 25)) (cc_mod (A := A) (C := (up3 (up3 C 60 25 0 (C 60 3 ((3 * p) + 0))) 60 25 1 (C 60 3 ((3 * p) + 1))))) i_RX7 rfl 25 (Nat.le_of_ble_eq_true rfl) (by decide +kernel) (fun _ h => h) rfl dX7_laysTrial_8 ?_
  refine s_iload_n (pc := 11) S 0 dX7_laysTrial_11 rfl rfl ?_
  refine s_aload_n (pc := 12) S 1 dX7_laysTrial_12 rfl rfl ?_
  refine s_get (pc := 13) S hz (ref := "SpoolFarmModel") (v := .ref (A 60 3)) (cc_mod (A := A) (C := (up3 (up3 C 60 25 0 (C 60 3 ((3 * p) + 0))) 60 25 1 (C 60 3 ((3 * p) + 1))))) i_RX7 rfl 3 (Nat.le_of_ble_eq_true rfl) (by decide +kernel) (fun _ h => h) rfl dX7_laysTrial_13 ?_
  refine s_iconst (pc := 16) S (v := (nI 3)) dX7_laysTrial_16 (by decide) ?_
  refine s_iload_n (pc := 17) S 3 dX7_laysTrial_17 rfl rfl ?_
  refine s_imulN (pc := 18) S dX7_laysTrial_18 ?_
  refine s_iload_n (pc := 19) S 0 dX7_laysTrial_19 rfl rfl ?_
  refine s_iaddN (pc := 20) S dX7_laysTrial_20 ?_
  refine s_iald (pc := 21) S hz (x := C 60 3 ((3 * p) + 2)) (cc_row (A := A) (C := (up3 (up3 C 60 25 0 (C 60 3 ((3 * p) + 0))) 60 25 1 (C 60 3 ((3 * p) + 1)))) (x := aN .int 12 ((up3 (up3 C 60 25 0 (C 60 3 ((3 * p) + 0))) 60 25 1 (C 60 3 ((3 * p) + 1))) 60 3)) 3 (by decide) rfl) (by omega) (by omega) rfl dX7_laysTrial_21 ?_
  refine s_iast (pc := 22) S hz (cc_row (A := A) (C := (up3 (up3 C 60 25 0 (C 60 3 ((3 * p) + 0))) 60 25 1 (C 60 3 ((3 * p) + 1)))) (x := aN .int 3 ((up3 (up3 C 60 25 0 (C 60 3 ((3 * p) + 0))) 60 25 1 (C 60 3 ((3 * p) + 1))) 60 25)) 25 (by decide) rfl) (by omega) (by omega) (up3 (up3 (up3 C 60 25 0 (C 60 3 ((3 * p) + 0))) 60 25 1 (C 60 3 ((3 * p) + 1))) 60 25 2 (C 60 3 ((3 * p) + 2))) cu_mod (by rw [(cc_row (A := A) (C := (up3 (up3 (up3 C 60 25 0 (C 60 3 ((3 * p) + 0))) 60 25 1 (C 60 3 ((3 * p) + 1))) 60 25 2 (C 60 3 ((3 * p) + 2)))) (x := aN .int 3 ((up3 (up3 (up3 C 60 25 0 (C 60 3 ((3 * p) + 0))) 60 25 1 (C 60 3 ((3 * p) + 1))) 60 25 2 (C 60 3 ((3 * p) + 2))) 60 25)) 25 (by decide) rfl), up3_u]) dX7_laysTrial_22 ?_
  refine s_iinc (pc := 23) S 0 [(3, .int (nI 3)), (0, .ref (A 60 100)), (1, .int (nI k)), (2, .int (nI p))] dX7_laysTrial_23 rfl (by decide) (by decide) rfl ?_
  refine s_goto (pc := 26) S 2 dX7_laysTrial_26 (by decide) ?_
  refine s_iload_n (pc := 2) S 0 dX7_laysTrial_2 rfl rfl ?_
  refine s_iconst (pc := 3) S (v := (nI 3)) dX7_laysTrial_3 (by decide) ?_
  refine s_icmp_geN (pc := 4) S 29 dX7_laysTrial_4 (by decide) (by decide) (by decide) (fun _ => ?_) (fun h => absurd h (by decide))
  refine s_aload_n (pc := 29) S 1 dX7_laysTrial_29 rfl rfl ?_
  refine s_aload_n (pc := 30) S 1 dX7_laysTrial_30 rfl rfl ?_
  refine s_get (pc := 31) S hz (ref := "SpoolFarmModel") (v := .ref (A 60 4)) (cc_mod (A := A) (C := (up3 (up3 (up3 C 60 25 0 (C 60 3 ((3 * p) + 0))) 60 25 1 (C 60 3 ((3 * p) + 1))) 60 25 2 (C 60 3 ((3 * p) + 2))))) i_RX7 rfl 4 (Nat.le_of_ble_eq_true rfl) (by decide +kernel) (fun _ h => h) rfl dX7_laysTrial_31 ?_
  refine s_iload_n (pc := 34) S 3 dX7_laysTrial_34 rfl rfl ?_
  refine s_iald (pc := 35) S hz (x := C 60 4 p) (cc_row (A := A) (C := (up3 (up3 (up3 C 60 25 0 (C 60 3 ((3 * p) + 0))) 60 25 1 (C 60 3 ((3 * p) + 1))) 60 25 2 (C 60 3 ((3 * p) + 2)))) (x := aN .int 4 ((up3 (up3 (up3 C 60 25 0 (C 60 3 ((3 * p) + 0))) 60 25 1 (C 60 3 ((3 * p) + 1))) 60 25 2 (C 60 3 ((3 * p) + 2))) 60 4)) 4 (by decide) rfl) (by omega) (by omega) rfl dX7_laysTrial_35 ?_
  refine s_put (pc := 36) S hz (ref := "SpoolFarmModel") (ty := .int) (cc_mod (A := A) (C := (up3 (up3 (up3 C 60 25 0 (C 60 3 ((3 * p) + 0))) 60 25 1 (C 60 3 ((3 * p) + 1))) 60 25 2 (C 60 3 ((3 * p) + 2))))) i_RX7 tyX7 tyX7_ok nmX7 rfl 35 (Nat.le_of_ble_eq_true rfl) (by decide +kernel) (fun _ h => h) rfl (by decide +kernel) rfl rfl (Nat.le_of_ble_eq_true rfl) (up3 (up3 (up3 (up3 C 60 25 0 (C 60 3 ((3 * p) + 0))) 60 25 1 (C 60 3 ((3 * p) + 1))) 60 25 2 (C 60 3 ((3 * p) + 2))) 60 100 35 (C 60 4 p)) cu_mod (by rw [(cc_mod (A := A) (C := (up3 (up3 (up3 (up3 C 60 25 0 (C 60 3 ((3 * p) + 0))) 60 25 1 (C 60 3 ((3 * p) + 1))) 60 25 2 (C 60 3 ((3 * p) + 2))) 60 100 35 (C 60 4 p)))), up3_u]; rfl) dX7_laysTrial_36 ?_
  refine s_aload_n (pc := 39) S 1 dX7_laysTrial_39 rfl rfl ?_
  refine s_aload_n (pc := 40) S 1 dX7_laysTrial_40 rfl rfl ?_
  refine s_get (pc := 41) S hz (ref := "SpoolFarmModel") (v := .ref (A 60 5)) (cc_mod (A := A) (C := (up3 (up3 (up3 (up3 C 60 25 0 (C 60 3 ((3 * p) + 0))) 60 25 1 (C 60 3 ((3 * p) + 1))) 60 25 2 (C 60 3 ((3 * p) + 2))) 60 100 35 (C 60 4 p)))) i_RX7 rfl 5 (Nat.le_of_ble_eq_true rfl) (by decide +kernel) (fun _ h => h) rfl dX7_laysTrial_41 ?_
  refine s_iload_n (pc := 44) S 3 dX7_laysTrial_44 rfl rfl ?_
  refine s_iald (pc := 45) S hz (x := C 60 5 p) (cc_row (A := A) (C := (up3 (up3 (up3 (up3 C 60 25 0 (C 60 3 ((3 * p) + 0))) 60 25 1 (C 60 3 ((3 * p) + 1))) 60 25 2 (C 60 3 ((3 * p) + 2))) 60 100 35 (C 60 4 p))) (x := aN .int 4 ((up3 (up3 (up3 (up3 C 60 25 0 (C 60 3 ((3 * p) + 0))) 60 25 1 (C 60 3 ((3 * p) + 1))) 60 25 2 (C 60 3 ((3 * p) + 2))) 60 100 35 (C 60 4 p)) 60 5)) 5 (by decide) rfl) (by omega) (by omega) rfl dX7_laysTrial_45 ?_
  refine s_put (pc := 46) S hz (ref := "SpoolFarmModel") (ty := .int) (cc_mod (A := A) (C := (up3 (up3 (up3 (up3 C 60 25 0 (C 60 3 ((3 * p) + 0))) 60 25 1 (C 60 3 ((3 * p) + 1))) 60 25 2 (C 60 3 ((3 * p) + 2))) 60 100 35 (C 60 4 p)))) i_RX7 tyX7 tyX7_ok nmX7 rfl 36 (Nat.le_of_ble_eq_true rfl) (by decide +kernel) (fun _ h => h) rfl (by decide +kernel) rfl rfl (Nat.le_of_ble_eq_true rfl) (up3 (up3 (up3 (up3 (up3 C 60 25 0 (C 60 3 ((3 * p) + 0))) 60 25 1 (C 60 3 ((3 * p) + 1))) 60 25 2 (C 60 3 ((3 * p) + 2))) 60 100 35 (C 60 4 p)) 60 100 36 (C 60 5 p)) cu_mod (by rw [(cc_mod (A := A) (C := (up3 (up3 (up3 (up3 (up3 C 60 25 0 (C 60 3 ((3 * p) + 0))) 60 25 1 (C 60 3 ((3 * p) + 1))) 60 25 2 (C 60 3 ((3 * p) + 2))) 60 100 35 (C 60 4 p)) 60 100 36 (C 60 5 p)))), up3_u]; rfl) dX7_laysTrial_46 ?_
  refine s_aload_n (pc := 49) S 1 dX7_laysTrial_49 rfl rfl ?_
  refine s_aload_n (pc := 50) S 1 dX7_laysTrial_50 rfl rfl ?_
  refine s_get (pc := 51) S hz (ref := "SpoolFarmModel") (v := .ref (A 60 0)) (cc_mod (A := A) (C := (up3 (up3 (up3 (up3 (up3 C 60 25 0 (C 60 3 ((3 * p) + 0))) 60 25 1 (C 60 3 ((3 * p) + 1))) 60 25 2 (C 60 3 ((3 * p) + 2))) 60 100 35 (C 60 4 p)) 60 100 36 (C 60 5 p)))) i_RX7 rfl 0 (Nat.le_of_ble_eq_true rfl) (by decide +kernel) (fun _ h => h) rfl dX7_laysTrial_51 ?_
  refine s_aload_n (pc := 54) S 1 dX7_laysTrial_54 rfl rfl ?_
  refine s_get (pc := 55) S hz (ref := "SpoolFarmModel") (v := .ref (A 60 16)) (cc_mod (A := A) (C := (up3 (up3 (up3 (up3 (up3 C 60 25 0 (C 60 3 ((3 * p) + 0))) 60 25 1 (C 60 3 ((3 * p) + 1))) 60 25 2 (C 60 3 ((3 * p) + 2))) 60 100 35 (C 60 4 p)) 60 100 36 (C 60 5 p)))) i_RX7 rfl 16 (Nat.le_of_ble_eq_true rfl) (by decide +kernel) (fun _ h => h) rfl dX7_laysTrial_55 ?_
  refine s_iload_n (pc := 58) S 2 dX7_laysTrial_58 rfl rfl ?_
  refine s_iald (pc := 59) S hz (x := C 60 16 k) (cc_row (A := A) (C := (up3 (up3 (up3 (up3 (up3 C 60 25 0 (C 60 3 ((3 * p) + 0))) 60 25 1 (C 60 3 ((3 * p) + 1))) 60 25 2 (C 60 3 ((3 * p) + 2))) 60 100 35 (C 60 4 p)) 60 100 36 (C 60 5 p))) (x := aN .int 40 ((up3 (up3 (up3 (up3 (up3 C 60 25 0 (C 60 3 ((3 * p) + 0))) 60 25 1 (C 60 3 ((3 * p) + 1))) 60 25 2 (C 60 3 ((3 * p) + 2))) 60 100 35 (C 60 4 p)) 60 100 36 (C 60 5 p)) 60 16)) 16 (by decide) rfl) (by omega) (by omega) rfl dX7_laysTrial_59 ?_
  refine s_aload_n (pc := 60) S 1 dX7_laysTrial_60 rfl rfl ?_
  refine s_get (pc := 61) S hz (ref := "SpoolFarmModel") (v := .ref (A 60 12)) (cc_mod (A := A) (C := (up3 (up3 (up3 (up3 (up3 C 60 25 0 (C 60 3 ((3 * p) + 0))) 60 25 1 (C 60 3 ((3 * p) + 1))) 60 25 2 (C 60 3 ((3 * p) + 2))) 60 100 35 (C 60 4 p)) 60 100 36 (C 60 5 p)))) i_RX7 rfl 12 (Nat.le_of_ble_eq_true rfl) (by decide +kernel) (fun _ h => h) rfl dX7_laysTrial_61 ?_
  refine s_iload_n (pc := 64) S 2 dX7_laysTrial_64 rfl rfl ?_
  refine s_zald (pc := 65) S hz (x := C 60 12 k) (cc_row (A := A) (C := (up3 (up3 (up3 (up3 (up3 C 60 25 0 (C 60 3 ((3 * p) + 0))) 60 25 1 (C 60 3 ((3 * p) + 1))) 60 25 2 (C 60 3 ((3 * p) + 2))) 60 100 35 (C 60 4 p)) 60 100 36 (C 60 5 p))) (x := aN .boolean 40 ((up3 (up3 (up3 (up3 (up3 C 60 25 0 (C 60 3 ((3 * p) + 0))) 60 25 1 (C 60 3 ((3 * p) + 1))) 60 25 2 (C 60 3 ((3 * p) + 2))) 60 100 35 (C 60 4 p)) 60 100 36 (C 60 5 p)) 60 12)) 12 (by decide) rfl) (by omega) (by omega) rfl dX7_laysTrial_65 ?_
  refine s_callS (pc := 66) S hz hml [.int (nI (C 60 16 k)), .int (nI (C 60 12 k))] (k_X7_quotaAt Z l A (up3 (up3 (up3 (up3 (up3 C 60 25 0 (C 60 3 ((3 * p) + 0))) 60 25 1 (C 60 3 ((3 * p) + 1))) 60 25 2 (C 60 3 ((3 * p) + 2))) 60 100 35 (C 60 4 p)) 60 100 36 (C 60 5 p)) (C 60 16 k) (C 60 12 k) (by omega)) (cwS 2 S.2.2.2.2 gX7_laysTrial_X7_quotaAt rfl rfl rfl (by decide +kernel) ⟨Nat.le_of_ble_eq_true rfl, Nat.le_of_ble_eq_true rfl⟩) rfl rfl (Nat.le_of_ble_eq_true rfl) dX7_laysTrial_66 ⟨Nat.le_of_ble_eq_true rfl, Nat.le_of_ble_eq_true rfl⟩ (fun _ _ _ h => h.elim) (fun v A2 C2 h_1 => ?_)
  obtain ⟨rfl, rfl, rfl⟩ := h_1
  refine s_iald (pc := 69) S hz (x := C 60 0 (2 * (C 60 16 k) + (if C 60 12 k = 0 then 0 else 1))) (cc_row (A := A) (C := (up3 (up3 (up3 (up3 (up3 C 60 25 0 (C 60 3 ((3 * p) + 0))) 60 25 1 (C 60 3 ((3 * p) + 1))) 60 25 2 (C 60 3 ((3 * p) + 2))) 60 100 35 (C 60 4 p)) 60 100 36 (C 60 5 p))) (x := aN .int 12 ((up3 (up3 (up3 (up3 (up3 C 60 25 0 (C 60 3 ((3 * p) + 0))) 60 25 1 (C 60 3 ((3 * p) + 1))) 60 25 2 (C 60 3 ((3 * p) + 2))) 60 100 35 (C 60 4 p)) 60 100 36 (C 60 5 p)) 60 0)) 0 (by decide) rfl) (by omega) (by omega) rfl dX7_laysTrial_69 ?_
  refine s_put (pc := 70) S hz (ref := "SpoolFarmModel") (ty := .int) (cc_mod (A := A) (C := (up3 (up3 (up3 (up3 (up3 C 60 25 0 (C 60 3 ((3 * p) + 0))) 60 25 1 (C 60 3 ((3 * p) + 1))) 60 25 2 (C 60 3 ((3 * p) + 2))) 60 100 35 (C 60 4 p)) 60 100 36 (C 60 5 p)))) i_RX7 tyX7 tyX7_ok nmX7 rfl 37 (Nat.le_of_ble_eq_true rfl) (by decide +kernel) (fun _ h => h) rfl (by decide +kernel) rfl rfl (Nat.le_of_ble_eq_true rfl) (up3 (up3 (up3 (up3 (up3 (up3 C 60 25 0 (C 60 3 ((3 * p) + 0))) 60 25 1 (C 60 3 ((3 * p) + 1))) 60 25 2 (C 60 3 ((3 * p) + 2))) 60 100 35 (C 60 4 p)) 60 100 36 (C 60 5 p)) 60 100 37 (C 60 0 (2 * (C 60 16 k) + (if C 60 12 k = 0 then 0 else 1)))) cu_mod (by rw [(cc_mod (A := A) (C := (up3 (up3 (up3 (up3 (up3 (up3 C 60 25 0 (C 60 3 ((3 * p) + 0))) 60 25 1 (C 60 3 ((3 * p) + 1))) 60 25 2 (C 60 3 ((3 * p) + 2))) 60 100 35 (C 60 4 p)) 60 100 36 (C 60 5 p)) 60 100 37 (C 60 0 (2 * (C 60 16 k) + (if C 60 12 k = 0 then 0 else 1)))))), up3_u]; rfl) dX7_laysTrial_70 ?_
  exact s_vret (pc := 73) S hz hlo hr ⟨rfl, rfl, rfl⟩ (Nat.le_of_ble_eq_true rfl) (Nat.le_of_ble_eq_true rfl) dX7_laysTrial_73
set_option maxHeartbeats 4000000 in
set_option maxRecDepth 100000 in
theorem k_X7_trayFor (Z : Zp) (l : Launch) (A : AF) (C : CF) (k p : Nat) (hk : k < 40) (hp : p < 4) (hnt : C 60 2 p ≤ 3) (hq : C 60 9 k < 65536) (hw : ∀ t : Nat, C 60 8 t < 65536) (hx : ∀ t : Nat, C 60 25 t ≤ 500) : CtS Z l yX7_trayFor wsX7_trayFor ({ frames := 0, cells := 0, slots := 0, locals := 0 }) [.ref (A 60 100), .int (nI k), .int (nI p)] A C 0 0 (fun v A2 C2 => A = A2 ∧ C = C2 ∧ ((tfC C k p = 0 ∧ some (.int (-2)) = v) ∨ (tfC C k p = 1 ∧ some (.int (-1)) = v) ∨ ∃ t : Nat, t < C 60 2 p ∧ tfC C k p = t + 2 ∧ some (.int (nI t)) = v)) (fun _ _ _ => False) := by
  refine CtS.of (cc0 := cX7_trayFor) (maxL := 5) (ret := (some .int)) (by decide) rfl (Nat.le_of_ble_eq_true rfl) ?_
  intro M0_ p_ e_ s_ m_ args_ below_ meth_ c_ S hz hml hex hlo hr hin
  refine s_loc (L2 := [(0, .ref (A 60 100)), (1, .int (nI k)), (2, .int (nI p))]) rfl ?_
  have i_RX7 : ∀ w ∈ u_ws RX7 TX7 38, w ∈ wsX7_trayFor := by decide +kernel
  have hw0 := hw (3 * p + 0)
  have hw1 := hw (3 * p + 1)
  have hw2 := hw (3 * p + 2)
  have hx0 := hx 0
  have hx1 := hx 1
  have hx2 := hx 2
  rcases (show C 60 2 p = 0 ∨ C 60 2 p = 1 ∨ C 60 2 p = 2 ∨ C 60 2 p = 3 by omega) with hn | hn | hn | hn
  · refine s_bipush (pc := 0) S (v := (-2)) dX7_trayFor_0 (by decide) ?_
    refine s_istore_n (pc := 2) S [(3, .int (-2)), (0, .ref (A 60 100)), (1, .int (nI k)), (2, .int (nI p))] dX7_trayFor_2 rfl (by decide) rfl ?_
    refine s_aload_n (pc := 3) S 1 dX7_trayFor_3 rfl rfl ?_
    refine s_get (pc := 4) S hz (ref := "SpoolFarmModel") (v := .ref (A 60 2)) (cc_mod (A := A) (C := C)) i_RX7 rfl 2 (Nat.le_of_ble_eq_true rfl) (by decide +kernel) (fun _ h => h) rfl dX7_trayFor_4 ?_
    refine s_iload_n (pc := 7) S 3 dX7_trayFor_7 rfl rfl ?_
    refine s_iald (pc := 8) S hz (x := 0) (cc_row (A := A) (C := C) (x := aN .int 4 (C 60 2)) 2 (by decide) rfl) (by omega) (by omega) hn dX7_trayFor_8 ?_
    refine s_iconst (pc := 9) S (v := (nI 1)) dX7_trayFor_9 (by decide) ?_
    refine s_isub (pc := 10) S dX7_trayFor_10 ?_
    refine s_top (u := .int (-1)) (by decide) ?_
    refine s_istore (pc := 11) S [(4, .int (-1)), (3, .int (-2)), (0, .ref (A 60 100)), (1, .int (nI k)), (2, .int (nI p))] dX7_trayFor_11 (by decide) rfl ?_
    refine s_iload (pc := 13) S 0 dX7_trayFor_13 rfl ?_
    refine s_if_lt (pc := 15) S 71 dX7_trayFor_15 (by decide) (fun _ => ?_) (fun h => absurd h (by decide))
    refine s_iload_n (pc := 71) S 1 dX7_trayFor_71 rfl rfl ?_
    have e : tfC C k p = 0 := by
        unfold tfC tfN
        repeat' split
        all_goals omega
    exact s_iret (pc := 72) S hz hlo hr ⟨rfl, rfl, Or.inl ⟨e, rfl⟩⟩ (Nat.le_of_ble_eq_true rfl) (Nat.le_of_ble_eq_true rfl) dX7_trayFor_72
  · refine s_bipush (pc := 0) S (v := (-2)) dX7_trayFor_0 (by decide) ?_
    refine s_istore_n (pc := 2) S [(3, .int (-2)), (0, .ref (A 60 100)), (1, .int (nI k)), (2, .int (nI p))] dX7_trayFor_2 rfl (by decide) rfl ?_
    refine s_aload_n (pc := 3) S 1 dX7_trayFor_3 rfl rfl ?_
    refine s_get (pc := 4) S hz (ref := "SpoolFarmModel") (v := .ref (A 60 2)) (cc_mod (A := A) (C := C)) i_RX7 rfl 2 (Nat.le_of_ble_eq_true rfl) (by decide +kernel) (fun _ h => h) rfl dX7_trayFor_4 ?_
    refine s_iload_n (pc := 7) S 3 dX7_trayFor_7 rfl rfl ?_
    refine s_iald (pc := 8) S hz (x := 1) (cc_row (A := A) (C := C) (x := aN .int 4 (C 60 2)) 2 (by decide) rfl) (by omega) (by omega) hn dX7_trayFor_8 ?_
    refine s_iconst (pc := 9) S (v := (nI 1)) dX7_trayFor_9 (by decide) ?_
    refine s_isub (pc := 10) S dX7_trayFor_10 ?_
    refine s_top (u := .int (nI 0)) (by decide) ?_
    refine s_istore (pc := 11) S [(4, .int (nI 0)), (3, .int (-2)), (0, .ref (A 60 100)), (1, .int (nI k)), (2, .int (nI p))] dX7_trayFor_11 (by decide) rfl ?_
    refine s_iload (pc := 13) S 0 dX7_trayFor_13 rfl ?_
    refine s_if_ltN (pc := 15) S 71 dX7_trayFor_15 (by decide) (by decide) (fun h => absurd h (by decide)) (fun _ => ?_)
    refine s_aload_n (pc := 18) S 2 dX7_trayFor_18 rfl rfl ?_
    refine s_get (pc := 19) S hz (ref := "SpoolFarmModel") (v := .ref (A 60 8)) (cc_mod (A := A) (C := C)) i_RX7 rfl 8 (Nat.le_of_ble_eq_true rfl) (by decide +kernel) (fun _ h => h) rfl dX7_trayFor_19 ?_
    refine s_iconst (pc := 22) S (v := (nI 3)) dX7_trayFor_22 (by decide) ?_
    refine s_iload_n (pc := 23) S 4 dX7_trayFor_23 rfl rfl ?_
    refine s_imulN (pc := 24) S dX7_trayFor_24 ?_
    refine s_iload (pc := 25) S 0 dX7_trayFor_25 rfl ?_
    refine s_iaddN (pc := 27) S dX7_trayFor_27 ?_
    refine s_cald (pc := 28) S hz (x := C 60 8 ((3 * p) + 0)) (cc_row (A := A) (C := C) (x := aN .char 12 (C 60 8)) 8 (by decide) rfl) (by omega) (by omega) rfl dX7_trayFor_28 ?_
    refine s_aload_n (pc := 29) S 2 dX7_trayFor_29 rfl rfl ?_
    refine s_get (pc := 30) S hz (ref := "SpoolFarmModel") (v := .ref (A 60 9)) (cc_mod (A := A) (C := C)) i_RX7 rfl 9 (Nat.le_of_ble_eq_true rfl) (by decide +kernel) (fun _ h => h) rfl dX7_trayFor_30 ?_
    refine s_iload_n (pc := 33) S 3 dX7_trayFor_33 rfl rfl ?_
    refine s_cald (pc := 34) S hz (x := C 60 9 k) (cc_row (A := A) (C := C) (x := aN .char 40 (C 60 9)) 9 (by decide) rfl) (by omega) (by omega) rfl dX7_trayFor_34 ?_
    refine s_icmp_eqN (pc := 35) S 41 dX7_trayFor_35 (by decide) (by omega) (by omega) (fun c_1 => ?_) (fun c_1 => ?_)
    · refine s_aload_n (pc := 41) S 2 dX7_trayFor_41 rfl rfl ?_
      refine s_get (pc := 42) S hz (ref := "SpoolFarmModel") (v := .ref (A 60 25)) (cc_mod (A := A) (C := C)) i_RX7 rfl 25 (Nat.le_of_ble_eq_true rfl) (by decide +kernel) (fun _ h => h) rfl dX7_trayFor_42 ?_
      refine s_iload (pc := 45) S 0 dX7_trayFor_45 rfl ?_
      refine s_iald (pc := 47) S hz (x := C 60 25 0) (cc_row (A := A) (C := C) (x := aN .int 3 (C 60 25)) 25 (by decide) rfl) (by omega) (by omega) rfl dX7_trayFor_47 ?_
      refine s_if_leN (pc := 48) S 57 dX7_trayFor_48 (by decide) (by omega) (fun c_2 => ?_) (fun c_2 => ?_)
      · refine s_iload_n (pc := 57) S 1 dX7_trayFor_57 rfl rfl ?_
        refine s_bipush (pc := 58) S (v := (-2)) dX7_trayFor_58 (by decide) ?_
        refine s_icmp_ne (pc := 60) S 65 dX7_trayFor_60 (by decide) (fun h => absurd h (by decide)) (fun _ => ?_)
        refine s_iconst (pc := 63) S (v := (-1)) dX7_trayFor_63 (by decide) ?_
        refine s_istore_n (pc := 64) S [(3, .int (-1)), (4, .int (nI 0)), (0, .ref (A 60 100)), (1, .int (nI k)), (2, .int (nI p))] dX7_trayFor_64 rfl (by decide) rfl ?_
        refine s_iinc (pc := 65) S 1 [(4, .int (-1)), (3, .int (-1)), (0, .ref (A 60 100)), (1, .int (nI k)), (2, .int (nI p))] dX7_trayFor_65 rfl (by decide) (by decide) rfl ?_
        refine s_goto (pc := 68) S 13 dX7_trayFor_68 (by decide) ?_
        refine s_iload (pc := 13) S 0 dX7_trayFor_13 rfl ?_
        refine s_if_lt (pc := 15) S 71 dX7_trayFor_15 (by decide) (fun _ => ?_) (fun h => absurd h (by decide))
        refine s_iload_n (pc := 71) S 1 dX7_trayFor_71 rfl rfl ?_
        have e : tfC C k p = 1 := by
            unfold tfC tfN
            repeat' split
            all_goals omega
        exact s_iret (pc := 72) S hz hlo hr ⟨rfl, rfl, Or.inr (Or.inl ⟨e, rfl⟩)⟩ (Nat.le_of_ble_eq_true rfl) (Nat.le_of_ble_eq_true rfl) dX7_trayFor_72
      · refine s_iload (pc := 51) S 0 dX7_trayFor_51 rfl ?_
        refine s_istore_n (pc := 53) S [(3, .int (nI 0)), (4, .int (nI 0)), (0, .ref (A 60 100)), (1, .int (nI k)), (2, .int (nI p))] dX7_trayFor_53 rfl (by decide) rfl ?_
        refine s_goto (pc := 54) S 65 dX7_trayFor_54 (by decide) ?_
        refine s_iinc (pc := 65) S 1 [(4, .int (-1)), (3, .int (nI 0)), (0, .ref (A 60 100)), (1, .int (nI k)), (2, .int (nI p))] dX7_trayFor_65 rfl (by decide) (by decide) rfl ?_
        refine s_goto (pc := 68) S 13 dX7_trayFor_68 (by decide) ?_
        refine s_iload (pc := 13) S 0 dX7_trayFor_13 rfl ?_
        refine s_if_lt (pc := 15) S 71 dX7_trayFor_15 (by decide) (fun _ => ?_) (fun h => absurd h (by decide))
        refine s_iload_n (pc := 71) S 1 dX7_trayFor_71 rfl rfl ?_
        have e : tfC C k p = 2 := by
            unfold tfC tfN
            repeat' split
            all_goals omega
        exact s_iret (pc := 72) S hz hlo hr ⟨rfl, rfl, Or.inr (Or.inr ⟨0, by omega, e, rfl⟩)⟩ (Nat.le_of_ble_eq_true rfl) (Nat.le_of_ble_eq_true rfl) dX7_trayFor_72
    · refine s_goto (pc := 38) S 65 dX7_trayFor_38 (by decide) ?_
      refine s_iinc (pc := 65) S 0 [(4, .int (-1)), (3, .int (-2)), (0, .ref (A 60 100)), (1, .int (nI k)), (2, .int (nI p))] dX7_trayFor_65 rfl (by decide) (by decide) rfl ?_
      refine s_goto (pc := 68) S 13 dX7_trayFor_68 (by decide) ?_
      refine s_iload (pc := 13) S 0 dX7_trayFor_13 rfl ?_
      refine s_if_lt (pc := 15) S 71 dX7_trayFor_15 (by decide) (fun _ => ?_) (fun h => absurd h (by decide))
      refine s_iload_n (pc := 71) S 1 dX7_trayFor_71 rfl rfl ?_
      have e : tfC C k p = 0 := by
          unfold tfC tfN
          repeat' split
          all_goals omega
      exact s_iret (pc := 72) S hz hlo hr ⟨rfl, rfl, Or.inl ⟨e, rfl⟩⟩ (Nat.le_of_ble_eq_true rfl) (Nat.le_of_ble_eq_true rfl) dX7_trayFor_72
  · refine s_bipush (pc := 0) S (v := (-2)) dX7_trayFor_0 (by decide) ?_
    refine s_istore_n (pc := 2) S [(3, .int (-2)), (0, .ref (A 60 100)), (1, .int (nI k)), (2, .int (nI p))] dX7_trayFor_2 rfl (by decide) rfl ?_
    refine s_aload_n (pc := 3) S 1 dX7_trayFor_3 rfl rfl ?_
    refine s_get (pc := 4) S hz (ref := "SpoolFarmModel") (v := .ref (A 60 2)) (cc_mod (A := A) (C := C)) i_RX7 rfl 2 (Nat.le_of_ble_eq_true rfl) (by decide +kernel) (fun _ h => h) rfl dX7_trayFor_4 ?_
    refine s_iload_n (pc := 7) S 3 dX7_trayFor_7 rfl rfl ?_
    refine s_iald (pc := 8) S hz (x := 2) (cc_row (A := A) (C := C) (x := aN .int 4 (C 60 2)) 2 (by decide) rfl) (by omega) (by omega) hn dX7_trayFor_8 ?_
    refine s_iconst (pc := 9) S (v := (nI 1)) dX7_trayFor_9 (by decide) ?_
    refine s_isub (pc := 10) S dX7_trayFor_10 ?_
    refine s_top (u := .int (nI 1)) (by decide) ?_
    refine s_istore (pc := 11) S [(4, .int (nI 1)), (3, .int (-2)), (0, .ref (A 60 100)), (1, .int (nI k)), (2, .int (nI p))] dX7_trayFor_11 (by decide) rfl ?_
    refine s_iload (pc := 13) S 0 dX7_trayFor_13 rfl ?_
    refine s_if_ltN (pc := 15) S 71 dX7_trayFor_15 (by decide) (by decide) (fun h => absurd h (by decide)) (fun _ => ?_)
    refine s_aload_n (pc := 18) S 2 dX7_trayFor_18 rfl rfl ?_
    refine s_get (pc := 19) S hz (ref := "SpoolFarmModel") (v := .ref (A 60 8)) (cc_mod (A := A) (C := C)) i_RX7 rfl 8 (Nat.le_of_ble_eq_true rfl) (by decide +kernel) (fun _ h => h) rfl dX7_trayFor_19 ?_
    refine s_iconst (pc := 22) S (v := (nI 3)) dX7_trayFor_22 (by decide) ?_
    refine s_iload_n (pc := 23) S 4 dX7_trayFor_23 rfl rfl ?_
    refine s_imulN (pc := 24) S dX7_trayFor_24 ?_
    refine s_iload (pc := 25) S 0 dX7_trayFor_25 rfl ?_
    refine s_iaddN (pc := 27) S dX7_trayFor_27 ?_
    refine s_cald (pc := 28) S hz (x := C 60 8 ((3 * p) + 1)) (cc_row (A := A) (C := C) (x := aN .char 12 (C 60 8)) 8 (by decide) rfl) (by omega) (by omega) rfl dX7_trayFor_28 ?_
    refine s_aload_n (pc := 29) S 2 dX7_trayFor_29 rfl rfl ?_
    refine s_get (pc := 30) S hz (ref := "SpoolFarmModel") (v := .ref (A 60 9)) (cc_mod (A := A) (C := C)) i_RX7 rfl 9 (Nat.le_of_ble_eq_true rfl) (by decide +kernel) (fun _ h => h) rfl dX7_trayFor_30 ?_
    refine s_iload_n (pc := 33) S 3 dX7_trayFor_33 rfl rfl ?_
    refine s_cald (pc := 34) S hz (x := C 60 9 k) (cc_row (A := A) (C := C) (x := aN .char 40 (C 60 9)) 9 (by decide) rfl) (by omega) (by omega) rfl dX7_trayFor_34 ?_
    refine s_icmp_eqN (pc := 35) S 41 dX7_trayFor_35 (by decide) (by omega) (by omega) (fun c_3 => ?_) (fun c_3 => ?_)
    · refine s_aload_n (pc := 41) S 2 dX7_trayFor_41 rfl rfl ?_
      refine s_get (pc := 42) S hz (ref := "SpoolFarmModel") (v := .ref (A 60 25)) (cc_mod (A := A) (C := C)) i_RX7 rfl 25 (Nat.le_of_ble_eq_true rfl) (by decide +kernel) (fun _ h => h) rfl dX7_trayFor_42 ?_
      refine s_iload (pc := 45) S 0 dX7_trayFor_45 rfl ?_
      refine s_iald (pc := 47) S hz (x := C 60 25 1) (cc_row (A := A) (C := C) (x := aN .int 3 (C 60 25)) 25 (by decide) rfl) (by omega) (by omega) rfl dX7_trayFor_47 ?_
      refine s_if_leN (pc := 48) S 57 dX7_trayFor_48 (by decide) (by omega) (fun c_4 => ?_) (fun c_4 => ?_)
      · refine s_iload_n (pc := 57) S 1 dX7_trayFor_57 rfl rfl ?_
        refine s_bipush (pc := 58) S (v := (-2)) dX7_trayFor_58 (by decide) ?_
        refine s_icmp_ne (pc := 60) S 65 dX7_trayFor_60 (by decide) (fun h => absurd h (by decide)) (fun _ => ?_)
        refine s_iconst (pc := 63) S (v := (-1)) dX7_trayFor_63 (by decide) ?_
        refine s_istore_n (pc := 64) S [(3, .int (-1)), (4, .int (nI 1)), (0, .ref (A 60 100)), (1, .int (nI k)), (2, .int (nI p))] dX7_trayFor_64 rfl (by decide) rfl ?_
        refine s_iinc (pc := 65) S 1 [(4, .int (nI 0)), (3, .int (-1)), (0, .ref (A 60 100)), (1, .int (nI k)), (2, .int (nI p))] dX7_trayFor_65 rfl (by decide) (by decide) rfl ?_
        refine s_goto (pc := 68) S 13 dX7_trayFor_68 (by decide) ?_
        refine s_iload (pc := 13) S 0 dX7_trayFor_13 rfl ?_
        refine s_if_ltN (pc := 15) S 71 dX7_trayFor_15 (by decide) (by decide) (fun h => absurd h (by decide)) (fun _ => ?_)
        refine s_aload_n (pc := 18) S 2 dX7_trayFor_18 rfl rfl ?_
        refine s_get (pc := 19) S hz (ref := "SpoolFarmModel") (v := .ref (A 60 8)) (cc_mod (A := A) (C := C)) i_RX7 rfl 8 (Nat.le_of_ble_eq_true rfl) (by decide +kernel) (fun _ h => h) rfl dX7_trayFor_19 ?_
        refine s_iconst (pc := 22) S (v := (nI 3)) dX7_trayFor_22 (by decide) ?_
        refine s_iload_n (pc := 23) S 4 dX7_trayFor_23 rfl rfl ?_
        refine s_imulN (pc := 24) S dX7_trayFor_24 ?_
        refine s_iload (pc := 25) S 0 dX7_trayFor_25 rfl ?_
        refine s_iaddN (pc := 27) S dX7_trayFor_27 ?_
        refine s_cald (pc := 28) S hz (x := C 60 8 ((3 * p) + 0)) (cc_row (A := A) (C := C) (x := aN .char 12 (C 60 8)) 8 (by decide) rfl) (by omega) (by omega) rfl dX7_trayFor_28 ?_
        refine s_aload_n (pc := 29) S 2 dX7_trayFor_29 rfl rfl ?_
        refine s_get (pc := 30) S hz (ref := "SpoolFarmModel") (v := .ref (A 60 9)) (cc_mod (A := A) (C := C)) i_RX7 rfl 9 (Nat.le_of_ble_eq_true rfl) (by decide +kernel) (fun _ h => h) rfl dX7_trayFor_30 ?_
        refine s_iload_n (pc := 33) S 3 dX7_trayFor_33 rfl rfl ?_
        refine s_cald (pc := 34) S hz (x := C 60 9 k) (cc_row (A := A) (C := C) (x := aN .char 40 (C 60 9)) 9 (by decide) rfl) (by omega) (by omega) rfl dX7_trayFor_34 ?_
        refine s_icmp_eqN (pc := 35) S 41 dX7_trayFor_35 (by decide) (by omega) (by omega) (fun c_5 => ?_) (fun c_5 => ?_)
        · refine s_aload_n (pc := 41) S 2 dX7_trayFor_41 rfl rfl ?_
          refine s_get (pc := 42) S hz (ref := "SpoolFarmModel") (v := .ref (A 60 25)) (cc_mod (A := A) (C := C)) i_RX7 rfl 25 (Nat.le_of_ble_eq_true rfl) (by decide +kernel) (fun _ h => h) rfl dX7_trayFor_42 ?_
          refine s_iload (pc := 45) S 0 dX7_trayFor_45 rfl ?_
          refine s_iald (pc := 47) S hz (x := C 60 25 0) (cc_row (A := A) (C := C) (x := aN .int 3 (C 60 25)) 25 (by decide) rfl) (by omega) (by omega) rfl dX7_trayFor_47 ?_
          refine s_if_leN (pc := 48) S 57 dX7_trayFor_48 (by decide) (by omega) (fun c_6 => ?_) (fun c_6 => ?_)
          · refine s_iload_n (pc := 57) S 1 dX7_trayFor_57 rfl rfl ?_
            refine s_bipush (pc := 58) S (v := (-2)) dX7_trayFor_58 (by decide) ?_
            refine s_icmp_ne (pc := 60) S 65 dX7_trayFor_60 (by decide) (fun _ => ?_) (fun h => absurd h (by decide))
            refine s_iinc (pc := 65) S 0 [(4, .int (-1)), (3, .int (-1)), (0, .ref (A 60 100)), (1, .int (nI k)), (2, .int (nI p))] dX7_trayFor_65 rfl (by decide) (by decide) rfl ?_
            refine s_goto (pc := 68) S 13 dX7_trayFor_68 (by decide) ?_
            refine s_iload (pc := 13) S 0 dX7_trayFor_13 rfl ?_
            refine s_if_lt (pc := 15) S 71 dX7_trayFor_15 (by decide) (fun _ => ?_) (fun h => absurd h (by decide))
            refine s_iload_n (pc := 71) S 1 dX7_trayFor_71 rfl rfl ?_
            have e : tfC C k p = 1 := by
                unfold tfC tfN
                repeat' split
                all_goals omega
            exact s_iret (pc := 72) S hz hlo hr ⟨rfl, rfl, Or.inr (Or.inl ⟨e, rfl⟩)⟩ (Nat.le_of_ble_eq_true rfl) (Nat.le_of_ble_eq_true rfl) dX7_trayFor_72
          · refine s_iload (pc := 51) S 0 dX7_trayFor_51 rfl ?_
            refine s_istore_n (pc := 53) S [(3, .int (nI 0)), (4, .int (nI 0)), (0, .ref (A 60 100)), (1, .int (nI k)), (2, .int (nI p))] dX7_trayFor_53 rfl (by decide) rfl ?_
            refine s_goto (pc := 54) S 65 dX7_trayFor_54 (by decide) ?_
            refine s_iinc (pc := 65) S 1 [(4, .int (-1)), (3, .int (nI 0)), (0, .ref (A 60 100)), (1, .int (nI k)), (2, .int (nI p))] dX7_trayFor_65 rfl (by decide) (by decide) rfl ?_
            refine s_goto (pc := 68) S 13 dX7_trayFor_68 (by decide) ?_
            refine s_iload (pc := 13) S 0 dX7_trayFor_13 rfl ?_
            refine s_if_lt (pc := 15) S 71 dX7_trayFor_15 (by decide) (fun _ => ?_) (fun h => absurd h (by decide))
            refine s_iload_n (pc := 71) S 1 dX7_trayFor_71 rfl rfl ?_
            have e : tfC C k p = 2 := by
                unfold tfC tfN
                repeat' split
                all_goals omega
            exact s_iret (pc := 72) S hz hlo hr ⟨rfl, rfl, Or.inr (Or.inr ⟨0, by omega, e, rfl⟩)⟩ (Nat.le_of_ble_eq_true rfl) (Nat.le_of_ble_eq_true rfl) dX7_trayFor_72
        · refine s_goto (pc := 38) S 65 dX7_trayFor_38 (by decide) ?_
          refine s_iinc (pc := 65) S 0 [(4, .int (-1)), (3, .int (-1)), (0, .ref (A 60 100)), (1, .int (nI k)), (2, .int (nI p))] dX7_trayFor_65 rfl (by decide) (by decide) rfl ?_
          refine s_goto (pc := 68) S 13 dX7_trayFor_68 (by decide) ?_
          refine s_iload (pc := 13) S 0 dX7_trayFor_13 rfl ?_
          refine s_if_lt (pc := 15) S 71 dX7_trayFor_15 (by decide) (fun _ => ?_) (fun h => absurd h (by decide))
          refine s_iload_n (pc := 71) S 1 dX7_trayFor_71 rfl rfl ?_
          have e : tfC C k p = 1 := by
              unfold tfC tfN
              repeat' split
              all_goals omega
          exact s_iret (pc := 72) S hz hlo hr ⟨rfl, rfl, Or.inr (Or.inl ⟨e, rfl⟩)⟩ (Nat.le_of_ble_eq_true rfl) (Nat.le_of_ble_eq_true rfl) dX7_trayFor_72
      · refine s_iload (pc := 51) S 0 dX7_trayFor_51 rfl ?_
        refine s_istore_n (pc := 53) S [(3, .int (nI 1)), (4, .int (nI 1)), (0, .ref (A 60 100)), (1, .int (nI k)), (2, .int (nI p))] dX7_trayFor_53 rfl (by decide) rfl ?_
        refine s_goto (pc := 54) S 65 dX7_trayFor_54 (by decide) ?_
        refine s_iinc (pc := 65) S 1 [(4, .int (nI 0)), (3, .int (nI 1)), (0, .ref (A 60 100)), (1, .int (nI k)), (2, .int (nI p))] dX7_trayFor_65 rfl (by decide) (by decide) rfl ?_
        refine s_goto (pc := 68) S 13 dX7_trayFor_68 (by decide) ?_
        refine s_iload (pc := 13) S 0 dX7_trayFor_13 rfl ?_
        refine s_if_ltN (pc := 15) S 71 dX7_trayFor_15 (by decide) (by decide) (fun h => absurd h (by decide)) (fun _ => ?_)
        refine s_aload_n (pc := 18) S 2 dX7_trayFor_18 rfl rfl ?_
        refine s_get (pc := 19) S hz (ref := "SpoolFarmModel") (v := .ref (A 60 8)) (cc_mod (A := A) (C := C)) i_RX7 rfl 8 (Nat.le_of_ble_eq_true rfl) (by decide +kernel) (fun _ h => h) rfl dX7_trayFor_19 ?_
        refine s_iconst (pc := 22) S (v := (nI 3)) dX7_trayFor_22 (by decide) ?_
        refine s_iload_n (pc := 23) S 4 dX7_trayFor_23 rfl rfl ?_
        refine s_imulN (pc := 24) S dX7_trayFor_24 ?_
        refine s_iload (pc := 25) S 0 dX7_trayFor_25 rfl ?_
        refine s_iaddN (pc := 27) S dX7_trayFor_27 ?_
        refine s_cald (pc := 28) S hz (x := C 60 8 ((3 * p) + 0)) (cc_row (A := A) (C := C) (x := aN .char 12 (C 60 8)) 8 (by decide) rfl) (by omega) (by omega) rfl dX7_trayFor_28 ?_
        refine s_aload_n (pc := 29) S 2 dX7_trayFor_29 rfl rfl ?_
        refine s_get (pc := 30) S hz (ref := "SpoolFarmModel") (v := .ref (A 60 9)) (cc_mod (A := A) (C := C)) i_RX7 rfl 9 (Nat.le_of_ble_eq_true rfl) (by decide +kernel) (fun _ h => h) rfl dX7_trayFor_30 ?_
        refine s_iload_n (pc := 33) S 3 dX7_trayFor_33 rfl rfl ?_
        refine s_cald (pc := 34) S hz (x := C 60 9 k) (cc_row (A := A) (C := C) (x := aN .char 40 (C 60 9)) 9 (by decide) rfl) (by omega) (by omega) rfl dX7_trayFor_34 ?_
        refine s_icmp_eqN (pc := 35) S 41 dX7_trayFor_35 (by decide) (by omega) (by omega) (fun c_7 => ?_) (fun c_7 => ?_)
        · refine s_aload_n (pc := 41) S 2 dX7_trayFor_41 rfl rfl ?_
          refine s_get (pc := 42) S hz (ref := "SpoolFarmModel") (v := .ref (A 60 25)) (cc_mod (A := A) (C := C)) i_RX7 rfl 25 (Nat.le_of_ble_eq_true rfl) (by decide +kernel) (fun _ h => h) rfl dX7_trayFor_42 ?_
          refine s_iload (pc := 45) S 0 dX7_trayFor_45 rfl ?_
          refine s_iald (pc := 47) S hz (x := C 60 25 0) (cc_row (A := A) (C := C) (x := aN .int 3 (C 60 25)) 25 (by decide) rfl) (by omega) (by omega) rfl dX7_trayFor_47 ?_
          refine s_if_leN (pc := 48) S 57 dX7_trayFor_48 (by decide) (by omega) (fun c_8 => ?_) (fun c_8 => ?_)
          · refine s_iload_n (pc := 57) S 1 dX7_trayFor_57 rfl rfl ?_
            refine s_bipush (pc := 58) S (v := (-2)) dX7_trayFor_58 (by decide) ?_
            refine s_icmp_ne (pc := 60) S 65 dX7_trayFor_60 (by decide) (fun _ => ?_) (fun h => absurd h (by decide))
            refine s_iinc (pc := 65) S 0 [(4, .int (-1)), (3, .int (nI 1)), (0, .ref (A 60 100)), (1, .int (nI k)), (2, .int (nI p))] dX7_trayFor_65 rfl (by decide) (by decide) rfl ?_
            refine s_goto (pc := 68) S 13 dX7_trayFor_68 (by decide) ?_
            refine s_iload (pc := 13) S 0 dX7_trayFor_13 rfl ?_
            refine s_if_lt (pc := 15) S 71 dX7_trayFor_15 (by decide) (fun _ => ?_) (fun h => absurd h (by decide))
            refine s_iload_n (pc := 71) S 1 dX7_trayFor_71 rfl rfl ?_
            have e : tfC C k p = 3 := by
                unfold tfC tfN
                repeat' split
                all_goals omega
            exact s_iret (pc := 72) S hz hlo hr ⟨rfl, rfl, Or.inr (Or.inr ⟨1, by omega, e, rfl⟩)⟩ (Nat.le_of_ble_eq_true rfl) (Nat.le_of_ble_eq_true rfl) dX7_trayFor_72
          · refine s_iload (pc := 51) S 0 dX7_trayFor_51 rfl ?_
            refine s_istore_n (pc := 53) S [(3, .int (nI 0)), (4, .int (nI 0)), (0, .ref (A 60 100)), (1, .int (nI k)), (2, .int (nI p))] dX7_trayFor_53 rfl (by decide) rfl ?_
            refine s_goto (pc := 54) S 65 dX7_trayFor_54 (by decide) ?_
            refine s_iinc (pc := 65) S 1 [(4, .int (-1)), (3, .int (nI 0)), (0, .ref (A 60 100)), (1, .int (nI k)), (2, .int (nI p))] dX7_trayFor_65 rfl (by decide) (by decide) rfl ?_
            refine s_goto (pc := 68) S 13 dX7_trayFor_68 (by decide) ?_
            refine s_iload (pc := 13) S 0 dX7_trayFor_13 rfl ?_
            refine s_if_lt (pc := 15) S 71 dX7_trayFor_15 (by decide) (fun _ => ?_) (fun h => absurd h (by decide))
            refine s_iload_n (pc := 71) S 1 dX7_trayFor_71 rfl rfl ?_
            have e : tfC C k p = 2 := by
                unfold tfC tfN
                repeat' split
                all_goals omega
            exact s_iret (pc := 72) S hz hlo hr ⟨rfl, rfl, Or.inr (Or.inr ⟨0, by omega, e, rfl⟩)⟩ (Nat.le_of_ble_eq_true rfl) (Nat.le_of_ble_eq_true rfl) dX7_trayFor_72
        · refine s_goto (pc := 38) S 65 dX7_trayFor_38 (by decide) ?_
          refine s_iinc (pc := 65) S 0 [(4, .int (-1)), (3, .int (nI 1)), (0, .ref (A 60 100)), (1, .int (nI k)), (2, .int (nI p))] dX7_trayFor_65 rfl (by decide) (by decide) rfl ?_
          refine s_goto (pc := 68) S 13 dX7_trayFor_68 (by decide) ?_
          refine s_iload (pc := 13) S 0 dX7_trayFor_13 rfl ?_
          refine s_if_lt (pc := 15) S 71 dX7_trayFor_15 (by decide) (fun _ => ?_) (fun h => absurd h (by decide))
          refine s_iload_n (pc := 71) S 1 dX7_trayFor_71 rfl rfl ?_
          have e : tfC C k p = 3 := by
              unfold tfC tfN
              repeat' split
              all_goals omega
          exact s_iret (pc := 72) S hz hlo hr ⟨rfl, rfl, Or.inr (Or.inr ⟨1, by omega, e, rfl⟩)⟩ (Nat.le_of_ble_eq_true rfl) (Nat.le_of_ble_eq_true rfl) dX7_trayFor_72
    · refine s_goto (pc := 38) S 65 dX7_trayFor_38 (by decide) ?_
      refine s_iinc (pc := 65) S 0 [(4, .int (nI 0)), (3, .int (-2)), (0, .ref (A 60 100)), (1, .int (nI k)), (2, .int (nI p))] dX7_trayFor_65 rfl (by decide) (by decide) rfl ?_
      refine s_goto (pc := 68) S 13 dX7_trayFor_68 (by decide) ?_
      refine s_iload (pc := 13) S 0 dX7_trayFor_13 rfl ?_
      refine s_if_ltN (pc := 15) S 71 dX7_trayFor_15 (by decide) (by decide) (fun h => absurd h (by decide)) (fun _ => ?_)
      refine s_aload_n (pc := 18) S 2 dX7_trayFor_18 rfl rfl ?_
      refine s_get (pc := 19) S hz (ref := "SpoolFarmModel") (v := .ref (A 60 8)) (cc_mod (A := A) (C := C)) i_RX7 rfl 8 (Nat.le_of_ble_eq_true rfl) (by decide +kernel) (fun _ h => h) rfl dX7_trayFor_19 ?_
      refine s_iconst (pc := 22) S (v := (nI 3)) dX7_trayFor_22 (by decide) ?_
      refine s_iload_n (pc := 23) S 4 dX7_trayFor_23 rfl rfl ?_
      refine s_imulN (pc := 24) S dX7_trayFor_24 ?_
      refine s_iload (pc := 25) S 0 dX7_trayFor_25 rfl ?_
      refine s_iaddN (pc := 27) S dX7_trayFor_27 ?_
      refine s_cald (pc := 28) S hz (x := C 60 8 ((3 * p) + 0)) (cc_row (A := A) (C := C) (x := aN .char 12 (C 60 8)) 8 (by decide) rfl) (by omega) (by omega) rfl dX7_trayFor_28 ?_
      refine s_aload_n (pc := 29) S 2 dX7_trayFor_29 rfl rfl ?_
      refine s_get (pc := 30) S hz (ref := "SpoolFarmModel") (v := .ref (A 60 9)) (cc_mod (A := A) (C := C)) i_RX7 rfl 9 (Nat.le_of_ble_eq_true rfl) (by decide +kernel) (fun _ h => h) rfl dX7_trayFor_30 ?_
      refine s_iload_n (pc := 33) S 3 dX7_trayFor_33 rfl rfl ?_
      refine s_cald (pc := 34) S hz (x := C 60 9 k) (cc_row (A := A) (C := C) (x := aN .char 40 (C 60 9)) 9 (by decide) rfl) (by omega) (by omega) rfl dX7_trayFor_34 ?_
      refine s_icmp_eqN (pc := 35) S 41 dX7_trayFor_35 (by decide) (by omega) (by omega) (fun c_9 => ?_) (fun c_9 => ?_)
      · refine s_aload_n (pc := 41) S 2 dX7_trayFor_41 rfl rfl ?_
        refine s_get (pc := 42) S hz (ref := "SpoolFarmModel") (v := .ref (A 60 25)) (cc_mod (A := A) (C := C)) i_RX7 rfl 25 (Nat.le_of_ble_eq_true rfl) (by decide +kernel) (fun _ h => h) rfl dX7_trayFor_42 ?_
        refine s_iload (pc := 45) S 0 dX7_trayFor_45 rfl ?_
        refine s_iald (pc := 47) S hz (x := C 60 25 0) (cc_row (A := A) (C := C) (x := aN .int 3 (C 60 25)) 25 (by decide) rfl) (by omega) (by omega) rfl dX7_trayFor_47 ?_
        refine s_if_leN (pc := 48) S 57 dX7_trayFor_48 (by decide) (by omega) (fun c_10 => ?_) (fun c_10 => ?_)
        · refine s_iload_n (pc := 57) S 1 dX7_trayFor_57 rfl rfl ?_
          refine s_bipush (pc := 58) S (v := (-2)) dX7_trayFor_58 (by decide) ?_
          refine s_icmp_ne (pc := 60) S 65 dX7_trayFor_60 (by decide) (fun h => absurd h (by decide)) (fun _ => ?_)
          refine s_iconst (pc := 63) S (v := (-1)) dX7_trayFor_63 (by decide) ?_
          refine s_istore_n (pc := 64) S [(3, .int (-1)), (4, .int (nI 0)), (0, .ref (A 60 100)), (1, .int (nI k)), (2, .int (nI p))] dX7_trayFor_64 rfl (by decide) rfl ?_
          refine s_iinc (pc := 65) S 1 [(4, .int (-1)), (3, .int (-1)), (0, .ref (A 60 100)), (1, .int (nI k)), (2, .int (nI p))] dX7_trayFor_65 rfl (by decide) (by decide) rfl ?_
          refine s_goto (pc := 68) S 13 dX7_trayFor_68 (by decide) ?_
          refine s_iload (pc := 13) S 0 dX7_trayFor_13 rfl ?_
          refine s_if_lt (pc := 15) S 71 dX7_trayFor_15 (by decide) (fun _ => ?_) (fun h => absurd h (by decide))
          refine s_iload_n (pc := 71) S 1 dX7_trayFor_71 rfl rfl ?_
          have e : tfC C k p = 1 := by
              unfold tfC tfN
              repeat' split
              all_goals omega
          exact s_iret (pc := 72) S hz hlo hr ⟨rfl, rfl, Or.inr (Or.inl ⟨e, rfl⟩)⟩ (Nat.le_of_ble_eq_true rfl) (Nat.le_of_ble_eq_true rfl) dX7_trayFor_72
        · refine s_iload (pc := 51) S 0 dX7_trayFor_51 rfl ?_
          refine s_istore_n (pc := 53) S [(3, .int (nI 0)), (4, .int (nI 0)), (0, .ref (A 60 100)), (1, .int (nI k)), (2, .int (nI p))] dX7_trayFor_53 rfl (by decide) rfl ?_
          refine s_goto (pc := 54) S 65 dX7_trayFor_54 (by decide) ?_
          refine s_iinc (pc := 65) S 1 [(4, .int (-1)), (3, .int (nI 0)), (0, .ref (A 60 100)), (1, .int (nI k)), (2, .int (nI p))] dX7_trayFor_65 rfl (by decide) (by decide) rfl ?_
          refine s_goto (pc := 68) S 13 dX7_trayFor_68 (by decide) ?_
          refine s_iload (pc := 13) S 0 dX7_trayFor_13 rfl ?_
          refine s_if_lt (pc := 15) S 71 dX7_trayFor_15 (by decide) (fun _ => ?_) (fun h => absurd h (by decide))
          refine s_iload_n (pc := 71) S 1 dX7_trayFor_71 rfl rfl ?_
          have e : tfC C k p = 2 := by
              unfold tfC tfN
              repeat' split
              all_goals omega
          exact s_iret (pc := 72) S hz hlo hr ⟨rfl, rfl, Or.inr (Or.inr ⟨0, by omega, e, rfl⟩)⟩ (Nat.le_of_ble_eq_true rfl) (Nat.le_of_ble_eq_true rfl) dX7_trayFor_72
      · refine s_goto (pc := 38) S 65 dX7_trayFor_38 (by decide) ?_
        refine s_iinc (pc := 65) S 0 [(4, .int (-1)), (3, .int (-2)), (0, .ref (A 60 100)), (1, .int (nI k)), (2, .int (nI p))] dX7_trayFor_65 rfl (by decide) (by decide) rfl ?_
        refine s_goto (pc := 68) S 13 dX7_trayFor_68 (by decide) ?_
        refine s_iload (pc := 13) S 0 dX7_trayFor_13 rfl ?_
        refine s_if_lt (pc := 15) S 71 dX7_trayFor_15 (by decide) (fun _ => ?_) (fun h => absurd h (by decide))
        refine s_iload_n (pc := 71) S 1 dX7_trayFor_71 rfl rfl ?_
        have e : tfC C k p = 0 := by
            unfold tfC tfN
            repeat' split
            all_goals omega
        exact s_iret (pc := 72) S hz hlo hr ⟨rfl, rfl, Or.inl ⟨e, rfl⟩⟩ (Nat.le_of_ble_eq_true rfl) (Nat.le_of_ble_eq_true rfl) dX7_trayFor_72
  · refine s_bipush (pc := 0) S (v := (-2)) dX7_trayFor_0 (by decide) ?_
    refine s_istore_n (pc := 2) S [(3, .int (-2)), (0, .ref (A 60 100)), (1, .int (nI k)), (2, .int (nI p))] dX7_trayFor_2 rfl (by decide) rfl ?_
    refine s_aload_n (pc := 3) S 1 dX7_trayFor_3 rfl rfl ?_
    refine s_get (pc := 4) S hz (ref := "SpoolFarmModel") (v := .ref (A 60 2)) (cc_mod (A := A) (C := C)) i_RX7 rfl 2 (Nat.le_of_ble_eq_true rfl) (by decide +kernel) (fun _ h => h) rfl dX7_trayFor_4 ?_
    refine s_iload_n (pc := 7) S 3 dX7_trayFor_7 rfl rfl ?_
    refine s_iald (pc := 8) S hz (x := 3) (cc_row (A := A) (C := C) (x := aN .int 4 (C 60 2)) 2 (by decide) rfl) (by omega) (by omega) hn dX7_trayFor_8 ?_
    refine s_iconst (pc := 9) S (v := (nI 1)) dX7_trayFor_9 (by decide) ?_
    refine s_isub (pc := 10) S dX7_trayFor_10 ?_
    refine s_top (u := .int (nI 2)) (by decide) ?_
    refine s_istore (pc := 11) S [(4, .int (nI 2)), (3, .int (-2)), (0, .ref (A 60 100)), (1, .int (nI k)), (2, .int (nI p))] dX7_trayFor_11 (by decide) rfl ?_
    refine s_iload (pc := 13) S 0 dX7_trayFor_13 rfl ?_
    refine s_if_ltN (pc := 15) S 71 dX7_trayFor_15 (by decide) (by decide) (fun h => absurd h (by decide)) (fun _ => ?_)
    refine s_aload_n (pc := 18) S 2 dX7_trayFor_18 rfl rfl ?_
    refine s_get (pc := 19) S hz (ref := "SpoolFarmModel") (v := .ref (A 60 8)) (cc_mod (A := A) (C := C)) i_RX7 rfl 8 (Nat.le_of_ble_eq_true rfl) (by decide +kernel) (fun _ h => h) rfl dX7_trayFor_19 ?_
    refine s_iconst (pc := 22) S (v := (nI 3)) dX7_trayFor_22 (by decide) ?_
    refine s_iload_n (pc := 23) S 4 dX7_trayFor_23 rfl rfl ?_
    refine s_imulN (pc := 24) S dX7_trayFor_24 ?_
    refine s_iload (pc := 25) S 0 dX7_trayFor_25 rfl ?_
    refine s_iaddN (pc := 27) S dX7_trayFor_27 ?_
    refine s_cald (pc := 28) S hz (x := C 60 8 ((3 * p) + 2)) (cc_row (A := A) (C := C) (x := aN .char 12 (C 60 8)) 8 (by decide) rfl) (by omega) (by omega) rfl dX7_trayFor_28 ?_
    refine s_aload_n (pc := 29) S 2 dX7_trayFor_29 rfl rfl ?_
    refine s_get (pc := 30) S hz (ref := "SpoolFarmModel") (v := .ref (A 60 9)) (cc_mod (A := A) (C := C)) i_RX7 rfl 9 (Nat.le_of_ble_eq_true rfl) (by decide +kernel) (fun _ h => h) rfl dX7_trayFor_30 ?_
    refine s_iload_n (pc := 33) S 3 dX7_trayFor_33 rfl rfl ?_
    refine s_cald (pc := 34) S hz (x := C 60 9 k) (cc_row (A := A) (C := C) (x := aN .char 40 (C 60 9)) 9 (by decide) rfl) (by omega) (by omega) rfl dX7_trayFor_34 ?_
    refine s_icmp_eqN (pc := 35) S 41 dX7_trayFor_35 (by decide) (by omega) (by omega) (fun c_11 => ?_) (fun c_11 => ?_)
    · refine s_aload_n (pc := 41) S 2 dX7_trayFor_41 rfl rfl ?_
      refine s_get (pc := 42) S hz (ref := "SpoolFarmModel") (v := .ref (A 60 25)) (cc_mod (A := A) (C := C)) i_RX7 rfl 25 (Nat.le_of_ble_eq_true rfl) (by decide +kernel) (fun _ h => h) rfl dX7_trayFor_42 ?_
      refine s_iload (pc := 45) S 0 dX7_trayFor_45 rfl ?_
      refine s_iald (pc := 47) S hz (x := C 60 25 2) (cc_row (A := A) (C := C) (x := aN .int 3 (C 60 25)) 25 (by decide) rfl) (by omega) (by omega) rfl dX7_trayFor_47 ?_
      refine s_if_leN (pc := 48) S 57 dX7_trayFor_48 (by decide) (by omega) (fun c_12 => ?_) (fun c_12 => ?_)
      · refine s_iload_n (pc := 57) S 1 dX7_trayFor_57 rfl rfl ?_
        refine s_bipush (pc := 58) S (v := (-2)) dX7_trayFor_58 (by decide) ?_
        refine s_icmp_ne (pc := 60) S 65 dX7_trayFor_60 (by decide) (fun h => absurd h (by decide)) (fun _ => ?_)
        refine s_iconst (pc := 63) S (v := (-1)) dX7_trayFor_63 (by decide) ?_
        refine s_istore_n (pc := 64) S [(3, .int (-1)), (4, .int (nI 2)), (0, .ref (A 60 100)), (1, .int (nI k)), (2, .int (nI p))] dX7_trayFor_64 rfl (by decide) rfl ?_
        refine s_iinc (pc := 65) S 1 [(4, .int (nI 1)), (3, .int (-1)), (0, .ref (A 60 100)), (1, .int (nI k)), (2, .int (nI p))] dX7_trayFor_65 rfl (by decide) (by decide) rfl ?_
        refine s_goto (pc := 68) S 13 dX7_trayFor_68 (by decide) ?_
        refine s_iload (pc := 13) S 0 dX7_trayFor_13 rfl ?_
        refine s_if_ltN (pc := 15) S 71 dX7_trayFor_15 (by decide) (by decide) (fun h => absurd h (by decide)) (fun _ => ?_)
        refine s_aload_n (pc := 18) S 2 dX7_trayFor_18 rfl rfl ?_
        refine s_get (pc := 19) S hz (ref := "SpoolFarmModel") (v := .ref (A 60 8)) (cc_mod (A := A) (C := C)) i_RX7 rfl 8 (Nat.le_of_ble_eq_true rfl) (by decide +kernel) (fun _ h => h) rfl dX7_trayFor_19 ?_
        refine s_iconst (pc := 22) S (v := (nI 3)) dX7_trayFor_22 (by decide) ?_
        refine s_iload_n (pc := 23) S 4 dX7_trayFor_23 rfl rfl ?_
        refine s_imulN (pc := 24) S dX7_trayFor_24 ?_
        refine s_iload (pc := 25) S 0 dX7_trayFor_25 rfl ?_
        refine s_iaddN (pc := 27) S dX7_trayFor_27 ?_
        refine s_cald (pc := 28) S hz (x := C 60 8 ((3 * p) + 1)) (cc_row (A := A) (C := C) (x := aN .char 12 (C 60 8)) 8 (by decide) rfl) (by omega) (by omega) rfl dX7_trayFor_28 ?_
        refine s_aload_n (pc := 29) S 2 dX7_trayFor_29 rfl rfl ?_
        refine s_get (pc := 30) S hz (ref := "SpoolFarmModel") (v := .ref (A 60 9)) (cc_mod (A := A) (C := C)) i_RX7 rfl 9 (Nat.le_of_ble_eq_true rfl) (by decide +kernel) (fun _ h => h) rfl dX7_trayFor_30 ?_
        refine s_iload_n (pc := 33) S 3 dX7_trayFor_33 rfl rfl ?_
        refine s_cald (pc := 34) S hz (x := C 60 9 k) (cc_row (A := A) (C := C) (x := aN .char 40 (C 60 9)) 9 (by decide) rfl) (by omega) (by omega) rfl dX7_trayFor_34 ?_
        refine s_icmp_eqN (pc := 35) S 41 dX7_trayFor_35 (by decide) (by omega) (by omega) (fun c_13 => ?_) (fun c_13 => ?_)
        · refine s_aload_n (pc := 41) S 2 dX7_trayFor_41 rfl rfl ?_
          refine s_get (pc := 42) S hz (ref := "SpoolFarmModel") (v := .ref (A 60 25)) (cc_mod (A := A) (C := C)) i_RX7 rfl 25 (Nat.le_of_ble_eq_true rfl) (by decide +kernel) (fun _ h => h) rfl dX7_trayFor_42 ?_
          refine s_iload (pc := 45) S 0 dX7_trayFor_45 rfl ?_
          refine s_iald (pc := 47) S hz (x := C 60 25 1) (cc_row (A := A) (C := C) (x := aN .int 3 (C 60 25)) 25 (by decide) rfl) (by omega) (by omega) rfl dX7_trayFor_47 ?_
          refine s_if_leN (pc := 48) S 57 dX7_trayFor_48 (by decide) (by omega) (fun c_14 => ?_) (fun c_14 => ?_)
          · refine s_iload_n (pc := 57) S 1 dX7_trayFor_57 rfl rfl ?_
            refine s_bipush (pc := 58) S (v := (-2)) dX7_trayFor_58 (by decide) ?_
            refine s_icmp_ne (pc := 60) S 65 dX7_trayFor_60 (by decide) (fun _ => ?_) (fun h => absurd h (by decide))
            refine s_iinc (pc := 65) S 0 [(4, .int (nI 0)), (3, .int (-1)), (0, .ref (A 60 100)), (1, .int (nI k)), (2, .int (nI p))] dX7_trayFor_65 rfl (by decide) (by decide) rfl ?_
            refine s_goto (pc := 68) S 13 dX7_trayFor_68 (by decide) ?_
            refine s_iload (pc := 13) S 0 dX7_trayFor_13 rfl ?_
            refine s_if_ltN (pc := 15) S 71 dX7_trayFor_15 (by decide) (by decide) (fun h => absurd h (by decide)) (fun _ => ?_)
            refine s_aload_n (pc := 18) S 2 dX7_trayFor_18 rfl rfl ?_
            refine s_get (pc := 19) S hz (ref := "SpoolFarmModel") (v := .ref (A 60 8)) (cc_mod (A := A) (C := C)) i_RX7 rfl 8 (Nat.le_of_ble_eq_true rfl) (by decide +kernel) (fun _ h => h) rfl dX7_trayFor_19 ?_
            refine s_iconst (pc := 22) S (v := (nI 3)) dX7_trayFor_22 (by decide) ?_
            refine s_iload_n (pc := 23) S 4 dX7_trayFor_23 rfl rfl ?_
            refine s_imulN (pc := 24) S dX7_trayFor_24 ?_
            refine s_iload (pc := 25) S 0 dX7_trayFor_25 rfl ?_
            refine s_iaddN (pc := 27) S dX7_trayFor_27 ?_
            refine s_cald (pc := 28) S hz (x := C 60 8 ((3 * p) + 0)) (cc_row (A := A) (C := C) (x := aN .char 12 (C 60 8)) 8 (by decide) rfl) (by omega) (by omega) rfl dX7_trayFor_28 ?_
            refine s_aload_n (pc := 29) S 2 dX7_trayFor_29 rfl rfl ?_
            refine s_get (pc := 30) S hz (ref := "SpoolFarmModel") (v := .ref (A 60 9)) (cc_mod (A := A) (C := C)) i_RX7 rfl 9 (Nat.le_of_ble_eq_true rfl) (by decide +kernel) (fun _ h => h) rfl dX7_trayFor_30 ?_
            refine s_iload_n (pc := 33) S 3 dX7_trayFor_33 rfl rfl ?_
            refine s_cald (pc := 34) S hz (x := C 60 9 k) (cc_row (A := A) (C := C) (x := aN .char 40 (C 60 9)) 9 (by decide) rfl) (by omega) (by omega) rfl dX7_trayFor_34 ?_
            refine s_icmp_eqN (pc := 35) S 41 dX7_trayFor_35 (by decide) (by omega) (by omega) (fun c_15 => ?_) (fun c_15 => ?_)
            · refine s_aload_n (pc := 41) S 2 dX7_trayFor_41 rfl rfl ?_
              refine s_get (pc := 42) S hz (ref := "SpoolFarmModel") (v := .ref (A 60 25)) (cc_mod (A := A) (C := C)) i_RX7 rfl 25 (Nat.le_of_ble_eq_true rfl) (by decide +kernel) (fun _ h => h) rfl dX7_trayFor_42 ?_
              refine s_iload (pc := 45) S 0 dX7_trayFor_45 rfl ?_
              refine s_iald (pc := 47) S hz (x := C 60 25 0) (cc_row (A := A) (C := C) (x := aN .int 3 (C 60 25)) 25 (by decide) rfl) (by omega) (by omega) rfl dX7_trayFor_47 ?_
              refine s_if_leN (pc := 48) S 57 dX7_trayFor_48 (by decide) (by omega) (fun c_16 => ?_) (fun c_16 => ?_)
              · refine s_iload_n (pc := 57) S 1 dX7_trayFor_57 rfl rfl ?_
                refine s_bipush (pc := 58) S (v := (-2)) dX7_trayFor_58 (by decide) ?_
                refine s_icmp_ne (pc := 60) S 65 dX7_trayFor_60 (by decide) (fun _ => ?_) (fun h => absurd h (by decide))
                refine s_iinc (pc := 65) S 0 [(4, .int (-1)), (3, .int (-1)), (0, .ref (A 60 100)), (1, .int (nI k)), (2, .int (nI p))] dX7_trayFor_65 rfl (by decide) (by decide) rfl ?_
                refine s_goto (pc := 68) S 13 dX7_trayFor_68 (by decide) ?_
                refine s_iload (pc := 13) S 0 dX7_trayFor_13 rfl ?_
                refine s_if_lt (pc := 15) S 71 dX7_trayFor_15 (by decide) (fun _ => ?_) (fun h => absurd h (by decide))
                refine s_iload_n (pc := 71) S 1 dX7_trayFor_71 rfl rfl ?_
                have e : tfC C k p = 1 := by
                    unfold tfC tfN
                    repeat' split
                    all_goals omega
                exact s_iret (pc := 72) S hz hlo hr ⟨rfl, rfl, Or.inr (Or.inl ⟨e, rfl⟩)⟩ (Nat.le_of_ble_eq_true rfl) (Nat.le_of_ble_eq_true rfl) dX7_trayFor_72
              · refine s_iload (pc := 51) S 0 dX7_trayFor_51 rfl ?_
                refine s_istore_n (pc := 53) S [(3, .int (nI 0)), (4, .int (nI 0)), (0, .ref (A 60 100)), (1, .int (nI k)), (2, .int (nI p))] dX7_trayFor_53 rfl (by decide) rfl ?_
                refine s_goto (pc := 54) S 65 dX7_trayFor_54 (by decide) ?_
                refine s_iinc (pc := 65) S 1 [(4, .int (-1)), (3, .int (nI 0)), (0, .ref (A 60 100)), (1, .int (nI k)), (2, .int (nI p))] dX7_trayFor_65 rfl (by decide) (by decide) rfl ?_
                refine s_goto (pc := 68) S 13 dX7_trayFor_68 (by decide) ?_
                refine s_iload (pc := 13) S 0 dX7_trayFor_13 rfl ?_
                refine s_if_lt (pc := 15) S 71 dX7_trayFor_15 (by decide) (fun _ => ?_) (fun h => absurd h (by decide))
                refine s_iload_n (pc := 71) S 1 dX7_trayFor_71 rfl rfl ?_
                have e : tfC C k p = 2 := by
                    unfold tfC tfN
                    repeat' split
                    all_goals omega
                exact s_iret (pc := 72) S hz hlo hr ⟨rfl, rfl, Or.inr (Or.inr ⟨0, by omega, e, rfl⟩)⟩ (Nat.le_of_ble_eq_true rfl) (Nat.le_of_ble_eq_true rfl) dX7_trayFor_72
            · refine s_goto (pc := 38) S 65 dX7_trayFor_38 (by decide) ?_
              refine s_iinc (pc := 65) S 0 [(4, .int (-1)), (3, .int (-1)), (0, .ref (A 60 100)), (1, .int (nI k)), (2, .int (nI p))] dX7_trayFor_65 rfl (by decide) (by decide) rfl ?_
              refine s_goto (pc := 68) S 13 dX7_trayFor_68 (by decide) ?_
              refine s_iload (pc := 13) S 0 dX7_trayFor_13 rfl ?_
              refine s_if_lt (pc := 15) S 71 dX7_trayFor_15 (by decide) (fun _ => ?_) (fun h => absurd h (by decide))
              refine s_iload_n (pc := 71) S 1 dX7_trayFor_71 rfl rfl ?_
              have e : tfC C k p = 1 := by
                  unfold tfC tfN
                  repeat' split
                  all_goals omega
              exact s_iret (pc := 72) S hz hlo hr ⟨rfl, rfl, Or.inr (Or.inl ⟨e, rfl⟩)⟩ (Nat.le_of_ble_eq_true rfl) (Nat.le_of_ble_eq_true rfl) dX7_trayFor_72
          · refine s_iload (pc := 51) S 0 dX7_trayFor_51 rfl ?_
            refine s_istore_n (pc := 53) S [(3, .int (nI 1)), (4, .int (nI 1)), (0, .ref (A 60 100)), (1, .int (nI k)), (2, .int (nI p))] dX7_trayFor_53 rfl (by decide) rfl ?_
            refine s_goto (pc := 54) S 65 dX7_trayFor_54 (by decide) ?_
            refine s_iinc (pc := 65) S 1 [(4, .int (nI 0)), (3, .int (nI 1)), (0, .ref (A 60 100)), (1, .int (nI k)), (2, .int (nI p))] dX7_trayFor_65 rfl (by decide) (by decide) rfl ?_
            refine s_goto (pc := 68) S 13 dX7_trayFor_68 (by decide) ?_
            refine s_iload (pc := 13) S 0 dX7_trayFor_13 rfl ?_
            refine s_if_ltN (pc := 15) S 71 dX7_trayFor_15 (by decide) (by decide) (fun h => absurd h (by decide)) (fun _ => ?_)
            refine s_aload_n (pc := 18) S 2 dX7_trayFor_18 rfl rfl ?_
            refine s_get (pc := 19) S hz (ref := "SpoolFarmModel") (v := .ref (A 60 8)) (cc_mod (A := A) (C := C)) i_RX7 rfl 8 (Nat.le_of_ble_eq_true rfl) (by decide +kernel) (fun _ h => h) rfl dX7_trayFor_19 ?_
            refine s_iconst (pc := 22) S (v := (nI 3)) dX7_trayFor_22 (by decide) ?_
            refine s_iload_n (pc := 23) S 4 dX7_trayFor_23 rfl rfl ?_
            refine s_imulN (pc := 24) S dX7_trayFor_24 ?_
            refine s_iload (pc := 25) S 0 dX7_trayFor_25 rfl ?_
            refine s_iaddN (pc := 27) S dX7_trayFor_27 ?_
            refine s_cald (pc := 28) S hz (x := C 60 8 ((3 * p) + 0)) (cc_row (A := A) (C := C) (x := aN .char 12 (C 60 8)) 8 (by decide) rfl) (by omega) (by omega) rfl dX7_trayFor_28 ?_
            refine s_aload_n (pc := 29) S 2 dX7_trayFor_29 rfl rfl ?_
            refine s_get (pc := 30) S hz (ref := "SpoolFarmModel") (v := .ref (A 60 9)) (cc_mod (A := A) (C := C)) i_RX7 rfl 9 (Nat.le_of_ble_eq_true rfl) (by decide +kernel) (fun _ h => h) rfl dX7_trayFor_30 ?_
            refine s_iload_n (pc := 33) S 3 dX7_trayFor_33 rfl rfl ?_
            refine s_cald (pc := 34) S hz (x := C 60 9 k) (cc_row (A := A) (C := C) (x := aN .char 40 (C 60 9)) 9 (by decide) rfl) (by omega) (by omega) rfl dX7_trayFor_34 ?_
            refine s_icmp_eqN (pc := 35) S 41 dX7_trayFor_35 (by decide) (by omega) (by omega) (fun c_17 => ?_) (fun c_17 => ?_)
            · refine s_aload_n (pc := 41) S 2 dX7_trayFor_41 rfl rfl ?_
              refine s_get (pc := 42) S hz (ref := "SpoolFarmModel") (v := .ref (A 60 25)) (cc_mod (A := A) (C := C)) i_RX7 rfl 25 (Nat.le_of_ble_eq_true rfl) (by decide +kernel) (fun _ h => h) rfl dX7_trayFor_42 ?_
              refine s_iload (pc := 45) S 0 dX7_trayFor_45 rfl ?_
              refine s_iald (pc := 47) S hz (x := C 60 25 0) (cc_row (A := A) (C := C) (x := aN .int 3 (C 60 25)) 25 (by decide) rfl) (by omega) (by omega) rfl dX7_trayFor_47 ?_
              refine s_if_leN (pc := 48) S 57 dX7_trayFor_48 (by decide) (by omega) (fun c_18 => ?_) (fun c_18 => ?_)
              · refine s_iload_n (pc := 57) S 1 dX7_trayFor_57 rfl rfl ?_
                refine s_bipush (pc := 58) S (v := (-2)) dX7_trayFor_58 (by decide) ?_
                refine s_icmp_ne (pc := 60) S 65 dX7_trayFor_60 (by decide) (fun _ => ?_) (fun h => absurd h (by decide))
                refine s_iinc (pc := 65) S 0 [(4, .int (-1)), (3, .int (nI 1)), (0, .ref (A 60 100)), (1, .int (nI k)), (2, .int (nI p))] dX7_trayFor_65 rfl (by decide) (by decide) rfl ?_
                refine s_goto (pc := 68) S 13 dX7_trayFor_68 (by decide) ?_
                refine s_iload (pc := 13) S 0 dX7_trayFor_13 rfl ?_
                refine s_if_lt (pc := 15) S 71 dX7_trayFor_15 (by decide) (fun _ => ?_) (fun h => absurd h (by decide))
                refine s_iload_n (pc := 71) S 1 dX7_trayFor_71 rfl rfl ?_
                have e : tfC C k p = 3 := by
                    unfold tfC tfN
                    repeat' split
                    all_goals omega
                exact s_iret (pc := 72) S hz hlo hr ⟨rfl, rfl, Or.inr (Or.inr ⟨1, by omega, e, rfl⟩)⟩ (Nat.le_of_ble_eq_true rfl) (Nat.le_of_ble_eq_true rfl) dX7_trayFor_72
              · refine s_iload (pc := 51) S 0 dX7_trayFor_51 rfl ?_
                refine s_istore_n (pc := 53) S [(3, .int (nI 0)), (4, .int (nI 0)), (0, .ref (A 60 100)), (1, .int (nI k)), (2, .int (nI p))] dX7_trayFor_53 rfl (by decide) rfl ?_
                refine s_goto (pc := 54) S 65 dX7_trayFor_54 (by decide) ?_
                refine s_iinc (pc := 65) S 1 [(4, .int (-1)), (3, .int (nI 0)), (0, .ref (A 60 100)), (1, .int (nI k)), (2, .int (nI p))] dX7_trayFor_65 rfl (by decide) (by decide) rfl ?_
                refine s_goto (pc := 68) S 13 dX7_trayFor_68 (by decide) ?_
                refine s_iload (pc := 13) S 0 dX7_trayFor_13 rfl ?_
                refine s_if_lt (pc := 15) S 71 dX7_trayFor_15 (by decide) (fun _ => ?_) (fun h => absurd h (by decide))
                refine s_iload_n (pc := 71) S 1 dX7_trayFor_71 rfl rfl ?_
                have e : tfC C k p = 2 := by
                    unfold tfC tfN
                    repeat' split
                    all_goals omega
                exact s_iret (pc := 72) S hz hlo hr ⟨rfl, rfl, Or.inr (Or.inr ⟨0, by omega, e, rfl⟩)⟩ (Nat.le_of_ble_eq_true rfl) (Nat.le_of_ble_eq_true rfl) dX7_trayFor_72
            · refine s_goto (pc := 38) S 65 dX7_trayFor_38 (by decide) ?_
              refine s_iinc (pc := 65) S 0 [(4, .int (-1)), (3, .int (nI 1)), (0, .ref (A 60 100)), (1, .int (nI k)), (2, .int (nI p))] dX7_trayFor_65 rfl (by decide) (by decide) rfl ?_
              refine s_goto (pc := 68) S 13 dX7_trayFor_68 (by decide) ?_
              refine s_iload (pc := 13) S 0 dX7_trayFor_13 rfl ?_
              refine s_if_lt (pc := 15) S 71 dX7_trayFor_15 (by decide) (fun _ => ?_) (fun h => absurd h (by decide))
              refine s_iload_n (pc := 71) S 1 dX7_trayFor_71 rfl rfl ?_
              have e : tfC C k p = 3 := by
                  unfold tfC tfN
                  repeat' split
                  all_goals omega
              exact s_iret (pc := 72) S hz hlo hr ⟨rfl, rfl, Or.inr (Or.inr ⟨1, by omega, e, rfl⟩)⟩ (Nat.le_of_ble_eq_true rfl) (Nat.le_of_ble_eq_true rfl) dX7_trayFor_72
        · refine s_goto (pc := 38) S 65 dX7_trayFor_38 (by decide) ?_
          refine s_iinc (pc := 65) S 0 [(4, .int (nI 0)), (3, .int (-1)), (0, .ref (A 60 100)), (1, .int (nI k)), (2, .int (nI p))] dX7_trayFor_65 rfl (by decide) (by decide) rfl ?_
          refine s_goto (pc := 68) S 13 dX7_trayFor_68 (by decide) ?_
          refine s_iload (pc := 13) S 0 dX7_trayFor_13 rfl ?_
          refine s_if_ltN (pc := 15) S 71 dX7_trayFor_15 (by decide) (by decide) (fun h => absurd h (by decide)) (fun _ => ?_)
          refine s_aload_n (pc := 18) S 2 dX7_trayFor_18 rfl rfl ?_
          refine s_get (pc := 19) S hz (ref := "SpoolFarmModel") (v := .ref (A 60 8)) (cc_mod (A := A) (C := C)) i_RX7 rfl 8 (Nat.le_of_ble_eq_true rfl) (by decide +kernel) (fun _ h => h) rfl dX7_trayFor_19 ?_
          refine s_iconst (pc := 22) S (v := (nI 3)) dX7_trayFor_22 (by decide) ?_
          refine s_iload_n (pc := 23) S 4 dX7_trayFor_23 rfl rfl ?_
          refine s_imulN (pc := 24) S dX7_trayFor_24 ?_
          refine s_iload (pc := 25) S 0 dX7_trayFor_25 rfl ?_
          refine s_iaddN (pc := 27) S dX7_trayFor_27 ?_
          refine s_cald (pc := 28) S hz (x := C 60 8 ((3 * p) + 0)) (cc_row (A := A) (C := C) (x := aN .char 12 (C 60 8)) 8 (by decide) rfl) (by omega) (by omega) rfl dX7_trayFor_28 ?_
          refine s_aload_n (pc := 29) S 2 dX7_trayFor_29 rfl rfl ?_
          refine s_get (pc := 30) S hz (ref := "SpoolFarmModel") (v := .ref (A 60 9)) (cc_mod (A := A) (C := C)) i_RX7 rfl 9 (Nat.le_of_ble_eq_true rfl) (by decide +kernel) (fun _ h => h) rfl dX7_trayFor_30 ?_
          refine s_iload_n (pc := 33) S 3 dX7_trayFor_33 rfl rfl ?_
          refine s_cald (pc := 34) S hz (x := C 60 9 k) (cc_row (A := A) (C := C) (x := aN .char 40 (C 60 9)) 9 (by decide) rfl) (by omega) (by omega) rfl dX7_trayFor_34 ?_
          refine s_icmp_eqN (pc := 35) S 41 dX7_trayFor_35 (by decide) (by omega) (by omega) (fun c_19 => ?_) (fun c_19 => ?_)
          · refine s_aload_n (pc := 41) S 2 dX7_trayFor_41 rfl rfl ?_
            refine s_get (pc := 42) S hz (ref := "SpoolFarmModel") (v := .ref (A 60 25)) (cc_mod (A := A) (C := C)) i_RX7 rfl 25 (Nat.le_of_ble_eq_true rfl) (by decide +kernel) (fun _ h => h) rfl dX7_trayFor_42 ?_
            refine s_iload (pc := 45) S 0 dX7_trayFor_45 rfl ?_
            refine s_iald (pc := 47) S hz (x := C 60 25 0) (cc_row (A := A) (C := C) (x := aN .int 3 (C 60 25)) 25 (by decide) rfl) (by omega) (by omega) rfl dX7_trayFor_47 ?_
            refine s_if_leN (pc := 48) S 57 dX7_trayFor_48 (by decide) (by omega) (fun c_20 => ?_) (fun c_20 => ?_)
            · refine s_iload_n (pc := 57) S 1 dX7_trayFor_57 rfl rfl ?_
              refine s_bipush (pc := 58) S (v := (-2)) dX7_trayFor_58 (by decide) ?_
              refine s_icmp_ne (pc := 60) S 65 dX7_trayFor_60 (by decide) (fun _ => ?_) (fun h => absurd h (by decide))
              refine s_iinc (pc := 65) S 0 [(4, .int (-1)), (3, .int (-1)), (0, .ref (A 60 100)), (1, .int (nI k)), (2, .int (nI p))] dX7_trayFor_65 rfl (by decide) (by decide) rfl ?_
              refine s_goto (pc := 68) S 13 dX7_trayFor_68 (by decide) ?_
              refine s_iload (pc := 13) S 0 dX7_trayFor_13 rfl ?_
              refine s_if_lt (pc := 15) S 71 dX7_trayFor_15 (by decide) (fun _ => ?_) (fun h => absurd h (by decide))
              refine s_iload_n (pc := 71) S 1 dX7_trayFor_71 rfl rfl ?_
              have e : tfC C k p = 1 := by
                  unfold tfC tfN
                  repeat' split
                  all_goals omega
              exact s_iret (pc := 72) S hz hlo hr ⟨rfl, rfl, Or.inr (Or.inl ⟨e, rfl⟩)⟩ (Nat.le_of_ble_eq_true rfl) (Nat.le_of_ble_eq_true rfl) dX7_trayFor_72
            · refine s_iload (pc := 51) S 0 dX7_trayFor_51 rfl ?_
              refine s_istore_n (pc := 53) S [(3, .int (nI 0)), (4, .int (nI 0)), (0, .ref (A 60 100)), (1, .int (nI k)), (2, .int (nI p))] dX7_trayFor_53 rfl (by decide) rfl ?_
              refine s_goto (pc := 54) S 65 dX7_trayFor_54 (by decide) ?_
              refine s_iinc (pc := 65) S 1 [(4, .int (-1)), (3, .int (nI 0)), (0, .ref (A 60 100)), (1, .int (nI k)), (2, .int (nI p))] dX7_trayFor_65 rfl (by decide) (by decide) rfl ?_
              refine s_goto (pc := 68) S 13 dX7_trayFor_68 (by decide) ?_
              refine s_iload (pc := 13) S 0 dX7_trayFor_13 rfl ?_
              refine s_if_lt (pc := 15) S 71 dX7_trayFor_15 (by decide) (fun _ => ?_) (fun h => absurd h (by decide))
              refine s_iload_n (pc := 71) S 1 dX7_trayFor_71 rfl rfl ?_
              have e : tfC C k p = 2 := by
                  unfold tfC tfN
                  repeat' split
                  all_goals omega
              exact s_iret (pc := 72) S hz hlo hr ⟨rfl, rfl, Or.inr (Or.inr ⟨0, by omega, e, rfl⟩)⟩ (Nat.le_of_ble_eq_true rfl) (Nat.le_of_ble_eq_true rfl) dX7_trayFor_72
          · refine s_goto (pc := 38) S 65 dX7_trayFor_38 (by decide) ?_
            refine s_iinc (pc := 65) S 0 [(4, .int (-1)), (3, .int (-1)), (0, .ref (A 60 100)), (1, .int (nI k)), (2, .int (nI p))] dX7_trayFor_65 rfl (by decide) (by decide) rfl ?_
            refine s_goto (pc := 68) S 13 dX7_trayFor_68 (by decide) ?_
            refine s_iload (pc := 13) S 0 dX7_trayFor_13 rfl ?_
            refine s_if_lt (pc := 15) S 71 dX7_trayFor_15 (by decide) (fun _ => ?_) (fun h => absurd h (by decide))
            refine s_iload_n (pc := 71) S 1 dX7_trayFor_71 rfl rfl ?_
            have e : tfC C k p = 1 := by
                unfold tfC tfN
                repeat' split
                all_goals omega
            exact s_iret (pc := 72) S hz hlo hr ⟨rfl, rfl, Or.inr (Or.inl ⟨e, rfl⟩)⟩ (Nat.le_of_ble_eq_true rfl) (Nat.le_of_ble_eq_true rfl) dX7_trayFor_72
      · refine s_iload (pc := 51) S 0 dX7_trayFor_51 rfl ?_
        refine s_istore_n (pc := 53) S [(3, .int (nI 2)), (4, .int (nI 2)), (0, .ref (A 60 100)), (1, .int (nI k)), (2, .int (nI p))] dX7_trayFor_53 rfl (by decide) rfl ?_
        refine s_goto (pc := 54) S 65 dX7_trayFor_54 (by decide) ?_
        refine s_iinc (pc := 65) S 1 [(4, .int (nI 1)), (3, .int (nI 2)), (0, .ref (A 60 100)), (1, .int (nI k)), (2, .int (nI p))] dX7_trayFor_65 rfl (by decide) (by decide) rfl ?_
        refine s_goto (pc := 68) S 13 dX7_trayFor_68 (by decide) ?_
        refine s_iload (pc := 13) S 0 dX7_trayFor_13 rfl ?_
        refine s_if_ltN (pc := 15) S 71 dX7_trayFor_15 (by decide) (by decide) (fun h => absurd h (by decide)) (fun _ => ?_)
        refine s_aload_n (pc := 18) S 2 dX7_trayFor_18 rfl rfl ?_
        refine s_get (pc := 19) S hz (ref := "SpoolFarmModel") (v := .ref (A 60 8)) (cc_mod (A := A) (C := C)) i_RX7 rfl 8 (Nat.le_of_ble_eq_true rfl) (by decide +kernel) (fun _ h => h) rfl dX7_trayFor_19 ?_
        refine s_iconst (pc := 22) S (v := (nI 3)) dX7_trayFor_22 (by decide) ?_
        refine s_iload_n (pc := 23) S 4 dX7_trayFor_23 rfl rfl ?_
        refine s_imulN (pc := 24) S dX7_trayFor_24 ?_
        refine s_iload (pc := 25) S 0 dX7_trayFor_25 rfl ?_
        refine s_iaddN (pc := 27) S dX7_trayFor_27 ?_
        refine s_cald (pc := 28) S hz (x := C 60 8 ((3 * p) + 1)) (cc_row (A := A) (C := C) (x := aN .char 12 (C 60 8)) 8 (by decide) rfl) (by omega) (by omega) rfl dX7_trayFor_28 ?_
        refine s_aload_n (pc := 29) S 2 dX7_trayFor_29 rfl rfl ?_
        refine s_get (pc := 30) S hz (ref := "SpoolFarmModel") (v := .ref (A 60 9)) (cc_mod (A := A) (C := C)) i_RX7 rfl 9 (Nat.le_of_ble_eq_true rfl) (by decide +kernel) (fun _ h => h) rfl dX7_trayFor_30 ?_
        refine s_iload_n (pc := 33) S 3 dX7_trayFor_33 rfl rfl ?_
        refine s_cald (pc := 34) S hz (x := C 60 9 k) (cc_row (A := A) (C := C) (x := aN .char 40 (C 60 9)) 9 (by decide) rfl) (by omega) (by omega) rfl dX7_trayFor_34 ?_
        refine s_icmp_eqN (pc := 35) S 41 dX7_trayFor_35 (by decide) (by omega) (by omega) (fun c_21 => ?_) (fun c_21 => ?_)
        · refine s_aload_n (pc := 41) S 2 dX7_trayFor_41 rfl rfl ?_
          refine s_get (pc := 42) S hz (ref := "SpoolFarmModel") (v := .ref (A 60 25)) (cc_mod (A := A) (C := C)) i_RX7 rfl 25 (Nat.le_of_ble_eq_true rfl) (by decide +kernel) (fun _ h => h) rfl dX7_trayFor_42 ?_
          refine s_iload (pc := 45) S 0 dX7_trayFor_45 rfl ?_
          refine s_iald (pc := 47) S hz (x := C 60 25 1) (cc_row (A := A) (C := C) (x := aN .int 3 (C 60 25)) 25 (by decide) rfl) (by omega) (by omega) rfl dX7_trayFor_47 ?_
          refine s_if_leN (pc := 48) S 57 dX7_trayFor_48 (by decide) (by omega) (fun c_22 => ?_) (fun c_22 => ?_)
          · refine s_iload_n (pc := 57) S 1 dX7_trayFor_57 rfl rfl ?_
            refine s_bipush (pc := 58) S (v := (-2)) dX7_trayFor_58 (by decide) ?_
            refine s_icmp_ne (pc := 60) S 65 dX7_trayFor_60 (by decide) (fun _ => ?_) (fun h => absurd h (by decide))
            refine s_iinc (pc := 65) S 0 [(4, .int (nI 0)), (3, .int (nI 2)), (0, .ref (A 60 100)), (1, .int (nI k)), (2, .int (nI p))] dX7_trayFor_65 rfl (by decide) (by decide) rfl ?_
            refine s_goto (pc := 68) S 13 dX7_trayFor_68 (by decide) ?_
            refine s_iload (pc := 13) S 0 dX7_trayFor_13 rfl ?_
            refine s_if_ltN (pc := 15) S 71 dX7_trayFor_15 (by decide) (by decide) (fun h => absurd h (by decide)) (fun _ => ?_)
            refine s_aload_n (pc := 18) S 2 dX7_trayFor_18 rfl rfl ?_
            refine s_get (pc := 19) S hz (ref := "SpoolFarmModel") (v := .ref (A 60 8)) (cc_mod (A := A) (C := C)) i_RX7 rfl 8 (Nat.le_of_ble_eq_true rfl) (by decide +kernel) (fun _ h => h) rfl dX7_trayFor_19 ?_
            refine s_iconst (pc := 22) S (v := (nI 3)) dX7_trayFor_22 (by decide) ?_
            refine s_iload_n (pc := 23) S 4 dX7_trayFor_23 rfl rfl ?_
            refine s_imulN (pc := 24) S dX7_trayFor_24 ?_
            refine s_iload (pc := 25) S 0 dX7_trayFor_25 rfl ?_
            refine s_iaddN (pc := 27) S dX7_trayFor_27 ?_
            refine s_cald (pc := 28) S hz (x := C 60 8 ((3 * p) + 0)) (cc_row (A := A) (C := C) (x := aN .char 12 (C 60 8)) 8 (by decide) rfl) (by omega) (by omega) rfl dX7_trayFor_28 ?_
            refine s_aload_n (pc := 29) S 2 dX7_trayFor_29 rfl rfl ?_
            refine s_get (pc := 30) S hz (ref := "SpoolFarmModel") (v := .ref (A 60 9)) (cc_mod (A := A) (C := C)) i_RX7 rfl 9 (Nat.le_of_ble_eq_true rfl) (by decide +kernel) (fun _ h => h) rfl dX7_trayFor_30 ?_
            refine s_iload_n (pc := 33) S 3 dX7_trayFor_33 rfl rfl ?_
            refine s_cald (pc := 34) S hz (x := C 60 9 k) (cc_row (A := A) (C := C) (x := aN .char 40 (C 60 9)) 9 (by decide) rfl) (by omega) (by omega) rfl dX7_trayFor_34 ?_
            refine s_icmp_eqN (pc := 35) S 41 dX7_trayFor_35 (by decide) (by omega) (by omega) (fun c_23 => ?_) (fun c_23 => ?_)
            · refine s_aload_n (pc := 41) S 2 dX7_trayFor_41 rfl rfl ?_
              refine s_get (pc := 42) S hz (ref := "SpoolFarmModel") (v := .ref (A 60 25)) (cc_mod (A := A) (C := C)) i_RX7 rfl 25 (Nat.le_of_ble_eq_true rfl) (by decide +kernel) (fun _ h => h) rfl dX7_trayFor_42 ?_
              refine s_iload (pc := 45) S 0 dX7_trayFor_45 rfl ?_
              refine s_iald (pc := 47) S hz (x := C 60 25 0) (cc_row (A := A) (C := C) (x := aN .int 3 (C 60 25)) 25 (by decide) rfl) (by omega) (by omega) rfl dX7_trayFor_47 ?_
              refine s_if_leN (pc := 48) S 57 dX7_trayFor_48 (by decide) (by omega) (fun c_24 => ?_) (fun c_24 => ?_)
              · refine s_iload_n (pc := 57) S 1 dX7_trayFor_57 rfl rfl ?_
                refine s_bipush (pc := 58) S (v := (-2)) dX7_trayFor_58 (by decide) ?_
                refine s_icmp_ne (pc := 60) S 65 dX7_trayFor_60 (by decide) (fun _ => ?_) (fun h => absurd h (by decide))
                refine s_iinc (pc := 65) S 0 [(4, .int (-1)), (3, .int (nI 2)), (0, .ref (A 60 100)), (1, .int (nI k)), (2, .int (nI p))] dX7_trayFor_65 rfl (by decide) (by decide) rfl ?_
                refine s_goto (pc := 68) S 13 dX7_trayFor_68 (by decide) ?_
                refine s_iload (pc := 13) S 0 dX7_trayFor_13 rfl ?_
                refine s_if_lt (pc := 15) S 71 dX7_trayFor_15 (by decide) (fun _ => ?_) (fun h => absurd h (by decide))
                refine s_iload_n (pc := 71) S 1 dX7_trayFor_71 rfl rfl ?_
                have e : tfC C k p = 4 := by
                    unfold tfC tfN
                    repeat' split
                    all_goals omega
                exact s_iret (pc := 72) S hz hlo hr ⟨rfl, rfl, Or.inr (Or.inr ⟨2, by omega, e, rfl⟩)⟩ (Nat.le_of_ble_eq_true rfl) (Nat.le_of_ble_eq_true rfl) dX7_trayFor_72
              · refine s_iload (pc := 51) S 0 dX7_trayFor_51 rfl ?_
                refine s_istore_n (pc := 53) S [(3, .int (nI 0)), (4, .int (nI 0)), (0, .ref (A 60 100)), (1, .int (nI k)), (2, .int (nI p))] dX7_trayFor_53 rfl (by decide) rfl ?_
                refine s_goto (pc := 54) S 65 dX7_trayFor_54 (by decide) ?_
                refine s_iinc (pc := 65) S 1 [(4, .int (-1)), (3, .int (nI 0)), (0, .ref (A 60 100)), (1, .int (nI k)), (2, .int (nI p))] dX7_trayFor_65 rfl (by decide) (by decide) rfl ?_
                refine s_goto (pc := 68) S 13 dX7_trayFor_68 (by decide) ?_
                refine s_iload (pc := 13) S 0 dX7_trayFor_13 rfl ?_
                refine s_if_lt (pc := 15) S 71 dX7_trayFor_15 (by decide) (fun _ => ?_) (fun h => absurd h (by decide))
                refine s_iload_n (pc := 71) S 1 dX7_trayFor_71 rfl rfl ?_
                have e : tfC C k p = 2 := by
                    unfold tfC tfN
                    repeat' split
                    all_goals omega
                exact s_iret (pc := 72) S hz hlo hr ⟨rfl, rfl, Or.inr (Or.inr ⟨0, by omega, e, rfl⟩)⟩ (Nat.le_of_ble_eq_true rfl) (Nat.le_of_ble_eq_true rfl) dX7_trayFor_72
            · refine s_goto (pc := 38) S 65 dX7_trayFor_38 (by decide) ?_
              refine s_iinc (pc := 65) S 0 [(4, .int (-1)), (3, .int (nI 2)), (0, .ref (A 60 100)), (1, .int (nI k)), (2, .int (nI p))] dX7_trayFor_65 rfl (by decide) (by decide) rfl ?_
              refine s_goto (pc := 68) S 13 dX7_trayFor_68 (by decide) ?_
              refine s_iload (pc := 13) S 0 dX7_trayFor_13 rfl ?_
              refine s_if_lt (pc := 15) S 71 dX7_trayFor_15 (by decide) (fun _ => ?_) (fun h => absurd h (by decide))
              refine s_iload_n (pc := 71) S 1 dX7_trayFor_71 rfl rfl ?_
              have e : tfC C k p = 4 := by
                  unfold tfC tfN
                  repeat' split
                  all_goals omega
              exact s_iret (pc := 72) S hz hlo hr ⟨rfl, rfl, Or.inr (Or.inr ⟨2, by omega, e, rfl⟩)⟩ (Nat.le_of_ble_eq_true rfl) (Nat.le_of_ble_eq_true rfl) dX7_trayFor_72
          · refine s_iload (pc := 51) S 0 dX7_trayFor_51 rfl ?_
            refine s_istore_n (pc := 53) S [(3, .int (nI 1)), (4, .int (nI 1)), (0, .ref (A 60 100)), (1, .int (nI k)), (2, .int (nI p))] dX7_trayFor_53 rfl (by decide) rfl ?_
            refine s_goto (pc := 54) S 65 dX7_trayFor_54 (by decide) ?_
            refine s_iinc (pc := 65) S 1 [(4, .int (nI 0)), (3, .int (nI 1)), (0, .ref (A 60 100)), (1, .int (nI k)), (2, .int (nI p))] dX7_trayFor_65 rfl (by decide) (by decide) rfl ?_
            refine s_goto (pc := 68) S 13 dX7_trayFor_68 (by decide) ?_
            refine s_iload (pc := 13) S 0 dX7_trayFor_13 rfl ?_
            refine s_if_ltN (pc := 15) S 71 dX7_trayFor_15 (by decide) (by decide) (fun h => absurd h (by decide)) (fun _ => ?_)
            refine s_aload_n (pc := 18) S 2 dX7_trayFor_18 rfl rfl ?_
            refine s_get (pc := 19) S hz (ref := "SpoolFarmModel") (v := .ref (A 60 8)) (cc_mod (A := A) (C := C)) i_RX7 rfl 8 (Nat.le_of_ble_eq_true rfl) (by decide +kernel) (fun _ h => h) rfl dX7_trayFor_19 ?_
            refine s_iconst (pc := 22) S (v := (nI 3)) dX7_trayFor_22 (by decide) ?_
            refine s_iload_n (pc := 23) S 4 dX7_trayFor_23 rfl rfl ?_
            refine s_imulN (pc := 24) S dX7_trayFor_24 ?_
            refine s_iload (pc := 25) S 0 dX7_trayFor_25 rfl ?_
            refine s_iaddN (pc := 27) S dX7_trayFor_27 ?_
            refine s_cald (pc := 28) S hz (x := C 60 8 ((3 * p) + 0)) (cc_row (A := A) (C := C) (x := aN .char 12 (C 60 8)) 8 (by decide) rfl) (by omega) (by omega) rfl dX7_trayFor_28 ?_
            refine s_aload_n (pc := 29) S 2 dX7_trayFor_29 rfl rfl ?_
            refine s_get (pc := 30) S hz (ref := "SpoolFarmModel") (v := .ref (A 60 9)) (cc_mod (A := A) (C := C)) i_RX7 rfl 9 (Nat.le_of_ble_eq_true rfl) (by decide +kernel) (fun _ h => h) rfl dX7_trayFor_30 ?_
            refine s_iload_n (pc := 33) S 3 dX7_trayFor_33 rfl rfl ?_
            refine s_cald (pc := 34) S hz (x := C 60 9 k) (cc_row (A := A) (C := C) (x := aN .char 40 (C 60 9)) 9 (by decide) rfl) (by omega) (by omega) rfl dX7_trayFor_34 ?_
            refine s_icmp_eqN (pc := 35) S 41 dX7_trayFor_35 (by decide) (by omega) (by omega) (fun c_25 => ?_) (fun c_25 => ?_)
            · refine s_aload_n (pc := 41) S 2 dX7_trayFor_41 rfl rfl ?_
              refine s_get (pc := 42) S hz (ref := "SpoolFarmModel") (v := .ref (A 60 25)) (cc_mod (A := A) (C := C)) i_RX7 rfl 25 (Nat.le_of_ble_eq_true rfl) (by decide +kernel) (fun _ h => h) rfl dX7_trayFor_42 ?_
              refine s_iload (pc := 45) S 0 dX7_trayFor_45 rfl ?_
              refine s_iald (pc := 47) S hz (x := C 60 25 0) (cc_row (A := A) (C := C) (x := aN .int 3 (C 60 25)) 25 (by decide) rfl) (by omega) (by omega) rfl dX7_trayFor_47 ?_
              refine s_if_leN (pc := 48) S 57 dX7_trayFor_48 (by decide) (by omega) (fun c_26 => ?_) (fun c_26 => ?_)
              · refine s_iload_n (pc := 57) S 1 dX7_trayFor_57 rfl rfl ?_
                refine s_bipush (pc := 58) S (v := (-2)) dX7_trayFor_58 (by decide) ?_
                refine s_icmp_ne (pc := 60) S 65 dX7_trayFor_60 (by decide) (fun _ => ?_) (fun h => absurd h (by decide))
                refine s_iinc (pc := 65) S 0 [(4, .int (-1)), (3, .int (nI 1)), (0, .ref (A 60 100)), (1, .int (nI k)), (2, .int (nI p))] dX7_trayFor_65 rfl (by decide) (by decide) rfl ?_
                refine s_goto (pc := 68) S 13 dX7_trayFor_68 (by decide) ?_
                refine s_iload (pc := 13) S 0 dX7_trayFor_13 rfl ?_
                refine s_if_lt (pc := 15) S 71 dX7_trayFor_15 (by decide) (fun _ => ?_) (fun h => absurd h (by decide))
                refine s_iload_n (pc := 71) S 1 dX7_trayFor_71 rfl rfl ?_
                have e : tfC C k p = 3 := by
                    unfold tfC tfN
                    repeat' split
                    all_goals omega
                exact s_iret (pc := 72) S hz hlo hr ⟨rfl, rfl, Or.inr (Or.inr ⟨1, by omega, e, rfl⟩)⟩ (Nat.le_of_ble_eq_true rfl) (Nat.le_of_ble_eq_true rfl) dX7_trayFor_72
              · refine s_iload (pc := 51) S 0 dX7_trayFor_51 rfl ?_
                refine s_istore_n (pc := 53) S [(3, .int (nI 0)), (4, .int (nI 0)), (0, .ref (A 60 100)), (1, .int (nI k)), (2, .int (nI p))] dX7_trayFor_53 rfl (by decide) rfl ?_
                refine s_goto (pc := 54) S 65 dX7_trayFor_54 (by decide) ?_
                refine s_iinc (pc := 65) S 1 [(4, .int (-1)), (3, .int (nI 0)), (0, .ref (A 60 100)), (1, .int (nI k)), (2, .int (nI p))] dX7_trayFor_65 rfl (by decide) (by decide) rfl ?_
                refine s_goto (pc := 68) S 13 dX7_trayFor_68 (by decide) ?_
                refine s_iload (pc := 13) S 0 dX7_trayFor_13 rfl ?_
                refine s_if_lt (pc := 15) S 71 dX7_trayFor_15 (by decide) (fun _ => ?_) (fun h => absurd h (by decide))
                refine s_iload_n (pc := 71) S 1 dX7_trayFor_71 rfl rfl ?_
                have e : tfC C k p = 2 := by
                    unfold tfC tfN
                    repeat' split
                    all_goals omega
                exact s_iret (pc := 72) S hz hlo hr ⟨rfl, rfl, Or.inr (Or.inr ⟨0, by omega, e, rfl⟩)⟩ (Nat.le_of_ble_eq_true rfl) (Nat.le_of_ble_eq_true rfl) dX7_trayFor_72
            · refine s_goto (pc := 38) S 65 dX7_trayFor_38 (by decide) ?_
              refine s_iinc (pc := 65) S 0 [(4, .int (-1)), (3, .int (nI 1)), (0, .ref (A 60 100)), (1, .int (nI k)), (2, .int (nI p))] dX7_trayFor_65 rfl (by decide) (by decide) rfl ?_
              refine s_goto (pc := 68) S 13 dX7_trayFor_68 (by decide) ?_
              refine s_iload (pc := 13) S 0 dX7_trayFor_13 rfl ?_
              refine s_if_lt (pc := 15) S 71 dX7_trayFor_15 (by decide) (fun _ => ?_) (fun h => absurd h (by decide))
              refine s_iload_n (pc := 71) S 1 dX7_trayFor_71 rfl rfl ?_
              have e : tfC C k p = 3 := by
                  unfold tfC tfN
                  repeat' split
                  all_goals omega
              exact s_iret (pc := 72) S hz hlo hr ⟨rfl, rfl, Or.inr (Or.inr ⟨1, by omega, e, rfl⟩)⟩ (Nat.le_of_ble_eq_true rfl) (Nat.le_of_ble_eq_true rfl) dX7_trayFor_72
        · refine s_goto (pc := 38) S 65 dX7_trayFor_38 (by decide) ?_
          refine s_iinc (pc := 65) S 0 [(4, .int (nI 0)), (3, .int (nI 2)), (0, .ref (A 60 100)), (1, .int (nI k)), (2, .int (nI p))] dX7_trayFor_65 rfl (by decide) (by decide) rfl ?_
          refine s_goto (pc := 68) S 13 dX7_trayFor_68 (by decide) ?_
          refine s_iload (pc := 13) S 0 dX7_trayFor_13 rfl ?_
          refine s_if_ltN (pc := 15) S 71 dX7_trayFor_15 (by decide) (by decide) (fun h => absurd h (by decide)) (fun _ => ?_)
          refine s_aload_n (pc := 18) S 2 dX7_trayFor_18 rfl rfl ?_
          refine s_get (pc := 19) S hz (ref := "SpoolFarmModel") (v := .ref (A 60 8)) (cc_mod (A := A) (C := C)) i_RX7 rfl 8 (Nat.le_of_ble_eq_true rfl) (by decide +kernel) (fun _ h => h) rfl dX7_trayFor_19 ?_
          refine s_iconst (pc := 22) S (v := (nI 3)) dX7_trayFor_22 (by decide) ?_
          refine s_iload_n (pc := 23) S 4 dX7_trayFor_23 rfl rfl ?_
          refine s_imulN (pc := 24) S dX7_trayFor_24 ?_
          refine s_iload (pc := 25) S 0 dX7_trayFor_25 rfl ?_
          refine s_iaddN (pc := 27) S dX7_trayFor_27 ?_
          refine s_cald (pc := 28) S hz (x := C 60 8 ((3 * p) + 0)) (cc_row (A := A) (C := C) (x := aN .char 12 (C 60 8)) 8 (by decide) rfl) (by omega) (by omega) rfl dX7_trayFor_28 ?_
          refine s_aload_n (pc := 29) S 2 dX7_trayFor_29 rfl rfl ?_
          refine s_get (pc := 30) S hz (ref := "SpoolFarmModel") (v := .ref (A 60 9)) (cc_mod (A := A) (C := C)) i_RX7 rfl 9 (Nat.le_of_ble_eq_true rfl) (by decide +kernel) (fun _ h => h) rfl dX7_trayFor_30 ?_
          refine s_iload_n (pc := 33) S 3 dX7_trayFor_33 rfl rfl ?_
          refine s_cald (pc := 34) S hz (x := C 60 9 k) (cc_row (A := A) (C := C) (x := aN .char 40 (C 60 9)) 9 (by decide) rfl) (by omega) (by omega) rfl dX7_trayFor_34 ?_
          refine s_icmp_eqN (pc := 35) S 41 dX7_trayFor_35 (by decide) (by omega) (by omega) (fun c_27 => ?_) (fun c_27 => ?_)
          · refine s_aload_n (pc := 41) S 2 dX7_trayFor_41 rfl rfl ?_
            refine s_get (pc := 42) S hz (ref := "SpoolFarmModel") (v := .ref (A 60 25)) (cc_mod (A := A) (C := C)) i_RX7 rfl 25 (Nat.le_of_ble_eq_true rfl) (by decide +kernel) (fun _ h => h) rfl dX7_trayFor_42 ?_
            refine s_iload (pc := 45) S 0 dX7_trayFor_45 rfl ?_
            refine s_iald (pc := 47) S hz (x := C 60 25 0) (cc_row (A := A) (C := C) (x := aN .int 3 (C 60 25)) 25 (by decide) rfl) (by omega) (by omega) rfl dX7_trayFor_47 ?_
            refine s_if_leN (pc := 48) S 57 dX7_trayFor_48 (by decide) (by omega) (fun c_28 => ?_) (fun c_28 => ?_)
            · refine s_iload_n (pc := 57) S 1 dX7_trayFor_57 rfl rfl ?_
              refine s_bipush (pc := 58) S (v := (-2)) dX7_trayFor_58 (by decide) ?_
              refine s_icmp_ne (pc := 60) S 65 dX7_trayFor_60 (by decide) (fun _ => ?_) (fun h => absurd h (by decide))
              refine s_iinc (pc := 65) S 0 [(4, .int (-1)), (3, .int (nI 2)), (0, .ref (A 60 100)), (1, .int (nI k)), (2, .int (nI p))] dX7_trayFor_65 rfl (by decide) (by decide) rfl ?_
              refine s_goto (pc := 68) S 13 dX7_trayFor_68 (by decide) ?_
              refine s_iload (pc := 13) S 0 dX7_trayFor_13 rfl ?_
              refine s_if_lt (pc := 15) S 71 dX7_trayFor_15 (by decide) (fun _ => ?_) (fun h => absurd h (by decide))
              refine s_iload_n (pc := 71) S 1 dX7_trayFor_71 rfl rfl ?_
              have e : tfC C k p = 4 := by
                  unfold tfC tfN
                  repeat' split
                  all_goals omega
              exact s_iret (pc := 72) S hz hlo hr ⟨rfl, rfl, Or.inr (Or.inr ⟨2, by omega, e, rfl⟩)⟩ (Nat.le_of_ble_eq_true rfl) (Nat.le_of_ble_eq_true rfl) dX7_trayFor_72
            · refine s_iload (pc := 51) S 0 dX7_trayFor_51 rfl ?_
              refine s_istore_n (pc := 53) S [(3, .int (nI 0)), (4, .int (nI 0)), (0, .ref (A 60 100)), (1, .int (nI k)), (2, .int (nI p))] dX7_trayFor_53 rfl (by decide) rfl ?_
              refine s_goto (pc := 54) S 65 dX7_trayFor_54 (by decide) ?_
              refine s_iinc (pc := 65) S 1 [(4, .int (-1)), (3, .int (nI 0)), (0, .ref (A 60 100)), (1, .int (nI k)), (2, .int (nI p))] dX7_trayFor_65 rfl (by decide) (by decide) rfl ?_
              refine s_goto (pc := 68) S 13 dX7_trayFor_68 (by decide) ?_
              refine s_iload (pc := 13) S 0 dX7_trayFor_13 rfl ?_
              refine s_if_lt (pc := 15) S 71 dX7_trayFor_15 (by decide) (fun _ => ?_) (fun h => absurd h (by decide))
              refine s_iload_n (pc := 71) S 1 dX7_trayFor_71 rfl rfl ?_
              have e : tfC C k p = 2 := by
                  unfold tfC tfN
                  repeat' split
                  all_goals omega
              exact s_iret (pc := 72) S hz hlo hr ⟨rfl, rfl, Or.inr (Or.inr ⟨0, by omega, e, rfl⟩)⟩ (Nat.le_of_ble_eq_true rfl) (Nat.le_of_ble_eq_true rfl) dX7_trayFor_72
          · refine s_goto (pc := 38) S 65 dX7_trayFor_38 (by decide) ?_
            refine s_iinc (pc := 65) S 0 [(4, .int (-1)), (3, .int (nI 2)), (0, .ref (A 60 100)), (1, .int (nI k)), (2, .int (nI p))] dX7_trayFor_65 rfl (by decide) (by decide) rfl ?_
            refine s_goto (pc := 68) S 13 dX7_trayFor_68 (by decide) ?_
            refine s_iload (pc := 13) S 0 dX7_trayFor_13 rfl ?_
            refine s_if_lt (pc := 15) S 71 dX7_trayFor_15 (by decide) (fun _ => ?_) (fun h => absurd h (by decide))
            refine s_iload_n (pc := 71) S 1 dX7_trayFor_71 rfl rfl ?_
            have e : tfC C k p = 4 := by
                unfold tfC tfN
                repeat' split
                all_goals omega
            exact s_iret (pc := 72) S hz hlo hr ⟨rfl, rfl, Or.inr (Or.inr ⟨2, by omega, e, rfl⟩)⟩ (Nat.le_of_ble_eq_true rfl) (Nat.le_of_ble_eq_true rfl) dX7_trayFor_72
    · refine s_goto (pc := 38) S 65 dX7_trayFor_38 (by decide) ?_
      refine s_iinc (pc := 65) S 0 [(4, .int (nI 1)), (3, .int (-2)), (0, .ref (A 60 100)), (1, .int (nI k)), (2, .int (nI p))] dX7_trayFor_65 rfl (by decide) (by decide) rfl ?_
      refine s_goto (pc := 68) S 13 dX7_trayFor_68 (by decide) ?_
      refine s_iload (pc := 13) S 0 dX7_trayFor_13 rfl ?_
      refine s_if_ltN (pc := 15) S 71 dX7_trayFor_15 (by decide) (by decide) (fun h => absurd h (by decide)) (fun _ => ?_)
      refine s_aload_n (pc := 18) S 2 dX7_trayFor_18 rfl rfl ?_
      refine s_get (pc := 19) S hz (ref := "SpoolFarmModel") (v := .ref (A 60 8)) (cc_mod (A := A) (C := C)) i_RX7 rfl 8 (Nat.le_of_ble_eq_true rfl) (by decide +kernel) (fun _ h => h) rfl dX7_trayFor_19 ?_
      refine s_iconst (pc := 22) S (v := (nI 3)) dX7_trayFor_22 (by decide) ?_
      refine s_iload_n (pc := 23) S 4 dX7_trayFor_23 rfl rfl ?_
      refine s_imulN (pc := 24) S dX7_trayFor_24 ?_
      refine s_iload (pc := 25) S 0 dX7_trayFor_25 rfl ?_
      refine s_iaddN (pc := 27) S dX7_trayFor_27 ?_
      refine s_cald (pc := 28) S hz (x := C 60 8 ((3 * p) + 1)) (cc_row (A := A) (C := C) (x := aN .char 12 (C 60 8)) 8 (by decide) rfl) (by omega) (by omega) rfl dX7_trayFor_28 ?_
      refine s_aload_n (pc := 29) S 2 dX7_trayFor_29 rfl rfl ?_
      refine s_get (pc := 30) S hz (ref := "SpoolFarmModel") (v := .ref (A 60 9)) (cc_mod (A := A) (C := C)) i_RX7 rfl 9 (Nat.le_of_ble_eq_true rfl) (by decide +kernel) (fun _ h => h) rfl dX7_trayFor_30 ?_
      refine s_iload_n (pc := 33) S 3 dX7_trayFor_33 rfl rfl ?_
      refine s_cald (pc := 34) S hz (x := C 60 9 k) (cc_row (A := A) (C := C) (x := aN .char 40 (C 60 9)) 9 (by decide) rfl) (by omega) (by omega) rfl dX7_trayFor_34 ?_
      refine s_icmp_eqN (pc := 35) S 41 dX7_trayFor_35 (by decide) (by omega) (by omega) (fun c_29 => ?_) (fun c_29 => ?_)
      · refine s_aload_n (pc := 41) S 2 dX7_trayFor_41 rfl rfl ?_
        refine s_get (pc := 42) S hz (ref := "SpoolFarmModel") (v := .ref (A 60 25)) (cc_mod (A := A) (C := C)) i_RX7 rfl 25 (Nat.le_of_ble_eq_true rfl) (by decide +kernel) (fun _ h => h) rfl dX7_trayFor_42 ?_
        refine s_iload (pc := 45) S 0 dX7_trayFor_45 rfl ?_
        refine s_iald (pc := 47) S hz (x := C 60 25 1) (cc_row (A := A) (C := C) (x := aN .int 3 (C 60 25)) 25 (by decide) rfl) (by omega) (by omega) rfl dX7_trayFor_47 ?_
        refine s_if_leN (pc := 48) S 57 dX7_trayFor_48 (by decide) (by omega) (fun c_30 => ?_) (fun c_30 => ?_)
        · refine s_iload_n (pc := 57) S 1 dX7_trayFor_57 rfl rfl ?_
          refine s_bipush (pc := 58) S (v := (-2)) dX7_trayFor_58 (by decide) ?_
          refine s_icmp_ne (pc := 60) S 65 dX7_trayFor_60 (by decide) (fun h => absurd h (by decide)) (fun _ => ?_)
          refine s_iconst (pc := 63) S (v := (-1)) dX7_trayFor_63 (by decide) ?_
          refine s_istore_n (pc := 64) S [(3, .int (-1)), (4, .int (nI 1)), (0, .ref (A 60 100)), (1, .int (nI k)), (2, .int (nI p))] dX7_trayFor_64 rfl (by decide) rfl ?_
          refine s_iinc (pc := 65) S 1 [(4, .int (nI 0)), (3, .int (-1)), (0, .ref (A 60 100)), (1, .int (nI k)), (2, .int (nI p))] dX7_trayFor_65 rfl (by decide) (by decide) rfl ?_
          refine s_goto (pc := 68) S 13 dX7_trayFor_68 (by decide) ?_
          refine s_iload (pc := 13) S 0 dX7_trayFor_13 rfl ?_
          refine s_if_ltN (pc := 15) S 71 dX7_trayFor_15 (by decide) (by decide) (fun h => absurd h (by decide)) (fun _ => ?_)
          refine s_aload_n (pc := 18) S 2 dX7_trayFor_18 rfl rfl ?_
          refine s_get (pc := 19) S hz (ref := "SpoolFarmModel") (v := .ref (A 60 8)) (cc_mod (A := A) (C := C)) i_RX7 rfl 8 (Nat.le_of_ble_eq_true rfl) (by decide +kernel) (fun _ h => h) rfl dX7_trayFor_19 ?_
          refine s_iconst (pc := 22) S (v := (nI 3)) dX7_trayFor_22 (by decide) ?_
          refine s_iload_n (pc := 23) S 4 dX7_trayFor_23 rfl rfl ?_
          refine s_imulN (pc := 24) S dX7_trayFor_24 ?_
          refine s_iload (pc := 25) S 0 dX7_trayFor_25 rfl ?_
          refine s_iaddN (pc := 27) S dX7_trayFor_27 ?_
          refine s_cald (pc := 28) S hz (x := C 60 8 ((3 * p) + 0)) (cc_row (A := A) (C := C) (x := aN .char 12 (C 60 8)) 8 (by decide) rfl) (by omega) (by omega) rfl dX7_trayFor_28 ?_
          refine s_aload_n (pc := 29) S 2 dX7_trayFor_29 rfl rfl ?_
          refine s_get (pc := 30) S hz (ref := "SpoolFarmModel") (v := .ref (A 60 9)) (cc_mod (A := A) (C := C)) i_RX7 rfl 9 (Nat.le_of_ble_eq_true rfl) (by decide +kernel) (fun _ h => h) rfl dX7_trayFor_30 ?_
          refine s_iload_n (pc := 33) S 3 dX7_trayFor_33 rfl rfl ?_
          refine s_cald (pc := 34) S hz (x := C 60 9 k) (cc_row (A := A) (C := C) (x := aN .char 40 (C 60 9)) 9 (by decide) rfl) (by omega) (by omega) rfl dX7_trayFor_34 ?_
          refine s_icmp_eqN (pc := 35) S 41 dX7_trayFor_35 (by decide) (by omega) (by omega) (fun c_31 => ?_) (fun c_31 => ?_)
          · refine s_aload_n (pc := 41) S 2 dX7_trayFor_41 rfl rfl ?_
            refine s_get (pc := 42) S hz (ref := "SpoolFarmModel") (v := .ref (A 60 25)) (cc_mod (A := A) (C := C)) i_RX7 rfl 25 (Nat.le_of_ble_eq_true rfl) (by decide +kernel) (fun _ h => h) rfl dX7_trayFor_42 ?_
            refine s_iload (pc := 45) S 0 dX7_trayFor_45 rfl ?_
            refine s_iald (pc := 47) S hz (x := C 60 25 0) (cc_row (A := A) (C := C) (x := aN .int 3 (C 60 25)) 25 (by decide) rfl) (by omega) (by omega) rfl dX7_trayFor_47 ?_
            refine s_if_leN (pc := 48) S 57 dX7_trayFor_48 (by decide) (by omega) (fun c_32 => ?_) (fun c_32 => ?_)
            · refine s_iload_n (pc := 57) S 1 dX7_trayFor_57 rfl rfl ?_
              refine s_bipush (pc := 58) S (v := (-2)) dX7_trayFor_58 (by decide) ?_
              refine s_icmp_ne (pc := 60) S 65 dX7_trayFor_60 (by decide) (fun _ => ?_) (fun h => absurd h (by decide))
              refine s_iinc (pc := 65) S 0 [(4, .int (-1)), (3, .int (-1)), (0, .ref (A 60 100)), (1, .int (nI k)), (2, .int (nI p))] dX7_trayFor_65 rfl (by decide) (by decide) rfl ?_
              refine s_goto (pc := 68) S 13 dX7_trayFor_68 (by decide) ?_
              refine s_iload (pc := 13) S 0 dX7_trayFor_13 rfl ?_
              refine s_if_lt (pc := 15) S 71 dX7_trayFor_15 (by decide) (fun _ => ?_) (fun h => absurd h (by decide))
              refine s_iload_n (pc := 71) S 1 dX7_trayFor_71 rfl rfl ?_
              have e : tfC C k p = 1 := by
                  unfold tfC tfN
                  repeat' split
                  all_goals omega
              exact s_iret (pc := 72) S hz hlo hr ⟨rfl, rfl, Or.inr (Or.inl ⟨e, rfl⟩)⟩ (Nat.le_of_ble_eq_true rfl) (Nat.le_of_ble_eq_true rfl) dX7_trayFor_72
            · refine s_iload (pc := 51) S 0 dX7_trayFor_51 rfl ?_
              refine s_istore_n (pc := 53) S [(3, .int (nI 0)), (4, .int (nI 0)), (0, .ref (A 60 100)), (1, .int (nI k)), (2, .int (nI p))] dX7_trayFor_53 rfl (by decide) rfl ?_
              refine s_goto (pc := 54) S 65 dX7_trayFor_54 (by decide) ?_
              refine s_iinc (pc := 65) S 1 [(4, .int (-1)), (3, .int (nI 0)), (0, .ref (A 60 100)), (1, .int (nI k)), (2, .int (nI p))] dX7_trayFor_65 rfl (by decide) (by decide) rfl ?_
              refine s_goto (pc := 68) S 13 dX7_trayFor_68 (by decide) ?_
              refine s_iload (pc := 13) S 0 dX7_trayFor_13 rfl ?_
              refine s_if_lt (pc := 15) S 71 dX7_trayFor_15 (by decide) (fun _ => ?_) (fun h => absurd h (by decide))
              refine s_iload_n (pc := 71) S 1 dX7_trayFor_71 rfl rfl ?_
              have e : tfC C k p = 2 := by
                  unfold tfC tfN
                  repeat' split
                  all_goals omega
              exact s_iret (pc := 72) S hz hlo hr ⟨rfl, rfl, Or.inr (Or.inr ⟨0, by omega, e, rfl⟩)⟩ (Nat.le_of_ble_eq_true rfl) (Nat.le_of_ble_eq_true rfl) dX7_trayFor_72
          · refine s_goto (pc := 38) S 65 dX7_trayFor_38 (by decide) ?_
            refine s_iinc (pc := 65) S 0 [(4, .int (-1)), (3, .int (-1)), (0, .ref (A 60 100)), (1, .int (nI k)), (2, .int (nI p))] dX7_trayFor_65 rfl (by decide) (by decide) rfl ?_
            refine s_goto (pc := 68) S 13 dX7_trayFor_68 (by decide) ?_
            refine s_iload (pc := 13) S 0 dX7_trayFor_13 rfl ?_
            refine s_if_lt (pc := 15) S 71 dX7_trayFor_15 (by decide) (fun _ => ?_) (fun h => absurd h (by decide))
            refine s_iload_n (pc := 71) S 1 dX7_trayFor_71 rfl rfl ?_
            have e : tfC C k p = 1 := by
                unfold tfC tfN
                repeat' split
                all_goals omega
            exact s_iret (pc := 72) S hz hlo hr ⟨rfl, rfl, Or.inr (Or.inl ⟨e, rfl⟩)⟩ (Nat.le_of_ble_eq_true rfl) (Nat.le_of_ble_eq_true rfl) dX7_trayFor_72
        · refine s_iload (pc := 51) S 0 dX7_trayFor_51 rfl ?_
          refine s_istore_n (pc := 53) S [(3, .int (nI 1)), (4, .int (nI 1)), (0, .ref (A 60 100)), (1, .int (nI k)), (2, .int (nI p))] dX7_trayFor_53 rfl (by decide) rfl ?_
          refine s_goto (pc := 54) S 65 dX7_trayFor_54 (by decide) ?_
          refine s_iinc (pc := 65) S 1 [(4, .int (nI 0)), (3, .int (nI 1)), (0, .ref (A 60 100)), (1, .int (nI k)), (2, .int (nI p))] dX7_trayFor_65 rfl (by decide) (by decide) rfl ?_
          refine s_goto (pc := 68) S 13 dX7_trayFor_68 (by decide) ?_
          refine s_iload (pc := 13) S 0 dX7_trayFor_13 rfl ?_
          refine s_if_ltN (pc := 15) S 71 dX7_trayFor_15 (by decide) (by decide) (fun h => absurd h (by decide)) (fun _ => ?_)
          refine s_aload_n (pc := 18) S 2 dX7_trayFor_18 rfl rfl ?_
          refine s_get (pc := 19) S hz (ref := "SpoolFarmModel") (v := .ref (A 60 8)) (cc_mod (A := A) (C := C)) i_RX7 rfl 8 (Nat.le_of_ble_eq_true rfl) (by decide +kernel) (fun _ h => h) rfl dX7_trayFor_19 ?_
          refine s_iconst (pc := 22) S (v := (nI 3)) dX7_trayFor_22 (by decide) ?_
          refine s_iload_n (pc := 23) S 4 dX7_trayFor_23 rfl rfl ?_
          refine s_imulN (pc := 24) S dX7_trayFor_24 ?_
          refine s_iload (pc := 25) S 0 dX7_trayFor_25 rfl ?_
          refine s_iaddN (pc := 27) S dX7_trayFor_27 ?_
          refine s_cald (pc := 28) S hz (x := C 60 8 ((3 * p) + 0)) (cc_row (A := A) (C := C) (x := aN .char 12 (C 60 8)) 8 (by decide) rfl) (by omega) (by omega) rfl dX7_trayFor_28 ?_
          refine s_aload_n (pc := 29) S 2 dX7_trayFor_29 rfl rfl ?_
          refine s_get (pc := 30) S hz (ref := "SpoolFarmModel") (v := .ref (A 60 9)) (cc_mod (A := A) (C := C)) i_RX7 rfl 9 (Nat.le_of_ble_eq_true rfl) (by decide +kernel) (fun _ h => h) rfl dX7_trayFor_30 ?_
          refine s_iload_n (pc := 33) S 3 dX7_trayFor_33 rfl rfl ?_
          refine s_cald (pc := 34) S hz (x := C 60 9 k) (cc_row (A := A) (C := C) (x := aN .char 40 (C 60 9)) 9 (by decide) rfl) (by omega) (by omega) rfl dX7_trayFor_34 ?_
          refine s_icmp_eqN (pc := 35) S 41 dX7_trayFor_35 (by decide) (by omega) (by omega) (fun c_33 => ?_) (fun c_33 => ?_)
          · refine s_aload_n (pc := 41) S 2 dX7_trayFor_41 rfl rfl ?_
            refine s_get (pc := 42) S hz (ref := "SpoolFarmModel") (v := .ref (A 60 25)) (cc_mod (A := A) (C := C)) i_RX7 rfl 25 (Nat.le_of_ble_eq_true rfl) (by decide +kernel) (fun _ h => h) rfl dX7_trayFor_42 ?_
            refine s_iload (pc := 45) S 0 dX7_trayFor_45 rfl ?_
            refine s_iald (pc := 47) S hz (x := C 60 25 0) (cc_row (A := A) (C := C) (x := aN .int 3 (C 60 25)) 25 (by decide) rfl) (by omega) (by omega) rfl dX7_trayFor_47 ?_
            refine s_if_leN (pc := 48) S 57 dX7_trayFor_48 (by decide) (by omega) (fun c_34 => ?_) (fun c_34 => ?_)
            · refine s_iload_n (pc := 57) S 1 dX7_trayFor_57 rfl rfl ?_
              refine s_bipush (pc := 58) S (v := (-2)) dX7_trayFor_58 (by decide) ?_
              refine s_icmp_ne (pc := 60) S 65 dX7_trayFor_60 (by decide) (fun _ => ?_) (fun h => absurd h (by decide))
              refine s_iinc (pc := 65) S 0 [(4, .int (-1)), (3, .int (nI 1)), (0, .ref (A 60 100)), (1, .int (nI k)), (2, .int (nI p))] dX7_trayFor_65 rfl (by decide) (by decide) rfl ?_
              refine s_goto (pc := 68) S 13 dX7_trayFor_68 (by decide) ?_
              refine s_iload (pc := 13) S 0 dX7_trayFor_13 rfl ?_
              refine s_if_lt (pc := 15) S 71 dX7_trayFor_15 (by decide) (fun _ => ?_) (fun h => absurd h (by decide))
              refine s_iload_n (pc := 71) S 1 dX7_trayFor_71 rfl rfl ?_
              have e : tfC C k p = 3 := by
                  unfold tfC tfN
                  repeat' split
                  all_goals omega
              exact s_iret (pc := 72) S hz hlo hr ⟨rfl, rfl, Or.inr (Or.inr ⟨1, by omega, e, rfl⟩)⟩ (Nat.le_of_ble_eq_true rfl) (Nat.le_of_ble_eq_true rfl) dX7_trayFor_72
            · refine s_iload (pc := 51) S 0 dX7_trayFor_51 rfl ?_
              refine s_istore_n (pc := 53) S [(3, .int (nI 0)), (4, .int (nI 0)), (0, .ref (A 60 100)), (1, .int (nI k)), (2, .int (nI p))] dX7_trayFor_53 rfl (by decide) rfl ?_
              refine s_goto (pc := 54) S 65 dX7_trayFor_54 (by decide) ?_
              refine s_iinc (pc := 65) S 1 [(4, .int (-1)), (3, .int (nI 0)), (0, .ref (A 60 100)), (1, .int (nI k)), (2, .int (nI p))] dX7_trayFor_65 rfl (by decide) (by decide) rfl ?_
              refine s_goto (pc := 68) S 13 dX7_trayFor_68 (by decide) ?_
              refine s_iload (pc := 13) S 0 dX7_trayFor_13 rfl ?_
              refine s_if_lt (pc := 15) S 71 dX7_trayFor_15 (by decide) (fun _ => ?_) (fun h => absurd h (by decide))
              refine s_iload_n (pc := 71) S 1 dX7_trayFor_71 rfl rfl ?_
              have e : tfC C k p = 2 := by
                  unfold tfC tfN
                  repeat' split
                  all_goals omega
              exact s_iret (pc := 72) S hz hlo hr ⟨rfl, rfl, Or.inr (Or.inr ⟨0, by omega, e, rfl⟩)⟩ (Nat.le_of_ble_eq_true rfl) (Nat.le_of_ble_eq_true rfl) dX7_trayFor_72
          · refine s_goto (pc := 38) S 65 dX7_trayFor_38 (by decide) ?_
            refine s_iinc (pc := 65) S 0 [(4, .int (-1)), (3, .int (nI 1)), (0, .ref (A 60 100)), (1, .int (nI k)), (2, .int (nI p))] dX7_trayFor_65 rfl (by decide) (by decide) rfl ?_
            refine s_goto (pc := 68) S 13 dX7_trayFor_68 (by decide) ?_
            refine s_iload (pc := 13) S 0 dX7_trayFor_13 rfl ?_
            refine s_if_lt (pc := 15) S 71 dX7_trayFor_15 (by decide) (fun _ => ?_) (fun h => absurd h (by decide))
            refine s_iload_n (pc := 71) S 1 dX7_trayFor_71 rfl rfl ?_
            have e : tfC C k p = 3 := by
                unfold tfC tfN
                repeat' split
                all_goals omega
            exact s_iret (pc := 72) S hz hlo hr ⟨rfl, rfl, Or.inr (Or.inr ⟨1, by omega, e, rfl⟩)⟩ (Nat.le_of_ble_eq_true rfl) (Nat.le_of_ble_eq_true rfl) dX7_trayFor_72
      · refine s_goto (pc := 38) S 65 dX7_trayFor_38 (by decide) ?_
        refine s_iinc (pc := 65) S 0 [(4, .int (nI 0)), (3, .int (-2)), (0, .ref (A 60 100)), (1, .int (nI k)), (2, .int (nI p))] dX7_trayFor_65 rfl (by decide) (by decide) rfl ?_
        refine s_goto (pc := 68) S 13 dX7_trayFor_68 (by decide) ?_
        refine s_iload (pc := 13) S 0 dX7_trayFor_13 rfl ?_
        refine s_if_ltN (pc := 15) S 71 dX7_trayFor_15 (by decide) (by decide) (fun h => absurd h (by decide)) (fun _ => ?_)
        refine s_aload_n (pc := 18) S 2 dX7_trayFor_18 rfl rfl ?_
        refine s_get (pc := 19) S hz (ref := "SpoolFarmModel") (v := .ref (A 60 8)) (cc_mod (A := A) (C := C)) i_RX7 rfl 8 (Nat.le_of_ble_eq_true rfl) (by decide +kernel) (fun _ h => h) rfl dX7_trayFor_19 ?_
        refine s_iconst (pc := 22) S (v := (nI 3)) dX7_trayFor_22 (by decide) ?_
        refine s_iload_n (pc := 23) S 4 dX7_trayFor_23 rfl rfl ?_
        refine s_imulN (pc := 24) S dX7_trayFor_24 ?_
        refine s_iload (pc := 25) S 0 dX7_trayFor_25 rfl ?_
        refine s_iaddN (pc := 27) S dX7_trayFor_27 ?_
        refine s_cald (pc := 28) S hz (x := C 60 8 ((3 * p) + 0)) (cc_row (A := A) (C := C) (x := aN .char 12 (C 60 8)) 8 (by decide) rfl) (by omega) (by omega) rfl dX7_trayFor_28 ?_
        refine s_aload_n (pc := 29) S 2 dX7_trayFor_29 rfl rfl ?_
        refine s_get (pc := 30) S hz (ref := "SpoolFarmModel") (v := .ref (A 60 9)) (cc_mod (A := A) (C := C)) i_RX7 rfl 9 (Nat.le_of_ble_eq_true rfl) (by decide +kernel) (fun _ h => h) rfl dX7_trayFor_30 ?_
        refine s_iload_n (pc := 33) S 3 dX7_trayFor_33 rfl rfl ?_
        refine s_cald (pc := 34) S hz (x := C 60 9 k) (cc_row (A := A) (C := C) (x := aN .char 40 (C 60 9)) 9 (by decide) rfl) (by omega) (by omega) rfl dX7_trayFor_34 ?_
        refine s_icmp_eqN (pc := 35) S 41 dX7_trayFor_35 (by decide) (by omega) (by omega) (fun c_35 => ?_) (fun c_35 => ?_)
        · refine s_aload_n (pc := 41) S 2 dX7_trayFor_41 rfl rfl ?_
          refine s_get (pc := 42) S hz (ref := "SpoolFarmModel") (v := .ref (A 60 25)) (cc_mod (A := A) (C := C)) i_RX7 rfl 25 (Nat.le_of_ble_eq_true rfl) (by decide +kernel) (fun _ h => h) rfl dX7_trayFor_42 ?_
          refine s_iload (pc := 45) S 0 dX7_trayFor_45 rfl ?_
          refine s_iald (pc := 47) S hz (x := C 60 25 0) (cc_row (A := A) (C := C) (x := aN .int 3 (C 60 25)) 25 (by decide) rfl) (by omega) (by omega) rfl dX7_trayFor_47 ?_
          refine s_if_leN (pc := 48) S 57 dX7_trayFor_48 (by decide) (by omega) (fun c_36 => ?_) (fun c_36 => ?_)
          · refine s_iload_n (pc := 57) S 1 dX7_trayFor_57 rfl rfl ?_
            refine s_bipush (pc := 58) S (v := (-2)) dX7_trayFor_58 (by decide) ?_
            refine s_icmp_ne (pc := 60) S 65 dX7_trayFor_60 (by decide) (fun h => absurd h (by decide)) (fun _ => ?_)
            refine s_iconst (pc := 63) S (v := (-1)) dX7_trayFor_63 (by decide) ?_
            refine s_istore_n (pc := 64) S [(3, .int (-1)), (4, .int (nI 0)), (0, .ref (A 60 100)), (1, .int (nI k)), (2, .int (nI p))] dX7_trayFor_64 rfl (by decide) rfl ?_
            refine s_iinc (pc := 65) S 1 [(4, .int (-1)), (3, .int (-1)), (0, .ref (A 60 100)), (1, .int (nI k)), (2, .int (nI p))] dX7_trayFor_65 rfl (by decide) (by decide) rfl ?_
            refine s_goto (pc := 68) S 13 dX7_trayFor_68 (by decide) ?_
            refine s_iload (pc := 13) S 0 dX7_trayFor_13 rfl ?_
            refine s_if_lt (pc := 15) S 71 dX7_trayFor_15 (by decide) (fun _ => ?_) (fun h => absurd h (by decide))
            refine s_iload_n (pc := 71) S 1 dX7_trayFor_71 rfl rfl ?_
            have e : tfC C k p = 1 := by
                unfold tfC tfN
                repeat' split
                all_goals omega
            exact s_iret (pc := 72) S hz hlo hr ⟨rfl, rfl, Or.inr (Or.inl ⟨e, rfl⟩)⟩ (Nat.le_of_ble_eq_true rfl) (Nat.le_of_ble_eq_true rfl) dX7_trayFor_72
          · refine s_iload (pc := 51) S 0 dX7_trayFor_51 rfl ?_
            refine s_istore_n (pc := 53) S [(3, .int (nI 0)), (4, .int (nI 0)), (0, .ref (A 60 100)), (1, .int (nI k)), (2, .int (nI p))] dX7_trayFor_53 rfl (by decide) rfl ?_
            refine s_goto (pc := 54) S 65 dX7_trayFor_54 (by decide) ?_
            refine s_iinc (pc := 65) S 1 [(4, .int (-1)), (3, .int (nI 0)), (0, .ref (A 60 100)), (1, .int (nI k)), (2, .int (nI p))] dX7_trayFor_65 rfl (by decide) (by decide) rfl ?_
            refine s_goto (pc := 68) S 13 dX7_trayFor_68 (by decide) ?_
            refine s_iload (pc := 13) S 0 dX7_trayFor_13 rfl ?_
            refine s_if_lt (pc := 15) S 71 dX7_trayFor_15 (by decide) (fun _ => ?_) (fun h => absurd h (by decide))
            refine s_iload_n (pc := 71) S 1 dX7_trayFor_71 rfl rfl ?_
            have e : tfC C k p = 2 := by
                unfold tfC tfN
                repeat' split
                all_goals omega
            exact s_iret (pc := 72) S hz hlo hr ⟨rfl, rfl, Or.inr (Or.inr ⟨0, by omega, e, rfl⟩)⟩ (Nat.le_of_ble_eq_true rfl) (Nat.le_of_ble_eq_true rfl) dX7_trayFor_72
        · refine s_goto (pc := 38) S 65 dX7_trayFor_38 (by decide) ?_
          refine s_iinc (pc := 65) S 0 [(4, .int (-1)), (3, .int (-2)), (0, .ref (A 60 100)), (1, .int (nI k)), (2, .int (nI p))] dX7_trayFor_65 rfl (by decide) (by decide) rfl ?_
          refine s_goto (pc := 68) S 13 dX7_trayFor_68 (by decide) ?_
          refine s_iload (pc := 13) S 0 dX7_trayFor_13 rfl ?_
          refine s_if_lt (pc := 15) S 71 dX7_trayFor_15 (by decide) (fun _ => ?_) (fun h => absurd h (by decide))
          refine s_iload_n (pc := 71) S 1 dX7_trayFor_71 rfl rfl ?_
          have e : tfC C k p = 0 := by
              unfold tfC tfN
              repeat' split
              all_goals omega
          exact s_iret (pc := 72) S hz hlo hr ⟨rfl, rfl, Or.inl ⟨e, rfl⟩⟩ (Nat.le_of_ble_eq_true rfl) (Nat.le_of_ble_eq_true rfl) dX7_trayFor_72
set_option maxHeartbeats 4000000 in
set_option maxRecDepth 100000 in
theorem k_X7_reason (Z : Zp) (l : Launch) (A : AF) (C : CF) (k p : Nat) (hk : k < 40) (hp : p < 4) (hnt : C 60 2 p ≤ 3) (hq : C 60 9 k < 65536) (hw : ∀ t : Nat, C 60 8 t < 65536) (hx : ∀ t : Nat, C 60 25 t ≤ 500) (hd : C 60 13 k < 2) (hg : 1 ≤ C 60 17 k) (hg2 : C 60 17 k ≤ 100) (hcp : C 60 18 k ≤ 9) (hcn : C 60 15 k < 2) (hb : C 60 12 k < 2) (hac : C 60 11 p < 2) (hbl : C 60 100 35 ≤ 9999) (hcl : C 60 100 36 ≤ 9999) (hqt : C 60 100 37 ≤ 9999) (s0 : Nat) (hs : s0 < 2 ^ 30) : CtS Z l yX7_reason wsX7_reason ({ frames := 2, cells := 0, slots := 0, locals := 43 }) [.ref (A 60 100), .int (nI k), .int (nI p), .int (nI s0)] A C 0 0 (fun v A2 C2 => A = A2 ∧ C = C2 ∧ some (.int (nI (rsC C k p s0))) = v) (fun _ _ _ => False) := by
  refine CtS.of (cc0 := cX7_reason) (maxL := 6) (ret := (some .char)) (by decide) rfl (Nat.le_of_ble_eq_true rfl) ?_
  intro M0_ p_ e_ s_ m_ args_ below_ meth_ c_ S hz hml hex hlo hr hin
  refine s_loc (L2 := [(0, .ref (A 60 100)), (1, .int (nI k)), (2, .int (nI p)), (3, .int (nI s0))]) rfl ?_
  have i_RX7 : ∀ w ∈ u_ws RX7 TX7 38, w ∈ wsX7_reason := by decide +kernel
  have hpn := ponN_le (C 60 13 k) (C 60 17 k) s0
  have hal : csN (C 60 13 k) (C 60 17 k) * C 60 18 k < 2 ^ 31 := al_lt hg hg2 hcp
  refine s_iload_n (pc := 0) S 3 dX7_reason_0 rfl rfl ?_
  refine s_aload_n (pc := 1) S 0 dX7_reason_1 rfl rfl ?_
  refine s_iload_n (pc := 2) S 1 dX7_reason_2 rfl rfl ?_
  refine s_callV (pc := 3) S hz hml [.int (nI k)] (k_X7_allSheets Z l A C k hk hd hg hg2) (cwV 1 S.2.2.2.2 gX7_reason_X7_allSheets rfl rfl rfl (by decide +kernel) ⟨Nat.le_of_ble_eq_true rfl, Nat.le_of_ble_eq_true rfl⟩) (cc_mod (A := A) (C := C)) rfl rfl rfl (Nat.le_of_ble_eq_true rfl) dX7_reason_3 ⟨Nat.le_of_ble_eq_true rfl, Nat.le_of_ble_eq_true rfl⟩ (fun _ _ _ h => h.elim) (fun v A2 C2 h_1 => ?_)
  obtain ⟨rfl, rfl, rfl⟩ := h_1
  refine s_icmp_neN (pc := 6) S 12 dX7_reason_6 (by decide) (by omega) (by omega) (fun c_2 => ?_) (fun c_2 => ?_)
  · refine s_aload_n (pc := 12) S 0 dX7_reason_12 rfl rfl ?_
    refine s_get (pc := 13) S hz (ref := "SpoolFarmModel") (v := .ref (A 60 15)) (cc_mod (A := A) (C := C)) i_RX7 rfl 15 (Nat.le_of_ble_eq_true rfl) (by decide +kernel) (fun _ h => h) rfl dX7_reason_13 ?_
    refine s_iload_n (pc := 16) S 1 dX7_reason_16 rfl rfl ?_
    refine s_zald (pc := 17) S hz (x := C 60 15 k) (cc_row (A := A) (C := C) (x := aN .boolean 40 (C 60 15)) 15 (by decide) rfl) (by omega) (by omega) rfl dX7_reason_17 ?_
    refine s_if_eqN (pc := 18) S 24 dX7_reason_18 (by decide) (by omega) (fun c_3 => ?_) (fun c_3 => ?_)
    · refine s_aload_n (pc := 24) S 0 dX7_reason_24 rfl rfl ?_
      refine s_get (pc := 25) S hz (ref := "SpoolFarmModel") (v := .ref (A 60 12)) (cc_mod (A := A) (C := C)) i_RX7 rfl 12 (Nat.le_of_ble_eq_true rfl) (by decide +kernel) (fun _ h => h) rfl dX7_reason_25 ?_
      refine s_iload_n (pc := 28) S 1 dX7_reason_28 rfl rfl ?_
      refine s_zald (pc := 29) S hz (x := C 60 12 k) (cc_row (A := A) (C := C) (x := aN .boolean 40 (C 60 12)) 12 (by decide) rfl) (by omega) (by omega) rfl dX7_reason_29 ?_
      refine s_if_eqN (pc := 30) S 45 dX7_reason_30 (by decide) (by omega) (fun c_4 => ?_) (fun c_4 => ?_)
      · refine s_aload_n (pc := 45) S 0 dX7_reason_45 rfl rfl ?_
        refine s_iload_n (pc := 46) S 1 dX7_reason_46 rfl rfl ?_
        refine s_iload_n (pc := 47) S 2 dX7_reason_47 rfl rfl ?_
        refine s_callV (pc := 48) S hz hml [.int (nI k), .int (nI p)] (k_X7_trayFor Z l A C k p hk hp hnt hq hw hx) (cwV 2 S.2.2.2.2 gX7_reason_X7_trayFor rfl rfl rfl (by decide +kernel) ⟨Nat.le_of_ble_eq_true rfl, Nat.le_of_ble_eq_true rfl⟩) (cc_mod (A := A) (C := C)) rfl rfl rfl (Nat.le_of_ble_eq_true rfl) dX7_reason_48 ⟨Nat.le_of_ble_eq_true rfl, Nat.le_of_ble_eq_true rfl⟩ (fun _ _ _ h => h.elim) (fun v A2 C2 h_5 => ?_)
        rcases h_5 with ⟨rfl, rfl, ⟨tf_6, rfl⟩ | ⟨tf_7, rfl⟩ | ⟨t_9, ht_10, tf_8, rfl⟩⟩
        · refine s_istore (pc := 51) S [(4, .int (-2)), (0, .ref (A 60 100)), (1, .int (nI k)), (2, .int (nI p)), (3, .int (nI s0))] dX7_reason_51 (by decide) rfl ?_
          refine s_iload (pc := 53) S 0 dX7_reason_53 rfl ?_
          refine s_if_ge (pc := 55) S 72 dX7_reason_55 (by decide) (fun h => absurd h (by decide)) (fun _ => ?_)
          refine s_iload (pc := 58) S 0 dX7_reason_58 rfl ?_
          refine s_iconst (pc := 60) S (v := (-1)) dX7_reason_60 (by decide) ?_
          refine s_icmp_ne (pc := 61) S 69 dX7_reason_61 (by decide) (fun _ => ?_) (fun h => absurd h (by decide))
          refine s_bipush (pc := 69) S (v := (nI 107)) dX7_reason_69 (by decide) ?_
          have e : rsC C k p s0 = 107 := by
              unfold rsC
              repeat' split
              all_goals omega
          exact s_zret (pc := 71) S hz hlo (nar_c (by omega)) hr ⟨rfl, rfl, by rw [e]⟩ (Nat.le_of_ble_eq_true rfl) (Nat.le_of_ble_eq_true rfl) dX7_reason_71
        · refine s_istore (pc := 51) S [(4, .int (-1)), (0, .ref (A 60 100)), (1, .int (nI k)), (2, .int (nI p)), (3, .int (nI s0))] dX7_reason_51 (by decide) rfl ?_
          refine s_iload (pc := 53) S 0 dX7_reason_53 rfl ?_
          refine s_if_ge (pc := 55) S 72 dX7_reason_55 (by decide) (fun h => absurd h (by decide)) (fun _ => ?_)
          refine s_iload (pc := 58) S 0 dX7_reason_58 rfl ?_
          refine s_iconst (pc := 60) S (v := (-1)) dX7_reason_60 (by decide) ?_
          refine s_icmp_ne (pc := 61) S 69 dX7_reason_61 (by decide) (fun h => absurd h (by decide)) (fun _ => ?_)
          refine s_bipush (pc := 64) S (v := (nI 112)) dX7_reason_64 (by decide) ?_
          refine s_goto (pc := 66) S 71 dX7_reason_66 (by decide) ?_
          have e : rsC C k p s0 = 112 := by
              unfold rsC
              repeat' split
              all_goals omega
          exact s_zret (pc := 71) S hz hlo (nar_c (by omega)) hr ⟨rfl, rfl, by rw [e]⟩ (Nat.le_of_ble_eq_true rfl) (Nat.le_of_ble_eq_true rfl) dX7_reason_71
        · refine s_istore (pc := 51) S [(4, .int (nI t_9)), (0, .ref (A 60 100)), (1, .int (nI k)), (2, .int (nI p)), (3, .int (nI s0))] dX7_reason_51 (by decide) rfl ?_
          refine s_iload (pc := 53) S 0 dX7_reason_53 rfl ?_
          refine s_if_geN (pc := 55) S 72 dX7_reason_55 (by decide) (by omega) (fun c_11 => ?_) (fun c_11 => absurd c_11 (by omega))
          refine s_aload_n (pc := 72) S 1 dX7_reason_72 rfl rfl ?_
          refine s_iload_n (pc := 73) S 2 dX7_reason_73 rfl rfl ?_
          refine s_iload_n (pc := 74) S 4 dX7_reason_74 rfl rfl ?_
          refine s_callV (pc := 75) S hz hml [.int (nI k), .int (nI s0)] (k_X7_pagesOn Z l A C k hk hd hg hg2 s0 (by omega)) (cwV 2 S.2.2.2.2 gX7_reason_X7_pagesOn rfl rfl rfl (by decide +kernel) ⟨Nat.le_of_ble_eq_true rfl, Nat.le_of_ble_eq_true rfl⟩) (cc_mod (A := A) (C := C)) rfl rfl rfl (Nat.le_of_ble_eq_true rfl) dX7_reason_75 ⟨Nat.le_of_ble_eq_true rfl, Nat.le_of_ble_eq_true rfl⟩ (fun _ _ _ h => h.elim) (fun v A2 C2 h_12 => ?_)
          obtain ⟨rfl, rfl, rfl⟩ := h_12
          refine s_istore (pc := 78) S [(5, .int (nI (ponN (C 60 13 k) (C 60 17 k) s0))), (4, .int (nI t_9)), (0, .ref (A 60 100)), (1, .int (nI k)), (2, .int (nI p)), (3, .int (nI s0))] dX7_reason_78 (by decide) rfl ?_
          refine s_aload_n (pc := 80) S 2 dX7_reason_80 rfl rfl ?_
          refine s_get (pc := 81) S hz (ref := "SpoolFarmModel") (v := .int (nI (C 60 100 35))) (cc_mod (A := A) (C := C)) i_RX7 rfl 35 (Nat.le_of_ble_eq_true rfl) (by decide +kernel) (fun _ h => h) rfl dX7_reason_81 ?_
          refine s_aload_n (pc := 84) S 2 dX7_reason_84 rfl rfl ?_
          refine s_get (pc := 85) S hz (ref := "SpoolFarmModel") (v := .ref (A 60 12)) (cc_mod (A := A) (C := C)) i_RX7 rfl 12 (Nat.le_of_ble_eq_true rfl) (by decide +kernel) (fun _ h => h) rfl dX7_reason_85 ?_
          refine s_iload_n (pc := 88) S 3 dX7_reason_88 rfl rfl ?_
          refine s_zald (pc := 89) S hz (x := C 60 12 k) (cc_row (A := A) (C := C) (x := aN .boolean 40 (C 60 12)) 12 (by decide) rfl) (by omega) (by omega) rfl dX7_reason_89 ?_
          refine s_if_eqN (pc := 90) S 98 dX7_reason_90 (by decide) (by omega) (fun c_13 => ?_) (fun c_13 => absurd c_13 (by omega))
          refine s_iconst (pc := 98) S (v := (nI 2)) dX7_reason_98 (by decide) ?_
          refine s_iload (pc := 99) S 0 dX7_reason_99 rfl ?_
          refine s_imulN (pc := 101) S dX7_reason_101 ?_
          refine s_icmp_geN (pc := 102) S 108 dX7_reason_102 (by decide) (by omega) (by omega) (fun c_14 => ?_) (fun c_14 => ?_)
          · refine s_aload_n (pc := 108) S 2 dX7_reason_108 rfl rfl ?_
            refine s_get (pc := 109) S hz (ref := "SpoolFarmModel") (v := .ref (A 60 12)) (cc_mod (A := A) (C := C)) i_RX7 rfl 12 (Nat.le_of_ble_eq_true rfl) (by decide +kernel) (fun _ h => h) rfl dX7_reason_109 ?_
            refine s_iload_n (pc := 112) S 3 dX7_reason_112 rfl rfl ?_
            refine s_zald (pc := 113) S hz (x := C 60 12 k) (cc_row (A := A) (C := C) (x := aN .boolean 40 (C 60 12)) 12 (by decide) rfl) (by omega) (by omega) rfl dX7_reason_113 ?_
            refine s_if_eqN (pc := 114) S 131 dX7_reason_114 (by decide) (by omega) (fun c_15 => ?_) (fun c_15 => absurd c_15 (by omega))
            refine s_aload_n (pc := 131) S 2 dX7_reason_131 rfl rfl ?_
            refine s_get (pc := 132) S hz (ref := "SpoolFarmModel") (v := .int (nI (C 60 100 37))) (cc_mod (A := A) (C := C)) i_RX7 rfl 37 (Nat.le_of_ble_eq_true rfl) (by decide +kernel) (fun _ h => h) rfl dX7_reason_132 ?_
            refine s_iload (pc := 135) S 0 dX7_reason_135 rfl ?_
            refine s_icmp_geN (pc := 137) S 145 dX7_reason_137 (by decide) (by omega) (by omega) (fun c_16 => ?_) (fun c_16 => ?_)
            · refine s_bipush (pc := 145) S (v := (nI 45)) dX7_reason_145 (by decide) ?_
              have e : rsC C k p s0 = 45 := by
                  unfold rsC
                  repeat' split
                  all_goals omega
              exact s_zret (pc := 147) S hz hlo (nar_c (by omega)) hr ⟨rfl, rfl, by rw [e]⟩ (Nat.le_of_ble_eq_true rfl) (Nat.le_of_ble_eq_true rfl) dX7_reason_147
            · refine s_bipush (pc := 140) S (v := (nI 113)) dX7_reason_140 (by decide) ?_
              refine s_goto (pc := 142) S 147 dX7_reason_142 (by decide) ?_
              have e : rsC C k p s0 = 113 := by
                  unfold rsC
                  repeat' split
                  all_goals omega
              exact s_zret (pc := 147) S hz hlo (nar_c (by omega)) hr ⟨rfl, rfl, by rw [e]⟩ (Nat.le_of_ble_eq_true rfl) (Nat.le_of_ble_eq_true rfl) dX7_reason_147
          · refine s_bipush (pc := 105) S (v := (nI 116)) dX7_reason_105 (by decide) ?_
            have e : rsC C k p s0 = 116 := by
                unfold rsC
                repeat' split
                all_goals omega
            exact s_zret (pc := 107) S hz hlo (nar_c (by omega)) hr ⟨rfl, rfl, by rw [e]⟩ (Nat.le_of_ble_eq_true rfl) (Nat.le_of_ble_eq_true rfl) dX7_reason_107
      · refine s_aload_n (pc := 33) S 0 dX7_reason_33 rfl rfl ?_
        refine s_get (pc := 34) S hz (ref := "SpoolFarmModel") (v := .ref (A 60 11)) (cc_mod (A := A) (C := C)) i_RX7 rfl 11 (Nat.le_of_ble_eq_true rfl) (by decide +kernel) (fun _ h => h) rfl dX7_reason_34 ?_
        refine s_iload_n (pc := 37) S 2 dX7_reason_37 rfl rfl ?_
        refine s_zald (pc := 38) S hz (x := C 60 11 p) (cc_row (A := A) (C := C) (x := aN .boolean 4 (C 60 11)) 11 (by decide) rfl) (by omega) (by omega) rfl dX7_reason_38 ?_
        refine s_if_neN (pc := 39) S 45 dX7_reason_39 (by decide) (by omega) (fun c_17 => ?_) (fun c_17 => ?_)
        · refine s_aload_n (pc := 45) S 0 dX7_reason_45 rfl rfl ?_
          refine s_iload_n (pc := 46) S 1 dX7_reason_46 rfl rfl ?_
          refine s_iload_n (pc := 47) S 2 dX7_reason_47 rfl rfl ?_
          refine s_callV (pc := 48) S hz hml [.int (nI k), .int (nI p)] (k_X7_trayFor Z l A C k p hk hp hnt hq hw hx) (cwV 2 S.2.2.2.2 gX7_reason_X7_trayFor rfl rfl rfl (by decide +kernel) ⟨Nat.le_of_ble_eq_true rfl, Nat.le_of_ble_eq_true rfl⟩) (cc_mod (A := A) (C := C)) rfl rfl rfl (Nat.le_of_ble_eq_true rfl) dX7_reason_48 ⟨Nat.le_of_ble_eq_true rfl, Nat.le_of_ble_eq_true rfl⟩ (fun _ _ _ h => h.elim) (fun v A2 C2 h_18 => ?_)
          rcases h_18 with ⟨rfl, rfl, ⟨tf_19, rfl⟩ | ⟨tf_20, rfl⟩ | ⟨t_22, ht_23, tf_21, rfl⟩⟩
          · refine s_istore (pc := 51) S [(4, .int (-2)), (0, .ref (A 60 100)), (1, .int (nI k)), (2, .int (nI p)), (3, .int (nI s0))] dX7_reason_51 (by decide) rfl ?_
            refine s_iload (pc := 53) S 0 dX7_reason_53 rfl ?_
            refine s_if_ge (pc := 55) S 72 dX7_reason_55 (by decide) (fun h => absurd h (by decide)) (fun _ => ?_)
            refine s_iload (pc := 58) S 0 dX7_reason_58 rfl ?_
            refine s_iconst (pc := 60) S (v := (-1)) dX7_reason_60 (by decide) ?_
            refine s_icmp_ne (pc := 61) S 69 dX7_reason_61 (by decide) (fun _ => ?_) (fun h => absurd h (by decide))
            refine s_bipush (pc := 69) S (v := (nI 107)) dX7_reason_69 (by decide) ?_
            have e : rsC C k p s0 = 107 := by
                unfold rsC
                repeat' split
                all_goals omega
            exact s_zret (pc := 71) S hz hlo (nar_c (by omega)) hr ⟨rfl, rfl, by rw [e]⟩ (Nat.le_of_ble_eq_true rfl) (Nat.le_of_ble_eq_true rfl) dX7_reason_71
          · refine s_istore (pc := 51) S [(4, .int (-1)), (0, .ref (A 60 100)), (1, .int (nI k)), (2, .int (nI p)), (3, .int (nI s0))] dX7_reason_51 (by decide) rfl ?_
            refine s_iload (pc := 53) S 0 dX7_reason_53 rfl ?_
            refine s_if_ge (pc := 55) S 72 dX7_reason_55 (by decide) (fun h => absurd h (by decide)) (fun _ => ?_)
            refine s_iload (pc := 58) S 0 dX7_reason_58 rfl ?_
            refine s_iconst (pc := 60) S (v := (-1)) dX7_reason_60 (by decide) ?_
            refine s_icmp_ne (pc := 61) S 69 dX7_reason_61 (by decide) (fun h => absurd h (by decide)) (fun _ => ?_)
            refine s_bipush (pc := 64) S (v := (nI 112)) dX7_reason_64 (by decide) ?_
            refine s_goto (pc := 66) S 71 dX7_reason_66 (by decide) ?_
            have e : rsC C k p s0 = 112 := by
                unfold rsC
                repeat' split
                all_goals omega
            exact s_zret (pc := 71) S hz hlo (nar_c (by omega)) hr ⟨rfl, rfl, by rw [e]⟩ (Nat.le_of_ble_eq_true rfl) (Nat.le_of_ble_eq_true rfl) dX7_reason_71
          · refine s_istore (pc := 51) S [(4, .int (nI t_22)), (0, .ref (A 60 100)), (1, .int (nI k)), (2, .int (nI p)), (3, .int (nI s0))] dX7_reason_51 (by decide) rfl ?_
            refine s_iload (pc := 53) S 0 dX7_reason_53 rfl ?_
            refine s_if_geN (pc := 55) S 72 dX7_reason_55 (by decide) (by omega) (fun c_24 => ?_) (fun c_24 => absurd c_24 (by omega))
            refine s_aload_n (pc := 72) S 1 dX7_reason_72 rfl rfl ?_
            refine s_iload_n (pc := 73) S 2 dX7_reason_73 rfl rfl ?_
            refine s_iload_n (pc := 74) S 4 dX7_reason_74 rfl rfl ?_
            refine s_callV (pc := 75) S hz hml [.int (nI k), .int (nI s0)] (k_X7_pagesOn Z l A C k hk hd hg hg2 s0 (by omega)) (cwV 2 S.2.2.2.2 gX7_reason_X7_pagesOn rfl rfl rfl (by decide +kernel) ⟨Nat.le_of_ble_eq_true rfl, Nat.le_of_ble_eq_true rfl⟩) (cc_mod (A := A) (C := C)) rfl rfl rfl (Nat.le_of_ble_eq_true rfl) dX7_reason_75 ⟨Nat.le_of_ble_eq_true rfl, Nat.le_of_ble_eq_true rfl⟩ (fun _ _ _ h => h.elim) (fun v A2 C2 h_25 => ?_)
            obtain ⟨rfl, rfl, rfl⟩ := h_25
            refine s_istore (pc := 78) S [(5, .int (nI (ponN (C 60 13 k) (C 60 17 k) s0))), (4, .int (nI t_22)), (0, .ref (A 60 100)), (1, .int (nI k)), (2, .int (nI p)), (3, .int (nI s0))] dX7_reason_78 (by decide) rfl ?_
            refine s_aload_n (pc := 80) S 2 dX7_reason_80 rfl rfl ?_
            refine s_get (pc := 81) S hz (ref := "SpoolFarmModel") (v := .int (nI (C 60 100 35))) (cc_mod (A := A) (C := C)) i_RX7 rfl 35 (Nat.le_of_ble_eq_true rfl) (by decide +kernel) (fun _ h => h) rfl dX7_reason_81 ?_
            refine s_aload_n (pc := 84) S 2 dX7_reason_84 rfl rfl ?_
            refine s_get (pc := 85) S hz (ref := "SpoolFarmModel") (v := .ref (A 60 12)) (cc_mod (A := A) (C := C)) i_RX7 rfl 12 (Nat.le_of_ble_eq_true rfl) (by decide +kernel) (fun _ h => h) rfl dX7_reason_85 ?_
            refine s_iload_n (pc := 88) S 3 dX7_reason_88 rfl rfl ?_
            refine s_zald (pc := 89) S hz (x := C 60 12 k) (cc_row (A := A) (C := C) (x := aN .boolean 40 (C 60 12)) 12 (by decide) rfl) (by omega) (by omega) rfl dX7_reason_89 ?_
            refine s_if_eqN (pc := 90) S 98 dX7_reason_90 (by decide) (by omega) (fun c_26 => absurd c_26 (by omega)) (fun c_26 => ?_)
            refine s_iload (pc := 93) S 0 dX7_reason_93 rfl ?_
            refine s_goto (pc := 95) S 102 dX7_reason_95 (by decide) ?_
            refine s_icmp_geN (pc := 102) S 108 dX7_reason_102 (by decide) (by omega) (by omega) (fun c_27 => ?_) (fun c_27 => ?_)
            · refine s_aload_n (pc := 108) S 2 dX7_reason_108 rfl rfl ?_
              refine s_get (pc := 109) S hz (ref := "SpoolFarmModel") (v := .ref (A 60 12)) (cc_mod (A := A) (C := C)) i_RX7 rfl 12 (Nat.le_of_ble_eq_true rfl) (by decide +kernel) (fun _ h => h) rfl dX7_reason_109 ?_
              refine s_iload_n (pc := 112) S 3 dX7_reason_112 rfl rfl ?_
              refine s_zald (pc := 113) S hz (x := C 60 12 k) (cc_row (A := A) (C := C) (x := aN .boolean 40 (C 60 12)) 12 (by decide) rfl) (by omega) (by omega) rfl dX7_reason_113 ?_
              refine s_if_eqN (pc := 114) S 131 dX7_reason_114 (by decide) (by omega) (fun c_28 => absurd c_28 (by omega)) (fun c_28 => ?_)
              refine s_aload_n (pc := 117) S 2 dX7_reason_117 rfl rfl ?_
              refine s_get (pc := 118) S hz (ref := "SpoolFarmModel") (v := .int (nI (C 60 100 36))) (cc_mod (A := A) (C := C)) i_RX7 rfl 36 (Nat.le_of_ble_eq_true rfl) (by decide +kernel) (fun _ h => h) rfl dX7_reason_118 ?_
              refine s_iconst (pc := 121) S (v := (nI 3)) dX7_reason_121 (by decide) ?_
              refine s_iload (pc := 122) S 0 dX7_reason_122 rfl ?_
              refine s_imulN (pc := 124) S dX7_reason_124 ?_
              refine s_icmp_geN (pc := 125) S 131 dX7_reason_125 (by decide) (by omega) (by omega) (fun c_29 => ?_) (fun c_29 => ?_)
              · refine s_aload_n (pc := 131) S 2 dX7_reason_131 rfl rfl ?_
                refine s_get (pc := 132) S hz (ref := "SpoolFarmModel") (v := .int (nI (C 60 100 37))) (cc_mod (A := A) (C := C)) i_RX7 rfl 37 (Nat.le_of_ble_eq_true rfl) (by decide +kernel) (fun _ h => h) rfl dX7_reason_132 ?_
                refine s_iload (pc := 135) S 0 dX7_reason_135 rfl ?_
                refine s_icmp_geN (pc := 137) S 145 dX7_reason_137 (by decide) (by omega) (by omega) (fun c_30 => ?_) (fun c_30 => ?_)
                · refine s_bipush (pc := 145) S (v := (nI 45)) dX7_reason_145 (by decide) ?_
                  have e : rsC C k p s0 = 45 := by
                      unfold rsC
                      repeat' split
                      all_goals omega
                  exact s_zret (pc := 147) S hz hlo (nar_c (by omega)) hr ⟨rfl, rfl, by rw [e]⟩ (Nat.le_of_ble_eq_true rfl) (Nat.le_of_ble_eq_true rfl) dX7_reason_147
                · refine s_bipush (pc := 140) S (v := (nI 113)) dX7_reason_140 (by decide) ?_
                  refine s_goto (pc := 142) S 147 dX7_reason_142 (by decide) ?_
                  have e : rsC C k p s0 = 113 := by
                      unfold rsC
                      repeat' split
                      all_goals omega
                  exact s_zret (pc := 147) S hz hlo (nar_c (by omega)) hr ⟨rfl, rfl, by rw [e]⟩ (Nat.le_of_ble_eq_true rfl) (Nat.le_of_ble_eq_true rfl) dX7_reason_147
              · refine s_bipush (pc := 128) S (v := (nI 99)) dX7_reason_128 (by decide) ?_
                have e : rsC C k p s0 = 99 := by
                    unfold rsC
                    repeat' split
                    all_goals omega
                exact s_zret (pc := 130) S hz hlo (nar_c (by omega)) hr ⟨rfl, rfl, by rw [e]⟩ (Nat.le_of_ble_eq_true rfl) (Nat.le_of_ble_eq_true rfl) dX7_reason_130
            · refine s_bipush (pc := 105) S (v := (nI 116)) dX7_reason_105 (by decide) ?_
              have e : rsC C k p s0 = 116 := by
                  unfold rsC
                  repeat' split
                  all_goals omega
              exact s_zret (pc := 107) S hz hlo (nar_c (by omega)) hr ⟨rfl, rfl, by rw [e]⟩ (Nat.le_of_ble_eq_true rfl) (Nat.le_of_ble_eq_true rfl) dX7_reason_107
        · refine s_bipush (pc := 42) S (v := (nI 110)) dX7_reason_42 (by decide) ?_
          have e : rsC C k p s0 = 110 := by
              unfold rsC
              repeat' split
              all_goals omega
          exact s_zret (pc := 44) S hz hlo (nar_c (by omega)) hr ⟨rfl, rfl, by rw [e]⟩ (Nat.le_of_ble_eq_true rfl) (Nat.le_of_ble_eq_true rfl) dX7_reason_44
    · refine s_bipush (pc := 21) S (v := (nI 120)) dX7_reason_21 (by decide) ?_
      have e : rsC C k p s0 = 120 := by
          unfold rsC
          repeat' split
          all_goals omega
      exact s_zret (pc := 23) S hz hlo (nar_c (by omega)) hr ⟨rfl, rfl, by rw [e]⟩ (Nat.le_of_ble_eq_true rfl) (Nat.le_of_ble_eq_true rfl) dX7_reason_23
  · refine s_bipush (pc := 9) S (v := (nI 100)) dX7_reason_9 (by decide) ?_
    have e : rsC C k p s0 = 100 := by
        unfold rsC
        repeat' split
        all_goals omega
    exact s_zret (pc := 11) S hz hlo (nar_c (by omega)) hr ⟨rfl, rfl, by rw [e]⟩ (Nat.le_of_ble_eq_true rfl) (Nat.le_of_ble_eq_true rfl) dX7_reason_11
set_option maxHeartbeats 4000000 in
set_option maxRecDepth 100000 in
theorem k_X7_takes (Z : Zp) (l : Launch) (A : AF) (C : CF) (k p : Nat) (hk : k < 40) (hp : p < 4) (hnt : C 60 2 p ≤ 3) (hq : C 60 9 k < 65536) (hw : ∀ t : Nat, C 60 8 t < 65536) (hx : ∀ t : Nat, C 60 25 t ≤ 500) (hd : C 60 13 k < 2) (hg : 1 ≤ C 60 17 k) (hg2 : C 60 17 k ≤ 100) (hcp : C 60 18 k ≤ 9) (hcn : C 60 15 k < 2) (hb : C 60 12 k < 2) (hac : C 60 11 p < 2) (hbl : C 60 100 35 ≤ 9999) (hcl : C 60 100 36 ≤ 9999) (hqt : C 60 100 37 ≤ 9999) (s0 : Nat) (hs : s0 < 2 ^ 30) (h45 : rsC C k p s0 = 45) : CtS Z l yX7_takes wsX7_takes ({ frames := 2, cells := 0, slots := 0, locals := 43 }) [.ref (A 60 100), .int (nI k), .int (nI p), .int (nI s0)] A C 0 0 (fun v A2 C2 => A = A2 ∧ ∃ t a b c q : Nat, up3 (up3 (up3 (up3 C 60 25 t a) 60 100 35 b) 60 100 36 c) 60 100 37 q = C2 ∧ none = v ∧ t < C 60 2 p ∧ tfC C k p = t + 2 ∧ C 60 25 t - 1 = a ∧ b + (if C 60 12 k = 0 then 2 * ponN (C 60 13 k) (C 60 17 k) s0 else ponN (C 60 13 k) (C 60 17 k) s0) = C 60 100 35 ∧ c + (if C 60 12 k = 0 then 0 else 3 * ponN (C 60 13 k) (C 60 17 k) s0) = C 60 100 36 ∧ q + ponN (C 60 13 k) (C 60 17 k) s0 = C 60 100 37) (fun _ _ _ => False) := by
  refine CtS.of (cc0 := cX7_takes) (maxL := 5) (ret := none) (by decide) rfl (Nat.le_of_ble_eq_true rfl) ?_
  intro M0_ p_ e_ s_ m_ args_ below_ meth_ c_ S hz hml hex hlo hr hin
  refine s_loc (L2 := [(0, .ref (A 60 100)), (1, .int (nI k)), (2, .int (nI p)), (3, .int (nI s0))]) rfl ?_
  have i_RX7 : ∀ w ∈ u_ws RX7 TX7 38, w ∈ wsX7_takes := by decide +kernel
  have hpn := ponN_le (C 60 13 k) (C 60 17 k) s0
  have hal : csN (C 60 13 k) (C 60 17 k) * C 60 18 k < 2 ^ 31 := al_lt hg hg2 hcp
  obtain ⟨r1, r2, r3, r4, r5, r6, r7, r8, r9⟩ := rs_facts h45
  refine s_aload_n (pc := 0) S 0 dX7_takes_0 rfl rfl ?_
  refine s_iload_n (pc := 1) S 1 dX7_takes_1 rfl rfl ?_
  refine s_iload_n (pc := 2) S 3 dX7_takes_2 rfl rfl ?_
  refine s_callV (pc := 3) S hz hml [.int (nI k), .int (nI s0)] (k_X7_pagesOn Z l A C k hk hd hg hg2 s0 (by omega)) (cwV 2 S.2.2.2.2 gX7_takes_X7_pagesOn rfl rfl rfl (by decide +kernel) ⟨Nat.le_of_ble_eq_true rfl, Nat.le_of_ble_eq_true rfl⟩) (cc_mod (A := A) (C := C)) rfl rfl rfl (Nat.le_of_ble_eq_true rfl) dX7_takes_3 ⟨Nat.le_of_ble_eq_true rfl, Nat.le_of_ble_eq_true rfl⟩ (fun _ _ _ h => h.elim) (fun v A2 C2 h_1 => ?_)
  obtain ⟨rfl, rfl, rfl⟩ := h_1
  refine s_istore (pc := 6) S [(4, .int (nI (ponN (C 60 13 k) (C 60 17 k) s0))), (0, .ref (A 60 100)), (1, .int (nI k)), (2, .int (nI p)), (3, .int (nI s0))] dX7_takes_6 (by decide) rfl ?_
  refine s_aload_n (pc := 8) S 1 dX7_takes_8 rfl rfl ?_
  refine s_get (pc := 9) S hz (ref := "SpoolFarmModel") (v := .ref (A 60 25)) (cc_mod (A := A) (C := C)) i_RX7 rfl 25 (Nat.le_of_ble_eq_true rfl) (by decide +kernel) (fun _ h => h) rfl dX7_takes_9 ?_
  refine s_aload_n (pc := 12) S 1 dX7_takes_12 rfl rfl ?_
  refine s_iload_n (pc := 13) S 2 dX7_takes_13 rfl rfl ?_
  refine s_iload_n (pc := 14) S 3 dX7_takes_14 rfl rfl ?_
  refine s_callV (pc := 15) S hz hml [.int (nI k), .int (nI p)] (k_X7_trayFor Z l A C k p hk hp hnt hq hw hx) (cwV 2 S.2.2.2.2 gX7_takes_X7_trayFor rfl rfl rfl (by decide +kernel) ⟨Nat.le_of_ble_eq_true rfl, Nat.le_of_ble_eq_true rfl⟩) (cc_mod (A := A) (C := C)) rfl rfl rfl (Nat.le_of_ble_eq_true rfl) dX7_takes_15 ⟨Nat.le_of_ble_eq_true rfl, Nat.le_of_ble_eq_true rfl⟩ (fun _ _ _ h => h.elim) (fun v A2 C2 h_2 => ?_)
  rcases h_2 with ⟨rfl, rfl, ⟨tf_3, rfl⟩ | ⟨tf_4, rfl⟩ | ⟨t_6, ht_7, tf_5, rfl⟩⟩
  · exact absurd tf_3 r4
  · exact absurd tf_4 r5
  · have hxt := hx t_6
    have hxp : 0 < C 60 25 t_6 := tf_pos tf_5
    refine s_dup2 (pc := 18) S dX7_takes_18 rfl rfl ?_
    refine s_iald (pc := 19) S hz (x := C 60 25 t_6) (cc_row (A := A) (C := C) (x := aN .int 3 (C 60 25)) 25 (by decide) rfl) (by omega) (by omega) rfl dX7_takes_19 ?_
    refine s_iconst (pc := 20) S (v := (nI 1)) dX7_takes_20 (by decide) ?_
    refine s_isubN (pc := 21) S dX7_takes_21 (by omega) ?_
    refine s_iast (pc := 22) S hz (cc_row (A := A) (C := C) (x := aN .int 3 (C 60 25)) 25 (by decide) rfl) (by omega) (by omega) (up3 C 60 25 t_6 ((C 60 25 t_6) - 1)) cu_mod (by rw [(cc_row (A := A) (C := (up3 C 60 25 t_6 ((C 60 25 t_6) - 1))) (x := aN .int 3 ((up3 C 60 25 t_6 ((C 60 25 t_6) - 1)) 60 25)) 25 (by decide) rfl), up3_u]) dX7_takes_22 ?_
    refine s_aload_n (pc := 23) S 1 dX7_takes_23 rfl rfl ?_
    refine s_dup (pc := 24) S dX7_takes_24 rfl ?_
    refine s_get (pc := 25) S hz (ref := "SpoolFarmModel") (v := .int (nI (C 60 100 35))) (cc_mod (A := A) (C := (up3 C 60 25 t_6 ((C 60 25 t_6) - 1)))) i_RX7 rfl 35 (Nat.le_of_ble_eq_true rfl) (by decide +kernel) (fun _ h => h) rfl dX7_takes_25 ?_
    refine s_aload_n (pc := 28) S 1 dX7_takes_28 rfl rfl ?_
    refine s_get (pc := 29) S hz (ref := "SpoolFarmModel") (v := .ref (A 60 12)) (cc_mod (A := A) (C := (up3 C 60 25 t_6 ((C 60 25 t_6) - 1)))) i_RX7 rfl 12 (Nat.le_of_ble_eq_true rfl) (by decide +kernel) (fun _ h => h) rfl dX7_takes_29 ?_
    refine s_iload_n (pc := 32) S 2 dX7_takes_32 rfl rfl ?_
    refine s_zald (pc := 33) S hz (x := C 60 12 k) (cc_row (A := A) (C := (up3 C 60 25 t_6 ((C 60 25 t_6) - 1))) (x := aN .boolean 40 ((up3 C 60 25 t_6 ((C 60 25 t_6) - 1)) 60 12)) 12 (by decide) rfl) (by omega) (by omega) rfl dX7_takes_33 ?_
    refine s_if_eqN (pc := 34) S 42 dX7_takes_34 (by decide) (by omega) (fun c_8 => ?_) (fun c_8 => ?_)
    · refine s_iconst (pc := 42) S (v := (nI 2)) dX7_takes_42 (by decide) ?_
      refine s_iload (pc := 43) S 0 dX7_takes_43 rfl ?_
      refine s_imulN (pc := 45) S dX7_takes_45 ?_
      refine s_isubN (pc := 46) S dX7_takes_46 (by omega) ?_
      refine s_put (pc := 47) S hz (ref := "SpoolFarmModel") (ty := .int) (cc_mod (A := A) (C := (up3 C 60 25 t_6 ((C 60 25 t_6) - 1)))) i_RX7 tyX7 tyX7_ok nmX7 rfl 35 (Nat.le_of_ble_eq_true rfl) (by decide +kernel) (fun _ h => h) rfl (by decide +kernel) rfl rfl (Nat.le_of_ble_eq_true rfl) (up3 (up3 C 60 25 t_6 ((C 60 25 t_6) - 1)) 60 100 35 ((C 60 100 35) - (2 * (ponN (C 60 13 k) (C 60 17 k) s0)))) cu_mod (by rw [(cc_mod (A := A) (C := (up3 (up3 C 60 25 t_6 ((C 60 25 t_6) - 1)) 60 100 35 ((C 60 100 35) - (2 * (ponN (C 60 13 k) (C 60 17 k) s0)))))), up3_u]; rfl) dX7_takes_47 ?_
      refine s_aload_n (pc := 50) S 1 dX7_takes_50 rfl rfl ?_
      refine s_dup (pc := 51) S dX7_takes_51 rfl ?_
      refine s_get (pc := 52) S hz (ref := "SpoolFarmModel") (v := .int (nI (C 60 100 36))) (cc_mod (A := A) (C := (up3 (up3 C 60 25 t_6 ((C 60 25 t_6) - 1)) 60 100 35 ((C 60 100 35) - (2 * (ponN (C 60 13 k) (C 60 17 k) s0)))))) i_RX7 rfl 36 (Nat.le_of_ble_eq_true rfl) (by decide +kernel) (fun _ h => h) rfl dX7_takes_52 ?_
      refine s_aload_n (pc := 55) S 1 dX7_takes_55 rfl rfl ?_
      refine s_get (pc := 56) S hz (ref := "SpoolFarmModel") (v := .ref (A 60 12)) (cc_mod (A := A) (C := (up3 (up3 C 60 25 t_6 ((C 60 25 t_6) - 1)) 60 100 35 ((C 60 100 35) - (2 * (ponN (C 60 13 k) (C 60 17 k) s0)))))) i_RX7 rfl 12 (Nat.le_of_ble_eq_true rfl) (by decide +kernel) (fun _ h => h) rfl dX7_takes_56 ?_
      refine s_iload_n (pc := 59) S 2 dX7_takes_59 rfl rfl ?_
      refine s_zald (pc := 60) S hz (x := C 60 12 k) (cc_row (A := A) (C := (up3 (up3 C 60 25 t_6 ((C 60 25 t_6) - 1)) 60 100 35 ((C 60 100 35) - (2 * (ponN (C 60 13 k) (C 60 17 k) s0))))) (x := aN .boolean 40 ((up3 (up3 C 60 25 t_6 ((C 60 25 t_6) - 1)) 60 100 35 ((C 60 100 35) - (2 * (ponN (C 60 13 k) (C 60 17 k) s0)))) 60 12)) 12 (by decide) rfl) (by omega) (by omega) rfl dX7_takes_60 ?_
      refine s_if_eqN (pc := 61) S 71 dX7_takes_61 (by decide) (by omega) (fun c_9 => ?_) (fun c_9 => absurd c_9 (by omega))
      refine s_iconst (pc := 71) S (v := (nI 0)) dX7_takes_71 (by decide) ?_
      refine s_isubN (pc := 72) S dX7_takes_72 (by omega) ?_
      refine s_put (pc := 73) S hz (ref := "SpoolFarmModel") (ty := .int) (cc_mod (A := A) (C := (up3 (up3 C 60 25 t_6 ((C 60 25 t_6) - 1)) 60 100 35 ((C 60 100 35) - (2 * (ponN (C 60 13 k) (C 60 17 k) s0)))))) i_RX7 tyX7 tyX7_ok nmX7 rfl 36 (Nat.le_of_ble_eq_true rfl) (by decide +kernel) (fun _ h => h) rfl (by decide +kernel) rfl rfl (Nat.le_of_ble_eq_true rfl) (up3 (up3 (up3 C 60 25 t_6 ((C 60 25 t_6) - 1)) 60 100 35 ((C 60 100 35) - (2 * (ponN (C 60 13 k) (C 60 17 k) s0)))) 60 100 36 ((C 60 100 36) - 0)) cu_mod (by rw [(cc_mod (A := A) (C := (up3 (up3 (up3 C 60 25 t_6 ((C 60 25 t_6) - 1)) 60 100 35 ((C 60 100 35) - (2 * (ponN (C 60 13 k) (C 60 17 k) s0)))) 60 100 36 ((C 60 100 36) - 0)))), up3_u]; rfl) dX7_takes_73 ?_
      refine s_aload_n (pc := 76) S 1 dX7_takes_76 rfl rfl ?_
      refine s_dup (pc := 77) S dX7_takes_77 rfl ?_
      refine s_get (pc := 78) S hz (ref := "SpoolFarmModel") (v := .int (nI (C 60 100 37))) (cc_mod (A := A) (C := (up3 (up3 (up3 C 60 25 t_6 ((C 60 25 t_6) - 1)) 60 100 35 ((C 60 100 35) - (2 * (ponN (C 60 13 k) (C 60 17 k) s0)))) 60 100 36 ((C 60 100 36) - 0)))) i_RX7 rfl 37 (Nat.le_of_ble_eq_true rfl) (by decide +kernel) (fun _ h => h) rfl dX7_takes_78 ?_
      refine s_iload (pc := 81) S 0 dX7_takes_81 rfl ?_
      refine s_isubN (pc := 83) S dX7_takes_83 (by omega) ?_
      refine s_put (pc := 84) S hz (ref := "SpoolFarmModel") (ty := .int) (cc_mod (A := A) (C := (up3 (up3 (up3 C 60 25 t_6 ((C 60 25 t_6) - 1)) 60 100 35 ((C 60 100 35) - (2 * (ponN (C 60 13 k) (C 60 17 k) s0)))) 60 100 36 ((C 60 100 36) - 0)))) i_RX7 tyX7 tyX7_ok nmX7 rfl 37 (Nat.le_of_ble_eq_true rfl) (by decide +kernel) (fun _ h => h) rfl (by decide +kernel) rfl rfl (Nat.le_of_ble_eq_true rfl) (up3 (up3 (up3 (up3 C 60 25 t_6 ((C 60 25 t_6) - 1)) 60 100 35 ((C 60 100 35) - (2 * (ponN (C 60 13 k) (C 60 17 k) s0)))) 60 100 36 ((C 60 100 36) - 0)) 60 100 37 ((C 60 100 37) - (ponN (C 60 13 k) (C 60 17 k) s0))) cu_mod (by rw [(cc_mod (A := A) (C := (up3 (up3 (up3 (up3 C 60 25 t_6 ((C 60 25 t_6) - 1)) 60 100 35 ((C 60 100 35) - (2 * (ponN (C 60 13 k) (C 60 17 k) s0)))) 60 100 36 ((C 60 100 36) - 0)) 60 100 37 ((C 60 100 37) - (ponN (C 60 13 k) (C 60 17 k) s0))))), up3_u]; rfl) dX7_takes_84 ?_
      exact s_vret (pc := 87) S hz hlo hr ⟨rfl, t_6, _, _, _, _, rfl, rfl, ht_7, tf_5, rfl, by split <;> omega, by split <;> omega, by omega⟩ (Nat.le_of_ble_eq_true rfl) (Nat.le_of_ble_eq_true rfl) dX7_takes_87
    · refine s_iload (pc := 37) S 0 dX7_takes_37 rfl ?_
      refine s_goto (pc := 39) S 46 dX7_takes_39 (by decide) ?_
      refine s_isubN (pc := 46) S dX7_takes_46 (by omega) ?_
      refine s_put (pc := 47) S hz (ref := "SpoolFarmModel") (ty := .int) (cc_mod (A := A) (C := (up3 C 60 25 t_6 ((C 60 25 t_6) - 1)))) i_RX7 tyX7 tyX7_ok nmX7 rfl 35 (Nat.le_of_ble_eq_true rfl) (by decide +kernel) (fun _ h => h) rfl (by decide +kernel) rfl rfl (Nat.le_of_ble_eq_true rfl) (up3 (up3 C 60 25 t_6 ((C 60 25 t_6) - 1)) 60 100 35 ((C 60 100 35) - (ponN (C 60 13 k) (C 60 17 k) s0))) cu_mod (by rw [(cc_mod (A := A) (C := (up3 (up3 C 60 25 t_6 ((C 60 25 t_6) - 1)) 60 100 35 ((C 60 100 35) - (ponN (C 60 13 k) (C 60 17 k) s0))))), up3_u]; rfl) dX7_takes_47 ?_
      refine s_aload_n (pc := 50) S 1 dX7_takes_50 rfl rfl ?_
      refine s_dup (pc := 51) S dX7_takes_51 rfl ?_
      refine s_get (pc := 52) S hz (ref := "SpoolFarmModel") (v := .int (nI (C 60 100 36))) (cc_mod (A := A) (C := (up3 (up3 C 60 25 t_6 ((C 60 25 t_6) - 1)) 60 100 35 ((C 60 100 35) - (ponN (C 60 13 k) (C 60 17 k) s0))))) i_RX7 rfl 36 (Nat.le_of_ble_eq_true rfl) (by decide +kernel) (fun _ h => h) rfl dX7_takes_52 ?_
      refine s_aload_n (pc := 55) S 1 dX7_takes_55 rfl rfl ?_
      refine s_get (pc := 56) S hz (ref := "SpoolFarmModel") (v := .ref (A 60 12)) (cc_mod (A := A) (C := (up3 (up3 C 60 25 t_6 ((C 60 25 t_6) - 1)) 60 100 35 ((C 60 100 35) - (ponN (C 60 13 k) (C 60 17 k) s0))))) i_RX7 rfl 12 (Nat.le_of_ble_eq_true rfl) (by decide +kernel) (fun _ h => h) rfl dX7_takes_56 ?_
      refine s_iload_n (pc := 59) S 2 dX7_takes_59 rfl rfl ?_
      refine s_zald (pc := 60) S hz (x := C 60 12 k) (cc_row (A := A) (C := (up3 (up3 C 60 25 t_6 ((C 60 25 t_6) - 1)) 60 100 35 ((C 60 100 35) - (ponN (C 60 13 k) (C 60 17 k) s0)))) (x := aN .boolean 40 ((up3 (up3 C 60 25 t_6 ((C 60 25 t_6) - 1)) 60 100 35 ((C 60 100 35) - (ponN (C 60 13 k) (C 60 17 k) s0))) 60 12)) 12 (by decide) rfl) (by omega) (by omega) rfl dX7_takes_60 ?_
      refine s_if_eqN (pc := 61) S 71 dX7_takes_61 (by decide) (by omega) (fun c_10 => absurd c_10 (by omega)) (fun c_10 => ?_)
      refine s_iconst (pc := 64) S (v := (nI 3)) dX7_takes_64 (by decide) ?_
      refine s_iload (pc := 65) S 0 dX7_takes_65 rfl ?_
      refine s_imulN (pc := 67) S dX7_takes_67 ?_
      refine s_goto (pc := 68) S 72 dX7_takes_68 (by decide) ?_
      refine s_isubN (pc := 72) S dX7_takes_72 (by omega) ?_
      refine s_put (pc := 73) S hz (ref := "SpoolFarmModel") (ty := .int) (cc_mod (A := A) (C := (up3 (up3 C 60 25 t_6 ((C 60 25 t_6) - 1)) 60 100 35 ((C 60 100 35) - (ponN (C 60 13 k) (C 60 17 k) s0))))) i_RX7 tyX7 tyX7_ok nmX7 rfl 36 (Nat.le_of_ble_eq_true rfl) (by decide +kernel) (fun _ h => h) rfl (by decide +kernel) rfl rfl (Nat.le_of_ble_eq_true rfl) (up3 (up3 (up3 C 60 25 t_6 ((C 60 25 t_6) - 1)) 60 100 35 ((C 60 100 35) - (ponN (C 60 13 k) (C 60 17 k) s0))) 60 100 36 ((C 60 100 36) - (3 * (ponN (C 60 13 k) (C 60 17 k) s0)))) cu_mod (by rw [(cc_mod (A := A) (C := (up3 (up3 (up3 C 60 25 t_6 ((C 60 25 t_6) - 1)) 60 100 35 ((C 60 100 35) - (ponN (C 60 13 k) (C 60 17 k) s0))) 60 100 36 ((C 60 100 36) - (3 * (ponN (C 60 13 k) (C 60 17 k) s0)))))), up3_u]; rfl) dX7_takes_73 ?_
      refine s_aload_n (pc := 76) S 1 dX7_takes_76 rfl rfl ?_
      refine s_dup (pc := 77) S dX7_takes_77 rfl ?_
      refine s_get (pc := 78) S hz (ref := "SpoolFarmModel") (v := .int (nI (C 60 100 37))) (cc_mod (A := A) (C := (up3 (up3 (up3 C 60 25 t_6 ((C 60 25 t_6) - 1)) 60 100 35 ((C 60 100 35) - (ponN (C 60 13 k) (C 60 17 k) s0))) 60 100 36 ((C 60 100 36) - (3 * (ponN (C 60 13 k) (C 60 17 k) s0)))))) i_RX7 rfl 37 (Nat.le_of_ble_eq_true rfl) (by decide +kernel) (fun _ h => h) rfl dX7_takes_78 ?_
      refine s_iload (pc := 81) S 0 dX7_takes_81 rfl ?_
      refine s_isubN (pc := 83) S dX7_takes_83 (by omega) ?_
      refine s_put (pc := 84) S hz (ref := "SpoolFarmModel") (ty := .int) (cc_mod (A := A) (C := (up3 (up3 (up3 C 60 25 t_6 ((C 60 25 t_6) - 1)) 60 100 35 ((C 60 100 35) - (ponN (C 60 13 k) (C 60 17 k) s0))) 60 100 36 ((C 60 100 36) - (3 * (ponN (C 60 13 k) (C 60 17 k) s0)))))) i_RX7 tyX7 tyX7_ok nmX7 rfl 37 (Nat.le_of_ble_eq_true rfl) (by decide +kernel) (fun _ h => h) rfl (by decide +kernel) rfl rfl (Nat.le_of_ble_eq_true rfl) (up3 (up3 (up3 (up3 C 60 25 t_6 ((C 60 25 t_6) - 1)) 60 100 35 ((C 60 100 35) - (ponN (C 60 13 k) (C 60 17 k) s0))) 60 100 36 ((C 60 100 36) - (3 * (ponN (C 60 13 k) (C 60 17 k) s0)))) 60 100 37 ((C 60 100 37) - (ponN (C 60 13 k) (C 60 17 k) s0))) cu_mod (by rw [(cc_mod (A := A) (C := (up3 (up3 (up3 (up3 C 60 25 t_6 ((C 60 25 t_6) - 1)) 60 100 35 ((C 60 100 35) - (ponN (C 60 13 k) (C 60 17 k) s0))) 60 100 36 ((C 60 100 36) - (3 * (ponN (C 60 13 k) (C 60 17 k) s0)))) 60 100 37 ((C 60 100 37) - (ponN (C 60 13 k) (C 60 17 k) s0))))), up3_u]; rfl) dX7_takes_84 ?_
      exact s_vret (pc := 87) S hz hlo hr ⟨rfl, t_6, _, _, _, _, rfl, rfl, ht_7, tf_5, rfl, by split <;> omega, by split <;> omega, by omega⟩ (Nat.le_of_ble_eq_true rfl) (Nat.le_of_ble_eq_true rfl) dX7_takes_87
