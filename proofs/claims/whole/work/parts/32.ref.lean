set_option maxHeartbeats 4000000 in
set_option maxRecDepth 100000 in
theorem k_X7_binds (Z : Zp) (l : Launch) (A : AF) (C : CF) (k p f0 e0 : Nat) (hk : k < 40) (hp : p < 4) (hd : C 60 13 k < 2) (hg : 1 ≤ C 60 17 k) (hg2 : C 60 17 k ≤ 100) (hts : C 60 14 k < 2) (hst : C 60 6 p ≤ 100) (hsp : C 60 20 k ≤ 2 ^ 29) (hf : f0 ≤ 2 ^ 20) (he : e0 ≤ 2 ^ 20) : CtS Z l yX7_binds wsX7_binds ({ frames := 1, cells := 0, slots := 0, locals := 21 }) [.ref (A 60 100), .int (nI k), .int (nI p), .int (nI f0), .int (nI e0)] A C 0 0 (fun v A2 C2 => A = A2 ∧ up3 (up3 C 60 6 p (C 60 6 p - bndN (C 60 14 k) (csN (C 60 13 k) (C 60 17 k)) f0 e0 (C 60 6 p))) 60 20 k (C 60 20 k + bndN (C 60 14 k) (csN (C 60 13 k) (C 60 17 k)) f0 e0 (C 60 6 p)) = C2 ∧ none = v) (fun _ _ _ => False) := by
  refine CtS.of (cc0 := cX7_binds) (maxL := 7) (ret := none) (by decide) rfl (Nat.le_of_ble_eq_true rfl) ?_
  intro M0_ p_ e_ s_ m_ args_ below_ meth_ c_ S hz hml hex hlo hr hin
  refine s_loc (L2 := [(0, .ref (A 60 100)), (1, .int (nI k)), (2, .int (nI p)), (3, .int (nI f0)), (4, .int (nI e0))]) rfl ?_
  have i_RX7 : ∀ w ∈ u_ws RX7 TX7 38, w ∈ wsX7_binds := by decide +kernel
  have hc1 := csN_pos (d := C 60 13 k) hg
  have hc2 := csN_le (d := C 60 13 k) hg
  refine s_aload_n (pc := 0) S 0 dX7_binds_0 rfl rfl ?_
  refine s_iload_n (pc := 1) S 1 dX7_binds_1 rfl rfl ?_
  refine s_callV (pc := 2) S hz hml [.int (nI k)] (k_X7_copySheets Z l A C k hk hd hg hg2) (cwV 1 S.2.2.2.2 gX7_binds_X7_copySheets rfl rfl rfl (by decide +kernel) ⟨Nat.le_of_ble_eq_true rfl, Nat.le_of_ble_eq_true rfl⟩) (cc_mod (A := A) (C := C)) rfl rfl rfl (Nat.le_of_ble_eq_true rfl) dX7_binds_2 ⟨Nat.le_of_ble_eq_true rfl, Nat.le_of_ble_eq_true rfl⟩ (fun _ _ _ h => h.elim) (fun v A2 C2 h_1 => ?_)
  obtain ⟨rfl, rfl, rfl⟩ := h_1
  refine s_istore (pc := 5) S [(5, .int (nI (csN (C 60 13 k) (C 60 17 k)))), (0, .ref (A 60 100)), (1, .int (nI k)), (2, .int (nI p)), (3, .int (nI f0)), (4, .int (nI e0))] dX7_binds_5 (by decide) rfl ?_
  refine s_aload_n (pc := 7) S 1 dX7_binds_7 rfl rfl ?_
  refine s_get (pc := 8) S hz (ref := "SpoolFarmModel") (v := .ref (A 60 14)) (cc_mod (A := A) (C := C)) i_RX7 rfl 14 (Nat.le_of_ble_eq_true rfl) (by decide +kernel) (fun _ h => h) rfl dX7_binds_8 ?_
  refine s_iload_n (pc := 11) S 2 dX7_binds_11 rfl rfl ?_
  refine s_zald (pc := 12) S hz (x := C 60 14 k) (cc_row (A := A) (C := C) (x := aN .boolean 40 (C 60 14)) 14 (by decide) rfl) (by omega) (by omega) rfl dX7_binds_12 ?_
  refine s_if_eqN (pc := 13) S 22 dX7_binds_13 (by decide) (by omega) (fun c_2 => ?_) (fun c_2 => ?_)
  · refine s_C (C2 := up3 (up3 C 60 6 p (C 60 6 p - bndN (C 60 14 k) (csN (C 60 13 k) (C 60 17 k)) f0 e0 (C 60 6 p))) 60 20 k (C 60 20 k + bndN (C 60 14 k) (csN (C 60 13 k) (C 60 17 k)) f0 e0 (C 60 6 p))) (by rw [bnd_x0 (Or.inl c_2)]; exact bnd_s0 C k p) ?_
    exact s_vret (pc := 22) S hz hlo hr ⟨rfl, rfl, rfl⟩ (Nat.le_of_ble_eq_true rfl) (Nat.le_of_ble_eq_true rfl) dX7_binds_22
  · refine s_iload (pc := 16) S 0 dX7_binds_16 rfl ?_
    refine s_iconst (pc := 18) S (v := (nI 2)) dX7_binds_18 (by decide) ?_
    refine s_icmp_geN (pc := 19) S 23 dX7_binds_19 (by decide) (by omega) (by omega) (fun c_3 => ?_) (fun c_3 => ?_)
    · refine s_iload_n (pc := 23) S 4 dX7_binds_23 rfl rfl ?_
      refine s_iload (pc := 24) S 0 dX7_binds_24 rfl ?_
      refine s_iaddN (pc := 26) S dX7_binds_26 ?_
      refine s_iconst (pc := 27) S (v := (nI 1)) dX7_binds_27 (by decide) ?_
      refine s_isubN (pc := 28) S dX7_binds_28 (by omega) ?_
      refine s_iload (pc := 29) S 0 dX7_binds_29 rfl ?_
      refine s_idivN (pc := 31) S dX7_binds_31 (by omega) (by omega) (by omega) ?_
      refine s_istore (pc := 32) S [(6, .int (nI (((f0 + (csN (C 60 13 k) (C 60 17 k))) - 1) / (csN (C 60 13 k) (C 60 17 k))))), (5, .int (nI (csN (C 60 13 k) (C 60 17 k)))), (0, .ref (A 60 100)), (1, .int (nI k)), (2, .int (nI p)), (3, .int (nI f0)), (4, .int (nI e0))] dX7_binds_32 (by decide) rfl ?_
      have ht2 : C 60 14 k ≠ 0 := c_2
      have hm2 : 2 ≤ csN (C 60 13 k) (C 60 17 k) := by omega
      refine s_loc (L2 := [(6, .int (nI ((f0 + csN (C 60 13 k) (C 60 17 k) - 1) / csN (C 60 13 k) (C 60 17 k) + 0))), (5, .int (nI (csN (C 60 13 k) (C 60 17 k)))), (0, .ref (A 60 100)), (1, .int (nI k)), (2, .int (nI p)), (3, .int (nI f0)), (4, .int (nI e0))]) (by rw [Nat.add_zero]) ?_
      refine s_perm [0, 1, 2, 3, 4, 5, 6] [(6, .int (nI ((f0 + csN (C 60 13 k) (C 60 17 k) - 1) / csN (C 60 13 k) (C 60 17 k) + 0))), (5, .int (nI (csN (C 60 13 k) (C 60 17 k)))), (0, .ref (A 60 100)), (1, .int (nI k)), (2, .int (nI p)), (3, .int (nI f0)), (4, .int (nI e0))] rfl ?_
      refine s_loop (σ := Nat) (fun i => (i = 0 ∨ (f0 + csN (C 60 13 k) (C 60 17 k) - 1) / csN (C 60 13 k) (C 60 17 k) + i ≤ e0 / csN (C 60 13 k) (C 60 17 k)) ∧ i ≤ C 60 6 p) (fun i => e0 + 1 - i) (fun _ => A) (fun i => (up3 (up3 C 60 6 p (C 60 6 p - i)) 60 20 k (C 60 20 k + i))) (fun i => [(6, .int (nI ((f0 + csN (C 60 13 k) (C 60 17 k) - 1) / csN (C 60 13 k) (C 60 17 k) + i))), (5, .int (nI (csN (C 60 13 k) (C 60 17 k)))), (0, .ref (A 60 100)), (1, .int (nI k)), (2, .int (nI p)), (3, .int (nI f0)), (4, .int (nI e0))]) 0 ⟨Or.inl rfl, Nat.zero_le _⟩ rfl (bnd_s0 C k p) rfl ?_
      intro i hI ih
      obtain ⟨hi1, hi2⟩ := hI
      have hbl := bnd_le (m := csN (C 60 13 k) (C 60 17 k)) (f := f0) (e := e0) hm2 hi1
      have hq00 := Nat.zero_le ((f0 + csN (C 60 13 k) (C 60 17 k) - 1) / csN (C 60 13 k) (C 60 17 k))
      have hil : i ≤ e0 := by have := Nat.div_le_self e0 (csN (C 60 13 k) (C 60 17 k)); omega
      refine s_iload (pc := 34) S 0 dX7_binds_34 rfl ?_
      refine s_iconst (pc := 36) S (v := (nI 1)) dX7_binds_36 (by decide) ?_
      refine s_iaddN (pc := 37) S dX7_binds_37 ?_
      refine s_iload (pc := 38) S 1 dX7_binds_38 rfl ?_
      refine s_imulN (pc := 40) S dX7_binds_40 ?_
      refine s_iload (pc := 41) S 6 dX7_binds_41 rfl ?_
      refine s_icmp_gtN (pc := 43) S 82 dX7_binds_43 (by decide) (by omega) (by omega) (fun c_4 => ?_) (fun c_4 => ?_)
      · have hw := bnd_x1 (ts := C 60 14 k) (m := csN (C 60 13 k) (C 60 17 k)) ht2 hm2 hi1 hi2 c_4
        exact s_vret (pc := 82) S hz hlo hr ⟨rfl, by rw [hw], rfl⟩ (Nat.le_of_ble_eq_true rfl) (Nat.le_of_ble_eq_true rfl) dX7_binds_82
      · refine s_aload_n (pc := 46) S 2 dX7_binds_46 rfl rfl ?_
        refine s_get (pc := 47) S hz (ref := "SpoolFarmModel") (v := .ref (A 60 6)) (cc_mod (A := A) (C := (up3 (up3 C 60 6 p (C 60 6 p - i)) 60 20 k (C 60 20 k + i)))) i_RX7 rfl 6 (Nat.le_of_ble_eq_true rfl) (by decide +kernel) (fun _ h => h) rfl dX7_binds_47 ?_
        refine s_iload_n (pc := 50) S 4 dX7_binds_50 rfl rfl ?_
        refine s_iald (pc := 51) S hz (x := C 60 6 p - i) (cc_row (A := A) (C := (up3 (up3 C 60 6 p (C 60 6 p - i)) 60 20 k (C 60 20 k + i))) (x := aN .int 4 ((up3 (up3 C 60 6 p (C 60 6 p - i)) 60 20 k (C 60 20 k + i)) 60 6)) 6 (by decide) rfl) (by omega) (by omega) (by simp [up3]) dX7_binds_51 ?_
        refine s_if_neN (pc := 52) S 56 dX7_binds_52 (by decide) (by omega) (fun c_5 => ?_) (fun c_5 => ?_)
        · refine s_aload_n (pc := 56) S 2 dX7_binds_56 rfl rfl ?_
          refine s_get (pc := 57) S hz (ref := "SpoolFarmModel") (v := .ref (A 60 6)) (cc_mod (A := A) (C := (up3 (up3 C 60 6 p (C 60 6 p - i)) 60 20 k (C 60 20 k + i)))) i_RX7 rfl 6 (Nat.le_of_ble_eq_true rfl) (by decide +kernel) (fun _ h => h) rfl dX7_binds_57 ?_
          refine s_iload_n (pc := 60) S 4 dX7_binds_60 rfl rfl ?_
          refine s_dup2 (pc := 61) S dX7_binds_61 rfl rfl ?_
          refine s_iald (pc := 62) S hz (x := C 60 6 p - i) (cc_row (A := A) (C := (up3 (up3 C 60 6 p (C 60 6 p - i)) 60 20 k (C 60 20 k + i))) (x := aN .int 4 ((up3 (up3 C 60 6 p (C 60 6 p - i)) 60 20 k (C 60 20 k + i)) 60 6)) 6 (by decide) rfl) (by omega) (by omega) (by simp [up3]) dX7_binds_62 ?_
          refine s_iconst (pc := 63) S (v := (nI 1)) dX7_binds_63 (by decide) ?_
          refine s_isubN (pc := 64) S dX7_binds_64 (by omega) ?_
          refine s_iast (pc := 65) S hz (cc_row (A := A) (C := (up3 (up3 C 60 6 p (C 60 6 p - i)) 60 20 k (C 60 20 k + i))) (x := aN .int 4 ((up3 (up3 C 60 6 p (C 60 6 p - i)) 60 20 k (C 60 20 k + i)) 60 6)) 6 (by decide) rfl) (by omega) (by omega) (up3 (up3 (up3 C 60 6 p (C 60 6 p - i)) 60 20 k (C 60 20 k + i)) 60 6 p ((C 60 6 p - i) - 1)) cu_mod (by rw [(cc_row (A := A) (C := (up3 (up3 (up3 C 60 6 p (C 60 6 p - i)) 60 20 k (C 60 20 k + i)) 60 6 p ((C 60 6 p - i) - 1))) (x := aN .int 4 ((up3 (up3 (up3 C 60 6 p (C 60 6 p - i)) 60 20 k (C 60 20 k + i)) 60 6 p ((C 60 6 p - i) - 1)) 60 6)) 6 (by decide) rfl), up3_u]) dX7_binds_65 ?_
          refine s_aload_n (pc := 66) S 2 dX7_binds_66 rfl rfl ?_
          refine s_get (pc := 67) S hz (ref := "SpoolFarmModel") (v := .ref (A 60 20)) (cc_mod (A := A) (C := (up3 (up3 (up3 C 60 6 p (C 60 6 p - i)) 60 20 k (C 60 20 k + i)) 60 6 p ((C 60 6 p - i) - 1)))) i_RX7 rfl 20 (Nat.le_of_ble_eq_true rfl) (by decide +kernel) (fun _ h => h) rfl dX7_binds_67 ?_
          refine s_iload_n (pc := 70) S 3 dX7_binds_70 rfl rfl ?_
          refine s_dup2 (pc := 71) S dX7_binds_71 rfl rfl ?_
          refine s_iald (pc := 72) S hz (x := C 60 20 k + i) (cc_row (A := A) (C := (up3 (up3 (up3 C 60 6 p (C 60 6 p - i)) 60 20 k (C 60 20 k + i)) 60 6 p ((C 60 6 p - i) - 1))) (x := aN .int 40 ((up3 (up3 (up3 C 60 6 p (C 60 6 p - i)) 60 20 k (C 60 20 k + i)) 60 6 p ((C 60 6 p - i) - 1)) 60 20)) 20 (by decide) rfl) (by omega) (by omega) (by simp [up3]) dX7_binds_72 ?_
          refine s_iconst (pc := 73) S (v := (nI 1)) dX7_binds_73 (by decide) ?_
          refine s_iaddN (pc := 74) S dX7_binds_74 ?_
          refine s_iast (pc := 75) S hz (cc_row (A := A) (C := (up3 (up3 (up3 C 60 6 p (C 60 6 p - i)) 60 20 k (C 60 20 k + i)) 60 6 p ((C 60 6 p - i) - 1))) (x := aN .int 40 ((up3 (up3 (up3 C 60 6 p (C 60 6 p - i)) 60 20 k (C 60 20 k + i)) 60 6 p ((C 60 6 p - i) - 1)) 60 20)) 20 (by decide) rfl) (by omega) (by omega) (up3 (up3 (up3 (up3 C 60 6 p (C 60 6 p - i)) 60 20 k (C 60 20 k + i)) 60 6 p ((C 60 6 p - i) - 1)) 60 20 k ((C 60 20 k + i) + 1)) cu_mod (by rw [(cc_row (A := A) (C := (up3 (up3 (up3 (up3 C 60 6 p (C 60 6 p - i)) 60 20 k (C 60 20 k + i)) 60 6 p ((C 60 6 p - i) - 1)) 60 20 k ((C 60 20 k + i) + 1))) (x := aN .int 40 ((up3 (up3 (up3 (up3 C 60 6 p (C 60 6 p - i)) 60 20 k (C 60 20 k + i)) 60 6 p ((C 60 6 p - i) - 1)) 60 20 k ((C 60 20 k + i) + 1)) 60 20)) 20 (by decide) rfl), up3_u]) dX7_binds_75 ?_
          refine s_iinc (pc := 76) S 0 [(6, .int (nI (((f0 + csN (C 60 13 k) (C 60 17 k) - 1) / csN (C 60 13 k) (C 60 17 k) + i) + 1))), (5, .int (nI (csN (C 60 13 k) (C 60 17 k)))), (0, .ref (A 60 100)), (1, .int (nI k)), (2, .int (nI p)), (3, .int (nI f0)), (4, .int (nI e0))] dX7_binds_76 rfl (nI_add _ 1) (by decide) rfl ?_
          refine s_goto (pc := 79) S 34 dX7_binds_79 (by decide) ?_
          refine s_C (bnd_st C k p (C 60 6 p - i) (C 60 20 k + i) _ _) ?_
          refine s_perm [0, 1, 2, 3, 4, 5, 6] [(6, .int (nI (((f0 + csN (C 60 13 k) (C 60 17 k) - 1) / csN (C 60 13 k) (C 60 17 k) + i) + 1))), (5, .int (nI (csN (C 60 13 k) (C 60 17 k)))), (0, .ref (A 60 100)), (1, .int (nI k)), (2, .int (nI p)), (3, .int (nI f0)), (4, .int (nI e0))] rfl ?_
          exact ih (i + 1) ⟨Or.inr ((bnd_go hm2).mp (by omega)), by omega⟩ (by have := (bnd_go (f := f0) (e := e0) (i := i) hm2).mp (by omega); omega)
        · have hw := bnd_x2 (ts := C 60 14 k) (m := csN (C 60 13 k) (C 60 17 k)) ht2 hm2 hi2 c_5 c_4
          exact s_vret (pc := 55) S hz hlo hr ⟨rfl, by rw [hw], rfl⟩ (Nat.le_of_ble_eq_true rfl) (Nat.le_of_ble_eq_true rfl) dX7_binds_55
    · refine s_C (C2 := up3 (up3 C 60 6 p (C 60 6 p - bndN (C 60 14 k) (csN (C 60 13 k) (C 60 17 k)) f0 e0 (C 60 6 p))) 60 20 k (C 60 20 k + bndN (C 60 14 k) (csN (C 60 13 k) (C 60 17 k)) f0 e0 (C 60 6 p))) (by rw [bnd_x0 (Or.inr (by omega))]; exact bnd_s0 C k p) ?_
      exact s_vret (pc := 22) S hz hlo hr ⟨rfl, rfl, rfl⟩ (Nat.le_of_ble_eq_true rfl) (Nat.le_of_ble_eq_true rfl) dX7_binds_22
