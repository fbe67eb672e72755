set_option maxHeartbeats 4000000 in
set_option maxRecDepth 100000 in
theorem k_X7_releaseAll (Z : Zp) (l : Launch) (A : AF) (C : CF) (x y : Int32) (hO : OkR C) (mc ms : Nat) (hG : LgOk C) (hX : OkX C) (hlg4 : C 60 100 31 + 40 ≤ 40000) (hm : ∀ u p : Nat, nI u = x → nI p = y → u < C 60 100 28 → p < C 60 100 29 → raC (up3 C 60 100 27 0) u p (C 60 100 30) ≤ mc ∧ raL (up3 C 60 100 27 0) u p (C 60 100 30) ≤ ms) : CtS Z l yX7_releaseAll wsX7_releaseAll ({ frames := 5, cells := mc, slots := ms, locals := 117 }) [.ref (A 60 100), .int x, .int y] A C mc ms (fun v A2 C2 => ∃ b : Nat → Nat, AG A b = A2 ∧ ((∃ k_2 k_7 : Nat, k_2 < C 60 100 28 ∧ nI k_2 = x ∧ k_7 < C 60 100 29 ∧ nI k_7 = y ∧ (raS (up3 C 60 100 27 0) k_2 k_7 (C 60 100 30)) = C2 ∧ some (.int (nI (raN (up3 C 60 100 27 0) k_2 k_7 (C 60 100 30)))) = v) ∨ (∃ k_2 : Nat, k_2 < C 60 100 28 ∧ nI k_2 = x ∧ (∀ k : Nat, k < C 60 100 29 → nI k ≠ y) ∧ (up3 C 60 100 27 1) = C2 ∧ some (.int (nI 0)) = v) ∨ ((∀ k : Nat, k < C 60 100 28 → nI k ≠ x) ∧ (up3 C 60 100 27 1) = C2 ∧ some (.int (nI 0)) = v))) (fun _ _ _ => False) := by
  refine CtS.of (cc0 := cX7_releaseAll) (maxL := 5) (ret := (some .int)) (by decide) rfl (Nat.le_of_ble_eq_true rfl) ?_
  intro M0_ p_ e_ s_ m_ args_ below_ meth_ c_ S hz hml hex hlo hr hin
  refine s_loc (L2 := [(0, .ref (A 60 100)), (1, .int x), (2, .int y)]) rfl ?_
  have i_RX7 : ∀ w ∈ u_ws RX7 TX7 38, w ∈ wsX7_releaseAll := by decide +kernel
  obtain ⟨oU, oP, oJ, oTc, oY, o8, o9, o10, o11, o12, o13, o14, o15, oX, oQ, oB, oK, oS, oJk, oM, oCo, oSh, oLg, oPo, oLl, oL2, oL3, oL4, oLle, oE1, oE2, oE3, oE4⟩ := id hO
  have hu : C 60 100 28 < 2 ^ 30 := by omega
  have hp : C 60 100 29 < 2 ^ 30 := by omega
  have hj : C 60 100 30 < 2 ^ 30 := by omega
  have hlg : C 60 100 31 < 2 ^ 30 := by omega
  have hp4 := oP
  have htc := oTc
  refine s_aload_n (pc := 0) S 0 dX7_releaseAll_0 rfl rfl ?_
  refine s_aload_n (pc := 1) S 0 dX7_releaseAll_1 rfl rfl ?_
  refine s_iload_n (pc := 2) S 1 dX7_releaseAll_2 rfl rfl ?_
  refine s_callV (pc := 3) S hz hml [.int x] (k_X7_isUser Z l A C x hu) (cwV 1 S.2.2.2.2 gX7_releaseAll_X7_isUser rfl rfl rfl (by decide +kernel) ⟨Nat.le_of_ble_eq_true rfl, Nat.le_of_ble_eq_true rfl⟩) (cc_mod (A := A) (C := C)) rfl rfl rfl (Nat.le_of_ble_eq_true rfl) dX7_releaseAll_3 ⟨Nat.le_of_ble_eq_true rfl, Nat.le_of_ble_eq_true rfl⟩ (fun _ _ _ h => h.elim) (fun v A2 C2 h_1 => ?_)
  rcases h_1 with ⟨rfl, rfl, ⟨k_2, hk_3, rfl, rfl⟩ | ⟨no_4, rfl⟩⟩
  · have z_5 : k_2 < 6 := by omega
    refine s_if_eqN (pc := 6) S 21 dX7_releaseAll_6 (by decide) (by decide) (fun h => absurd h (by decide)) (fun _ => ?_)
    refine s_aload_n (pc := 9) S 0 dX7_releaseAll_9 rfl rfl ?_
    refine s_iload_n (pc := 10) S 2 dX7_releaseAll_10 rfl rfl ?_
    refine s_callV (pc := 11) S hz hml [.int y] (k_X7_isPrinter Z l A C y hp) (cwV 1 S.2.2.2.2 gX7_releaseAll_X7_isPrinter rfl rfl rfl (by decide +kernel) ⟨Nat.le_of_ble_eq_true rfl, Nat.le_of_ble_eq_true rfl⟩) (cc_mod (A := A) (C := C)) rfl rfl rfl (Nat.le_of_ble_eq_true rfl) dX7_releaseAll_11 ⟨Nat.le_of_ble_eq_true rfl, Nat.le_of_ble_eq_true rfl⟩ (fun _ _ _ h => h.elim) (fun v A2 C2 h_6 => ?_)
    rcases h_6 with ⟨rfl, rfl, ⟨k_7, hk_8, rfl, rfl⟩ | ⟨no_9, rfl⟩⟩
    · have z_10 : k_7 < 4 := by omega
      have z_11 := oTc k_7
      have z_12 := oB k_7
      have z_13 := oK k_7
      have z_14 := oS k_7
      have z_15 := o11 k_7
      refine s_if_eqN (pc := 14) S 21 dX7_releaseAll_14 (by decide) (by decide) (fun h => absurd h (by decide)) (fun _ => ?_)
      refine s_iconst (pc := 17) S (v := (nI 1)) dX7_releaseAll_17 (by decide) ?_
      refine s_goto (pc := 18) S 22 dX7_releaseAll_18 (by decide) ?_
      refine s_callV (pc := 22) S hz hml [.int (nI 1)] (k_X7_checked Z l A C 1 (by decide)) (cwV 1 S.2.2.2.2 gX7_releaseAll_X7_checked rfl rfl rfl (by decide +kernel) ⟨Nat.le_of_ble_eq_true rfl, Nat.le_of_ble_eq_true rfl⟩) (cc_mod (A := A) (C := C)) rfl rfl rfl (Nat.le_of_ble_eq_true rfl) dX7_releaseAll_22 ⟨Nat.le_of_ble_eq_true rfl, Nat.le_of_ble_eq_true rfl⟩ (fun _ _ _ h => h.elim) (fun v A2 C2 h_16 => ?_)
      obtain ⟨rfl, rfl, rfl⟩ := h_16
      refine s_if_leN (pc := 25) S 30 dX7_releaseAll_25 (by decide) (by decide) (fun _ => ?_) (fun h => absurd h (by decide))
      refine s_iconst (pc := 30) S (v := (nI 0)) dX7_releaseAll_30 (by decide) ?_
      refine s_istore_n (pc := 31) S [(3, .int (nI 0)), (0, .ref (A 60 100)), (1, .int (nI k_2)), (2, .int (nI k_7))] dX7_releaseAll_31 rfl (by decide) rfl ?_
      refine s_iconst (pc := 32) S (v := (nI 0)) dX7_releaseAll_32 (by decide) ?_
      refine s_istore (pc := 33) S [(4, .int (nI 0)), (3, .int (nI 0)), (0, .ref (A 60 100)), (1, .int (nI k_2)), (2, .int (nI k_7))] dX7_releaseAll_33 (by decide) rfl ?_
      have hMb : OkM (up3 C 60 100 27 0) := ⟨hO.th 0, hG.th 0, hX⟩
      have hra := raS_ok (u := k_2) (p := k_7) hMb hk_8 hlg4
      refine s_perm [0, 1, 2, 3, 4] [(4, .int (nI 0)), (3, .int (nI 0)), (0, .ref (A 60 100)), (1, .int (nI k_2)), (2, .int (nI k_7))] rfl ?_
      refine s_loopV (σ := Nat × (Nat → Nat) × CF) (fun y => y.1 ≤ C 60 100 30 ∧ raS (up3 C 60 100 27 0) k_2 k_7 y.1 = y.2.2) (fun y => C 60 100 30 - y.1) (fun y => raC (up3 C 60 100 27 0) k_2 k_7 y.1) (fun y => raL (up3 C 60 100 27 0) k_2 k_7 y.1) (fun y => AG A y.2.1) (fun y => y.2.2) (fun y => [(4, .int (nI y.1)), (3, .int (nI (raN (up3 C 60 100 27 0) k_2 k_7 y.1))), (0, .ref (AG A y.2.1 60 100)), (1, .int (nI k_2)), (2, .int (nI k_7))]) (0, A 60, (up3 C 60 100 27 0)) ⟨Nat.zero_le _, rfl⟩ rfl rfl (AG_self A) rfl rfl ?_
      intro y hI ih
      obtain ⟨j, b, Cj⟩ := y
      obtain ⟨hjl, hCj⟩ := hI
      dsimp only at hjl hCj ih ⊢
      obtain ⟨hMj, hlj, h28, h29, h30⟩ := hra j hjl
      rw [hCj] at hMj hlj h28 h29 h30
      have h28b : Cj 60 100 28 = C 60 100 28 := h28
      have h29b : Cj 60 100 29 = C 60 100 29 := h29
      have h30b : Cj 60 100 30 = C 60 100 30 := h30
      have hljb : Cj 60 100 31 ≤ C 60 100 31 + j := hlj
      have hraN := raN_le (up3 C 60 100 27 0) k_2 k_7 j
      have hmm := hm k_2 k_7 rfl rfl hk_3 hk_8
      have hmj := raC_mono (up3 C 60 100 27 0) k_2 k_7 j (C 60 100 30 - j)
      rw [show j + (C 60 100 30 - j) = C 60 100 30 by omega] at hmj
      obtain ⟨oU, oP, oJ, oTc, oY, o8, o9, o10, o11, o12, o13, o14, o15, oX, oQ, oB, oK, oS, oJk, oM, oCo, oSh, oLg, oPo, oLl, oL2, oL3, oL4, oLle, oE1, oE2, oE3, oE4⟩ := id hMj.1
      refine s_iload (pc := 35) S 0 dX7_releaseAll_35 rfl ?_
      refine s_aload_n (pc := 37) S 2 dX7_releaseAll_37 rfl rfl ?_
      refine s_get (pc := 38) S hz (ref := "SpoolFarmModel") (v := .int (nI (Cj 60 100 30))) (cc_mod (A := (AG A b)) (C := Cj)) i_RX7 rfl 30 (Nat.le_of_ble_eq_true rfl) (by decide +kernel) (fun _ h => h) rfl dX7_releaseAll_38 ?_
      refine s_icmp_geN (pc := 41) S 105 dX7_releaseAll_41 (by decide) (by omega) (by omega) (fun c_17 => ?_) (fun c_17 => ?_)
      · refine s_iload_n (pc := 105) S 1 dX7_releaseAll_105 rfl rfl ?_
        obtain rfl : j = C 60 100 30 := by omega
        exact s_iret (pc := 106) S hz hlo hr ⟨b, rfl, Or.inl ⟨k_2, k_7, hk_3, rfl, hk_8, rfl, hCj, rfl⟩⟩ (Nat.le_trans hmj.1 hmm.1) (Nat.le_trans hmj.2 hmm.2) dX7_releaseAll_106
      · have hjk : j < Cj 60 100 30 := by omega
        have hpj : k_7 < Cj 60 100 29 := by omega
        obtain ⟨hk_j, hd_j, hg_j, hg2_j, hcp_j, hle_j, hal30_j, hpt_j, hus_j, h900_j, hcp1_j⟩ := hMj.1.jk hjk
        have ho31_j : Cj 60 19 j < 2 ^ 31 := by omega
        have hal31_j : csN (Cj 60 13 j) (Cj 60 17 j) * Cj 60 18 j < 2 ^ 31 := by omega
        have hcb2 := o15 j
        refine s_aload_n (pc := 44) S 2 dX7_releaseAll_44 rfl rfl ?_
        refine s_get (pc := 45) S hz (ref := "SpoolFarmModel") (v := .ref ((AG A b) 60 16)) (cc_mod (A := (AG A b)) (C := Cj)) i_RX7 rfl 16 (Nat.le_of_ble_eq_true rfl) (by decide +kernel) (fun _ h => h) rfl dX7_releaseAll_45 ?_
        refine s_iload (pc := 48) S 0 dX7_releaseAll_48 rfl ?_
        refine s_iald (pc := 50) S hz (x := Cj 60 16 j) (cc_row (A := (AG A b)) (C := Cj) (x := aN .int 40 (Cj 60 16)) 16 (by decide) rfl) (by omega) (by omega) rfl dX7_releaseAll_50 ?_
        refine s_iload_n (pc := 51) S 3 dX7_releaseAll_51 rfl rfl ?_
        refine s_icmp_neN (pc := 52) S 99 dX7_releaseAll_52 (by decide) (by omega) (by omega) (fun c_18 => ?_) (fun c_18 => ?_)
        · refine s_iinc (pc := 99) S 0 [(4, .int (nI (j + 1))), (3, .int (nI (raN (up3 C 60 100 27 0) k_2 k_7 j))), (0, .ref ((AG A b) 60 100)), (1, .int (nI k_2)), (2, .int (nI k_7))] dX7_releaseAll_99 rfl (nI_add _ 1) (by decide) rfl ?_
          refine s_goto (pc := 102) S 35 dX7_releaseAll_102 (by decide) ?_
          have hng : ¬ raG Cj k_2 j := fun z => c_18 z.1
          have hS : raS (up3 C 60 100 27 0) k_2 k_7 (j + 1) = Cj := by show (if raG (raS (up3 C 60 100 27 0) k_2 k_7 j) k_2 j then _ else _) = _; rw [hCj, if_neg hng]
          have hCc : raC (up3 C 60 100 27 0) k_2 k_7 (j + 1) = raC (up3 C 60 100 27 0) k_2 k_7 j := by show _ + (if raG (raS (up3 C 60 100 27 0) k_2 k_7 j) k_2 j then _ else 0) = _; rw [hCj, if_neg hng]; rfl
          have hCl : raL (up3 C 60 100 27 0) k_2 k_7 (j + 1) = raL (up3 C 60 100 27 0) k_2 k_7 j := by show _ + (if raG (raS (up3 C 60 100 27 0) k_2 k_7 j) k_2 j then _ else 0) = _; rw [hCj, if_neg hng]; rfl
          have hN : raN (up3 C 60 100 27 0) k_2 k_7 (j + 1) = raN (up3 C 60 100 27 0) k_2 k_7 j := by show _ + (if raG (raS (up3 C 60 100 27 0) k_2 k_7 j) k_2 j ∧ _ then 1 else 0) = _; rw [hCj, if_neg (fun z => hng z.1)]; rfl
          refine s_perm [0, 1, 2, 3, 4] [(4, .int (nI (j + 1))), (3, .int (nI (raN (up3 C 60 100 27 0) k_2 k_7 j))), (0, .ref ((AG A b) 60 100)), (1, .int (nI k_2)), (2, .int (nI k_7))] rfl ?_
          refine s_loc (L2 := [(4, .int (nI (j + 1))), (3, .int (nI (raN (up3 C 60 100 27 0) k_2 k_7 (j + 1)))), (0, .ref ((AG A b) 60 100)), (1, .int (nI k_2)), (2, .int (nI k_7))]) (by rw [hN]) ?_
          refine s_room hCc hCl ?_
          exact ih (j + 1, b, Cj) ⟨by dsimp only; omega, hS⟩ (by dsimp only; omega)
        · refine s_aload_n (pc := 55) S 2 dX7_releaseAll_55 rfl rfl ?_
          refine s_iload (pc := 56) S 0 dX7_releaseAll_56 rfl ?_
          refine s_callV (pc := 58) S hz hml [.int (nI j)] (k_X7_isDone Z l (AG A b) Cj j hk_j hd_j hg_j hg2_j hal31_j ho31_j) (cwV 1 S.2.2.2.2 gX7_releaseAll_X7_isDone rfl rfl rfl (by decide +kernel) ⟨Nat.le_of_ble_eq_true rfl, Nat.le_of_ble_eq_true rfl⟩) (cc_mod (A := (AG A b)) (C := Cj)) rfl rfl rfl (Nat.le_of_ble_eq_true rfl) dX7_releaseAll_58 ⟨by show _ ≤ mc; omega, by show _ ≤ ms; omega⟩ (fun _ _ _ h => h.elim) (fun v A2 C2 h_21 => ?_)
          rcases h_21 with ⟨rfl, rfl, ⟨dn_19, rfl⟩ | ⟨dn_20, rfl⟩⟩
          · refine s_if_neN (pc := 61) S 99 dX7_releaseAll_61 (by decide) (by decide) (fun _ => ?_) (fun h => absurd h (by decide))
            refine s_iinc (pc := 99) S 0 [(4, .int (nI (j + 1))), (3, .int (nI (raN (up3 C 60 100 27 0) k_2 k_7 j))), (0, .ref ((AG A b) 60 100)), (1, .int (nI k_2)), (2, .int (nI k_7))] dX7_releaseAll_99 rfl (nI_add _ 1) (by decide) rfl ?_
            refine s_goto (pc := 102) S 35 dX7_releaseAll_102 (by decide) ?_
            have hng : ¬ raG Cj k_2 j := fun z => z.2.1 dn_19
            have hS : raS (up3 C 60 100 27 0) k_2 k_7 (j + 1) = Cj := by show (if raG (raS (up3 C 60 100 27 0) k_2 k_7 j) k_2 j then _ else _) = _; rw [hCj, if_neg hng]
            have hCc : raC (up3 C 60 100 27 0) k_2 k_7 (j + 1) = raC (up3 C 60 100 27 0) k_2 k_7 j := by show _ + (if raG (raS (up3 C 60 100 27 0) k_2 k_7 j) k_2 j then _ else 0) = _; rw [hCj, if_neg hng]; rfl
            have hCl : raL (up3 C 60 100 27 0) k_2 k_7 (j + 1) = raL (up3 C 60 100 27 0) k_2 k_7 j := by show _ + (if raG (raS (up3 C 60 100 27 0) k_2 k_7 j) k_2 j then _ else 0) = _; rw [hCj, if_neg hng]; rfl
            have hN : raN (up3 C 60 100 27 0) k_2 k_7 (j + 1) = raN (up3 C 60 100 27 0) k_2 k_7 j := by show _ + (if raG (raS (up3 C 60 100 27 0) k_2 k_7 j) k_2 j ∧ _ then 1 else 0) = _; rw [hCj, if_neg (fun z => hng z.1)]; rfl
            refine s_perm [0, 1, 2, 3, 4] [(4, .int (nI (j + 1))), (3, .int (nI (raN (up3 C 60 100 27 0) k_2 k_7 j))), (0, .ref ((AG A b) 60 100)), (1, .int (nI k_2)), (2, .int (nI k_7))] rfl ?_
            refine s_loc (L2 := [(4, .int (nI (j + 1))), (3, .int (nI (raN (up3 C 60 100 27 0) k_2 k_7 (j + 1)))), (0, .ref ((AG A b) 60 100)), (1, .int (nI k_2)), (2, .int (nI k_7))]) (by rw [hN]) ?_
            refine s_room hCc hCl ?_
            exact ih (j + 1, b, Cj) ⟨by dsimp only; omega, hS⟩ (by dsimp only; omega)
          · refine s_if_neN (pc := 61) S 99 dX7_releaseAll_61 (by decide) (by decide) (fun h => absurd h (by decide)) (fun _ => ?_)
            refine s_aload_n (pc := 64) S 2 dX7_releaseAll_64 rfl rfl ?_
            refine s_get (pc := 65) S hz (ref := "SpoolFarmModel") (v := .ref ((AG A b) 60 15)) (cc_mod (A := (AG A b)) (C := Cj)) i_RX7 rfl 15 (Nat.le_of_ble_eq_true rfl) (by decide +kernel) (fun _ h => h) rfl dX7_releaseAll_65 ?_
            refine s_iload (pc := 68) S 0 dX7_releaseAll_68 rfl ?_
            refine s_zald (pc := 70) S hz (x := Cj 60 15 j) (cc_row (A := (AG A b)) (C := Cj) (x := aN .boolean 40 (Cj 60 15)) 15 (by decide) rfl) (by omega) (by omega) rfl dX7_releaseAll_70 ?_
            refine s_if_eqN (pc := 71) S 77 dX7_releaseAll_71 (by decide) (by omega) (fun c_22 => ?_) (fun c_22 => ?_)
            · refine s_aload_n (pc := 77) S 2 dX7_releaseAll_77 rfl rfl ?_
              refine s_iload (pc := 78) S 0 dX7_releaseAll_78 rfl ?_
              refine s_iload_n (pc := 80) S 4 dX7_releaseAll_80 rfl rfl ?_
              have hgo : raG Cj k_2 j := ⟨c_18, dn_20, c_22⟩
              have hS : raS (up3 C 60 100 27 0) k_2 k_7 (j + 1) = rlR Cj j k_7 := by show (if raG (raS (up3 C 60 100 27 0) k_2 k_7 j) k_2 j then _ else _) = _; rw [hCj, if_pos hgo]
              have hCc : raC (up3 C 60 100 27 0) k_2 k_7 (j + 1) = raC (up3 C 60 100 27 0) k_2 k_7 j + rC Cj j k_7 := by show _ + (if raG (raS (up3 C 60 100 27 0) k_2 k_7 j) k_2 j then _ else 0) = _; rw [hCj, if_pos hgo]
              have hCl : raL (up3 C 60 100 27 0) k_2 k_7 (j + 1) = raL (up3 C 60 100 27 0) k_2 k_7 j + rS Cj j k_7 := by show _ + (if raG (raS (up3 C 60 100 27 0) k_2 k_7 j) k_2 j then _ else 0) = _; rw [hCj, if_pos hgo]
              have hmk := raC_mono (up3 C 60 100 27 0) k_2 k_7 (j + 1) (C 60 100 30 - (j + 1))
              rw [show j + 1 + (C 60 100 30 - (j + 1)) = C 60 100 30 by omega] at hmk
              have hM2 := (hMj.rl hjk hpj (by omega)).1
              have hj2 : j < rlR Cj j k_7 60 100 30 := by rw [rl_k 30 (by omega)]; exact hjk
              have hpgl := pgR_le (hMj.1.rk hjk hpj)
              refine s_callV (pc := 81) S hz hml [.int (nI j), .int (nI k_7)] (k_X7_releases Z l (AG A b) Cj j k_7 hMj.1 hMj.2.1 hjk hpj) (cwV 2 S.2.2.2.2 gX7_releaseAll_X7_releases rfl rfl rfl (by decide +kernel) ⟨Nat.le_of_ble_eq_true rfl, Nat.le_of_ble_eq_true rfl⟩) (cc_mod (A := (AG A b)) (C := Cj)) rfl rfl rfl (Nat.le_of_ble_eq_true rfl) dX7_releaseAll_81 ⟨by show _ ≤ mc; omega, by show _ ≤ ms; omega⟩ (fun _ _ _ h => h.elim) (fun v A2 C2 h_24 => ?_)
              obtain ⟨b_23, rfl, rfl, rfl⟩ := h_24
              refine s_A (AG_AG A b b_23).symm ?_
              refine s_loc (L2 := [(4, .int (nI j)), (3, .int (nI (raN (up3 C 60 100 27 0) k_2 k_7 j))), (0, .ref ((AG A b_23) 60 100)), (1, .int (nI k_2)), (2, .int (nI k_7))]) rfl ?_
              refine s_if_leN (pc := 84) S 99 dX7_releaseAll_84 (by decide) (by omega) (fun c_25 => ?_) (fun c_25 => ?_)
              · refine s_iinc (pc := 99) S 0 [(4, .int (nI (j + 1))), (3, .int (nI (raN (up3 C 60 100 27 0) k_2 k_7 j))), (0, .ref ((AG A b_23) 60 100)), (1, .int (nI k_2)), (2, .int (nI k_7))] dX7_releaseAll_99 rfl (nI_add _ 1) (by decide) rfl ?_
                refine s_goto (pc := 102) S 35 dX7_releaseAll_102 (by decide) ?_
                have hN : raN (up3 C 60 100 27 0) k_2 k_7 (j + 1) = raN (up3 C 60 100 27 0) k_2 k_7 j := by show _ + (if raG (raS (up3 C 60 100 27 0) k_2 k_7 j) k_2 j ∧ _ then 1 else 0) = _; rw [hCj, if_neg (fun z => z.2.1 (Nat.le_zero.mp c_25))]; rfl
                refine s_perm [0, 1, 2, 3, 4] [(4, .int (nI (j + 1))), (3, .int (nI (raN (up3 C 60 100 27 0) k_2 k_7 j))), (0, .ref ((AG A b_23) 60 100)), (1, .int (nI k_2)), (2, .int (nI k_7))] rfl ?_
                refine s_loc (L2 := [(4, .int (nI (j + 1))), (3, .int (nI (raN (up3 C 60 100 27 0) k_2 k_7 (j + 1)))), (0, .ref ((AG A b_23) 60 100)), (1, .int (nI k_2)), (2, .int (nI k_7))]) (by rw [hN]) ?_
                refine s_room hCc hCl ?_
                exact ih (j + 1, b_23, rlR Cj j k_7) ⟨by dsimp only; omega, hS⟩ (by dsimp only; omega)
              · refine s_aload_n (pc := 87) S 2 dX7_releaseAll_87 rfl rfl ?_
                refine s_iload (pc := 88) S 0 dX7_releaseAll_88 rfl ?_
                obtain ⟨hk_r, hd_r, hg_r, hg2_r, hcp_r, hle_r, hal30_r, hpt_r, hus_r, h900_r, hcp1_r⟩ := hM2.1.jk hj2
                have ho31_r : (rlR Cj j k_7) 60 19 j < 2 ^ 31 := by omega
                have hal31_r : csN ((rlR Cj j k_7) 60 13 j) ((rlR Cj j k_7) 60 17 j) * (rlR Cj j k_7) 60 18 j < 2 ^ 31 := by omega
                refine s_callV (pc := 90) S hz hml [.int (nI j)] (k_X7_isDone Z l (AG A b_23) (rlR Cj j k_7) j hk_r hd_r hg_r hg2_r hal31_r ho31_r) (cwV 1 S.2.2.2.2 gX7_releaseAll_X7_isDone rfl rfl rfl (by decide +kernel) ⟨Nat.le_of_ble_eq_true rfl, Nat.le_of_ble_eq_true rfl⟩) (cc_mod (A := (AG A b_23)) (C := (rlR Cj j k_7))) rfl rfl rfl (Nat.le_of_ble_eq_true rfl) dX7_releaseAll_90 ⟨by show _ ≤ mc; omega, by show _ ≤ ms; omega⟩ (fun _ _ _ h => h.elim) (fun v A2 C2 h_28 => ?_)
                rcases h_28 with ⟨rfl, rfl, ⟨dn_26, rfl⟩ | ⟨dn_27, rfl⟩⟩
                · refine s_if_eqN (pc := 93) S 99 dX7_releaseAll_93 (by decide) (by decide) (fun h => absurd h (by decide)) (fun _ => ?_)
                  refine s_iinc (pc := 96) S 1 [(3, .int (nI ((raN (up3 C 60 100 27 0) k_2 k_7 j) + 1))), (4, .int (nI j)), (0, .ref ((AG A b_23) 60 100)), (1, .int (nI k_2)), (2, .int (nI k_7))] dX7_releaseAll_96 rfl (nI_add _ 1) (by decide) rfl ?_
                  refine s_iinc (pc := 99) S 1 [(4, .int (nI (j + 1))), (3, .int (nI ((raN (up3 C 60 100 27 0) k_2 k_7 j) + 1))), (0, .ref ((AG A b_23) 60 100)), (1, .int (nI k_2)), (2, .int (nI k_7))] dX7_releaseAll_99 rfl (nI_add _ 1) (by decide) rfl ?_
                  refine s_goto (pc := 102) S 35 dX7_releaseAll_102 (by decide) ?_
                  have hN : raN (up3 C 60 100 27 0) k_2 k_7 (j + 1) = raN (up3 C 60 100 27 0) k_2 k_7 j + 1 := by show _ + (if raG (raS (up3 C 60 100 27 0) k_2 k_7 j) k_2 j ∧ _ then 1 else 0) = _; rw [hCj, if_pos ⟨hgo, (fun z => c_25 (Nat.le_of_eq z)), dn_26⟩]
                  refine s_perm [0, 1, 2, 3, 4] [(4, .int (nI (j + 1))), (3, .int (nI ((raN (up3 C 60 100 27 0) k_2 k_7 j) + 1))), (0, .ref ((AG A b_23) 60 100)), (1, .int (nI k_2)), (2, .int (nI k_7))] rfl ?_
                  refine s_loc (L2 := [(4, .int (nI (j + 1))), (3, .int (nI (raN (up3 C 60 100 27 0) k_2 k_7 (j + 1)))), (0, .ref ((AG A b_23) 60 100)), (1, .int (nI k_2)), (2, .int (nI k_7))]) (by rw [hN]) ?_
                  refine s_room hCc hCl ?_
                  exact ih (j + 1, b_23, rlR Cj j k_7) ⟨by dsimp only; omega, hS⟩ (by dsimp only; omega)
                · refine s_if_eqN (pc := 93) S 99 dX7_releaseAll_93 (by decide) (by decide) (fun _ => ?_) (fun h => absurd h (by decide))
                  refine s_iinc (pc := 99) S 0 [(4, .int (nI (j + 1))), (3, .int (nI (raN (up3 C 60 100 27 0) k_2 k_7 j))), (0, .ref ((AG A b_23) 60 100)), (1, .int (nI k_2)), (2, .int (nI k_7))] dX7_releaseAll_99 rfl (nI_add _ 1) (by decide) rfl ?_
                  refine s_goto (pc := 102) S 35 dX7_releaseAll_102 (by decide) ?_
                  have hN : raN (up3 C 60 100 27 0) k_2 k_7 (j + 1) = raN (up3 C 60 100 27 0) k_2 k_7 j := by show _ + (if raG (raS (up3 C 60 100 27 0) k_2 k_7 j) k_2 j ∧ _ then 1 else 0) = _; rw [hCj, if_neg (fun z => dn_27 z.2.2)]; rfl
                  refine s_perm [0, 1, 2, 3, 4] [(4, .int (nI (j + 1))), (3, .int (nI (raN (up3 C 60 100 27 0) k_2 k_7 j))), (0, .ref ((AG A b_23) 60 100)), (1, .int (nI k_2)), (2, .int (nI k_7))] rfl ?_
                  refine s_loc (L2 := [(4, .int (nI (j + 1))), (3, .int (nI (raN (up3 C 60 100 27 0) k_2 k_7 (j + 1)))), (0, .ref ((AG A b_23) 60 100)), (1, .int (nI k_2)), (2, .int (nI k_7))]) (by rw [hN]) ?_
                  refine s_room hCc hCl ?_
                  exact ih (j + 1, b_23, rlR Cj j k_7) ⟨by dsimp only; omega, hS⟩ (by dsimp only; omega)
            · refine s_goto (pc := 74) S 99 dX7_releaseAll_74 (by decide) ?_
              refine s_iinc (pc := 99) S 0 [(4, .int (nI (j + 1))), (3, .int (nI (raN (up3 C 60 100 27 0) k_2 k_7 j))), (0, .ref ((AG A b) 60 100)), (1, .int (nI k_2)), (2, .int (nI k_7))] dX7_releaseAll_99 rfl (nI_add _ 1) (by decide) rfl ?_
              refine s_goto (pc := 102) S 35 dX7_releaseAll_102 (by decide) ?_
              have hng : ¬ raG Cj k_2 j := fun z => c_22 z.2.2
              have hS : raS (up3 C 60 100 27 0) k_2 k_7 (j + 1) = Cj := by show (if raG (raS (up3 C 60 100 27 0) k_2 k_7 j) k_2 j then _ else _) = _; rw [hCj, if_neg hng]
              have hCc : raC (up3 C 60 100 27 0) k_2 k_7 (j + 1) = raC (up3 C 60 100 27 0) k_2 k_7 j := by show _ + (if raG (raS (up3 C 60 100 27 0) k_2 k_7 j) k_2 j then _ else 0) = _; rw [hCj, if_neg hng]; rfl
              have hCl : raL (up3 C 60 100 27 0) k_2 k_7 (j + 1) = raL (up3 C 60 100 27 0) k_2 k_7 j := by show _ + (if raG (raS (up3 C 60 100 27 0) k_2 k_7 j) k_2 j then _ else 0) = _; rw [hCj, if_neg hng]; rfl
              have hN : raN (up3 C 60 100 27 0) k_2 k_7 (j + 1) = raN (up3 C 60 100 27 0) k_2 k_7 j := by show _ + (if raG (raS (up3 C 60 100 27 0) k_2 k_7 j) k_2 j ∧ _ then 1 else 0) = _; rw [hCj, if_neg (fun z => hng z.1)]; rfl
              refine s_perm [0, 1, 2, 3, 4] [(4, .int (nI (j + 1))), (3, .int (nI (raN (up3 C 60 100 27 0) k_2 k_7 j))), (0, .ref ((AG A b) 60 100)), (1, .int (nI k_2)), (2, .int (nI k_7))] rfl ?_
              refine s_loc (L2 := [(4, .int (nI (j + 1))), (3, .int (nI (raN (up3 C 60 100 27 0) k_2 k_7 (j + 1)))), (0, .ref ((AG A b) 60 100)), (1, .int (nI k_2)), (2, .int (nI k_7))]) (by rw [hN]) ?_
              refine s_room hCc hCl ?_
              exact ih (j + 1, b, Cj) ⟨by dsimp only; omega, hS⟩ (by dsimp only; omega)
    · refine s_if_eqN (pc := 14) S 21 dX7_releaseAll_14 (by decide) (by decide) (fun _ => ?_) (fun h => absurd h (by decide))
      refine s_iconst (pc := 21) S (v := (nI 0)) dX7_releaseAll_21 (by decide) ?_
      refine s_callV (pc := 22) S hz hml [.int (nI 0)] (k_X7_checked Z l A C 0 (by decide)) (cwV 1 S.2.2.2.2 gX7_releaseAll_X7_checked rfl rfl rfl (by decide +kernel) ⟨Nat.le_of_ble_eq_true rfl, Nat.le_of_ble_eq_true rfl⟩) (cc_mod (A := A) (C := C)) rfl rfl rfl (Nat.le_of_ble_eq_true rfl) dX7_releaseAll_22 ⟨Nat.le_of_ble_eq_true rfl, Nat.le_of_ble_eq_true rfl⟩ (fun _ _ _ h => h.elim) (fun v A2 C2 h_29 => ?_)
      obtain ⟨rfl, rfl, rfl⟩ := h_29
      refine s_if_leN (pc := 25) S 30 dX7_releaseAll_25 (by decide) (by decide) (fun h => absurd h (by decide)) (fun _ => ?_)
      refine s_iconst (pc := 28) S (v := (nI 0)) dX7_releaseAll_28 (by decide) ?_
      exact s_iret (pc := 29) S hz hlo hr ⟨A 60, AG_self A, Or.inr (Or.inl ⟨k_2, hk_3, rfl, no_9, rfl, rfl⟩)⟩ (Nat.zero_le _) (Nat.zero_le _) dX7_releaseAll_29
  · refine s_if_eqN (pc := 6) S 21 dX7_releaseAll_6 (by decide) (by decide) (fun _ => ?_) (fun h => absurd h (by decide))
    refine s_iconst (pc := 21) S (v := (nI 0)) dX7_releaseAll_21 (by decide) ?_
    refine s_callV (pc := 22) S hz hml [.int (nI 0)] (k_X7_checked Z l A C 0 (by decide)) (cwV 1 S.2.2.2.2 gX7_releaseAll_X7_checked rfl rfl rfl (by decide +kernel) ⟨Nat.le_of_ble_eq_true rfl, Nat.le_of_ble_eq_true rfl⟩) (cc_mod (A := A) (C := C)) rfl rfl rfl (Nat.le_of_ble_eq_true rfl) dX7_releaseAll_22 ⟨Nat.le_of_ble_eq_true rfl, Nat.le_of_ble_eq_true rfl⟩ (fun _ _ _ h => h.elim) (fun v A2 C2 h_30 => ?_)
    obtain ⟨rfl, rfl, rfl⟩ := h_30
    refine s_if_leN (pc := 25) S 30 dX7_releaseAll_25 (by decide) (by decide) (fun h => absurd h (by decide)) (fun _ => ?_)
    refine s_iconst (pc := 28) S (v := (nI 0)) dX7_releaseAll_28 (by decide) ?_
    exact s_iret (pc := 29) S hz hlo hr ⟨A 60, AG_self A, Or.inr (Or.inr (⟨no_4, rfl, rfl⟩))⟩ (Nat.zero_le _) (Nat.zero_le _) dX7_releaseAll_29
