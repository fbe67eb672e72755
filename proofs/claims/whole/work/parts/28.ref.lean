set_option maxHeartbeats 4000000 in
set_option maxRecDepth 100000 in
theorem k_X7_pagesAt (Z : Zp) (l : Launch) (A : AF) (C : CF) (k p : Nat) (C1 : CF) (hR : RK C1 k p) (hs : Sc C1 C) : CtS Z l yX7_pagesAt wsX7_pagesAt ({ frames := 4, cells := 0, slots := 0, locals := 91 }) [.ref (A 60 100), .int (nI k), .int (nI p)] A C 0 0 (fun v A2 C2 => A = A2 ∧ Sc C1 C2 ∧ some (.int (nI (pgR C1 k p))) = v) (fun _ _ _ => False) := by
  refine CtS.of (cc0 := cX7_pagesAt) (maxL := 3) (ret := (some .int)) (by decide) rfl (Nat.le_of_ble_eq_true rfl) ?_
  intro M0_ p_ e_ s_ m_ args_ below_ meth_ c_ S hz hml hex hlo hr hin
  refine s_loc (L2 := [(0, .ref (A 60 100)), (1, .int (nI k)), (2, .int (nI p))]) rfl ?_
  have i_RX7 : ∀ w ∈ u_ws RX7 TX7 38, w ∈ wsX7_pagesAt := by decide +kernel
  obtain ⟨x0, x1, x2, b0, c0, q0, rfl, hx0, hx1, hx2⟩ := id hs
  have hR2 := hs.RK hR
  obtain ⟨hk, hp, hnt, hq, hw, hY, hx, hd, hg, hg2, hcp, hcn, hb, hac, hu, hbk, hck, hQ, ho⟩ := id hR
  have hal : csN (C1 60 13 k) (C1 60 17 k) * C1 60 18 k < 2 ^ 30 := al_lt30 hg hg2 hcp
  refine s_aload_n (pc := 0) S 0 dX7_pagesAt_0 rfl rfl ?_
  refine s_iload_n (pc := 1) S 1 dX7_pagesAt_1 rfl rfl ?_
  refine s_aload_n (pc := 2) S 0 dX7_pagesAt_2 rfl rfl ?_
  refine s_iload_n (pc := 3) S 1 dX7_pagesAt_3 rfl rfl ?_
  refine s_iload_n (pc := 4) S 2 dX7_pagesAt_4 rfl rfl ?_
  refine s_callV (pc := 5) S hz hml [.int (nI k), .int (nI p)] (k_X7_tried Z l A (S6 C1 x0 x1 x2 b0 c0 q0) k p hR2) (cwV 2 S.2.2.2.2 gX7_pagesAt_X7_tried rfl rfl rfl (by decide +kernel) ⟨Nat.le_of_ble_eq_true rfl, Nat.le_of_ble_eq_true rfl⟩) (cc_mod (A := A) (C := (S6 C1 x0 x1 x2 b0 c0 q0))) rfl rfl rfl (Nat.le_of_ble_eq_true rfl) dX7_pagesAt_5 ⟨Nat.le_of_ble_eq_true rfl, Nat.le_of_ble_eq_true rfl⟩ (fun _ _ _ h => h.elim) (fun v A2 C2 h_1 => ?_)
  obtain ⟨rfl, n_2, hT_3, hN_4, hJ_5, rfl, rfl⟩ := h_1
  have hF : FR C1 k p n_2 := ⟨hT_3, hN_4, hJ_5⟩
  have hTl : C1 60 19 k + n_2 ≤ csN (C1 60 13 k) (C1 60 17 k) * C1 60 18 k := hT_3.2.2.2.2
  have hpm := pto_mono (C1 60 13 k) (C1 60 17 k) (C1 60 19 k) n_2 hg
  have hp9 := pt_900 (d := C1 60 13 k) hg hg2 hcp hTl
  refine s_callV (pc := 8) S hz hml [.int (nI k), .int (nI (C1 60 19 k + n_2))] (k_X7_pagesTo Z l A (TrS (S6 C1 x0 x1 x2 b0 c0 q0) k p n_2) k hk hd hg hg2 (C1 60 19 k + n_2) (by omega)) (cwV 2 S.2.2.2.2 gX7_pagesAt_X7_pagesTo rfl rfl rfl (by decide +kernel) ⟨Nat.le_of_ble_eq_true rfl, Nat.le_of_ble_eq_true rfl⟩) (cc_mod (A := A) (C := (TrS (S6 C1 x0 x1 x2 b0 c0 q0) k p n_2))) rfl rfl rfl (Nat.le_of_ble_eq_true rfl) dX7_pagesAt_8 ⟨Nat.le_of_ble_eq_true rfl, Nat.le_of_ble_eq_true rfl⟩ (fun _ _ _ h => h.elim) (fun v A2 C2 h_6 => ?_)
  obtain ⟨rfl, rfl, rfl⟩ := h_6
  refine s_top (u := .int (nI (ptoN (C1 60 13 k) (C1 60 17 k) (C1 60 19 k + n_2)))) rfl ?_
  refine s_aload_n (pc := 11) S 0 dX7_pagesAt_11 rfl rfl ?_
  refine s_iload_n (pc := 12) S 1 dX7_pagesAt_12 rfl rfl ?_
  refine s_aload_n (pc := 13) S 0 dX7_pagesAt_13 rfl rfl ?_
  refine s_get (pc := 14) S hz (ref := "SpoolFarmModel") (v := .ref (A 60 19)) (cc_mod (A := A) (C := (TrS (S6 C1 x0 x1 x2 b0 c0 q0) k p n_2))) i_RX7 rfl 19 (Nat.le_of_ble_eq_true rfl) (by decide +kernel) (fun _ h => h) rfl dX7_pagesAt_14 ?_
  refine s_iload_n (pc := 17) S 1 dX7_pagesAt_17 rfl rfl ?_
  refine s_iald (pc := 18) S hz (x := C1 60 19 k) (cc_row (A := A) (C := (TrS (S6 C1 x0 x1 x2 b0 c0 q0) k p n_2)) (x := aN .int 40 ((TrS (S6 C1 x0 x1 x2 b0 c0 q0) k p n_2) 60 19)) 19 (by decide) rfl) (by omega) (by omega) rfl dX7_pagesAt_18 ?_
  refine s_callV (pc := 19) S hz hml [.int (nI k), .int (nI (C1 60 19 k))] (k_X7_pagesTo Z l A (TrS (S6 C1 x0 x1 x2 b0 c0 q0) k p n_2) k hk hd hg hg2 (C1 60 19 k) (by omega)) (cwV 2 S.2.2.2.2 gX7_pagesAt_X7_pagesTo rfl rfl rfl (by decide +kernel) ⟨Nat.le_of_ble_eq_true rfl, Nat.le_of_ble_eq_true rfl⟩) (cc_mod (A := A) (C := (TrS (S6 C1 x0 x1 x2 b0 c0 q0) k p n_2))) rfl rfl rfl (Nat.le_of_ble_eq_true rfl) dX7_pagesAt_19 ⟨Nat.le_of_ble_eq_true rfl, Nat.le_of_ble_eq_true rfl⟩ (fun _ _ _ h => h.elim) (fun v A2 C2 h_7 => ?_)
  obtain ⟨rfl, rfl, rfl⟩ := h_7
  refine s_top (u := .int (nI (ptoN (C1 60 13 k) (C1 60 17 k) (C1 60 19 k)))) rfl ?_
  refine s_isubN (pc := 22) S dX7_pagesAt_22 (by omega) ?_
  exact s_iret (pc := 23) S hz hlo hr ⟨rfl, hs.trans (TrS_Sc (C := S6 C1 x0 x1 x2 b0 c0 q0) hY), by rw [hF.pg hR]; rfl⟩ (Nat.le_of_ble_eq_true rfl) (Nat.le_of_ble_eq_true rfl) dX7_pagesAt_23
set_option maxHeartbeats 4000000 in
set_option maxRecDepth 100000 in
theorem k_X7_rank (Z : Zp) (l : Launch) (A : AF) (C : CF) (k p : Nat) (C1 : CF) (hR : RK C1 k p) (hs : Sc C1 C) : CtS Z l yX7_rank wsX7_rank ({ frames := 4, cells := 0, slots := 0, locals := 91 }) [.ref (A 60 100), .int (nI k), .int (nI p)] A C 0 0 (fun v A2 C2 => A = A2 ∧ Sc C1 C2 ∧ some (.int (nI (rkR C1 k p))) = v) (fun _ _ _ => False) := by
  refine CtS.of (cc0 := cX7_rank) (maxL := 4) (ret := (some .int)) (by decide) rfl (Nat.le_of_ble_eq_true rfl) ?_
  intro M0_ p_ e_ s_ m_ args_ below_ meth_ c_ S hz hml hex hlo hr hin
  refine s_loc (L2 := [(0, .ref (A 60 100)), (1, .int (nI k)), (2, .int (nI p))]) rfl ?_
  have i_RX7 : ∀ w ∈ u_ws RX7 TX7 38, w ∈ wsX7_rank := by decide +kernel
  obtain ⟨x0, x1, x2, b0, c0, q0, rfl, hx0, hx1, hx2⟩ := id hs
  have hR2 := hs.RK hR
  obtain ⟨hk, hp, hnt, hq, hw, hY, hx, hd, hg, hg2, hcp, hcn, hb, hac, hu, hbk, hck, hQ, ho⟩ := id hR
  have hal : csN (C1 60 13 k) (C1 60 17 k) * C1 60 18 k < 2 ^ 30 := al_lt30 hg hg2 hcp
  refine s_aload_n (pc := 0) S 0 dX7_rank_0 rfl rfl ?_
  refine s_iload_n (pc := 1) S 1 dX7_rank_1 rfl rfl ?_
  refine s_iload_n (pc := 2) S 2 dX7_rank_2 rfl rfl ?_
  refine s_callV (pc := 3) S hz hml [.int (nI k), .int (nI p)] (k_X7_tried Z l A (S6 C1 x0 x1 x2 b0 c0 q0) k p hR2) (cwV 2 S.2.2.2.2 gX7_rank_X7_tried rfl rfl rfl (by decide +kernel) ⟨Nat.le_of_ble_eq_true rfl, Nat.le_of_ble_eq_true rfl⟩) (cc_mod (A := A) (C := (S6 C1 x0 x1 x2 b0 c0 q0))) rfl rfl rfl (Nat.le_of_ble_eq_true rfl) dX7_rank_3 ⟨Nat.le_of_ble_eq_true rfl, Nat.le_of_ble_eq_true rfl⟩ (fun _ _ _ h => h.elim) (fun v A2 C2 h_1 => ?_)
  obtain ⟨rfl, n_2, hT_3, hN_4, hJ_5, rfl, rfl⟩ := h_1
  have hF : FR C1 k p n_2 := ⟨hT_3, hN_4, hJ_5⟩
  have hTl : C1 60 19 k + n_2 ≤ csN (C1 60 13 k) (C1 60 17 k) * C1 60 18 k := hT_3.2.2.2.2
  have hpm := pto_mono (C1 60 13 k) (C1 60 17 k) (C1 60 19 k) n_2 hg
  have hp9 := pt_900 (d := C1 60 13 k) hg hg2 hcp hTl
  refine s_istore_n (pc := 6) S [(3, .int (nI (C1 60 19 k + n_2))), (0, .ref (A 60 100)), (1, .int (nI k)), (2, .int (nI p))] dX7_rank_6 rfl (by decide) rfl ?_
  refine s_iload_n (pc := 7) S 0 dX7_rank_7 rfl rfl ?_
  refine s_aload_n (pc := 8) S 1 dX7_rank_8 rfl rfl ?_
  refine s_get (pc := 9) S hz (ref := "SpoolFarmModel") (v := .ref (A 60 19)) (cc_mod (A := A) (C := (TrS (S6 C1 x0 x1 x2 b0 c0 q0) k p n_2))) i_RX7 rfl 19 (Nat.le_of_ble_eq_true rfl) (by decide +kernel) (fun _ h => h) rfl dX7_rank_9 ?_
  refine s_iload_n (pc := 12) S 2 dX7_rank_12 rfl rfl ?_
  refine s_iald (pc := 13) S hz (x := C1 60 19 k) (cc_row (A := A) (C := (TrS (S6 C1 x0 x1 x2 b0 c0 q0) k p n_2)) (x := aN .int 40 ((TrS (S6 C1 x0 x1 x2 b0 c0 q0) k p n_2) 60 19)) 19 (by decide) rfl) (by omega) (by omega) rfl dX7_rank_13 ?_
  refine s_icmp_neN (pc := 14) S 19 dX7_rank_14 (by decide) (by omega) (by omega) (fun c_6 => ?_) (fun c_6 => ?_)
  · refine s_iload_n (pc := 19) S 0 dX7_rank_19 rfl rfl ?_
    refine s_aload_n (pc := 20) S 1 dX7_rank_20 rfl rfl ?_
    refine s_iload_n (pc := 21) S 2 dX7_rank_21 rfl rfl ?_
    refine s_callV (pc := 22) S hz hml [.int (nI k)] (k_X7_allSheets Z l A (TrS (S6 C1 x0 x1 x2 b0 c0 q0) k p n_2) k hk hd hg hg2) (cwV 1 S.2.2.2.2 gX7_rank_X7_allSheets rfl rfl rfl (by decide +kernel) ⟨Nat.le_of_ble_eq_true rfl, Nat.le_of_ble_eq_true rfl⟩) (cc_mod (A := A) (C := (TrS (S6 C1 x0 x1 x2 b0 c0 q0) k p n_2))) rfl rfl rfl (Nat.le_of_ble_eq_true rfl) dX7_rank_22 ⟨Nat.le_of_ble_eq_true rfl, Nat.le_of_ble_eq_true rfl⟩ (fun _ _ _ h => h.elim) (fun v A2 C2 h_7 => ?_)
    obtain ⟨rfl, rfl, rfl⟩ := h_7
    refine s_top (u := .int (nI (csN (C1 60 13 k) (C1 60 17 k) * C1 60 18 k))) rfl ?_
    refine s_icmp_neN (pc := 25) S 32 dX7_rank_25 (by decide) (by omega) (by omega) (fun c_8 => ?_) (fun c_8 => ?_)
    · refine s_iconst (pc := 32) S (v := (nI 1)) dX7_rank_32 (by decide) ?_
      exact s_iret (pc := 33) S hz hlo hr ⟨rfl, hs.trans (TrS_Sc (C := S6 C1 x0 x1 x2 b0 c0 q0) hY), by rw [hF.rk hR]; rw [if_neg (by omega), if_neg (by omega)]⟩ (Nat.le_of_ble_eq_true rfl) (Nat.le_of_ble_eq_true rfl) dX7_rank_33
    · refine s_iconst (pc := 28) S (v := (nI 2)) dX7_rank_28 (by decide) ?_
      refine s_goto (pc := 29) S 33 dX7_rank_29 (by decide) ?_
      exact s_iret (pc := 33) S hz hlo hr ⟨rfl, hs.trans (TrS_Sc (C := S6 C1 x0 x1 x2 b0 c0 q0) hY), by rw [hF.rk hR]; rw [if_neg (by omega), if_pos (by omega)]⟩ (Nat.le_of_ble_eq_true rfl) (Nat.le_of_ble_eq_true rfl) dX7_rank_33
  · refine s_iconst (pc := 17) S (v := (nI 0)) dX7_rank_17 (by decide) ?_
    exact s_iret (pc := 18) S hz hlo hr ⟨rfl, hs.trans (TrS_Sc (C := S6 C1 x0 x1 x2 b0 c0 q0) hY), by rw [hF.rk hR]; rw [if_pos (by omega)]⟩ (Nat.le_of_ble_eq_true rfl) (Nat.le_of_ble_eq_true rfl) dX7_rank_18
