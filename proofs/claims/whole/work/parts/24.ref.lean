set_option maxHeartbeats 4000000 in
set_option maxRecDepth 100000 in
theorem k_X7_tried (Z : Zp) (l : Launch) (A : AF) (C : CF) (k p : Nat) (hR : RK C k p) : CtS Z l yX7_tried wsX7_tried ({ frames := 3, cells := 0, slots := 0, locals := 68 }) [.ref (A 60 100), .int (nI k), .int (nI p)] A C 0 0 (fun v A2 C2 => A = A2 ∧ ∃ n : Nat, TrI C k p n ∧ coR C k p n ≠ 45 ∧ (∀ i : Nat, i < n → coR C k p i = 45) ∧ TrS C k p n = C2 ∧ some (.int (nI (C 60 19 k + n))) = v) (fun _ _ _ => False) := by
  refine CtS.of (cc0 := cX7_tried) (maxL := 4) (ret := (some .int)) (by decide) rfl (Nat.le_of_ble_eq_true rfl) ?_
  intro M0_ p_ e_ s_ m_ args_ below_ meth_ c_ S hz hml hex hlo hr hin
  refine s_loc (L2 := [(0, .ref (A 60 100)), (1, .int (nI k)), (2, .int (nI p))]) rfl ?_
  have i_RX7 : ∀ w ∈ u_ws RX7 TX7 38, w ∈ wsX7_tried := by decide +kernel
  obtain ⟨hk, hp, hnt, hq, hw, hY, hx, hd, hg, hg2, hcp, hcn, hb, hac, hu, hbk, hck, hQ, ho⟩ := hR
  refine s_aload_n (pc := 0) S 0 dX7_tried_0 rfl rfl ?_
  refine s_iload_n (pc := 1) S 1 dX7_tried_1 rfl rfl ?_
  refine s_iload_n (pc := 2) S 2 dX7_tried_2 rfl rfl ?_
  refine s_callV (pc := 3) S hz hml [.int (nI k), .int (nI p)] (k_X7_laysTrial Z l A C k p hk hp hb hu) (cwV 2 S.2.2.2.2 gX7_tried_X7_laysTrial rfl rfl rfl (by decide +kernel) ⟨Nat.le_of_ble_eq_true rfl, Nat.le_of_ble_eq_true rfl⟩) (cc_mod (A := A) (C := C)) rfl rfl rfl (Nat.le_of_ble_eq_true rfl) dX7_tried_3 ⟨Nat.le_of_ble_eq_true rfl, Nat.le_of_ble_eq_true rfl⟩ (fun _ _ _ h => h.elim) (fun v A2 C2 h_1 => ?_)
  obtain ⟨rfl, rfl, rfl⟩ := h_1
  refine s_aload_n (pc := 6) S 0 dX7_tried_6 rfl rfl ?_
  refine s_get (pc := 7) S hz (ref := "SpoolFarmModel") (v := .ref (A 60 19)) (cc_mod (A := A) (C := (up3 (up3 (up3 (up3 (up3 (up3 C 60 25 0 (C 60 3 (3 * p + 0))) 60 25 1 (C 60 3 (3 * p + 1))) 60 25 2 (C 60 3 (3 * p + 2))) 60 100 35 (C 60 4 p)) 60 100 36 (C 60 5 p)) 60 100 37 (C 60 0 (2 * C 60 16 k + (if C 60 12 k = 0 then 0 else 1)))))) i_RX7 rfl 19 (Nat.le_of_ble_eq_true rfl) (by decide +kernel) (fun _ h => h) rfl dX7_tried_7 ?_
  refine s_iload_n (pc := 10) S 1 dX7_tried_10 rfl rfl ?_
  refine s_iald (pc := 11) S hz (x := C 60 19 k) (cc_row (A := A) (C := (up3 (up3 (up3 (up3 (up3 (up3 C 60 25 0 (C 60 3 (3 * p + 0))) 60 25 1 (C 60 3 (3 * p + 1))) 60 25 2 (C 60 3 (3 * p + 2))) 60 100 35 (C 60 4 p)) 60 100 36 (C 60 5 p)) 60 100 37 (C 60 0 (2 * C 60 16 k + (if C 60 12 k = 0 then 0 else 1))))) (x := aN .int 40 ((up3 (up3 (up3 (up3 (up3 (up3 C 60 25 0 (C 60 3 (3 * p + 0))) 60 25 1 (C 60 3 (3 * p + 1))) 60 25 2 (C 60 3 (3 * p + 2))) 60 100 35 (C 60 4 p)) 60 100 36 (C 60 5 p)) 60 100 37 (C 60 0 (2 * C 60 16 k + (if C 60 12 k = 0 then 0 else 1)))) 60 19)) 19 (by decide) rfl) (by omega) (by omega) rfl dX7_tried_11 ?_
  refine s_istore_n (pc := 12) S [(3, .int (nI (C 60 19 k))), (0, .ref (A 60 100)), (1, .int (nI k)), (2, .int (nI p))] dX7_tried_12 rfl (by decide) rfl ?_
  have hal := al_lt (d := C 60 13 k) hg hg2 hcp
  have hal2 : csN (C 60 13 k) (C 60 17 k) * C 60 18 k < 2 ^ 30 := al_lt30 hg hg2 hcp
  refine s_perm [0, 1, 2, 3] [(3, .int (nI (C 60 19 k))), (0, .ref (A 60 100)), (1, .int (nI k)), (2, .int (nI p))] rfl ?_
  refine s_loop (σ := Nat) (fun j => TrI C k p j ∧ ∀ i : Nat, i < j → coR C k p i = 45) (fun j => csN (C 60 13 k) (C 60 17 k) * C 60 18 k - (C 60 19 k + j)) (fun _ => A) (fun j => (TrS C k p j)) (fun j => [(3, .int (nI (C 60 19 k + j))), (0, .ref (A 60 100)), (1, .int (nI k)), (2, .int (nI p))]) 0 ⟨TrI_0 ho, fun i hi => absurd hi (Nat.not_lt_zero i)⟩ rfl (TrS_0 C k p).symm rfl ?_
  intro j hI ih
  obtain ⟨hT, hJ⟩ := hI
  have hTl := hT.2.2.2.2
  refine s_aload_n (pc := 13) S 1 dX7_tried_13 rfl rfl ?_
  refine s_iload_n (pc := 14) S 2 dX7_tried_14 rfl rfl ?_
  refine s_iload_n (pc := 15) S 3 dX7_tried_15 rfl rfl ?_
  refine s_iload_n (pc := 16) S 0 dX7_tried_16 rfl rfl ?_
  refine s_callV (pc := 17) S hz hml [.int (nI k), .int (nI p), .int (nI (C 60 19 k + j))] (k_X7_reason Z l A (TrS C k p j) k p hk hp hnt hq hw (TrS_x hY hx) hd hg hg2 hcp hcn hb hac (Nat.le_trans (Nat.sub_le _ _) (Nat.le_trans hbk (by decide))) (Nat.le_trans (Nat.sub_le _ _) (Nat.le_trans hck (by decide))) (Nat.le_trans (Nat.sub_le _ _) (hQ _)) (C 60 19 k + j) (by omega)) (cwV 3 S.2.2.2.2 gX7_tried_X7_reason rfl rfl rfl (by decide +kernel) ⟨Nat.le_of_ble_eq_true rfl, Nat.le_of_ble_eq_true rfl⟩) (cc_mod (A := A) (C := (TrS C k p j))) rfl rfl rfl (Nat.le_of_ble_eq_true rfl) dX7_tried_17 ⟨Nat.le_of_ble_eq_true rfl, Nat.le_of_ble_eq_true rfl⟩ (fun _ _ _ h => h.elim) (fun v A2 C2 h_2 => ?_)
  obtain ⟨rfl, rfl, rfl⟩ := h_2
  have q_3 := rs_le (TrS C k p j) k p (C 60 19 k + j)
  refine s_bipush (pc := 20) S (v := (nI 45)) dX7_tried_20 (by decide) ?_
  refine s_icmp_neN (pc := 22) S 38 dX7_tried_22 (by decide) (by omega) (by omega) (fun c_4 => ?_) (fun c_4 => ?_)
  · refine s_iload_n (pc := 38) S 0 dX7_tried_38 rfl rfl ?_
    exact s_iret (pc := 39) S hz hlo hr ⟨rfl, j, hT, by rw [← rs_co hg hT]; exact c_4, hJ, rfl, rfl⟩ (Nat.le_of_ble_eq_true rfl) (Nat.le_of_ble_eq_true rfl) dX7_tried_39
  · refine s_aload_n (pc := 25) S 1 dX7_tried_25 rfl rfl ?_
    refine s_iload_n (pc := 26) S 2 dX7_tried_26 rfl rfl ?_
    refine s_iload_n (pc := 27) S 3 dX7_tried_27 rfl rfl ?_
    refine s_iload_n (pc := 28) S 0 dX7_tried_28 rfl rfl ?_
    have h45 := c_4
    refine s_callV (pc := 29) S hz hml [.int (nI k), .int (nI p), .int (nI (C 60 19 k + j))] (k_X7_takes Z l A (TrS C k p j) k p hk hp hnt hq hw (TrS_x hY hx) hd hg hg2 hcp hcn hb hac (Nat.le_trans (Nat.sub_le _ _) (Nat.le_trans hbk (by decide))) (Nat.le_trans (Nat.sub_le _ _) (Nat.le_trans hck (by decide))) (Nat.le_trans (Nat.sub_le _ _) (hQ _)) (C 60 19 k + j) (by omega) h45) (cwV 3 S.2.2.2.2 gX7_tried_X7_takes rfl rfl rfl (by decide +kernel) ⟨Nat.le_of_ble_eq_true rfl, Nat.le_of_ble_eq_true rfl⟩) (cc_mod (A := A) (C := (TrS C k p j))) rfl rfl rfl (Nat.le_of_ble_eq_true rfl) dX7_tried_29 ⟨Nat.le_of_ble_eq_true rfl, Nat.le_of_ble_eq_true rfl⟩ (fun _ _ _ h => h.elim) (fun v A2 C2 h_5 => ?_)
    obtain ⟨rfl, t0, a0, b0, c0, q0, q_e, rfl, q_t, q_f, q_a, q_b, q_c, q_q⟩ := h_5
    obtain rfl : TrS C k p (j + 1) = C2 := (trS_next hg hnt q_t q_f q_a q_b q_c q_q hT).trans q_e
    refine s_iinc (pc := 32) S 0 [(3, .int (nI ((C 60 19 k + j) + 1))), (0, .ref (A 60 100)), (1, .int (nI k)), (2, .int (nI p))] dX7_tried_32 rfl (nI_add _ 1) (by decide) rfl ?_
    refine s_goto (pc := 35) S 13 dX7_tried_35 (by decide) ?_
    refine s_perm [0, 1, 2, 3] [(3, .int (nI ((C 60 19 k + j) + 1))), (0, .ref (A 60 100)), (1, .int (nI k)), (2, .int (nI p))] rfl ?_
    exact ih (j + 1) ⟨TrI_next hg (by rw [← rs_co hg hT]; exact h45) hT, fun i hi => by rcases Nat.lt_or_ge i j with z | z; exact hJ i z; rw [show i = j by omega, ← rs_co hg hT]; exact h45⟩ (by have := hT.2.2.2.2; have := (TrI_next hg (by rw [← rs_co hg hT]; exact h45) hT).2.2.2.2; omega)
