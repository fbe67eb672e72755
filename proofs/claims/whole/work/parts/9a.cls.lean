set_option maxHeartbeats 4000000 in
set_option maxRecDepth 100000 in
theorem k_X6_paperName (Z : Zp) (l : Launch) (M : Wd) (q : Nat) (hq : q < 65536) : Ct Z l yX6_paperName wsX6_paperName ({ frames := 0, cells := 0, slots := 0, locals := 0 }) [.int (nI q)] M 0 0 (fun v M2 => M = M2 ∧ some (.ref (ppQ Z q)) = v) (fun _ _ => False) := by
  refine Ct.of (cc := cX6_paperName) (maxL := 1) (ret := (some (.object "java/lang/String"))) (by decide) rfl (Nat.le_of_ble_eq_true rfl) ?_
  intro p_ e_ s_ m_ args_ below_ meth_ c_ S hz hml hex hlo hr hin
  refine g_loc (L2 := [(0, .int (nI q))]) rfl ?_
  refine g_iload_n (pc := 0) S 0 dX6_paperName_0 rfl rfl ?_
  refine g_bipush (pc := 1) S (v := (nI 97)) dX6_paperName_1 (by decide) ?_
  refine g_icmp_neN (pc := 3) S 10 dX6_paperName_3 (by decide) (by omega) (by omega) (fun c_1 => ?_) (fun c_1 => ?_)
  · refine g_iload_n (pc := 10) S 0 dX6_paperName_10 rfl rfl ?_
    refine g_bipush (pc := 11) S (v := (nI 98)) dX6_paperName_11 (by decide) ?_
    refine g_icmp_neN (pc := 13) S 22 dX6_paperName_13 (by decide) (by omega) (by omega) (fun c_2 => ?_) (fun c_2 => ?_)
    · refine g_ldcSW (pc := 22) S (tr_K_347 hz) dX6_paperName_22 ?_
      exact g_aret (pc := 25) S hz hlo hr ⟨rfl, by unfold ppQ; rw [if_neg c_1, if_neg c_2]⟩ (Nat.le_of_ble_eq_true rfl) (Nat.le_of_ble_eq_true rfl) dX6_paperName_25
    · refine g_ldcSW (pc := 16) S (tr_K_345 hz) dX6_paperName_16 ?_
      refine g_goto (pc := 19) S 25 dX6_paperName_19 (by decide) ?_
      exact g_aret (pc := 25) S hz hlo hr ⟨rfl, by unfold ppQ; rw [if_neg c_1, if_pos c_2]⟩ (Nat.le_of_ble_eq_true rfl) (Nat.le_of_ble_eq_true rfl) dX6_paperName_25
  · refine g_ldcSW (pc := 6) S (tr_K_343 hz) dX6_paperName_6 ?_
    exact g_aret (pc := 9) S hz hlo hr ⟨rfl, by unfold ppQ; rw [if_pos c_1]⟩ (Nat.le_of_ble_eq_true rfl) (Nat.le_of_ble_eq_true rfl) dX6_paperName_9
set_option maxHeartbeats 4000000 in
set_option maxRecDepth 100000 in
theorem k_X6_writeJob (Z : Zp) (l : Launch) (A : AF) (C : CF) (D : CF) (hS : Sm D C) (hM : OkM D) (hL : OkL D) (x : Int32) (hfl : l.stackTraces = false) : CtS Z l yX6_writeJob wsX6_writeJob ({ frames := 7, cells := 11, slots := 706, locals := 281 }) [.ref (A 0 0), .int x] A C 11 706 (fun v A2 C2 => ∃ k_2 : Nat, k_2 < C 0 0 5 ∧ nI k_2 = x ∧ ∃ (b x cap : Nat) (g : Nat → Nat), up2 A 8 0 b = A2 ∧ lnC C x (lnN D k_2) cap g = C2 ∧ lnN D k_2 ≤ 60 ∧ lnN D k_2 ≤ cap ∧ cpO cap ∧ (∀ j : Nat, j < cap → g j < 128) ∧ (∀ j : Nat, j < lnN D k_2 → g j = lnT D k_2 j) ∧ some (.int (nI (lnN D k_2))) = v) (fun E A2 C2 => A = A2 ∧ (E = "java/lang/IndexOutOfBoundsException" ∧ (∀ k : Nat, k < C 0 0 5 → nI k ≠ x) ∧ C = C2)) := by
  refine CtS.of (cc0 := cX6_writeJob) (maxL := 3) (ret := (some .int)) (by decide) rfl (Nat.le_of_ble_eq_true rfl) ?_
  intro M0_ p_ e_ s_ m_ args_ below_ meth_ c_ S hz hml hex hlo hr hin
  refine s_loc (L2 := [(0, .ref (A 0 0)), (1, .int x)]) rfl ?_
  have i_RX1 : ∀ w ∈ u_ws RX1 TX1 14, w ∈ wsX6_writeJob := by decide +kernel
  have i_RX6 : ∀ w ∈ u_ws RX6 TX6 12, w ∈ wsX6_writeJob := by decide +kernel
  have hK := hS.okk hM hL
  obtain ⟨⟨k3, k4, k5, k6, k7, k8⟩, kU, kP, kT, kJ, kL, kE, kB⟩ := id hK
  obtain ⟨hO, hG, hX⟩ := id hM
  have cu := hS.1.1
  have cp := hS.1.2.1
  have cj := hS.1.2.2.1
  refine s_aload_n (pc := 0) S 0 dX6_writeJob_0 rfl rfl ?_
  refine s_iload_n (pc := 1) S 1 dX6_writeJob_1 rfl rfl ?_
  refine s_callV (pc := 2) S hz hml [.int x] (k_X6_jobAt Z l A C x k5 hfl) (cwV 1 S.2.2.2.2 gX6_writeJob_X6_jobAt rfl rfl rfl (by decide +kernel) ⟨Nat.le_of_ble_eq_true rfl, Nat.le_of_ble_eq_true rfl⟩) (cc_farm (A := A) (C := C)) rfl rfl rfl (Nat.le_of_ble_eq_true rfl) dX6_writeJob_2 ⟨Nat.le_of_ble_eq_true rfl, Nat.le_of_ble_eq_true rfl⟩ (fun E A2 C2 h_1 => ?_) (fun v A2 C2 h_1 => ?_)
  · obtain ⟨rfl, rfl, n_4, rfl⟩ := h_1
    exact s_out S hz hex hlo ⟨rfl, ⟨rfl, n_4, rfl⟩⟩ (Nat.le_of_ble_eq_true rfl) (Nat.le_of_ble_eq_true rfl)
  · obtain ⟨rfl, rfl, k_2, hk_3, rfl, rfl⟩ := h_1
    have hD_k_2 : k_2 < D 60 100 30 := by omega
    refine s_astore_n (pc := 5) S [(2, .ref (A 11 k_2)), (0, .ref (A 0 0)), (1, .int (nI k_2))] dX6_writeJob_5 rfl (by decide) rfl ?_
    obtain ⟨q0, q1, q2, q3, q4, q5, q6, q7, q8, q9, q10, q11, q12, q13⟩ := hS.2.2.2.2.1 k_2 hD_k_2
    obtain ⟨jk0, jd, jg, jg2, jc, jo, jal, jpt, ju, j9, jc1⟩ := hO.jk hD_k_2
    have jd9 := (hO.2.2.2.2.2.2.1) k_2
    obtain ⟨oU, oP, oJ, oTc, oY, o8, o9, o10, o11, o12, o13, o14, o15, -⟩ := id hO
    have j12 := o12 k_2
    have j13 := o13 k_2
    have j14 := o14 k_2
    intro M hM hF0
    refine g_aload_n (pc := 6) S 1 dX6_writeJob_6 rfl rfl ?_
    refine g_get (pc := 7) S hz (ref := "SpoolFarm") (v := .ref (A 5 0)) (hM 0 0 _ cc_farm) i_RX6 rfl 10 (Nat.le_of_ble_eq_true rfl) (by decide +kernel) (fun _ h => h) rfl dX6_writeJob_7 ?_
    refine g_iconst (pc := 10) S (v := (nI 0)) dX6_writeJob_10 (by decide) ?_
    refine g_callV (pc := 11) S hz hml [.int (nI 0)] (k_setLen Z l M (5, 0) (A 5 0) (A 8 0) (C 5 0 2) (C 5 0 3) (hM 5 0 _ cc_line) (8, 0) (C 8 100 0) (C 8 0) (hM 8 0 _ cc_bytes) (by decide) (by decide) (by decide) kB.2.2.1 kB.2.1 kB.2.2.2) (cwV 1 S.2.2.2.2 gX6_writeJob_J4_setLength_d00df rfl rfl rfl (by decide +kernel) ⟨Nat.le_of_ble_eq_true rfl, Nat.le_of_ble_eq_true rfl⟩) (hM 5 0 _ cc_line) rfl rfl rfl (Nat.le_of_ble_eq_true rfl) dX6_writeJob_11 ⟨Nat.le_of_ble_eq_true rfl, Nat.le_of_ble_eq_true rfl⟩ (fun _ _ h => h.elim) (fun v_7 M_6 h_5 => ?_)
    obtain ⟨rfl, b0_, x0_, g0_, f0_, m0_, q0_, hb0_⟩ := h_5
    have ht0_ : ∀ j : Nat, j < 0 → g0_ j = (fun _ => 0 : Nat → Nat) j := fun j h => absurd h (Nat.not_lt_zero j)
    refine g_aload_n (pc := 14) S 1 dX6_writeJob_14 rfl rfl ?_
    refine g_get (pc := 15) S hz (ref := "SpoolFarm") (v := .ref (A 5 0)) ((f0_ _ (by decide) (by decide) (by decide)).trans (hM 0 0 _ cc_farm)) i_RX6 rfl 10 (Nat.le_of_ble_eq_true rfl) (by decide +kernel) (fun _ h => h) rfl dX6_writeJob_15 ?_
    refine g_aload_n (pc := 18) S 0 dX6_writeJob_18 rfl rfl ?_
    refine g_get (pc := 19) S hz (ref := "SpoolFarm$Job") (v := .int (nI (C 11 k_2 0))) ((f0_ _ (fun z => by cases z) (fun z => by cases z) (fun z => by cases z)).trans (hM 11 k_2 _ (cc_job hk_3))) i_RX1 rfl 0 (Nat.le_of_ble_eq_true rfl) (by decide +kernel) (fun _ h => h) rfl dX6_writeJob_19 ?_
    refine g_top (u := .int (nI (k_2))) (congrArg (fun x => Value.int (nI x)) q0) ?_
    have dg_8 := dg3 (v := k_2) (by omega)
    refine g_callV (pc := 22) S hz hml [.int (nI k_2)] (k_appI Z l M_6 k_2 (by omega) (5, 0) (A 5 0) b0_ x0_ 0 m0_ (8, 0) (C 8 100 0) g0_ q0_ (by decide) (by decide) (by decide) kB.2.2.1 (Nat.zero_le _) hb0_ (by omega)) (cwV 1 S.2.2.2.2 gX6_writeJob_J4_append_bf812 rfl rfl rfl (by decide +kernel) ⟨Nat.le_of_ble_eq_true rfl, Nat.le_of_ble_eq_true rfl⟩) m0_ rfl rfl rfl (Nat.le_of_ble_eq_true rfl) dX6_writeJob_22 ⟨Nat.le_of_ble_eq_true rfl, Nat.le_of_ble_eq_true rfl⟩ (fun _ _ h => h.elim) (fun v_11 M_10 h_9 => ?_)
    obtain ⟨rfl, b1_, k1_, g1_, f1_, m1_, q1_, hn1_, hc1_, hk1_, hw1_, hb1_⟩ := h_9
    have ht1_ := ap_t ht0_ hk1_ hw1_
    refine g_ldcSW (pc := 25) S (tr_K_304 hz) dX6_writeJob_25 ?_
    refine g_callV (pc := 28) S hz hml [.ref (sQ Z "SpoolFarm" 304)] (k_appS Z l M_10 (sQ Z "SpoolFarm" 304) (sB Z "SpoolFarm" 304) 2 (chF [58, 32]) ts_K_304 (5, 0) (A 5 0) b1_ x0_ (0 + (sb_dg k_2)) m1_ (8, 0) k1_ g1_ q1_ (by decide) (by decide) (by decide) hc1_ hn1_ hb1_ (by omega) (by omega) tl_K_304) (cwV 1 S.2.2.2.2 gX6_writeJob_J4_append_15ec4 rfl rfl rfl (by decide +kernel) ⟨Nat.le_of_ble_eq_true rfl, Nat.le_of_ble_eq_true rfl⟩) m1_ rfl rfl rfl (Nat.le_of_ble_eq_true rfl) dX6_writeJob_28 ⟨Nat.le_of_ble_eq_true rfl, Nat.le_of_ble_eq_true rfl⟩ (fun _ _ h => h.elim) (fun v_14 M_13 h_12 => ?_)
    obtain ⟨rfl, b2_, k2_, g2_, f2_, m2_, q2_, hn2_, hc2_, hk2_, hw2_, hb2_⟩ := h_12
    have ht2_ := ap_t ht1_ hk2_ hw2_
    refine g_pop (pc := 31) S dX6_writeJob_31 rfl ?_
    refine g_aload_n (pc := 32) S 1 dX6_writeJob_32 rfl rfl ?_
    refine g_get (pc := 33) S hz (ref := "SpoolFarm") (v := .ref (A 5 0)) ((f2_ _ (by decide) (by decide) (by decide)).trans ((f1_ _ (by decide) (by decide) (by decide)).trans ((f0_ _ (by decide) (by decide) (by decide)).trans (hM 0 0 _ cc_farm)))) i_RX6 rfl 10 (Nat.le_of_ble_eq_true rfl) (by decide +kernel) (fun _ h => h) rfl dX6_writeJob_33 ?_
    refine g_aload_n (pc := 36) S 0 dX6_writeJob_36 rfl rfl ?_
    refine g_get (pc := 37) S hz (ref := "SpoolFarm$Job") (v := .int (nI (C 11 k_2 9))) ((f2_ _ (fun z => by cases z) (fun z => by cases z) (fun z => by cases z)).trans ((f1_ _ (fun z => by cases z) (fun z => by cases z) (fun z => by cases z)).trans ((f0_ _ (fun z => by cases z) (fun z => by cases z) (fun z => by cases z)).trans (hM 11 k_2 _ (cc_job hk_3))))) i_RX1 rfl 9 (Nat.le_of_ble_eq_true rfl) (by decide +kernel) (fun _ h => h) rfl dX6_writeJob_37 ?_
    refine g_top (u := .int (nI (ptoN (D 60 13 k_2) (D 60 17 k_2) (D 60 19 k_2)))) (congrArg (fun x => Value.int (nI x)) q9) ?_
    have dg_15 := dg3 (v := ptoN (D 60 13 k_2) (D 60 17 k_2) (D 60 19 k_2)) (by omega)
    refine g_callV (pc := 40) S hz hml [.int (nI (ptoN (D 60 13 k_2) (D 60 17 k_2) (D 60 19 k_2)))] (k_appI Z l M_13 (ptoN (D 60 13 k_2) (D 60 17 k_2) (D 60 19 k_2)) (by omega) (5, 0) (A 5 0) b2_ x0_ (0 + (sb_dg k_2) + 2) m2_ (8, 0) k2_ g2_ q2_ (by decide) (by decide) (by decide) hc2_ hn2_ hb2_ (by omega)) (cwV 1 S.2.2.2.2 gX6_writeJob_J4_append_bf812 rfl rfl rfl (by decide +kernel) ⟨Nat.le_of_ble_eq_true rfl, Nat.le_of_ble_eq_true rfl⟩) m2_ rfl rfl rfl (Nat.le_of_ble_eq_true rfl) dX6_writeJob_40 ⟨Nat.le_of_ble_eq_true rfl, Nat.le_of_ble_eq_true rfl⟩ (fun _ _ h => h.elim) (fun v_18 M_17 h_16 => ?_)
    obtain ⟨rfl, b3_, k3_, g3_, f3_, m3_, q3_, hn3_, hc3_, hk3_, hw3_, hb3_⟩ := h_16
    have ht3_ := ap_t ht2_ hk3_ hw3_
    refine g_bipush (pc := 43) S (v := (nI 47)) dX6_writeJob_43 (by decide) ?_
    refine g_callV (pc := 45) S hz hml [.int (nI 47)] (k_appC Z l M_17 47 (by decide) (5, 0) (A 5 0) b3_ x0_ (0 + (sb_dg k_2) + 2 + (sb_dg (ptoN (D 60 13 k_2) (D 60 17 k_2) (D 60 19 k_2)))) m3_ (8, 0) k3_ g3_ q3_ (by decide) (by decide) (by decide) hc3_ hn3_ hb3_ (by omega)) (cwV 1 S.2.2.2.2 gX6_writeJob_J4_append_cf468 rfl rfl rfl (by decide +kernel) ⟨Nat.le_of_ble_eq_true rfl, Nat.le_of_ble_eq_true rfl⟩) m3_ rfl rfl rfl (Nat.le_of_ble_eq_true rfl) dX6_writeJob_45 ⟨Nat.le_of_ble_eq_true rfl, Nat.le_of_ble_eq_true rfl⟩ (fun _ _ h => h.elim) (fun v_21 M_20 h_19 => ?_)
    obtain ⟨rfl, b4_, k4_, g4_, f4_, m4_, q4_, hn4_, hc4_, hk4_, hw4_, hb4_⟩ := h_19
    have ht4_ := ap_t ht3_ hk4_ hw4_
    refine g_aload_n (pc := 48) S 0 dX6_writeJob_48 rfl rfl ?_
    refine g_get (pc := 49) S hz (ref := "SpoolFarm$Job") (v := .int (nI (C 11 k_2 3))) ((f4_ _ (fun z => by cases z) (fun z => by cases z) (fun z => by cases z)).trans ((f3_ _ (fun z => by cases z) (fun z => by cases z) (fun z => by cases z)).trans ((f2_ _ (fun z => by cases z) (fun z => by cases z) (fun z => by cases z)).trans ((f1_ _ (fun z => by cases z) (fun z => by cases z) (fun z => by cases z)).trans ((f0_ _ (fun z => by cases z) (fun z => by cases z) (fun z => by cases z)).trans (hM 11 k_2 _ (cc_job hk_3))))))) i_RX1 rfl 3 (Nat.le_of_ble_eq_true rfl) (by decide +kernel) (fun _ h => h) rfl dX6_writeJob_49 ?_
    refine g_top (u := .int (nI (D 60 17 k_2 * D 60 18 k_2))) (congrArg (fun x => Value.int (nI x)) q3) ?_
    have dg_22 := dg3 (v := D 60 17 k_2 * D 60 18 k_2) (by omega)
    refine g_callV (pc := 52) S hz hml [.int (nI (D 60 17 k_2 * D 60 18 k_2))] (k_appI Z l M_20 (D 60 17 k_2 * D 60 18 k_2) (by omega) (5, 0) (A 5 0) b4_ x0_ (0 + (sb_dg k_2) + 2 + (sb_dg (ptoN (D 60 13 k_2) (D 60 17 k_2) (D 60 19 k_2))) + 1) m4_ (8, 0) k4_ g4_ q4_ (by decide) (by decide) (by decide) hc4_ hn4_ hb4_ (by omega)) (cwV 1 S.2.2.2.2 gX6_writeJob_J4_append_bf812 rfl rfl rfl (by decide +kernel) ⟨Nat.le_of_ble_eq_true rfl, Nat.le_of_ble_eq_true rfl⟩) m4_ rfl rfl rfl (Nat.le_of_ble_eq_true rfl) dX6_writeJob_52 ⟨Nat.le_of_ble_eq_true rfl, Nat.le_of_ble_eq_true rfl⟩ (fun _ _ h => h.elim) (fun v_25 M_24 h_23 => ?_)
    obtain ⟨rfl, b5_, k5_, g5_, f5_, m5_, q5_, hn5_, hc5_, hk5_, hw5_, hb5_⟩ := h_23
    have ht5_ := ap_t ht4_ hk5_ hw5_
    refine g_pop (pc := 55) S dX6_writeJob_55 rfl ?_
    refine g_aload_n (pc := 56) S 1 dX6_writeJob_56 rfl rfl ?_
    refine g_get (pc := 57) S hz (ref := "SpoolFarm") (v := .ref (A 5 0)) ((f5_ _ (by decide) (by decide) (by decide)).trans ((f4_ _ (by decide) (by decide) (by decide)).trans ((f3_ _ (by decide) (by decide) (by decide)).trans ((f2_ _ (by decide) (by decide) (by decide)).trans ((f1_ _ (by decide) (by decide) (by decide)).trans ((f0_ _ (by decide) (by decide) (by decide)).trans (hM 0 0 _ cc_farm))))))) i_RX6 rfl 10 (Nat.le_of_ble_eq_true rfl) (by decide +kernel) (fun _ h => h) rfl dX6_writeJob_57 ?_
    refine g_bipush (pc := 60) S (v := (nI 32)) dX6_writeJob_60 (by decide) ?_
    refine g_callV (pc := 62) S hz hml [.int (nI 32)] (k_appC Z l M_24 32 (by decide) (5, 0) (A 5 0) b5_ x0_ (0 + (sb_dg k_2) + 2 + (sb_dg (ptoN (D 60 13 k_2) (D 60 17 k_2) (D 60 19 k_2))) + 1 + (sb_dg (D 60 17 k_2 * D 60 18 k_2))) m5_ (8, 0) k5_ g5_ q5_ (by decide) (by decide) (by decide) hc5_ hn5_ hb5_ (by omega)) (cwV 1 S.2.2.2.2 gX6_writeJob_J4_append_cf468 rfl rfl rfl (by decide +kernel) ⟨Nat.le_of_ble_eq_true rfl, Nat.le_of_ble_eq_true rfl⟩) m5_ rfl rfl rfl (Nat.le_of_ble_eq_true rfl) dX6_writeJob_62 ⟨Nat.le_of_ble_eq_true rfl, Nat.le_of_ble_eq_true rfl⟩ (fun _ _ h => h.elim) (fun v_28 M_27 h_26 => ?_)
    obtain ⟨rfl, b6_, k6_, g6_, f6_, m6_, q6_, hn6_, hc6_, hk6_, hw6_, hb6_⟩ := h_26
    have ht6_ := ap_t ht5_ hk6_ hw6_
    refine g_aload_n (pc := 65) S 0 dX6_writeJob_65 rfl rfl ?_
    refine g_get (pc := 66) S hz (ref := "SpoolFarm$Job") (v := .int (nI (C 11 k_2 4))) ((f6_ _ (fun z => by cases z) (fun z => by cases z) (fun z => by cases z)).trans ((f5_ _ (fun z => by cases z) (fun z => by cases z) (fun z => by cases z)).trans ((f4_ _ (fun z => by cases z) (fun z => by cases z) (fun z => by cases z)).trans ((f3_ _ (fun z => by cases z) (fun z => by cases z) (fun z => by cases z)).trans ((f2_ _ (fun z => by cases z) (fun z => by cases z) (fun z => by cases z)).trans ((f1_ _ (fun z => by cases z) (fun z => by cases z) (fun z => by cases z)).trans ((f0_ _ (fun z => by cases z) (fun z => by cases z) (fun z => by cases z)).trans (hM 11 k_2 _ (cc_job hk_3))))))))) i_RX1 rfl 4 (Nat.le_of_ble_eq_true rfl) (by decide +kernel) (fun _ h => h) rfl dX6_writeJob_66 ?_
    refine g_top (u := .int (nI (D 60 9 k_2))) (congrArg (fun x => Value.int (nI x)) q4) ?_
    refine g_callS (pc := 69) S hz hml [.int (nI (D 60 9 k_2))] (k_X6_paperName Z l M_27 (D 60 9 k_2) (by omega)) (va_cwS 1 S.2.2.2.2 gX6_writeJob_X6_paperName rfl rfl rfl (by decide +kernel) ⟨Nat.le_of_ble_eq_true rfl, Nat.le_of_ble_eq_true rfl⟩) rfl rfl (Nat.le_of_ble_eq_true rfl) dX6_writeJob_69 ⟨Nat.le_of_ble_eq_true rfl, Nat.le_of_ble_eq_true rfl⟩ (fun _ _ h => h.elim) (fun v_31 M_30 h_29 => ?_)
    obtain ⟨rfl, rfl⟩ := h_29
    have hw_P := pp_w D k_2
    refine g_callV (pc := 72) S hz hml [.ref (ppQ Z (D 60 9 k_2))] (k_appS Z l M_27 (ppQ Z (D 60 9 k_2)) (ppB Z (D 60 9 k_2)) (wdP D k_2).1 (wdP D k_2).2 (pp_s Z D k_2) (5, 0) (A 5 0) b6_ x0_ (0 + (sb_dg k_2) + 2 + (sb_dg (ptoN (D 60 13 k_2) (D 60 17 k_2) (D 60 19 k_2))) + 1 + (sb_dg (D 60 17 k_2 * D 60 18 k_2)) + 1) m6_ (8, 0) k6_ g6_ q6_ (by decide) (by decide) (by decide) hc6_ hn6_ hb6_ (by omega) (by omega) hw_P.2) (cwV 1 S.2.2.2.2 gX6_writeJob_J4_append_15ec4 rfl rfl rfl (by decide +kernel) ⟨Nat.le_of_ble_eq_true rfl, Nat.le_of_ble_eq_true rfl⟩) m6_ rfl rfl rfl (Nat.le_of_ble_eq_true rfl) dX6_writeJob_72 ⟨Nat.le_of_ble_eq_true rfl, Nat.le_of_ble_eq_true rfl⟩ (fun _ _ h => h.elim) (fun v_34 M_33 h_32 => ?_)
    obtain ⟨rfl, b7_, k7_, g7_, f7_, m7_, q7_, hn7_, hc7_, hk7_, hw7_, hb7_⟩ := h_32
    have ht7_ := ap_t ht6_ hk7_ hw7_
    refine g_pop (pc := 75) S dX6_writeJob_75 rfl ?_
    refine g_aload_n (pc := 76) S 1 dX6_writeJob_76 rfl rfl ?_
    refine g_get (pc := 77) S hz (ref := "SpoolFarm") (v := .ref (A 5 0)) ((f7_ _ (by decide) (by decide) (by decide)).trans ((f6_ _ (by decide) (by decide) (by decide)).trans ((f5_ _ (by decide) (by decide) (by decide)).trans ((f4_ _ (by decide) (by decide) (by decide)).trans ((f3_ _ (by decide) (by decide) (by decide)).trans ((f2_ _ (by decide) (by decide) (by decide)).trans ((f1_ _ (by decide) (by decide) (by decide)).trans ((f0_ _ (by decide) (by decide) (by decide)).trans (hM 0 0 _ cc_farm))))))))) i_RX6 rfl 10 (Nat.le_of_ble_eq_true rfl) (by decide +kernel) (fun _ h => h) rfl dX6_writeJob_77 ?_
    refine g_aload_n (pc := 80) S 0 dX6_writeJob_80 rfl rfl ?_
    refine g_get (pc := 81) S hz (ref := "SpoolFarm$Job") (v := .int (nI (C 11 k_2 5))) ((f7_ _ (fun z => by cases z) (fun z => by cases z) (fun z => by cases z)).trans ((f6_ _ (fun z => by cases z) (fun z => by cases z) (fun z => by cases z)).trans ((f5_ _ (fun z => by cases z) (fun z => by cases z) (fun z => by cases z)).trans ((f4_ _ (fun z => by cases z) (fun z => by cases z) (fun z => by cases z)).trans ((f3_ _ (fun z => by cases z) (fun z => by cases z) (fun z => by cases z)).trans ((f2_ _ (fun z => by cases z) (fun z => by cases z) (fun z => by cases z)).trans ((f1_ _ (fun z => by cases z) (fun z => by cases z) (fun z => by cases z)).trans ((f0_ _ (fun z => by cases z) (fun z => by cases z) (fun z => by cases z)).trans (hM 11 k_2 _ (cc_job hk_3)))))))))) i_RX1 rfl 5 (Nat.le_of_ble_eq_true rfl) (by decide +kernel) (fun _ h => h) rfl dX6_writeJob_81 ?_
    refine g_top (u := .int (nI (D 60 12 k_2))) (congrArg (fun x => Value.int (nI x)) q5) ?_
    refine g_tern (pc := 84) S (by omega) dX6_writeJob_84 (tr_K_316 hz) dX6_writeJob_87 dX6_writeJob_90 (tr_K_318 hz) dX6_writeJob_93 (by decide) ?_
    have hw_C := wd_C (D 60 12 k_2)
    refine g_callV (pc := 96) S hz hml [.ref (if D 60 12 k_2 = 0 then sQ Z "SpoolFarm" 318 else sQ Z "SpoolFarm" 316)] (k_appS Z l M_33 (if D 60 12 k_2 = 0 then sQ Z "SpoolFarm" 318 else sQ Z "SpoolFarm" 316) (if D 60 12 k_2 = 0 then sB Z "SpoolFarm" 318 else sB Z "SpoolFarm" 316) (wdC (D 60 12 k_2)).1 (wdC (D 60 12 k_2)).2 (tn_C Z (D 60 12 k_2)) (5, 0) (A 5 0) b7_ x0_ (0 + (sb_dg k_2) + 2 + (sb_dg (ptoN (D 60 13 k_2) (D 60 17 k_2) (D 60 19 k_2))) + 1 + (sb_dg (D 60 17 k_2 * D 60 18 k_2)) + 1 + ((wdP D k_2).1)) m7_ (8, 0) k7_ g7_ q7_ (by decide) (by decide) (by decide) hc7_ hn7_ hb7_ (by omega) (by omega) hw_C.2) (cwV 1 S.2.2.2.2 gX6_writeJob_J4_append_15ec4 rfl rfl rfl (by decide +kernel) ⟨Nat.le_of_ble_eq_true rfl, Nat.le_of_ble_eq_true rfl⟩) m7_ rfl rfl rfl (Nat.le_of_ble_eq_true rfl) dX6_writeJob_96 ⟨Nat.le_of_ble_eq_true rfl, Nat.le_of_ble_eq_true rfl⟩ (fun _ _ h => h.elim) (fun v_37 M_36 h_35 => ?_)
    obtain ⟨rfl, b8_, k8_, g8_, f8_, m8_, q8_, hn8_, hc8_, hk8_, hw8_, hb8_⟩ := h_35
    have ht8_ := ap_t ht7_ hk8_ hw8_
    refine g_pop (pc := 99) S dX6_writeJob_99 rfl ?_
    refine g_aload_n (pc := 100) S 1 dX6_writeJob_100 rfl rfl ?_
    refine g_get (pc := 101) S hz (ref := "SpoolFarm") (v := .ref (A 5 0)) ((f8_ _ (by decide) (by decide) (by decide)).trans ((f7_ _ (by decide) (by decide) (by decide)).trans ((f6_ _ (by decide) (by decide) (by decide)).trans ((f5_ _ (by decide) (by decide) (by decide)).trans ((f4_ _ (by decide) (by decide) (by decide)).trans ((f3_ _ (by decide) (by decide) (by decide)).trans ((f2_ _ (by decide) (by decide) (by decide)).trans ((f1_ _ (by decide) (by decide) (by decide)).trans ((f0_ _ (by decide) (by decide) (by decide)).trans (hM 0 0 _ cc_farm)))))))))) i_RX6 rfl 10 (Nat.le_of_ble_eq_true rfl) (by decide +kernel) (fun _ h => h) rfl dX6_writeJob_101 ?_
    refine g_aload_n (pc := 104) S 0 dX6_writeJob_104 rfl rfl ?_
    refine g_get (pc := 105) S hz (ref := "SpoolFarm$Job") (v := .int (nI (C 11 k_2 6))) ((f8_ _ (fun z => by cases z) (fun z => by cases z) (fun z => by cases z)).trans ((f7_ _ (fun z => by cases z) (fun z => by cases z) (fun z => by cases z)).trans ((f6_ _ (fun z => by cases z) (fun z => by cases z) (fun z => by cases z)).trans ((f5_ _ (fun z => by cases z) (fun z => by cases z) (fun z => by cases z)).trans ((f4_ _ (fun z => by cases z) (fun z => by cases z) (fun z => by cases z)).trans ((f3_ _ (fun z => by cases z) (fun z => by cases z) (fun z => by cases z)).trans ((f2_ _ (fun z => by cases z) (fun z => by cases z) (fun z => by cases z)).trans ((f1_ _ (fun z => by cases z) (fun z => by cases z) (fun z => by cases z)).trans ((f0_ _ (fun z => by cases z) (fun z => by cases z) (fun z => by cases z)).trans (hM 11 k_2 _ (cc_job hk_3))))))))))) i_RX1 rfl 6 (Nat.le_of_ble_eq_true rfl) (by decide +kernel) (fun _ h => h) rfl dX6_writeJob_105 ?_
    refine g_top (u := .int (nI (D 60 13 k_2))) (congrArg (fun x => Value.int (nI x)) q6) ?_
    refine g_tern (pc := 108) S (by omega) dX6_writeJob_108 (tr_K_320 hz) dX6_writeJob_111 dX6_writeJob_114 (tr_K_318 hz) dX6_writeJob_117 (by decide) ?_
    have hw_D := wd_D (D 60 13 k_2)
    refine g_callV (pc := 120) S hz hml [.ref (if D 60 13 k_2 = 0 then sQ Z "SpoolFarm" 318 else sQ Z "SpoolFarm" 320)] (k_appS Z l M_36 (if D 60 13 k_2 = 0 then sQ Z "SpoolFarm" 318 else sQ Z "SpoolFarm" 320) (if D 60 13 k_2 = 0 then sB Z "SpoolFarm" 318 else sB Z "SpoolFarm" 320) (wdD (D 60 13 k_2)).1 (wdD (D 60 13 k_2)).2 (tn_D Z (D 60 13 k_2)) (5, 0) (A 5 0) b8_ x0_ (0 + (sb_dg k_2) + 2 + (sb_dg (ptoN (D 60 13 k_2) (D 60 17 k_2) (D 60 19 k_2))) + 1 + (sb_dg (D 60 17 k_2 * D 60 18 k_2)) + 1 + ((wdP D k_2).1) + ((wdC (D 60 12 k_2)).1)) m8_ (8, 0) k8_ g8_ q8_ (by decide) (by decide) (by decide) hc8_ hn8_ hb8_ (by omega) (by omega) hw_D.2) (cwV 1 S.2.2.2.2 gX6_writeJob_J4_append_15ec4 rfl rfl rfl (by decide +kernel) ⟨Nat.le_of_ble_eq_true rfl, Nat.le_of_ble_eq_true rfl⟩) m8_ rfl rfl rfl (Nat.le_of_ble_eq_true rfl) dX6_writeJob_120 ⟨Nat.le_of_ble_eq_true rfl, Nat.le_of_ble_eq_true rfl⟩ (fun _ _ h => h.elim) (fun v_40 M_39 h_38 => ?_)
    obtain ⟨rfl, b9_, k9_, g9_, f9_, m9_, q9_, hn9_, hc9_, hk9_, hw9_, hb9_⟩ := h_38
    have ht9_ := ap_t ht8_ hk9_ hw9_
    refine g_pop (pc := 123) S dX6_writeJob_123 rfl ?_
    refine g_aload_n (pc := 124) S 1 dX6_writeJob_124 rfl rfl ?_
    refine g_get (pc := 125) S hz (ref := "SpoolFarm") (v := .ref (A 5 0)) ((f9_ _ (by decide) (by decide) (by decide)).trans ((f8_ _ (by decide) (by decide) (by decide)).trans ((f7_ _ (by decide) (by decide) (by decide)).trans ((f6_ _ (by decide) (by decide) (by decide)).trans ((f5_ _ (by decide) (by decide) (by decide)).trans ((f4_ _ (by decide) (by decide) (by decide)).trans ((f3_ _ (by decide) (by decide) (by decide)).trans ((f2_ _ (by decide) (by decide) (by decide)).trans ((f1_ _ (by decide) (by decide) (by decide)).trans ((f0_ _ (by decide) (by decide) (by decide)).trans (hM 0 0 _ cc_farm))))))))))) i_RX6 rfl 10 (Nat.le_of_ble_eq_true rfl) (by decide +kernel) (fun _ h => h) rfl dX6_writeJob_125 ?_
    refine g_aload_n (pc := 128) S 0 dX6_writeJob_128 rfl rfl ?_
    refine g_get (pc := 129) S hz (ref := "SpoolFarm$Job") (v := .int (nI (C 11 k_2 7))) ((f9_ _ (fun z => by cases z) (fun z => by cases z) (fun z => by cases z)).trans ((f8_ _ (fun z => by cases z) (fun z => by cases z) (fun z => by cases z)).trans ((f7_ _ (fun z => by cases z) (fun z => by cases z) (fun z => by cases z)).trans ((f6_ _ (fun z => by cases z) (fun z => by cases z) (fun z => by cases z)).trans ((f5_ _ (fun z => by cases z) (fun z => by cases z) (fun z => by cases z)).trans ((f4_ _ (fun z => by cases z) (fun z => by cases z) (fun z => by cases z)).trans ((f3_ _ (fun z => by cases z) (fun z => by cases z) (fun z => by cases z)).trans ((f2_ _ (fun z => by cases z) (fun z => by cases z) (fun z => by cases z)).trans ((f1_ _ (fun z => by cases z) (fun z => by cases z) (fun z => by cases z)).trans ((f0_ _ (fun z => by cases z) (fun z => by cases z) (fun z => by cases z)).trans (hM 11 k_2 _ (cc_job hk_3)))))))))))) i_RX1 rfl 7 (Nat.le_of_ble_eq_true rfl) (by decide +kernel) (fun _ h => h) rfl dX6_writeJob_129 ?_
    refine g_top (u := .int (nI (D 60 14 k_2))) (congrArg (fun x => Value.int (nI x)) q7) ?_
    refine g_tern (pc := 132) S (by omega) dX6_writeJob_132 (tr_K_322 hz) dX6_writeJob_135 dX6_writeJob_138 (tr_K_318 hz) dX6_writeJob_141 (by decide) ?_
    have hw_S := wd_S (D 60 14 k_2)
    refine g_callV (pc := 144) S hz hml [.ref (if D 60 14 k_2 = 0 then sQ Z "SpoolFarm" 318 else sQ Z "SpoolFarm" 322)] (k_appS Z l M_39 (if D 60 14 k_2 = 0 then sQ Z "SpoolFarm" 318 else sQ Z "SpoolFarm" 322) (if D 60 14 k_2 = 0 then sB Z "SpoolFarm" 318 else sB Z "SpoolFarm" 322) (wdS (D 60 14 k_2)).1 (wdS (D 60 14 k_2)).2 (tn_S Z (D 60 14 k_2)) (5, 0) (A 5 0) b9_ x0_ (0 + (sb_dg k_2) + 2 + (sb_dg (ptoN (D 60 13 k_2) (D 60 17 k_2) (D 60 19 k_2))) + 1 + (sb_dg (D 60 17 k_2 * D 60 18 k_2)) + 1 + ((wdP D k_2).1) + ((wdC (D 60 12 k_2)).1) + ((wdD (D 60 13 k_2)).1)) m9_ (8, 0) k9_ g9_ q9_ (by decide) (by decide) (by decide) hc9_ hn9_ hb9_ (by omega) (by omega) hw_S.2) (cwV 1 S.2.2.2.2 gX6_writeJob_J4_append_15ec4 rfl rfl rfl (by decide +kernel) ⟨Nat.le_of_ble_eq_true rfl, Nat.le_of_ble_eq_true rfl⟩) m9_ rfl rfl rfl (Nat.le_of_ble_eq_true rfl) dX6_writeJob_144 ⟨Nat.le_of_ble_eq_true rfl, Nat.le_of_ble_eq_true rfl⟩ (fun _ _ h => h.elim) (fun v_43 M_42 h_41 => ?_)
    obtain ⟨rfl, b10_, k10_, g10_, f10_, m10_, q10_, hn10_, hc10_, hk10_, hw10_, hb10_⟩ := h_41
    have ht10_ := ap_t ht9_ hk10_ hw10_
    refine g_pop (pc := 147) S dX6_writeJob_147 rfl ?_
    refine g_aload_n (pc := 148) S 1 dX6_writeJob_148 rfl rfl ?_
    refine g_get (pc := 149) S hz (ref := "SpoolFarm") (v := .ref (A 5 0)) ((f10_ _ (by decide) (by decide) (by decide)).trans ((f9_ _ (by decide) (by decide) (by decide)).trans ((f8_ _ (by decide) (by decide) (by decide)).trans ((f7_ _ (by decide) (by decide) (by decide)).trans ((f6_ _ (by decide) (by decide) (by decide)).trans ((f5_ _ (by decide) (by decide) (by decide)).trans ((f4_ _ (by decide) (by decide) (by decide)).trans ((f3_ _ (by decide) (by decide) (by decide)).trans ((f2_ _ (by decide) (by decide) (by decide)).trans ((f1_ _ (by decide) (by decide) (by decide)).trans ((f0_ _ (by decide) (by decide) (by decide)).trans (hM 0 0 _ cc_farm)))))))))))) i_RX6 rfl 10 (Nat.le_of_ble_eq_true rfl) (by decide +kernel) (fun _ h => h) rfl dX6_writeJob_149 ?_
    refine g_callV (pc := 152) S hz hml [] (k_sbLen Z l M_42 (5, 0) (A 5 0) b10_ x0_ (0 + (sb_dg k_2) + 2 + (sb_dg (ptoN (D 60 13 k_2) (D 60 17 k_2) (D 60 19 k_2))) + 1 + (sb_dg (D 60 17 k_2 * D 60 18 k_2)) + 1 + ((wdP D k_2).1) + ((wdC (D 60 12 k_2)).1) + ((wdD (D 60 13 k_2)).1) + ((wdS (D 60 14 k_2)).1)) m10_) (cwV 0 S.2.2.2.2 gX6_writeJob_J4_length_8abf5 rfl rfl rfl (by decide +kernel) ⟨Nat.le_of_ble_eq_true rfl, Nat.le_of_ble_eq_true rfl⟩) m10_ rfl rfl rfl (Nat.le_of_ble_eq_true rfl) dX6_writeJob_152 ⟨Nat.le_of_ble_eq_true rfl, Nat.le_of_ble_eq_true rfl⟩ (fun _ _ h => h.elim) (fun v_46 M_45 h_44 => ?_)
    obtain ⟨rfl, rfl⟩ := h_44
    have fA : ∀ r2 : Role, r2 ≠ (5, 0) → r2 ≠ (8, 0) → r2 ≠ (51, 0) → M_42 r2 = M r2 := fun r2 z1 z2 z3 => by rw [f10_ r2 z1 z2 z3, f9_ r2 z1 z2 z3, f8_ r2 z1 z2 z3, f7_ r2 z1 z2 z3, f6_ r2 z1 z2 z3, f5_ r2 z1 z2 z3, f4_ r2 z1 z2 z3, f3_ r2 z1 z2 z3, f2_ r2 z1 z2 z3, f1_ r2 z1 z2 z3, f0_ r2 z1 z2 z3]
    have hE := Rep.line (A := A) (C := C) (n := lnN D k_2) hM fA m10_ q10_
    have hl60 : lnN D k_2 ≤ 60 := by show 0 + (sb_dg k_2) + 2 + (sb_dg (ptoN (D 60 13 k_2) (D 60 17 k_2) (D 60 19 k_2))) + 1 + (sb_dg (D 60 17 k_2 * D 60 18 k_2)) + 1 + ((wdP D k_2).1) + ((wdC (D 60 12 k_2)).1) + ((wdD (D 60 13 k_2)).1) + ((wdS (D 60 14 k_2)).1) ≤ 60; omega
    exact g_iret (pc := 155) S hz hlo hr ⟨_, _, hE, (fun r hr => (fA r (ne80 hr (by decide)) (ne80 hr (by decide)) (ne80 hr (by decide))).trans (hF0 r hr)), k_2, hk_3, rfl, _, _, _, _, rfl, rfl, hl60, hn10_, hc10_, hb10_, ht10_, rfl⟩ (Nat.le_of_ble_eq_true rfl) (Nat.le_of_ble_eq_true rfl) dX6_writeJob_155
