set_option maxHeartbeats 4000000 in
set_option maxRecDepth 100000 in
theorem k_sbInit5 (Z : Zp) (l : Launch) (M : Wd) (r q2 : Role) (a : Nat) (hm : M r = some (a, .inr (1, [.null, .int (nI 0), .int (nI 0), .int (nI 0)]))) (hrq : r ≠ q2) : Ct Z l yJ5_init_d00df wsJ5_init_d00df ({ frames := 1, cells := 1, slots := 16, locals := 20 }) [.ref a, .int (nI 16)] M 1 16 (fun v M2 => none = v ∧ ∃ b : Nat, (∀ r2 : Role, r2 ≠ r → r2 ≠ q2 → M2 r2 = M r2) ∧ M2 r = some (a, .inr (1, [.ref b, .int (nI 0), .int (nI 0), .int (nI 0)])) ∧ M2 q2 = some (b, aN .byte 16 (fun _ => 0))) (fun _ _ => False) := by
  refine Ct.of (cc := cJ5_init_d00df) (maxL := 2) (ret := none) (by decide) rfl (Nat.le_of_ble_eq_true rfl) ?_
  intro p_ e_ s_ m_ args_ below_ meth_ c_ S hz hml hex hlo hr hin
  refine g_loc (L2 := [(0, .ref a), (1, .int (nI 16))]) rfl ?_
  have i_RJ4 : ∀ w ∈ u_ws RJ4 TJ4 4, w ∈ wsJ5_init_d00df := by decide +kernel
  refine g_aload_n (pc := 0) S 0 dJ5_init_d00df_0 rfl rfl ?_
  refine g_objInit (pc := 1) S hml (by decide +kernel) (by decide +kernel) (by decide +kernel) dJ5_init_d00df_1 (Nat.le_of_ble_eq_true rfl) (Nat.le_of_ble_eq_true rfl) ?_
  refine g_getsI (pc := 4) S (ref := "java/lang/String") (hz.zv (C := "java/lang/String") (n := "COMPACT_STRINGS") (d := "Z") (x := 1) (by decide +kernel) (by decide +kernel) (by decide +kernel)) (by decide +kernel) (fun _ h => h) dJ5_init_d00df_4 ?_
  refine g_top (u := .int (nI 1)) rfl ?_
  refine g_if_eqN (pc := 7) S 25 dJ5_init_d00df_7 (by decide) (by decide) (fun h => absurd h (by decide)) (fun _ => ?_)
  refine g_aload_n (pc := 10) S 0 dJ5_init_d00df_10 rfl rfl ?_
  refine g_iload_n (pc := 11) S 1 dJ5_init_d00df_11 rfl rfl ?_
  refine g_newa (pc := 12) S hz (ty := .byte) (n := 16) (x := (16, .inl (fun _ => nI 0))) q2 rfl (by decide +kernel) (fun cA => by rw [vp_cell_i]; rfl) (by decide) (by decide) (Nat.le_of_ble_eq_true rfl) (Nat.le_of_ble_eq_true rfl) dJ5_init_d00df_12 (fun b M2 f2 m2 => ?_)
  refine g_put (pc := 14) S hz (ref := "java/lang/AbstractStringBuilder") (r := r) (v := .ref b) (ty := .array .byte) ((f2 _ hrq).trans hm) i_RJ4 tyJ4 tyJ4_ok nmJ4 rfl 0 (Nat.le_of_ble_eq_true rfl) (by decide +kernel) (fun _ h => h) rfl (by decide +kernel) rfl rfl _ (Nat.le_of_ble_eq_true rfl) rfl dJ5_init_d00df_14 (fun M_1 f_2 m_3 => ?_)
  refine g_aload_n (pc := 17) S 0 dJ5_init_d00df_17 rfl rfl ?_
  refine g_iconst (pc := 18) S (v := (nI 0)) dJ5_init_d00df_18 (by decide) ?_
  refine g_put (pc := 19) S hz (ref := "java/lang/AbstractStringBuilder") (r := r) (v := .int (nI 0)) (ty := .byte) m_3 i_RJ4 tyJ4 tyJ4_ok nmJ4 rfl 1 (Nat.le_of_ble_eq_true rfl) (by decide +kernel) (fun _ h => h) rfl (by decide +kernel) (nar_b0 (by first | decide | omega)) (fit_b (by first | decide | omega)) _ (Nat.le_of_ble_eq_true rfl) rfl dJ5_init_d00df_19 (fun M_4 f_5 m_6 => ?_)
  refine g_goto (pc := 22) S 38 dJ5_init_d00df_22 (by decide) ?_
  exact g_vret (pc := 38) S hz hlo hr ⟨rfl, b, fun r2 z1 z2 => by rw [f_5 r2 z1, f_2 r2 z1, f2 r2 z2], m_6, ((f_5 _ (Ne.symm hrq)).trans ((f_2 _ (Ne.symm hrq)).trans m2))⟩ (Nat.le_of_ble_eq_true rfl) (Nat.le_of_ble_eq_true rfl) dJ5_init_d00df_38
set_option maxHeartbeats 4000000 in
set_option maxRecDepth 100000 in
theorem k_sbInit (Z : Zp) (l : Launch) (M : Wd) (r q2 : Role) (a : Nat) (hm : M r = some (a, .inr (1, [.null, .int (nI 0), .int (nI 0), .int (nI 0)]))) (hrq : r ≠ q2) : Ct Z l yJ4_init_da8c8 wsJ4_init_da8c8 ({ frames := 2, cells := 1, slots := 16, locals := 41 }) [.ref a] M 1 16 (fun v M2 => none = v ∧ ∃ b : Nat, (∀ r2 : Role, r2 ≠ r → r2 ≠ q2 → M2 r2 = M r2) ∧ M2 r = some (a, .inr (1, [.ref b, .int (nI 0), .int (nI 0), .int (nI 0)])) ∧ M2 q2 = some (b, aN .byte 16 (fun _ => 0))) (fun _ _ => False) := by
  refine Ct.of (cc := cJ4_init_da8c8) (maxL := 1) (ret := none) (by decide) rfl (Nat.le_of_ble_eq_true rfl) ?_
  intro p_ e_ s_ m_ args_ below_ meth_ c_ S hz hml hex hlo hr hin
  refine g_loc (L2 := [(0, .ref a)]) rfl ?_
  refine g_aload_n (pc := 0) S 0 dJ4_init_da8c8_0 rfl rfl ?_
  refine g_bipush (pc := 1) S (v := (nI 16)) dJ4_init_da8c8_1 (by decide) ?_
  refine g_callI (pc := 3) S hz hml [.int (nI 16)] (k_sbInit5 Z l M r q2 a hm hrq) (cwI 1 S.2.2.2.2 gJ4_init_da8c8_J5_init_d00df rfl rfl rfl (S.2.2.2.2 _ (by decide +kernel)) (S.2.2.2.2 _ (by decide +kernel)) (S.2.2.2.2 _ (by decide +kernel)) rfl (by decide +kernel) ⟨Nat.le_of_ble_eq_true rfl, Nat.le_of_ble_eq_true rfl⟩) rfl rfl (Nat.le_of_ble_eq_true rfl) dJ4_init_da8c8_3 ⟨Nat.le_of_ble_eq_true rfl, Nat.le_of_ble_eq_true rfl⟩ (fun v_3 M_2 h_1 => ?_)
  obtain ⟨rfl, h⟩ := h_1
  exact g_vret (pc := 6) S hz hlo hr ⟨rfl, h⟩ (Nat.le_of_ble_eq_true rfl) (Nat.le_of_ble_eq_true rfl) dJ4_init_da8c8_6
set_option maxHeartbeats 4000000 in
set_option maxRecDepth 100000 in
theorem k_sbLen (Z : Zp) (l : Launch) (M : Wd) (r : Role) (a c x n : Nat) (hm : M r = some (a, .inr (1, [.ref c, .int (nI 0), .int (nI x), .int (nI n)]))) : Ct Z l yJ4_length_8abf5 wsJ4_length_8abf5 ({ frames := 1, cells := 0, slots := 0, locals := 20 }) [.ref a] M 0 0 (fun v M2 => M = M2 ∧ some (.int (nI n)) = v) (fun _ _ => False) := by
  refine Ct.of (cc := cJ4_length_8abf5) (maxL := 1) (ret := (some .int)) (by decide) rfl (Nat.le_of_ble_eq_true rfl) ?_
  intro p_ e_ s_ m_ args_ below_ meth_ c_ S hz hml hex hlo hr hin
  refine g_loc (L2 := [(0, .ref a)]) rfl ?_
  refine g_aload_n (pc := 0) S 0 dJ4_length_8abf5_0 rfl rfl ?_
  refine g_callSU (pc := 1) S hz hml [] (k_sbLen5 Z l M r a c x n hm) (va_cwSU 0 S.2.2.2.2 gJ4_length_8abf5_J5_length_8abf5_s343 rfl rfl rfl (by decide +kernel) ⟨Nat.le_of_ble_eq_true rfl, Nat.le_of_ble_eq_true rfl⟩) hm rfl rfl rfl (Nat.le_of_ble_eq_true rfl) dJ4_length_8abf5_1 ⟨Nat.le_of_ble_eq_true rfl, Nat.le_of_ble_eq_true rfl⟩ (fun v_3 M_2 h_1 => ?_)
  obtain ⟨rfl, rfl⟩ := h_1
  exact g_iret (pc := 4) S hz hlo hr ⟨rfl, rfl⟩ (Nat.le_of_ble_eq_true rfl) (Nat.le_of_ble_eq_true rfl) dJ4_length_8abf5_4
set_option maxHeartbeats 4000000 in
set_option maxRecDepth 100000 in
theorem k_chk3N (Z : Zp) (l : Launch) (M : Wd) (i n : Nat) (hi : i < n) (hn : n < 2 ^ 31) : Ct Z l yJ3_checkIndex_8e157 wsJ3_checkIndex_8e157 ({ frames := 0, cells := 0, slots := 0, locals := 0 }) [.int (nI i), .int (nI n), .null] M 0 0 (fun v M2 => M = M2 ∧ some (.int (nI i)) = v) (fun _ _ => False) := by
  refine Ct.of (cc := cJ3_checkIndex_8e157) (maxL := 3) (ret := (some .int)) (by decide) rfl (Nat.le_of_ble_eq_true rfl) ?_
  intro p_ e_ s_ m_ args_ below_ meth_ c_ S hz hml hex hlo hr hin
  refine g_loc (L2 := [(0, .int (nI i)), (1, .int (nI n)), (2, .null)]) rfl ?_
  refine g_iload_n (pc := 0) S 0 dJ3_checkIndex_8e157_0 rfl rfl ?_
  refine g_if_ltN (pc := 1) S 9 dJ3_checkIndex_8e157_1 (by decide) (by omega) (fun c_1 => absurd c_1 (by omega)) (fun c_1 => ?_)
  refine g_iload_n (pc := 4) S 0 dJ3_checkIndex_8e157_4 rfl rfl ?_
  refine g_iload_n (pc := 5) S 1 dJ3_checkIndex_8e157_5 rfl rfl ?_
  refine g_icmp_ltN (pc := 6) S 16 dJ3_checkIndex_8e157_6 (by decide) (by omega) (by omega) (fun _ => ?_) (fun h => absurd h (by omega))
  refine g_iload_n (pc := 16) S 0 dJ3_checkIndex_8e157_16 rfl rfl ?_
  exact g_iret (pc := 17) S hz hlo hr ⟨rfl, rfl⟩ (Nat.le_of_ble_eq_true rfl) (Nat.le_of_ble_eq_true rfl) dJ3_checkIndex_8e157_17
set_option maxHeartbeats 4000000 in
set_option maxRecDepth 100000 in
theorem k_chk3R (Z : Zp) (l : Launch) (M : Wd) (i n : Nat) (x : Nat) (hi : i < n) (hn : n < 2 ^ 31) : Ct Z l yJ3_checkIndex_8e157 wsJ3_checkIndex_8e157 ({ frames := 0, cells := 0, slots := 0, locals := 0 }) [.int (nI i), .int (nI n), .ref x] M 0 0 (fun v M2 => M = M2 ∧ some (.int (nI i)) = v) (fun _ _ => False) := by
  refine Ct.of (cc := cJ3_checkIndex_8e157) (maxL := 3) (ret := (some .int)) (by decide) rfl (Nat.le_of_ble_eq_true rfl) ?_
  intro p_ e_ s_ m_ args_ below_ meth_ c_ S hz hml hex hlo hr hin
  refine g_loc (L2 := [(0, .int (nI i)), (1, .int (nI n)), (2, .ref x)]) rfl ?_
  refine g_iload_n (pc := 0) S 0 dJ3_checkIndex_8e157_0 rfl rfl ?_
  refine g_if_ltN (pc := 1) S 9 dJ3_checkIndex_8e157_1 (by decide) (by omega) (fun c_1 => absurd c_1 (by omega)) (fun c_1 => ?_)
  refine g_iload_n (pc := 4) S 0 dJ3_checkIndex_8e157_4 rfl rfl ?_
  refine g_iload_n (pc := 5) S 1 dJ3_checkIndex_8e157_5 rfl rfl ?_
  refine g_icmp_ltN (pc := 6) S 16 dJ3_checkIndex_8e157_6 (by decide) (by omega) (by omega) (fun _ => ?_) (fun h => absurd h (by omega))
  refine g_iload_n (pc := 16) S 0 dJ3_checkIndex_8e157_16 rfl rfl ?_
  exact g_iret (pc := 17) S hz hlo hr ⟨rfl, rfl⟩ (Nat.le_of_ble_eq_true rfl) (Nat.le_of_ble_eq_true rfl) dJ3_checkIndex_8e157_17
set_option maxHeartbeats 4000000 in
set_option maxRecDepth 100000 in
theorem k_chk0 (Z : Zp) (l : Launch) (M : Wd) (i n : Nat) (hi : i < n) (hn : n < 2 ^ 31) : Ct Z l yJ0_checkIndex_df160 wsJ0_checkIndex_df160 ({ frames := 1, cells := 0, slots := 0, locals := 22 }) [.int (nI i), .int (nI n)] M 0 0 (fun v M2 => M = M2 ∧ none = v) (fun _ _ => False) := by
  refine Ct.of (cc := cJ0_checkIndex_df160) (maxL := 2) (ret := none) (by decide) rfl (Nat.le_of_ble_eq_true rfl) ?_
  intro p_ e_ s_ m_ args_ below_ meth_ c_ S hz hml hex hlo hr hin
  refine g_loc (L2 := [(0, .int (nI i)), (1, .int (nI n))]) rfl ?_
  refine g_iload_n (pc := 0) S 0 dJ0_checkIndex_df160_0 rfl rfl ?_
  refine g_iload_n (pc := 1) S 1 dJ0_checkIndex_df160_1 rfl rfl ?_
  rcases hz.zqs (C := "jdk/internal/util/Preconditions") (n := "SIOOBE_FORMATTER") (d := "Ljava/util/function/BiFunction;") (by decide +kernel) (by decide +kernel) (by decide +kernel) with h | ⟨t, h⟩
  · refine g_getsN (pc := 2) S (ref := "jdk/internal/util/Preconditions") h (by decide +kernel) (fun _ h => h) dJ0_checkIndex_df160_2 ?_
    refine g_callS (pc := 5) S hz hml [.int (nI i), .int (nI n), .null] (k_chk3N Z l M i n hi hn) (va_cwS 3 S.2.2.2.2 gJ0_checkIndex_df160_J3_checkIndex_8e157 rfl rfl rfl (by decide +kernel) ⟨Nat.le_of_ble_eq_true rfl, Nat.le_of_ble_eq_true rfl⟩) rfl rfl (Nat.le_of_ble_eq_true rfl) dJ0_checkIndex_df160_5 ⟨Nat.le_of_ble_eq_true rfl, Nat.le_of_ble_eq_true rfl⟩ (fun _ _ h => h.elim) (fun v_3 M_2 h_1 => ?_)
    obtain ⟨rfl, rfl⟩ := h_1
    refine g_pop (pc := 8) S dJ0_checkIndex_df160_8 rfl ?_
    exact g_vret (pc := 9) S hz hlo hr ⟨rfl, rfl⟩ (Nat.le_of_ble_eq_true rfl) (Nat.le_of_ble_eq_true rfl) dJ0_checkIndex_df160_9
  · refine g_getsR (pc := 2) S (ref := "jdk/internal/util/Preconditions") h (by decide +kernel) (fun _ h => h) dJ0_checkIndex_df160_2 ?_
    refine g_callS (pc := 5) S hz hml [.int (nI i), .int (nI n), .ref t] (k_chk3R Z l M i n t hi hn) (va_cwS 3 S.2.2.2.2 gJ0_checkIndex_df160_J3_checkIndex_8e157 rfl rfl rfl (by decide +kernel) ⟨Nat.le_of_ble_eq_true rfl, Nat.le_of_ble_eq_true rfl⟩) rfl rfl (Nat.le_of_ble_eq_true rfl) dJ0_checkIndex_df160_5 ⟨Nat.le_of_ble_eq_true rfl, Nat.le_of_ble_eq_true rfl⟩ (fun _ _ h => h.elim) (fun v_6 M_5 h_4 => ?_)
    obtain ⟨rfl, rfl⟩ := h_4
    refine g_pop (pc := 8) S dJ0_checkIndex_df160_8 rfl ?_
    exact g_vret (pc := 9) S hz hlo hr ⟨rfl, rfl⟩ (Nat.le_of_ble_eq_true rfl) (Nat.le_of_ble_eq_true rfl) dJ0_checkIndex_df160_9
set_option maxHeartbeats 4000000 in
set_option maxRecDepth 100000 in
theorem k_chk15 (Z : Zp) (l : Launch) (M : Wd) (i n : Nat) (hi : i < n) (hn : n < 2 ^ 31) : Ct Z l yJ15_checkIndex_7cf53 wsJ15_checkIndex_7cf53 ({ frames := 1, cells := 0, slots := 0, locals := 22 }) [.int (nI i), .int (nI n)] M 0 0 (fun v M2 => M = M2 ∧ some (.int (nI i)) = v) (fun _ _ => False) := by
  refine Ct.of (cc := cJ15_checkIndex_7cf53) (maxL := 2) (ret := (some .int)) (by decide) rfl (Nat.le_of_ble_eq_true rfl) ?_
  intro p_ e_ s_ m_ args_ below_ meth_ c_ S hz hml hex hlo hr hin
  refine g_loc (L2 := [(0, .int (nI i)), (1, .int (nI n))]) rfl ?_
  refine g_iload_n (pc := 0) S 0 dJ15_checkIndex_7cf53_0 rfl rfl ?_
  refine g_iload_n (pc := 1) S 1 dJ15_checkIndex_7cf53_1 rfl rfl ?_
  refine g_null (pc := 2) S dJ15_checkIndex_7cf53_2 ?_
  refine g_callS (pc := 3) S hz hml [.int (nI i), .int (nI n), .null] (k_chk3N Z l M i n hi hn) (va_cwS 3 S.2.2.2.2 gJ15_checkIndex_7cf53_J3_checkIndex_8e157 rfl rfl rfl (by decide +kernel) ⟨Nat.le_of_ble_eq_true rfl, Nat.le_of_ble_eq_true rfl⟩) rfl rfl (Nat.le_of_ble_eq_true rfl) dJ15_checkIndex_7cf53_3 ⟨Nat.le_of_ble_eq_true rfl, Nat.le_of_ble_eq_true rfl⟩ (fun _ _ h => h.elim) (fun v_3 M_2 h_1 => ?_)
  obtain ⟨rfl, rfl⟩ := h_1
  exact g_iret (pc := 6) S hz hlo hr ⟨rfl, rfl⟩ (Nat.le_of_ble_eq_true rfl) (Nat.le_of_ble_eq_true rfl) dJ15_checkIndex_7cf53_6
theorem ch_and : ∀ x : Nat, x < 128 → nI x &&& nI 255 = nI x := by decide +kernel
theorem ch_i2c : ∀ x : Nat, x < 128 → ((nI x).toUInt32 % 65536).toInt32 = nI x := by decide +kernel
set_option maxHeartbeats 4000000 in
set_option maxRecDepth 100000 in
theorem k_latChar (Z : Zp) (l : Launch) (M : Wd) (q2 : Role) (c cap i : Nat) (g : Nat → Nat) (hq : M q2 = some (c, aN .byte cap g)) (hi : i < cap) (hcap : cap < 2 ^ 30) (hgi : g i < 128) : Ct Z l yJ1_charAt_3b067 wsJ1_charAt_3b067 ({ frames := 2, cells := 0, slots := 0, locals := 43 }) [.ref c, .int (nI i)] M 0 0 (fun v M2 => M = M2 ∧ some (.int (nI (g i))) = v) (fun _ _ => False) := by
  refine Ct.of (cc := cJ1_charAt_3b067) (maxL := 2) (ret := (some .char)) (by decide) rfl (Nat.le_of_ble_eq_true rfl) ?_
  intro p_ e_ s_ m_ args_ below_ meth_ c_ S hz hml hex hlo hr hin
  refine g_loc (L2 := [(0, .ref c), (1, .int (nI i))]) rfl ?_
  refine g_iload_n (pc := 0) S 1 dJ1_charAt_3b067_0 rfl rfl ?_
  refine g_aload_n (pc := 1) S 0 dJ1_charAt_3b067_1 rfl rfl ?_
  refine g_alen (pc := 2) S hz hq dJ1_charAt_3b067_2 ?_
  refine g_callS (pc := 3) S hz hml [.int (nI i), .int (nI cap)] (k_chk0 Z l M i cap (by omega) (by omega)) (va_cwS 2 S.2.2.2.2 gJ1_charAt_3b067_J0_checkIndex_df160 rfl rfl rfl (by decide +kernel) ⟨Nat.le_of_ble_eq_true rfl, Nat.le_of_ble_eq_true rfl⟩) rfl rfl (Nat.le_of_ble_eq_true rfl) dJ1_charAt_3b067_3 ⟨Nat.le_of_ble_eq_true rfl, Nat.le_of_ble_eq_true rfl⟩ (fun _ _ h => h.elim) (fun v_3 M_2 h_1 => ?_)
  obtain ⟨rfl, rfl⟩ := h_1
  refine g_aload_n (pc := 6) S 0 dJ1_charAt_3b067_6 rfl rfl ?_
  refine g_iload_n (pc := 7) S 1 dJ1_charAt_3b067_7 rfl rfl ?_
  refine g_bald (pc := 8) S hz hq (by omega) (by omega) dJ1_charAt_3b067_8 ?_
  refine g_sipush (pc := 9) S (v := (nI 255)) dJ1_charAt_3b067_9 (by decide) ?_
  refine g_iand (pc := 12) S dJ1_charAt_3b067_12 ?_
  refine g_top (u := .int (nI (g i))) (congrArg Value.int (ch_and _ hgi)) ?_
  refine g_i2c (pc := 13) S (v := nI (g i)) dJ1_charAt_3b067_13 (ch_i2c _ hgi) ?_
  exact g_zret (pc := 14) S hz hlo (nar_c (by omega)) hr ⟨rfl, rfl⟩ (Nat.le_of_ble_eq_true rfl) (Nat.le_of_ble_eq_true rfl) dJ1_charAt_3b067_14
set_option maxHeartbeats 4000000 in
set_option maxRecDepth 100000 in
theorem k_coder (Z : Zp) (l : Launch) (M : Wd) (r : Role) (a c : Nat) (hm : M r = some (a, .inr (0, [.ref c, .int (nI 0), .int (nI 0), .int (nI 0)]))) : Ct Z l yJ0_coder_7d493 wsJ0_coder_7d493 ({ frames := 0, cells := 0, slots := 0, locals := 0 }) [.ref a] M 0 0 (fun v M2 => M = M2 ∧ some (.int (nI 0)) = v) (fun _ _ => False) := by
  refine Ct.of (cc := cJ0_coder_7d493) (maxL := 1) (ret := (some .byte)) (by decide) rfl (Nat.le_of_ble_eq_true rfl) ?_
  intro p_ e_ s_ m_ args_ below_ meth_ c_ S hz hml hex hlo hr hin
  refine g_loc (L2 := [(0, .ref a)]) rfl ?_
  have i_RJ0 : ∀ w ∈ u_ws RJ0 TJ0 4, w ∈ wsJ0_coder_7d493 := by decide +kernel
  refine g_getsI (pc := 0) S (ref := "java/lang/String") (hz.zv (C := "java/lang/String") (n := "COMPACT_STRINGS") (d := "Z") (x := 1) (by decide +kernel) (by decide +kernel) (by decide +kernel)) (by decide +kernel) (fun _ h => h) dJ0_coder_7d493_0 ?_
  refine g_top (u := .int (nI 1)) rfl ?_
  refine g_if_eqN (pc := 3) S 13 dJ0_coder_7d493_3 (by decide) (by decide) (fun h => absurd h (by decide)) (fun _ => ?_)
  refine g_aload_n (pc := 6) S 0 dJ0_coder_7d493_6 rfl rfl ?_
  refine g_get (pc := 7) S hz (ref := "java/lang/String") (v := .int (nI 0)) hm i_RJ0 rfl 1 (Nat.le_of_ble_eq_true rfl) (by decide +kernel) (fun _ h => h) rfl dJ0_coder_7d493_7 ?_
  refine g_goto (pc := 10) S 14 dJ0_coder_7d493_10 (by decide) ?_
  exact g_zret (pc := 14) S hz hlo (ty := .byte) (nar_b0 (by decide)) hr ⟨rfl, rfl⟩ (Nat.le_of_ble_eq_true rfl) (Nat.le_of_ble_eq_true rfl) dJ0_coder_7d493_14
set_option maxHeartbeats 4000000 in
set_option maxRecDepth 100000 in
theorem k_strLat (Z : Zp) (l : Launch) (M : Wd) (r : Role) (a c : Nat) (hm : M r = some (a, .inr (0, [.ref c, .int (nI 0), .int (nI 0), .int (nI 0)]))) : Ct Z l yJ0_isLatin1_aae02 wsJ0_isLatin1_aae02 ({ frames := 0, cells := 0, slots := 0, locals := 0 }) [.ref a] M 0 0 (fun v M2 => M = M2 ∧ some (.int (nI 1)) = v) (fun _ _ => False) := by
  refine Ct.of (cc := cJ0_isLatin1_aae02) (maxL := 1) (ret := (some .boolean)) (by decide) rfl (Nat.le_of_ble_eq_true rfl) ?_
  intro p_ e_ s_ m_ args_ below_ meth_ c_ S hz hml hex hlo hr hin
  refine g_loc (L2 := [(0, .ref a)]) rfl ?_
  have i_RJ0 : ∀ w ∈ u_ws RJ0 TJ0 4, w ∈ wsJ0_isLatin1_aae02 := by decide +kernel
  refine g_getsI (pc := 0) S (ref := "java/lang/String") (hz.zv (C := "java/lang/String") (n := "COMPACT_STRINGS") (d := "Z") (x := 1) (by decide +kernel) (by decide +kernel) (by decide +kernel)) (by decide +kernel) (fun _ h => h) dJ0_isLatin1_aae02_0 ?_
  refine g_top (u := .int (nI 1)) rfl ?_
  refine g_if_eqN (pc := 3) S 17 dJ0_isLatin1_aae02_3 (by decide) (by decide) (fun h => absurd h (by decide)) (fun _ => ?_)
  refine g_aload_n (pc := 6) S 0 dJ0_isLatin1_aae02_6 rfl rfl ?_
  refine g_get (pc := 7) S hz (ref := "java/lang/String") (v := .int (nI 0)) hm i_RJ0 rfl 1 (Nat.le_of_ble_eq_true rfl) (by decide +kernel) (fun _ h => h) rfl dJ0_isLatin1_aae02_7 ?_
  refine g_if_neN (pc := 10) S 17 dJ0_isLatin1_aae02_10 (by decide) (by decide) (fun h => absurd h (by decide)) (fun _ => ?_)
  refine g_iconst (pc := 13) S (v := (nI 1)) dJ0_isLatin1_aae02_13 (by decide) ?_
  refine g_goto (pc := 14) S 18 dJ0_isLatin1_aae02_14 (by decide) ?_
  exact g_zret (pc := 18) S hz hlo (nar_z (by omega)) hr ⟨rfl, rfl⟩ (Nat.le_of_ble_eq_true rfl) (Nat.le_of_ble_eq_true rfl) dJ0_isLatin1_aae02_18
set_option maxHeartbeats 4000000 in
set_option maxRecDepth 100000 in
theorem k_strLen (Z : Zp) (l : Launch) (M : Wd) (r : Role) (a c : Nat) (hm : M r = some (a, .inr (0, [.ref c, .int (nI 0), .int (nI 0), .int (nI 0)]))) (q2 : Role) (cap : Nat) (g : Nat → Nat) (hq : M q2 = some (c, aN .byte cap g)) : Ct Z l yJ0_length_8abf5 wsJ0_length_8abf5 ({ frames := 1, cells := 0, slots := 0, locals := 20 }) [.ref a] M 0 0 (fun v M2 => M = M2 ∧ some (.int (nI cap)) = v) (fun _ _ => False) := by
  refine Ct.of (cc := cJ0_length_8abf5) (maxL := 1) (ret := (some .int)) (by decide) rfl (Nat.le_of_ble_eq_true rfl) ?_
  intro p_ e_ s_ m_ args_ below_ meth_ c_ S hz hml hex hlo hr hin
  refine g_loc (L2 := [(0, .ref a)]) rfl ?_
  have i_RJ0 : ∀ w ∈ u_ws RJ0 TJ0 4, w ∈ wsJ0_length_8abf5 := by decide +kernel
  refine g_aload_n (pc := 0) S 0 dJ0_length_8abf5_0 rfl rfl ?_
  refine g_get (pc := 1) S hz (ref := "java/lang/String") (v := .ref c) hm i_RJ0 rfl 0 (Nat.le_of_ble_eq_true rfl) (by decide +kernel) (fun _ h => h) rfl dJ0_length_8abf5_1 ?_
  refine g_alen (pc := 4) S hz hq dJ0_length_8abf5_4 ?_
  refine g_aload_n (pc := 5) S 0 dJ0_length_8abf5_5 rfl rfl ?_
  refine g_callV (pc := 6) S hz hml [] (k_coder Z l M r a c hm) (cwV 0 S.2.2.2.2 gJ0_length_8abf5_J0_coder_7d493 rfl rfl rfl (by decide +kernel) ⟨Nat.le_of_ble_eq_true rfl, Nat.le_of_ble_eq_true rfl⟩) hm rfl rfl rfl (Nat.le_of_ble_eq_true rfl) dJ0_length_8abf5_6 ⟨Nat.le_of_ble_eq_true rfl, Nat.le_of_ble_eq_true rfl⟩ (fun _ _ h => h.elim) (fun v_3 M_2 h_1 => ?_)
  obtain ⟨rfl, rfl⟩ := h_1
  refine g_ishr (pc := 9) S dJ0_length_8abf5_9 ?_
  refine g_top (u := .int (nI cap)) (congrArg Value.int (sb_shr0 _)) ?_
  exact g_iret (pc := 10) S hz hlo hr ⟨rfl, rfl⟩ (Nat.le_of_ble_eq_true rfl) (Nat.le_of_ble_eq_true rfl) dJ0_length_8abf5_10
set_option maxHeartbeats 4000000 in
set_option maxRecDepth 100000 in
theorem k_strChar (Z : Zp) (l : Launch) (M : Wd) (i : Nat) (r : Role) (a c : Nat) (hm : M r = some (a, .inr (0, [.ref c, .int (nI 0), .int (nI 0), .int (nI 0)]))) (q2 : Role) (cap : Nat) (g : Nat → Nat) (hq : M q2 = some (c, aN .byte cap g)) (hi : i < cap) (hcap : cap < 2 ^ 30) (hgi : g i < 128) : Ct Z l yJ0_charAt_5068e wsJ0_charAt_5068e ({ frames := 3, cells := 0, slots := 0, locals := 64 }) [.ref a, .int (nI i)] M 0 0 (fun v M2 => M = M2 ∧ some (.int (nI (g i))) = v) (fun _ _ => False) := by
  refine Ct.of (cc := cJ0_charAt_5068e) (maxL := 2) (ret := (some .char)) (by decide) rfl (Nat.le_of_ble_eq_true rfl) ?_
  intro p_ e_ s_ m_ args_ below_ meth_ c_ S hz hml hex hlo hr hin
  refine g_loc (L2 := [(0, .ref a), (1, .int (nI i))]) rfl ?_
  have i_RJ0 : ∀ w ∈ u_ws RJ0 TJ0 4, w ∈ wsJ0_charAt_5068e := by decide +kernel
  refine g_aload_n (pc := 0) S 0 dJ0_charAt_5068e_0 rfl rfl ?_
  refine g_callV (pc := 1) S hz hml [] (k_strLat Z l M r a c hm) (cwV 0 S.2.2.2.2 gJ0_charAt_5068e_J0_isLatin1_aae02 rfl rfl rfl (by decide +kernel) ⟨Nat.le_of_ble_eq_true rfl, Nat.le_of_ble_eq_true rfl⟩) hm rfl rfl rfl (Nat.le_of_ble_eq_true rfl) dJ0_charAt_5068e_1 ⟨Nat.le_of_ble_eq_true rfl, Nat.le_of_ble_eq_true rfl⟩ (fun _ _ h => h.elim) (fun v_3 M_2 h_1 => ?_)
  obtain ⟨rfl, rfl⟩ := h_1
  refine g_if_eqN (pc := 4) S 16 dJ0_charAt_5068e_4 (by decide) (by decide) (fun h => absurd h (by decide)) (fun _ => ?_)
  refine g_aload_n (pc := 7) S 0 dJ0_charAt_5068e_7 rfl rfl ?_
  refine g_get (pc := 8) S hz (ref := "java/lang/String") (v := .ref c) hm i_RJ0 rfl 0 (Nat.le_of_ble_eq_true rfl) (by decide +kernel) (fun _ h => h) rfl dJ0_charAt_5068e_8 ?_
  refine g_iload_n (pc := 11) S 1 dJ0_charAt_5068e_11 rfl rfl ?_
  refine g_callS (pc := 12) S hz hml [.ref c, .int (nI i)] (k_latChar Z l M q2 c cap i g hq hi hcap hgi) (va_cwS 2 S.2.2.2.2 gJ0_charAt_5068e_J1_charAt_3b067 rfl rfl rfl (by decide +kernel) ⟨Nat.le_of_ble_eq_true rfl, Nat.le_of_ble_eq_true rfl⟩) rfl rfl (Nat.le_of_ble_eq_true rfl) dJ0_charAt_5068e_12 ⟨Nat.le_of_ble_eq_true rfl, Nat.le_of_ble_eq_true rfl⟩ (fun _ _ h => h.elim) (fun v_6 M_5 h_4 => ?_)
  obtain ⟨rfl, rfl⟩ := h_4
  exact g_zret (pc := 15) S hz hlo (nar_c (by omega)) hr ⟨rfl, rfl⟩ (Nat.le_of_ble_eq_true rfl) (Nat.le_of_ble_eq_true rfl) dJ0_charAt_5068e_15
set_option maxHeartbeats 4000000 in
set_option maxRecDepth 100000 in
theorem k_sbChar5 (Z : Zp) (l : Launch) (M : Wd) (i : Nat) (r : Role) (a c x n : Nat) (hm : M r = some (a, .inr (1, [.ref c, .int (nI 0), .int (nI x), .int (nI n)]))) (q2 : Role) (cap : Nat) (g : Nat → Nat) (hq : M q2 = some (c, aN .byte cap g)) (hrq : r ≠ q2) (hi : i < n) (hn : n ≤ cap) (hcap : cap < 2 ^ 30) (hgi : g i < 128) : Ct Z l yJ5_charAt_5068e wsJ5_charAt_5068e ({ frames := 2, cells := 0, slots := 0, locals := 43 }) [.ref a, .int (nI i)] M 0 0 (fun v M2 => M = M2 ∧ some (.int (nI (g i))) = v) (fun _ _ => False) := by
  refine Ct.of (cc := cJ5_charAt_5068e) (maxL := 5) (ret := (some .char)) (by decide) rfl (Nat.le_of_ble_eq_true rfl) ?_
  intro p_ e_ s_ m_ args_ below_ meth_ c_ S hz hml hex hlo hr hin
  refine g_loc (L2 := [(0, .ref a), (1, .int (nI i))]) rfl ?_
  have i_RJ4 : ∀ w ∈ u_ws RJ4 TJ4 4, w ∈ wsJ5_charAt_5068e := by decide +kernel
  refine g_aload_n (pc := 0) S 0 dJ5_charAt_5068e_0 rfl rfl ?_
  refine g_get (pc := 1) S hz (ref := "java/lang/AbstractStringBuilder") (v := .int (nI 0)) hm i_RJ4 rfl 1 (Nat.le_of_ble_eq_true rfl) (by decide +kernel) (fun _ h => h) rfl dJ5_charAt_5068e_1 ?_
  refine g_istore_n (pc := 4) S [(2, .int (nI 0)), (0, .ref a), (1, .int (nI i))] dJ5_charAt_5068e_4 rfl (by decide) rfl ?_
  refine g_aload_n (pc := 5) S 1 dJ5_charAt_5068e_5 rfl rfl ?_
  refine g_get (pc := 6) S hz (ref := "java/lang/AbstractStringBuilder") (v := .ref c) hm i_RJ4 rfl 0 (Nat.le_of_ble_eq_true rfl) (by decide +kernel) (fun _ h => h) rfl dJ5_charAt_5068e_6 ?_
  refine g_astore_n (pc := 9) S [(3, .ref c), (2, .int (nI 0)), (0, .ref a), (1, .int (nI i))] dJ5_charAt_5068e_9 rfl (by decide) rfl ?_
  refine g_aload_n (pc := 10) S 2 dJ5_charAt_5068e_10 rfl rfl ?_
  refine g_get (pc := 11) S hz (ref := "java/lang/AbstractStringBuilder") (v := .int (nI n)) hm i_RJ4 rfl 3 (Nat.le_of_ble_eq_true rfl) (by decide +kernel) (fun _ h => h) rfl dJ5_charAt_5068e_11 ?_
  refine g_aload_n (pc := 14) S 0 dJ5_charAt_5068e_14 rfl rfl ?_
  refine g_alen (pc := 15) S hz hq dJ5_charAt_5068e_15 ?_
  refine g_iload_n (pc := 16) S 1 dJ5_charAt_5068e_16 rfl rfl ?_
  refine g_ishr (pc := 17) S dJ5_charAt_5068e_17 ?_
  refine g_top (u := .int (nI cap)) (congrArg Value.int (sb_shr0 _)) ?_
  refine g_min (pc := 18) S hml (by omega) (by omega) (by decide +kernel) (by decide +kernel) (by decide +kernel) (by decide +kernel) (Nat.le_of_ble_eq_true rfl) (Nat.le_of_ble_eq_true rfl) (Nat.le_of_ble_eq_true rfl) (Nat.le_of_ble_eq_true rfl) dJ5_charAt_5068e_18 ?_
  refine g_top (u := .int (nI (n))) (congrArg (fun z => Value.int (nI z)) (by omega)) ?_
  refine g_istore (pc := 21) S [(4, .int (nI n)), (3, .ref c), (2, .int (nI 0)), (0, .ref a), (1, .int (nI i))] dJ5_charAt_5068e_21 (by decide) rfl ?_
  refine g_iload_n (pc := 23) S 4 dJ5_charAt_5068e_23 rfl rfl ?_
  refine g_iload (pc := 24) S 0 dJ5_charAt_5068e_24 rfl ?_
  refine g_callS (pc := 26) S hz hml [.int (nI i), .int (nI n)] (k_chk0 Z l M i n (by omega) (by omega)) (va_cwS 2 S.2.2.2.2 gJ5_charAt_5068e_J0_checkIndex_df160 rfl rfl rfl (by decide +kernel) ⟨Nat.le_of_ble_eq_true rfl, Nat.le_of_ble_eq_true rfl⟩) rfl rfl (Nat.le_of_ble_eq_true rfl) dJ5_charAt_5068e_26 ⟨Nat.le_of_ble_eq_true rfl, Nat.le_of_ble_eq_true rfl⟩ (fun _ _ h => h.elim) (fun v_3 M_2 h_1 => ?_)
  obtain ⟨rfl, rfl⟩ := h_1
  refine g_iload_n (pc := 29) S 2 dJ5_charAt_5068e_29 rfl rfl ?_
  refine g_if_neN (pc := 30) S 42 dJ5_charAt_5068e_30 (by decide) (by decide) (fun h => absurd h (by decide)) (fun _ => ?_)
  refine g_aload_n (pc := 33) S 1 dJ5_charAt_5068e_33 rfl rfl ?_
  refine g_iload_n (pc := 34) S 4 dJ5_charAt_5068e_34 rfl rfl ?_
  refine g_bald (pc := 35) S hz hq (by omega) (by omega) dJ5_charAt_5068e_35 ?_
  refine g_sipush (pc := 36) S (v := (nI 255)) dJ5_charAt_5068e_36 (by decide) ?_
  refine g_iand (pc := 39) S dJ5_charAt_5068e_39 ?_
  refine g_top (u := .int (nI (g i))) (congrArg Value.int (ch_and _ hgi)) ?_
  refine g_i2c (pc := 40) S (v := nI (g i)) dJ5_charAt_5068e_40 (ch_i2c _ hgi) ?_
  exact g_zret (pc := 41) S hz hlo (nar_c (by omega)) hr ⟨rfl, rfl⟩ (Nat.le_of_ble_eq_true rfl) (Nat.le_of_ble_eq_true rfl) dJ5_charAt_5068e_41
set_option maxHeartbeats 4000000 in
set_option maxRecDepth 100000 in
theorem k_sbChar (Z : Zp) (l : Launch) (M : Wd) (i : Nat) (r : Role) (a c x n : Nat) (hm : M r = some (a, .inr (1, [.ref c, .int (nI 0), .int (nI x), .int (nI n)]))) (q2 : Role) (cap : Nat) (g : Nat → Nat) (hq : M q2 = some (c, aN .byte cap g)) (hrq : r ≠ q2) (hi : i < n) (hn : n ≤ cap) (hcap : cap < 2 ^ 30) (hgi : g i < 128) : Ct Z l yJ4_charAt_5068e wsJ4_charAt_5068e ({ frames := 3, cells := 0, slots := 0, locals := 67 }) [.ref a, .int (nI i)] M 0 0 (fun v M2 => M = M2 ∧ some (.int (nI (g i))) = v) (fun _ _ => False) := by
  refine Ct.of (cc := cJ4_charAt_5068e) (maxL := 2) (ret := (some .char)) (by decide) rfl (Nat.le_of_ble_eq_true rfl) ?_
  intro p_ e_ s_ m_ args_ below_ meth_ c_ S hz hml hex hlo hr hin
  refine g_loc (L2 := [(0, .ref a), (1, .int (nI i))]) rfl ?_
  refine g_aload_n (pc := 0) S 0 dJ4_charAt_5068e_0 rfl rfl ?_
  refine g_iload_n (pc := 1) S 1 dJ4_charAt_5068e_1 rfl rfl ?_
  refine g_callSU (pc := 2) S hz hml [.int (nI i)] (k_sbChar5 Z l M i r a c x n hm q2 cap g hq hrq hi hn hcap hgi) (va_cwSU 1 S.2.2.2.2 gJ4_charAt_5068e_J5_charAt_5068e_s329 rfl rfl rfl (by decide +kernel) ⟨Nat.le_of_ble_eq_true rfl, Nat.le_of_ble_eq_true rfl⟩) hm rfl rfl rfl (Nat.le_of_ble_eq_true rfl) dJ4_charAt_5068e_2 ⟨Nat.le_of_ble_eq_true rfl, Nat.le_of_ble_eq_true rfl⟩ (fun v_3 M_2 h_1 => ?_)
  obtain ⟨rfl, rfl⟩ := h_1
  exact g_zret (pc := 5) S hz hlo (nar_c (by omega)) hr ⟨rfl, rfl⟩ (Nat.le_of_ble_eq_true rfl) (Nat.le_of_ble_eq_true rfl) dJ4_charAt_5068e_5
set_option maxHeartbeats 4000000 in
set_option maxRecDepth 100000 in
theorem k_setLen5 (Z : Zp) (l : Launch) (M : Wd) (r : Role) (a c x n : Nat) (hm : M r = some (a, .inr (1, [.ref c, .int (nI 0), .int (nI x), .int (nI n)]))) (q2 : Role) (cap : Nat) (g : Nat → Nat) (hq : M q2 = some (c, aN .byte cap g)) (hrq : r ≠ q2) (hr1 : r ≠ (51, 0)) (hq1 : q2 ≠ (51, 0)) (hc : cpO cap) (hn : n ≤ cap) (hb : ∀ j : Nat, j < cap → g j < 128) : Ct Z l yJ5_setLength_d00df wsJ5_setLength_d00df ({ frames := 4, cells := 0, slots := 0, locals := 162 }) [.ref a, .int (nI 0)] M 0 0 (fun v M2 => none = v ∧ ∃ (b2 x2 : Nat) (g2 : Nat → Nat), (∀ r2 : Role, r2 ≠ r → r2 ≠ q2 → r2 ≠ (51, 0) → M2 r2 = M r2) ∧ M2 r = some (a, .inr (1, [.ref b2, .int (nI 0), .int (nI x2), .int (nI 0)])) ∧ M2 q2 = some (b2, aN .byte cap g2) ∧ ∀ j : Nat, j < cap → g2 j < 128) (fun _ _ => False) := by
  refine Ct.of (cc := cJ5_setLength_d00df) (maxL := 2) (ret := none) (by decide) rfl (Nat.le_of_ble_eq_true rfl) ?_
  intro p_ e_ s_ m_ args_ below_ meth_ c_ S hz hml hex hlo hr hin
  refine g_loc (L2 := [(0, .ref a), (1, .int (nI 0))]) rfl ?_
  have i_RJ4 : ∀ w ∈ u_ws RJ4 TJ4 4, w ∈ wsJ5_setLength_d00df := by decide +kernel
  have hcl := cpO_le hc
  refine g_iload_n (pc := 0) S 1 dJ5_setLength_d00df_0 rfl rfl ?_
  refine g_if_geN (pc := 1) S 13 dJ5_setLength_d00df_1 (by decide) (by decide) (fun _ => ?_) (fun h => absurd h (by decide))
  refine g_aload_n (pc := 13) S 0 dJ5_setLength_d00df_13 rfl rfl ?_
  refine g_iload_n (pc := 14) S 1 dJ5_setLength_d00df_14 rfl rfl ?_
  refine g_callU (pc := 15) S hz hml [.int (nI 0)] (k_ensure Z l M r q2 a c x n cap 0 0 0 g hm hq hrq hr1 hq1 (by omega) (by omega) hb (fun z => absurd z (by omega))) (va_cwU 1 S.2.2.2.2 gJ5_setLength_d00df_J5_ensureCapacityInternal_d00df_u100J4 rfl rfl rfl rfl (by decide +kernel) ⟨Nat.le_of_ble_eq_true rfl, Nat.le_of_ble_eq_true rfl⟩) hm rfl rfl rfl (Nat.le_of_ble_eq_true rfl) dJ5_setLength_d00df_15 ⟨Nat.le_of_ble_eq_true rfl, Nat.le_of_ble_eq_true rfl⟩ (fun v_3 M_2 h_1 => ?_)
  obtain ⟨rfl, c2, cap2, g2, f2, m2, q3, h1, h3, h4, h5⟩ := h_1
  rw [if_pos (Nat.zero_le _)] at h3
  subst h3
  refine g_aload_n (pc := 18) S 0 dJ5_setLength_d00df_18 rfl rfl ?_
  refine g_get (pc := 19) S hz (ref := "java/lang/AbstractStringBuilder") (v := .int (nI n)) m2 i_RJ4 rfl 3 (Nat.le_of_ble_eq_true rfl) (by decide +kernel) (fun _ h => h) rfl dJ5_setLength_d00df_19 ?_
  refine g_iload_n (pc := 22) S 1 dJ5_setLength_d00df_22 rfl rfl ?_
  refine g_icmp_geN (pc := 23) S 63 dJ5_setLength_d00df_23 (by decide) (by omega) (by decide) (fun _ => ?_) (fun h => absurd (Nat.zero_le _) h)
  refine g_aload_n (pc := 63) S 0 dJ5_setLength_d00df_63 rfl rfl ?_
  refine g_get (pc := 64) S hz (ref := "java/lang/AbstractStringBuilder") (v := .int (nI n)) m2 i_RJ4 rfl 3 (Nat.le_of_ble_eq_true rfl) (by decide +kernel) (fun _ h => h) rfl dJ5_setLength_d00df_64 ?_
  refine g_iload_n (pc := 67) S 1 dJ5_setLength_d00df_67 rfl rfl ?_
  refine g_icmp_leN (pc := 68) S 76 dJ5_setLength_d00df_68 (by decide) (by omega) (by omega) (fun c_4 => ?_) (fun c_4 => ?_)
  · refine g_aload_n (pc := 76) S 0 dJ5_setLength_d00df_76 rfl rfl ?_
    refine g_iload_n (pc := 77) S 1 dJ5_setLength_d00df_77 rfl rfl ?_
    refine g_put (pc := 78) S hz (ref := "java/lang/AbstractStringBuilder") (r := r) (v := .int (nI 0)) (ty := .int) m2 i_RJ4 tyJ4 tyJ4_ok nmJ4 rfl 3 (Nat.le_of_ble_eq_true rfl) (by decide +kernel) (fun _ h => h) rfl (by decide +kernel) rfl rfl _ (Nat.le_of_ble_eq_true rfl) rfl dJ5_setLength_d00df_78 (fun M_5 f_6 m_7 => ?_)
    exact g_vret (pc := 81) S hz hlo hr ⟨rfl, c2, x, g2, fun r2 z1 z2 z3 => by rw [f_6 r2 z1, f2 r2 z1 z2 z3], m_7, ((f_6 _ (Ne.symm hrq)).trans q3), h5⟩ (Nat.le_of_ble_eq_true rfl) (Nat.le_of_ble_eq_true rfl) dJ5_setLength_d00df_81
  · refine g_aload_n (pc := 71) S 0 dJ5_setLength_d00df_71 rfl rfl ?_
    refine g_iconst (pc := 72) S (v := (nI 1)) dJ5_setLength_d00df_72 (by decide) ?_
    refine g_put (pc := 73) S hz (ref := "java/lang/AbstractStringBuilder") (r := r) (v := .int (nI 1)) (ty := .boolean) m2 i_RJ4 tyJ4 tyJ4_ok nmJ4 rfl 2 (Nat.le_of_ble_eq_true rfl) (by decide +kernel) (fun _ h => h) rfl (by decide +kernel) (nar_z (by first | decide | omega)) (fit_z (by first | decide | omega)) _ (Nat.le_of_ble_eq_true rfl) rfl dJ5_setLength_d00df_73 (fun M_8 f_9 m_10 => ?_)
    refine g_aload_n (pc := 76) S 0 dJ5_setLength_d00df_76 rfl rfl ?_
    refine g_iload_n (pc := 77) S 1 dJ5_setLength_d00df_77 rfl rfl ?_
    refine g_put (pc := 78) S hz (ref := "java/lang/AbstractStringBuilder") (r := r) (v := .int (nI 0)) (ty := .int) m_10 i_RJ4 tyJ4 tyJ4_ok nmJ4 rfl 3 (Nat.le_of_ble_eq_true rfl) (by decide +kernel) (fun _ h => h) rfl (by decide +kernel) rfl rfl _ (Nat.le_of_ble_eq_true rfl) rfl dJ5_setLength_d00df_78 (fun M_11 f_12 m_13 => ?_)
    exact g_vret (pc := 81) S hz hlo hr ⟨rfl, c2, 1, g2, fun r2 z1 z2 z3 => by rw [f_12 r2 z1, f_9 r2 z1, f2 r2 z1 z2 z3], m_13, ((f_12 _ (Ne.symm hrq)).trans ((f_9 _ (Ne.symm hrq)).trans q3)), h5⟩ (Nat.le_of_ble_eq_true rfl) (Nat.le_of_ble_eq_true rfl) dJ5_setLength_d00df_81
set_option maxHeartbeats 4000000 in
set_option maxRecDepth 100000 in
theorem k_setLen (Z : Zp) (l : Launch) (M : Wd) (r : Role) (a c x n : Nat) (hm : M r = some (a, .inr (1, [.ref c, .int (nI 0), .int (nI x), .int (nI n)]))) (q2 : Role) (cap : Nat) (g : Nat → Nat) (hq : M q2 = some (c, aN .byte cap g)) (hrq : r ≠ q2) (hr1 : r ≠ (51, 0)) (hq1 : q2 ≠ (51, 0)) (hc : cpO cap) (hn : n ≤ cap) (hb : ∀ j : Nat, j < cap → g j < 128) : Ct Z l yJ4_setLength_d00df wsJ4_setLength_d00df ({ frames := 5, cells := 0, slots := 0, locals := 183 }) [.ref a, .int (nI 0)] M 0 0 (fun v M2 => none = v ∧ ∃ (b2 x2 : Nat) (g2 : Nat → Nat), (∀ r2 : Role, r2 ≠ r → r2 ≠ q2 → r2 ≠ (51, 0) → M2 r2 = M r2) ∧ M2 r = some (a, .inr (1, [.ref b2, .int (nI 0), .int (nI x2), .int (nI 0)])) ∧ M2 q2 = some (b2, aN .byte cap g2) ∧ ∀ j : Nat, j < cap → g2 j < 128) (fun _ _ => False) := by
  refine Ct.of (cc := cJ4_setLength_d00df) (maxL := 2) (ret := none) (by decide) rfl (Nat.le_of_ble_eq_true rfl) ?_
  intro p_ e_ s_ m_ args_ below_ meth_ c_ S hz hml hex hlo hr hin
  refine g_loc (L2 := [(0, .ref a), (1, .int (nI 0))]) rfl ?_
  refine g_aload_n (pc := 0) S 0 dJ4_setLength_d00df_0 rfl rfl ?_
  refine g_iload_n (pc := 1) S 1 dJ4_setLength_d00df_1 rfl rfl ?_
  refine g_callSU (pc := 2) S hz hml [.int (nI 0)] (k_setLen5 Z l M r a c x n hm q2 cap g hq hrq hr1 hq1 hc hn hb) (va_cwSU 1 S.2.2.2.2 gJ4_setLength_d00df_J5_setLength_d00df_s333 rfl rfl rfl (by decide +kernel) ⟨Nat.le_of_ble_eq_true rfl, Nat.le_of_ble_eq_true rfl⟩) hm rfl rfl rfl (Nat.le_of_ble_eq_true rfl) dJ4_setLength_d00df_2 ⟨Nat.le_of_ble_eq_true rfl, Nat.le_of_ble_eq_true rfl⟩ (fun v_3 M_2 h_1 => ?_)
  obtain ⟨rfl, h⟩ := h_1
  exact g_vret (pc := 5) S hz hlo hr ⟨rfl, h⟩ (Nat.le_of_ble_eq_true rfl) (Nat.le_of_ble_eq_true rfl) dJ4_setLength_d00df_5
