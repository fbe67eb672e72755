section APPP
/-- the capacities that our texts reach -/
def cpO (k : Nat) : Prop := k = 16 ∨ k = 34 ∨ k = 70
theorem cpO_le {k : Nat} (h : cpO k) : k ≤ 70 ∧ 16 ≤ k := by
  unfold cpO at h
  omega
theorem cpO_next {cap n w : Nat} (h : cpO cap) (hn : n ≤ cap) (hw : w ≤ 8) (hnw : n + w ≤ 60) : cpO (if n + w ≤ cap then cap else cap + max (n + w - cap) (cap + 2)) ∧ (cap < n + w → cap + max (n + w - cap) (cap + 2) ≤ 70) := by
  unfold cpO at *
  split <;> omega
/-- behind an append of w letters tx at a text of n letters -/
def AppP (M M2 : Wd) (r q : Role) (a x n : Nat) (g : Nat → Nat) (w : Nat) (tx : Nat → Nat) : Prop := ∃ (b2 cap2 : Nat) (g2 : Nat → Nat), (∀ r2 : Role, r2 ≠ r → r2 ≠ q → r2 ≠ (51, 0) → M2 r2 = M r2) ∧ M2 r = some (a, .inr (1, [.ref b2, .int (nI 0), .int (nI x), .int (nI (n + w))])) ∧ M2 q = some (b2, aN .byte cap2 g2) ∧ n + w ≤ cap2 ∧ cpO cap2 ∧ (∀ j : Nat, j < n → g2 j = g j) ∧ (∀ j : Nat, j < w → g2 (n + j) = tx j) ∧ ∀ j : Nat, j < cap2 → g2 j < 128
end APPP
set_option maxHeartbeats 4000000 in
set_option maxRecDepth 100000 in
theorem k_appS5 (Z : Zp) (l : Launch) (M : Wd) (q b w : Nat) (tx : Nat → Nat) (hstr : ∀ U : State, Stat Z U → zS Z q b w tx U) (r : Role) (a c x n : Nat) (hm : M r = some (a, .inr (1, [.ref c, .int (nI 0), .int (nI x), .int (nI n)]))) (q2 : Role) (cap : Nat) (g : Nat → Nat) (hq : M q2 = some (c, aN .byte cap g)) (hrq : r ≠ q2) (hr1 : r ≠ (51, 0)) (hq1 : q2 ≠ (51, 0)) (hc : cpO cap) (hn : n ≤ cap) (hb : ∀ j : Nat, j < cap → g j < 128) (hw8 : w ≤ 8) (hnw : n + w ≤ 60) (htx : ∀ j : Nat, j < w → tx j < 128) : Ct Z l yJ5_append_cf1ce wsJ5_append_cf1ce ({ frames := 4, cells := 1, slots := 70, locals := 162 }) [.ref a, .ref q] M 1 70 (fun v M2 => some (.ref a) = v ∧ AppP M M2 r q2 a x n g w tx) (fun _ _ => False) := by
  refine Ct.of (cc := cJ5_append_cf1ce) (maxL := 3) (ret := (some (.object "java/lang/AbstractStringBuilder"))) (by decide) rfl (Nat.le_of_ble_eq_true rfl) ?_
  intro p_ e_ s_ m_ args_ below_ meth_ c_ S hz hml hex hlo hr hin
  refine g_loc (L2 := [(0, .ref a), (1, .ref q)]) rfl ?_
  have i_RJ4 : ∀ w ∈ u_ws RJ4 TJ4 4, w ∈ wsJ5_append_cf1ce := by decide +kernel
  have hcl := cpO_le hc
  have hcn := cpO_next hc hn hw8 hnw
  have hs := hstr s_ hz
  refine g_aload_n (pc := 0) S 1 dJ5_append_cf1ce_0 rfl rfl ?_
  refine g_ifnonnull (pc := 1) S 9 dJ5_append_cf1ce_1 (by decide) ?_
  refine g_aload_n (pc := 9) S 1 dJ5_append_cf1ce_9 rfl rfl ?_
  refine g_callVS (pc := 10) S hz hml [] (k_strLenS Z l M q b w tx hstr) (cwV 0 S.2.2.2.2 gJ5_append_cf1ce_J0_length_8abf5 rfl rfl rfl (by decide +kernel) ⟨Nat.le_of_ble_eq_true rfl, Nat.le_of_ble_eq_true rfl⟩) hs.1 rfl rfl (Nat.le_of_ble_eq_true rfl) dJ5_append_cf1ce_10 ⟨Nat.le_of_ble_eq_true rfl, Nat.le_of_ble_eq_true rfl⟩ (fun v_3 M_2 h_1 => ?_)
  obtain ⟨rfl, rfl⟩ := h_1
  refine g_istore_n (pc := 13) S [(2, .int (nI w)), (0, .ref a), (1, .ref q)] dJ5_append_cf1ce_13 rfl (by decide) rfl ?_
  refine g_aload_n (pc := 14) S 1 dJ5_append_cf1ce_14 rfl rfl ?_
  refine g_aload_n (pc := 15) S 1 dJ5_append_cf1ce_15 rfl rfl ?_
  refine g_get (pc := 16) S hz (ref := "java/lang/AbstractStringBuilder") (v := .int (nI n)) hm i_RJ4 rfl 3 (Nat.le_of_ble_eq_true rfl) (by decide +kernel) (fun _ h => h) rfl dJ5_append_cf1ce_16 ?_
  refine g_iload_n (pc := 19) S 0 dJ5_append_cf1ce_19 rfl rfl ?_
  refine g_iaddN (pc := 20) S dJ5_append_cf1ce_20 ?_
  refine g_callU (pc := 21) S hz hml [.int (nI (n + w))] (k_ensure Z l M r q2 a c x n cap (n + w) 1 70 g hm hq hrq hr1 hq1 (by omega) (by omega) hb (fun z => ⟨Nat.le_refl _, hcn.2 z⟩)) (va_cwU 1 S.2.2.2.2 gJ5_append_cf1ce_J5_ensureCapacityInternal_d00df_u100J4 rfl rfl rfl rfl (by decide +kernel) ⟨Nat.le_of_ble_eq_true rfl, Nat.le_of_ble_eq_true rfl⟩) hm rfl rfl rfl (Nat.le_of_ble_eq_true rfl) dJ5_append_cf1ce_21 ⟨Nat.le_of_ble_eq_true rfl, Nat.le_of_ble_eq_true rfl⟩ (fun v_6 M_5 h_4 => ?_)
  obtain ⟨rfl, c2, cap2, g2, f2, m2, q3, h1, h3, h4, h5⟩ := h_4
  have hc2 : cpO cap2 := by rw [← h3]; exact hcn.1
  have hcl2 := cpO_le hc2
  refine g_aload_n (pc := 24) S 1 dJ5_append_cf1ce_24 rfl rfl ?_
  refine g_aload_n (pc := 25) S 1 dJ5_append_cf1ce_25 rfl rfl ?_
  refine g_get (pc := 26) S hz (ref := "java/lang/AbstractStringBuilder") (v := .int (nI n)) m2 i_RJ4 rfl 3 (Nat.le_of_ble_eq_true rfl) (by decide +kernel) (fun _ h => h) rfl dJ5_append_cf1ce_26 ?_
  refine g_aload_n (pc := 29) S 2 dJ5_append_cf1ce_29 rfl rfl ?_
  refine g_callU (pc := 30) S hz hml [.int (nI n), .ref q] (k_putStr Z l M_5 q b w tx hstr r a c2 x n m2 q2 cap2 g2 q3 hrq h1 (by omega) htx) (va_cwU 2 S.2.2.2.2 gJ5_append_cf1ce_J5_putStringAt_47b60_u208J4 rfl rfl rfl rfl (by decide +kernel) ⟨Nat.le_of_ble_eq_true rfl, Nat.le_of_ble_eq_true rfl⟩) m2 rfl rfl rfl (Nat.le_of_ble_eq_true rfl) dJ5_append_cf1ce_30 ⟨Nat.le_of_ble_eq_true rfl, Nat.le_of_ble_eq_true rfl⟩ (fun v_9 M_8 h_7 => ?_)
  obtain ⟨rfl, f8, m8⟩ := h_7
  refine g_aload_n (pc := 33) S 1 dJ5_append_cf1ce_33 rfl rfl ?_
  refine g_dup (pc := 34) S dJ5_append_cf1ce_34 rfl ?_
  refine g_get (pc := 35) S hz (ref := "java/lang/AbstractStringBuilder") (v := .int (nI n)) ((f8 r hrq).trans m2) i_RJ4 rfl 3 (Nat.le_of_ble_eq_true rfl) (by decide +kernel) (fun _ h => h) rfl dJ5_append_cf1ce_35 ?_
  refine g_iload_n (pc := 38) S 0 dJ5_append_cf1ce_38 rfl rfl ?_
  refine g_iaddN (pc := 39) S dJ5_append_cf1ce_39 ?_
  refine g_put (pc := 40) S hz (ref := "java/lang/AbstractStringBuilder") (r := r) (v := .int (nI (n + w))) (ty := .int) ((f8 r hrq).trans m2) i_RJ4 tyJ4 tyJ4_ok nmJ4 rfl 3 (Nat.le_of_ble_eq_true rfl) (by decide +kernel) (fun _ h => h) rfl (by decide +kernel) rfl rfl _ (Nat.le_of_ble_eq_true rfl) rfl dJ5_append_cf1ce_40 (fun M_10 f_11 m_12 => ?_)
  refine g_aload_n (pc := 43) S 1 dJ5_append_cf1ce_43 rfl rfl ?_
  refine g_aret (pc := 44) S hz hlo hr ⟨rfl, c2, cap2, _, fun r2 z1 z2 z3 => by rw [f_11 r2 z1, f8 r2 z2, f2 r2 z1 z2 z3], m_12, (f_11 q2 (Ne.symm hrq)).trans m8, h1, hc2, fun j hj => by unfold cpN; rw [if_neg (by omega)]; exact h4 j (by omega), fun j hj => by unfold cpN; rw [if_pos (by omega)]; congr 1; omega, fun j hj => ?_⟩ (Nat.le_refl _) (Nat.le_refl _) dJ5_append_cf1ce_44
  unfold cpN
  split
  · exact htx _ (by omega)
  · exact h5 j hj
set_option maxHeartbeats 4000000 in
set_option maxRecDepth 100000 in
theorem k_appS (Z : Zp) (l : Launch) (M : Wd) (q b w : Nat) (tx : Nat → Nat) (hstr : ∀ U : State, Stat Z U → zS Z q b w tx U) (r : Role) (a c x n : Nat) (hm : M r = some (a, .inr (1, [.ref c, .int (nI 0), .int (nI x), .int (nI n)]))) (q2 : Role) (cap : Nat) (g : Nat → Nat) (hq : M q2 = some (c, aN .byte cap g)) (hrq : r ≠ q2) (hr1 : r ≠ (51, 0)) (hq1 : q2 ≠ (51, 0)) (hc : cpO cap) (hn : n ≤ cap) (hb : ∀ j : Nat, j < cap → g j < 128) (hw8 : w ≤ 8) (hnw : n + w ≤ 60) (htx : ∀ j : Nat, j < w → tx j < 128) : Ct Z l yJ4_append_15ec4 wsJ4_append_15ec4 ({ frames := 5, cells := 1, slots := 70, locals := 184 }) [.ref a, .ref q] M 1 70 (fun v M2 => some (.ref a) = v ∧ AppP M M2 r q2 a x n g w tx) (fun _ _ => False) := by
  refine Ct.of (cc := cJ4_append_15ec4) (maxL := 2) (ret := (some (.object "java/lang/StringBuilder"))) (by decide) rfl (Nat.le_of_ble_eq_true rfl) ?_
  intro p_ e_ s_ m_ args_ below_ meth_ c_ S hz hml hex hlo hr hin
  refine g_loc (L2 := [(0, .ref a), (1, .ref q)]) rfl ?_
  refine g_aload_n (pc := 0) S 0 dJ4_append_15ec4_0 rfl rfl ?_
  refine g_aload_n (pc := 1) S 1 dJ4_append_15ec4_1 rfl rfl ?_
  refine g_callSU (pc := 2) S hz hml [.ref q] (k_appS5 Z l M q b w tx hstr r a c x n hm q2 cap g hq hrq hr1 hq1 hc hn hb hw8 hnw htx) (va_cwSU 1 S.2.2.2.2 gJ4_append_15ec4_J5_append_cf1ce_s29 rfl rfl rfl (by decide +kernel) ⟨Nat.le_of_ble_eq_true rfl, Nat.le_of_ble_eq_true rfl⟩) hm rfl rfl rfl (Nat.le_of_ble_eq_true rfl) dJ4_append_15ec4_2 ⟨Nat.le_of_ble_eq_true rfl, Nat.le_of_ble_eq_true rfl⟩ (fun v_3 M_2 h_1 => ?_)
  obtain ⟨rfl, h⟩ := h_1
  refine g_pop (pc := 5) S dJ4_append_15ec4_5 rfl ?_
  refine g_aload_n (pc := 6) S 0 dJ4_append_15ec4_6 rfl rfl ?_
  exact g_aret (pc := 7) S hz hlo hr ⟨rfl, h⟩ (Nat.le_refl _) (Nat.le_refl _) dJ4_append_15ec4_7
set_option maxHeartbeats 4000000 in
set_option maxRecDepth 100000 in
theorem k_canEnc (Z : Zp) (l : Launch) (M : Wd) (ch : Nat) (hch : ch < 128) : Ct Z l yJ1_canEncode_fc78d wsJ1_canEncode_fc78d ({ frames := 0, cells := 0, slots := 0, locals := 0 }) [.int (nI ch)] M 0 0 (fun v M2 => M = M2 ∧ some (.int (nI 1)) = v) (fun _ _ => False) := by
  refine Ct.of (cc := cJ1_canEncode_fc78d) (maxL := 1) (ret := (some .boolean)) (by decide) rfl (Nat.le_of_ble_eq_true rfl) ?_
  intro p_ e_ s_ m_ args_ below_ meth_ c_ S hz hml hex hlo hr hin
  refine g_loc (L2 := [(0, .int (nI ch))]) rfl ?_
  refine g_iload_n (pc := 0) S 0 dJ1_canEncode_fc78d_0 rfl rfl ?_
  refine g_sipush (pc := 1) S (v := (nI 255)) dJ1_canEncode_fc78d_1 (by decide) ?_
  refine g_icmp_gtN (pc := 4) S 11 dJ1_canEncode_fc78d_4 (by decide) (by omega) (by decide) (fun h => absurd h (by omega)) (fun _ => ?_)
  refine g_iconst (pc := 7) S (v := (nI 1)) dJ1_canEncode_fc78d_7 (by decide) ?_
  refine g_goto (pc := 8) S 12 dJ1_canEncode_fc78d_8 (by decide) ?_
  exact g_zret (pc := 12) S hz hlo (nar_z (by omega)) hr ⟨rfl, rfl⟩ (Nat.le_of_ble_eq_true rfl) (Nat.le_of_ble_eq_true rfl) dJ1_canEncode_fc78d_12
set_option maxHeartbeats 4000000 in
set_option maxRecDepth 100000 in
theorem k_appC5 (Z : Zp) (l : Launch) (M : Wd) (ch : Nat) (hch : ch < 128) (r : Role) (a c x n : Nat) (hm : M r = some (a, .inr (1, [.ref c, .int (nI 0), .int (nI x), .int (nI n)]))) (q2 : Role) (cap : Nat) (g : Nat → Nat) (hq : M q2 = some (c, aN .byte cap g)) (hrq : r ≠ q2) (hr1 : r ≠ (51, 0)) (hq1 : q2 ≠ (51, 0)) (hc : cpO cap) (hn : n ≤ cap) (hb : ∀ j : Nat, j < cap → g j < 128) (hnw : n + 1 ≤ 60) : Ct Z l yJ5_append_3fe6f wsJ5_append_3fe6f ({ frames := 4, cells := 1, slots := 70, locals := 162 }) [.ref a, .int (nI ch)] M 1 70 (fun v M2 => some (.ref a) = v ∧ AppP M M2 r q2 a x n g 1 (fun _ => ch)) (fun _ _ => False) := by
  refine Ct.of (cc := cJ5_append_3fe6f) (maxL := 2) (ret := (some (.object "java/lang/AbstractStringBuilder"))) (by decide) rfl (Nat.le_of_ble_eq_true rfl) ?_
  intro p_ e_ s_ m_ args_ below_ meth_ c_ S hz hml hex hlo hr hin
  refine g_loc (L2 := [(0, .ref a), (1, .int (nI ch))]) rfl ?_
  have i_RJ4 : ∀ w ∈ u_ws RJ4 TJ4 4, w ∈ wsJ5_append_3fe6f := by decide +kernel
  have hw8 : 1 ≤ 8 := by decide
  have hcl := cpO_le hc
  have hcn := cpO_next hc hn hw8 hnw
  refine g_aload_n (pc := 0) S 0 dJ5_append_3fe6f_0 rfl rfl ?_
  refine g_aload_n (pc := 1) S 0 dJ5_append_3fe6f_1 rfl rfl ?_
  refine g_get (pc := 2) S hz (ref := "java/lang/AbstractStringBuilder") (v := .int (nI n)) hm i_RJ4 rfl 3 (Nat.le_of_ble_eq_true rfl) (by decide +kernel) (fun _ h => h) rfl dJ5_append_3fe6f_2 ?_
  refine g_iconst (pc := 5) S (v := (nI 1)) dJ5_append_3fe6f_5 (by decide) ?_
  refine g_iaddN (pc := 6) S dJ5_append_3fe6f_6 ?_
  refine g_callU (pc := 7) S hz hml [.int (nI (n + 1))] (k_ensure Z l M r q2 a c x n cap (n + 1) 1 70 g hm hq hrq hr1 hq1 (by omega) (by omega) hb (fun z => ⟨Nat.le_refl _, hcn.2 z⟩)) (va_cwU 1 S.2.2.2.2 gJ5_append_3fe6f_J5_ensureCapacityInternal_d00df_u100J4 rfl rfl rfl rfl (by decide +kernel) ⟨Nat.le_of_ble_eq_true rfl, Nat.le_of_ble_eq_true rfl⟩) hm rfl rfl rfl (Nat.le_of_ble_eq_true rfl) dJ5_append_3fe6f_7 ⟨Nat.le_of_ble_eq_true rfl, Nat.le_of_ble_eq_true rfl⟩ (fun v_3 M_2 h_1 => ?_)
  obtain ⟨rfl, c2, cap2, g2, f2, m2, q3, h1, h3, h4, h5⟩ := h_1
  have hc2 : cpO cap2 := by rw [← h3]; exact hcn.1
  have hcl2 := cpO_le hc2
  refine g_aload_n (pc := 10) S 0 dJ5_append_3fe6f_10 rfl rfl ?_
  refine g_callU (pc := 11) S hz hml [] (k_isLatin1 Z l M_2 r a c2 x n m2) (va_cwU 0 S.2.2.2.2 gJ5_append_3fe6f_J5_isLatin1_aae02_u83J4 rfl rfl rfl rfl (by decide +kernel) ⟨Nat.le_of_ble_eq_true rfl, Nat.le_of_ble_eq_true rfl⟩) m2 rfl rfl rfl (Nat.le_of_ble_eq_true rfl) dJ5_append_3fe6f_11 ⟨Nat.le_of_ble_eq_true rfl, Nat.le_of_ble_eq_true rfl⟩ (fun v_6 M_5 h_4 => ?_)
  obtain ⟨rfl, rfl⟩ := h_4
  refine g_if_eqN (pc := 14) S 45 dJ5_append_3fe6f_14 (by decide) (by decide) (fun h => absurd h (by decide)) (fun _ => ?_)
  refine g_iload_n (pc := 17) S 1 dJ5_append_3fe6f_17 rfl rfl ?_
  refine g_callS (pc := 18) S hz hml [.int (nI ch)] (k_canEnc Z l M_2 ch hch) (va_cwS 1 S.2.2.2.2 gJ5_append_3fe6f_J1_canEncode_fc78d rfl rfl rfl (by decide +kernel) ⟨Nat.le_of_ble_eq_true rfl, Nat.le_of_ble_eq_true rfl⟩) rfl rfl (Nat.le_of_ble_eq_true rfl) dJ5_append_3fe6f_18 ⟨Nat.le_of_ble_eq_true rfl, Nat.le_of_ble_eq_true rfl⟩ (fun _ _ h => h.elim) (fun v_9 M_8 h_7 => ?_)
  obtain ⟨rfl, rfl⟩ := h_7
  refine g_if_eqN (pc := 21) S 45 dJ5_append_3fe6f_21 (by decide) (by decide) (fun h => absurd h (by decide)) (fun _ => ?_)
  refine g_aload_n (pc := 24) S 0 dJ5_append_3fe6f_24 rfl rfl ?_
  refine g_get (pc := 25) S hz (ref := "java/lang/AbstractStringBuilder") (v := .ref c2) m2 i_RJ4 rfl 0 (Nat.le_of_ble_eq_true rfl) (by decide +kernel) (fun _ h => h) rfl dJ5_append_3fe6f_25 ?_
  refine g_aload_n (pc := 28) S 0 dJ5_append_3fe6f_28 rfl rfl ?_
  refine g_dup (pc := 29) S dJ5_append_3fe6f_29 rfl ?_
  refine g_get (pc := 30) S hz (ref := "java/lang/AbstractStringBuilder") (v := .int (nI n)) m2 i_RJ4 rfl 3 (Nat.le_of_ble_eq_true rfl) (by decide +kernel) (fun _ h => h) rfl dJ5_append_3fe6f_30 ?_
  refine g_dup_x1 (pc := 33) S dJ5_append_3fe6f_33 rfl rfl ?_
  refine g_iconst (pc := 34) S (v := (nI 1)) dJ5_append_3fe6f_34 (by decide) ?_
  refine g_iaddN (pc := 35) S dJ5_append_3fe6f_35 ?_
  refine g_put (pc := 36) S hz (ref := "java/lang/AbstractStringBuilder") (r := r) (v := .int (nI (n + 1))) (ty := .int) m2 i_RJ4 tyJ4 tyJ4_ok nmJ4 rfl 3 (Nat.le_of_ble_eq_true rfl) (by decide +kernel) (fun _ h => h) rfl (by decide +kernel) rfl rfl _ (Nat.le_of_ble_eq_true rfl) rfl dJ5_append_3fe6f_36 (fun M_10 f_11 m_12 => ?_)
  refine g_iload_n (pc := 39) S 1 dJ5_append_3fe6f_39 rfl rfl ?_
  refine g_i2b (pc := 40) S (v := nI ch) dJ5_append_3fe6f_40 (nI_by ch hch) ?_
  refine g_bast (pc := 41) S hz ((f_11 _ (Ne.symm hrq)).trans q3) (by omega) (by omega) hch dJ5_append_3fe6f_41 (fun M8 f8 m8 => ?_)
  refine g_goto (pc := 42) S 75 dJ5_append_3fe6f_42 (by decide) ?_
  refine g_aload_n (pc := 75) S 0 dJ5_append_3fe6f_75 rfl rfl ?_
  refine g_aret (pc := 76) S hz hlo hr ⟨rfl, c2, cap2, _, fun r2 z1 z2 z3 => by rw [f8 r2 z2, f_11 r2 z1, f2 r2 z1 z2 z3], (f8 r hrq).trans m_12, m8, h1, hc2, fun j hj => by rw [upN_n (by omega)]; exact h4 j (by omega), fun j hj => by rw [show n + j = n by omega, upN_s], fun j hj => ?_⟩ (Nat.le_refl _) (Nat.le_refl _) dJ5_append_3fe6f_76
  unfold upN
  split
  · exact hch
  · exact h5 j hj
set_option maxHeartbeats 4000000 in
set_option maxRecDepth 100000 in
theorem k_appC (Z : Zp) (l : Launch) (M : Wd) (ch : Nat) (hch : ch < 128) (r : Role) (a c x n : Nat) (hm : M r = some (a, .inr (1, [.ref c, .int (nI 0), .int (nI x), .int (nI n)]))) (q2 : Role) (cap : Nat) (g : Nat → Nat) (hq : M q2 = some (c, aN .byte cap g)) (hrq : r ≠ q2) (hr1 : r ≠ (51, 0)) (hq1 : q2 ≠ (51, 0)) (hc : cpO cap) (hn : n ≤ cap) (hb : ∀ j : Nat, j < cap → g j < 128) (hnw : n + 1 ≤ 60) : Ct Z l yJ4_append_cf468 wsJ4_append_cf468 ({ frames := 5, cells := 1, slots := 70, locals := 183 }) [.ref a, .int (nI ch)] M 1 70 (fun v M2 => some (.ref a) = v ∧ AppP M M2 r q2 a x n g 1 (fun _ => ch)) (fun _ _ => False) := by
  refine Ct.of (cc := cJ4_append_cf468) (maxL := 2) (ret := (some (.object "java/lang/StringBuilder"))) (by decide) rfl (Nat.le_of_ble_eq_true rfl) ?_
  intro p_ e_ s_ m_ args_ below_ meth_ c_ S hz hml hex hlo hr hin
  refine g_loc (L2 := [(0, .ref a), (1, .int (nI ch))]) rfl ?_
  refine g_aload_n (pc := 0) S 0 dJ4_append_cf468_0 rfl rfl ?_
  refine g_iload_n (pc := 1) S 1 dJ4_append_cf468_1 rfl rfl ?_
  refine g_callSU (pc := 2) S hz hml [.int (nI ch)] (k_appC5 Z l M ch hch r a c x n hm q2 cap g hq hrq hr1 hq1 hc hn hb hnw) (va_cwSU 1 S.2.2.2.2 gJ4_append_cf468_J5_append_3fe6f_s50 rfl rfl rfl (by decide +kernel) ⟨Nat.le_of_ble_eq_true rfl, Nat.le_of_ble_eq_true rfl⟩) hm rfl rfl rfl (Nat.le_of_ble_eq_true rfl) dJ4_append_cf468_2 ⟨Nat.le_of_ble_eq_true rfl, Nat.le_of_ble_eq_true rfl⟩ (fun v_3 M_2 h_1 => ?_)
  obtain ⟨rfl, h⟩ := h_1
  refine g_pop (pc := 5) S dJ4_append_cf468_5 rfl ?_
  refine g_aload_n (pc := 6) S 0 dJ4_append_cf468_6 rfl rfl ?_
  exact g_aret (pc := 7) S hz hlo hr ⟨rfl, h⟩ (Nat.le_refl _) (Nat.le_refl _) dJ4_append_cf468_7
theorem k_appI (Z : Zp) (l : Launch) (M : Wd) (v : Nat) (hv : v < 1000) (r : Role) (a c x n : Nat) (hm : M r = some (a, .inr (1, [.ref c, .int (nI 0), .int (nI x), .int (nI n)]))) (q2 : Role) (cap : Nat) (g : Nat → Nat) (hq : M q2 = some (c, aN .byte cap g)) (hrq : r ≠ q2) (hr1 : r ≠ (51, 0)) (hq1 : q2 ≠ (51, 0)) (hc : cpO cap) (hn : n ≤ cap) (hb : ∀ j : Nat, j < cap → g j < 128) (hnw : n + sb_dg v ≤ 60) : Ct Z l yJ4_append_bf812 wsJ4_append_bf812 ({ frames := 6, cells := 1, slots := 70, locals := 260 }) [.ref a, .int (nI v)] M 1 70 (fun u M2 => some (.ref a) = u ∧ AppP M M2 r q2 a x n g (sb_dg v) (sb_dec v)) (fun _ _ => False) := by
  have hcl := cpO_le hc
  have hd : sb_dg v ≤ 3 := by
    unfold sb_dg
    repeat' split
    all_goals omega
  have hcn := cpO_next hc hn (by omega) hnw
  refine (k_appI4 Z l M r q2 a c x n cap v 1 70 g hm hq hrq hr1 hq1 hv (by omega) (by omega) hb (fun z => ⟨Nat.le_refl _, hcn.2 z⟩) hn).imp (fun u M' h => ?_) (fun _ _ h => h)
  obtain ⟨h0, b2, cap2, g2, f2, m2, q3, h1, h3, h4, h5⟩ := h
  refine ⟨h0, b2, cap2, _, f2, m2, q3, h1, by rw [← h3]; exact hcn.1, fun j hj => ?_, fun j hj => ?_, fun j hj => ?_⟩
  · unfold digN
    rw [if_neg (by omega)]
    exact h4 j (by omega)
  · unfold digN
    rw [if_pos (by omega)]
    congr 1
    omega
  · unfold digN
    split
    · unfold sb_dec
      omega
    · exact h5 j hj
