set_option maxHeartbeats 4000000 in
/-- AbstractStringBuilder.append(int), below 1000 -/
theorem k_appI5 (Z : Zp) (l : Launch) (M : Wd) (r q : Role) (a b x n cap v mc ms : Nat) (g : Nat → Nat) (hm : M r = some (a, .inr (1, [.ref b, .int (nI 0), .int (nI x), .int (nI n)]))) (hq : M q = some (b, aN .byte cap g)) (hrq : r ≠ q) (hr1 : r ≠ (51, 0)) (hq1 : q ≠ (51, 0)) (hv : v < 1000) (hc : cap ≤ 20000) (hn : n ≤ 10000) (hb : ∀ j : Nat, j < cap → g j < 128) (hmc : cap < n + sb_dg v → 1 ≤ mc ∧ cap + max (n + sb_dg v - cap) (cap + 2) ≤ ms) (hnc : n ≤ cap) : Ct Z l yJ5_append_c97b9 wsJ5_append_c97b9 ({ frames := 5, cells := mc, slots := ms, locals := 220 }) [.ref a, .int (nI v)] M mc ms (fun w M2 => some (.ref a) = w ∧ ∃ (b2 cap2 : Nat) (g2 : Nat → Nat), (∀ r2 : Role, r2 ≠ r → r2 ≠ q → r2 ≠ (51, 0) → M2 r2 = M r2) ∧ M2 r = some (a, .inr (1, [.ref b2, .int (nI 0), .int (nI x), .int (nI (n + sb_dg v))])) ∧ M2 q = some (b2, aN .byte cap2 (digN n v g2)) ∧ n + sb_dg v ≤ cap2 ∧ (if n + sb_dg v ≤ cap then cap else cap + max (n + sb_dg v - cap) (cap + 2)) = cap2 ∧ (∀ j : Nat, j < cap → g2 j = g j) ∧ ∀ j : Nat, j < cap2 → g2 j < 128) (fun _ _ => False) := by
  refine Ct.of (cc := cJ5_append_c97b9) (maxL := 4) (ret := some (.object "java/lang/AbstractStringBuilder")) (by decide) rfl (Nat.le_of_ble_eq_true rfl) ?_
  intro p_ e_ s_ m_ args_ below_ meth_ c_ S hz hml hex hlo hr2 hin
  refine g_loc (L2 := [(0, .ref a), (1, .int (nI v))]) rfl ?_
  have i_RJ4 : ∀ w ∈ u_ws RJ4 TJ4 4, w ∈ wsJ5_append_c97b9 := by decide +kernel
  have hdg := sb_dg_in v
  refine g_aload_n (pc := 0) S 0 dJ5_append_c97b9_0 rfl rfl ?_
  refine g_get (pc := 1) S hz (ref := "java/lang/AbstractStringBuilder") (v := .int (nI n)) hm i_RJ4 rfl 3 (Nat.le_of_ble_eq_true rfl) (by decide +kernel) (fun _ h => h) rfl dJ5_append_c97b9_1 ?_
  refine g_istore_n (pc := 4) S [(2, .int (nI n)), (0, .ref a), (1, .int (nI v))] dJ5_append_c97b9_4 rfl (by decide) rfl ?_
  refine g_iload_n (pc := 5) S 0 dJ5_append_c97b9_5 rfl rfl ?_
  refine g_iload_n (pc := 6) S 2 dJ5_append_c97b9_6 rfl rfl ?_
  refine g_callS (pc := 7) S hz hml [.int (nI v)] (k_stringSize Z l M v hv) (va_cwS 1 S.2.2.2.2 gJ5_append_c97b9_J6_stringSize_0f7a4 rfl rfl rfl (by decide +kernel) ⟨Nat.le_of_ble_eq_true rfl, Nat.le_of_ble_eq_true rfl⟩) rfl rfl (Nat.le_of_ble_eq_true rfl) dJ5_append_c97b9_7 ⟨Nat.zero_le _, Nat.zero_le _⟩ (fun _ _ h => h.elim) (fun w M1 h => ?_)
  obtain ⟨rfl, rfl⟩ := h
  refine g_iaddN (pc := 10) S dJ5_append_c97b9_10 ?_
  refine g_istore_n (pc := 11) S [(3, .int (nI (n + sb_dg v))), (2, .int (nI n)), (0, .ref a), (1, .int (nI v))] dJ5_append_c97b9_11 rfl (by decide) rfl ?_
  refine g_aload_n (pc := 12) S 2 dJ5_append_c97b9_12 rfl rfl ?_
  refine g_iload_n (pc := 13) S 0 dJ5_append_c97b9_13 rfl rfl ?_
  refine g_callU (pc := 14) S hz hml [.int (nI (n + sb_dg v))] (k_ensure Z l M r q a b x n cap (n + sb_dg v) mc ms g hm hq hrq hr1 hq1 hc (by omega) hb hmc) (va_cwU 1 S.2.2.2.2 gJ5_append_c97b9_J5_ensureCapacityInternal_d00df_u100J4 rfl rfl rfl rfl (by decide +kernel) ⟨Nat.le_of_ble_eq_true rfl, Nat.le_of_ble_eq_true rfl⟩) hm rfl rfl rfl (Nat.le_of_ble_eq_true rfl) dJ5_append_c97b9_14 ⟨Nat.le_of_eq (Nat.zero_add _), Nat.le_of_eq (Nat.zero_add _)⟩ (fun w M2 h => ?_)
  obtain ⟨rfl, b2, cap2, g2, f2, m2, q2, h1, h3, h4, h5⟩ := h
  refine g_aload_n (pc := 17) S 2 dJ5_append_c97b9_17 rfl rfl ?_
  refine g_callU (pc := 18) S hz hml [] (k_isLatin1 Z l M2 r a b2 x n m2) (va_cwU 0 S.2.2.2.2 gJ5_append_c97b9_J5_isLatin1_aae02_u83J4 rfl rfl rfl rfl (by decide +kernel) ⟨Nat.le_of_ble_eq_true rfl, Nat.le_of_ble_eq_true rfl⟩) m2 rfl rfl rfl (Nat.le_of_ble_eq_true rfl) dJ5_append_c97b9_18 ⟨Nat.le_of_eq (Nat.zero_add _), Nat.le_of_eq (Nat.zero_add _)⟩ (fun w M3 h => ?_)
  obtain ⟨rfl, rfl⟩ := h
  refine g_if_eqN (pc := 21) S 37 dJ5_append_c97b9_21 (by decide) (by decide) (fun h => absurd h (by decide)) (fun _ => ?_)
  refine g_iload_n (pc := 24) S 3 dJ5_append_c97b9_24 rfl rfl ?_
  refine g_iload_n (pc := 25) S 0 dJ5_append_c97b9_25 rfl rfl ?_
  refine g_aload_n (pc := 26) S 2 dJ5_append_c97b9_26 rfl rfl ?_
  refine g_get (pc := 27) S hz (ref := "java/lang/AbstractStringBuilder") (v := .ref b2) m2 i_RJ4 rfl 0 (Nat.le_of_ble_eq_true rfl) (by decide +kernel) (fun _ h => h) rfl dJ5_append_c97b9_27 ?_
  have hcap2 : cap2 < 2 ^ 30 := by rw [← h3]; split <;> omega
  refine g_callS (pc := 30) S hz hml [.int (nI v), .int (nI (n + sb_dg v)), .ref b2] (k_getChars Z l M2 q b2 cap2 g2 v (n + sb_dg v) hv q2 (by omega) h1 hcap2) (va_cwS 3 S.2.2.2.2 gJ5_append_c97b9_J6_getChars_ba4f3 rfl rfl rfl (by decide +kernel) ⟨Nat.le_of_ble_eq_true rfl, Nat.le_of_ble_eq_true rfl⟩) rfl rfl (Nat.le_of_ble_eq_true rfl) dJ5_append_c97b9_30 ⟨Nat.le_of_eq (Nat.zero_add _), Nat.le_of_eq (Nat.zero_add _)⟩ (fun _ _ h => h.elim) (fun w M3 h => ?_)
  obtain ⟨f3, q3, y, rfl⟩ := h
  rw [Nat.add_sub_cancel] at q3
  refine g_pop (pc := 33) S dJ5_append_c97b9_33 rfl ?_
  refine g_goto (pc := 34) S 48 dJ5_append_c97b9_34 (by decide) ?_
  refine g_aload_n (pc := 48) S 2 dJ5_append_c97b9_48 rfl rfl ?_
  refine g_iload_n (pc := 49) S 0 dJ5_append_c97b9_49 rfl rfl ?_
  refine g_put (pc := 50) S hz (r := r) (v := .int (nI (n + sb_dg v))) (ty := .int) ((f3 r hrq).trans m2) i_RJ4 tyJ4 tyJ4_ok nmJ4 rfl 3 (Nat.le_of_ble_eq_true rfl) (by decide +kernel) (fun _ h => h) rfl (by decide +kernel) rfl rfl _ (Nat.le_of_ble_eq_true rfl) rfl dJ5_append_c97b9_50 (fun M4 f4 m4 => ?_)
  refine g_aload_n (pc := 53) S 2 dJ5_append_c97b9_53 rfl rfl ?_
  exact g_aret (pc := 54) S hz hlo hr2 ⟨rfl, b2, cap2, g2, fun r2 z1 z2 z3 => by rw [f4 r2 z1, f3 r2 z2, f2 r2 z1 z2 z3], m4, (f4 q (Ne.symm hrq)).trans q3, h1, h3, h4, h5⟩ (Nat.le_of_eq (Nat.zero_add _)) (Nat.le_of_eq (Nat.zero_add _)) dJ5_append_c97b9_54
