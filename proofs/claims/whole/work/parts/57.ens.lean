theorem sb_subLe {w cap : Nat} (h : w ≤ cap) (hc : cap < 2 ^ 30) : nI w - nI cap ≤ 0 := by
  have e : nI w - nI cap = -nI (cap - w) := by
    rw [← pk_sub h, Int32.neg_sub]
  rw [e, show (0 : Int32) = -nI 0 by decide]
  exact (sb_nle (by omega) (by omega)).mpr (Nat.zero_le _)
set_option maxHeartbeats 4000000 in
/-- room for w bytes -/
theorem k_ensure (Z : Zp) (l : Launch) (M : Wd) (r q : Role) (a b x n cap w mc ms : Nat) (g : Nat → Nat) (hm : M r = some (a, .inr (1, [.ref b, .int (nI 0), .int (nI x), .int (nI n)]))) (hq : M q = some (b, aN .byte cap g)) (hrq : r ≠ q) (hr1 : r ≠ (51, 0)) (hq1 : q ≠ (51, 0)) (hc : cap ≤ 20000) (hw : w ≤ 20000) (hb : ∀ j : Nat, j < cap → g j < 128) (hmc : cap < w → 1 ≤ mc ∧ cap + max (w - cap) (cap + 2) ≤ ms) : Ct Z l yJ5_ensureCapacityInternal_d00df wsJ5_ensureCapacityInternal_d00df ({ frames := 3, cells := mc, slots := ms, locals := 140 }) [.ref a, .int (nI w)] M mc ms (fun v M2 => none = v ∧ ∃ (b2 cap2 : Nat) (g2 : Nat → Nat), (∀ r2 : Role, r2 ≠ r → r2 ≠ q → r2 ≠ (51, 0) → M2 r2 = M r2) ∧ M2 r = some (a, .inr (1, [.ref b2, .int (nI 0), .int (nI x), .int (nI n)])) ∧ M2 q = some (b2, aN .byte cap2 g2) ∧ w ≤ cap2 ∧ (if w ≤ cap then cap else cap + max (w - cap) (cap + 2)) = cap2 ∧ (∀ j : Nat, j < cap → g2 j = g j) ∧ ∀ j : Nat, j < cap2 → g2 j < 128) (fun _ _ => False) := by
  refine Ct.of (cc := cJ5_ensureCapacityInternal_d00df) (maxL := 3) (ret := none) (by decide) rfl (Nat.le_of_ble_eq_true rfl) ?_
  intro p_ e_ s_ m_ args_ below_ meth_ c_ S hz hml hex hlo hr2 hin
  refine g_loc (L2 := [(0, .ref a), (1, .int (nI w))]) rfl ?_
  have i_RJ4 : ∀ w ∈ u_ws RJ4 TJ4 4, w ∈ wsJ5_ensureCapacityInternal_d00df := by decide +kernel
  refine g_aload_n (pc := 0) S 0 dJ5_ensureCapacityInternal_d00df_0 rfl rfl ?_
  refine g_get (pc := 1) S hz (ref := "java/lang/AbstractStringBuilder") (v := .ref b) hm i_RJ4 rfl 0 (Nat.le_of_ble_eq_true rfl) (by decide +kernel) (fun _ h => h) rfl dJ5_ensureCapacityInternal_d00df_1 ?_
  refine g_alen (pc := 4) S hz hq dJ5_ensureCapacityInternal_d00df_4 ?_
  refine g_aload_n (pc := 5) S 0 dJ5_ensureCapacityInternal_d00df_5 rfl rfl ?_
  refine g_get (pc := 6) S hz (ref := "java/lang/AbstractStringBuilder") (v := .int (nI 0)) hm i_RJ4 rfl 1 (Nat.le_of_ble_eq_true rfl) (by decide +kernel) (fun _ h => h) rfl dJ5_ensureCapacityInternal_d00df_6 ?_
  refine g_ishr (pc := 9) S dJ5_ensureCapacityInternal_d00df_9 ?_
  refine g_top (u := .int (nI cap)) (congrArg Value.int (sb_shr0 _)) ?_
  refine g_istore_n (pc := 10) S [(2, .int (nI cap)), (0, .ref a), (1, .int (nI w))] dJ5_ensureCapacityInternal_d00df_10 rfl (by decide) rfl ?_
  refine g_iload_n (pc := 11) S 2 dJ5_ensureCapacityInternal_d00df_11 rfl rfl ?_
  refine g_iload_n (pc := 12) S 0 dJ5_ensureCapacityInternal_d00df_12 rfl rfl ?_
  rcases Nat.lt_or_ge cap w with hlt | hge
  · obtain ⟨hmc1, hmc2⟩ := hmc hlt
    refine g_isubN (pc := 13) S dJ5_ensureCapacityInternal_d00df_13 (by omega) ?_
    refine g_if_leN (pc := 14) S 38 dJ5_ensureCapacityInternal_d00df_14 (by decide) (by omega) (fun h => absurd h (by omega)) (fun _ => ?_)
    refine g_aload_n (pc := 17) S 1 dJ5_ensureCapacityInternal_d00df_17 rfl rfl ?_
    refine g_aload_n (pc := 18) S 1 dJ5_ensureCapacityInternal_d00df_18 rfl rfl ?_
    refine g_get (pc := 19) S hz (ref := "java/lang/AbstractStringBuilder") (v := .ref b) hm i_RJ4 rfl 0 (Nat.le_of_ble_eq_true rfl) (by decide +kernel) (fun _ h => h) rfl dJ5_ensureCapacityInternal_d00df_19 ?_
    refine g_aload_n (pc := 22) S 1 dJ5_ensureCapacityInternal_d00df_22 rfl rfl ?_
    refine g_iload_n (pc := 23) S 2 dJ5_ensureCapacityInternal_d00df_23 rfl rfl ?_
    refine g_callU (pc := 24) S hz hml [.int (nI w)] (k_newCapacity Z l M r a b x n hm q cap w g hq hlt (by omega)) (va_cwU 1 S.2.2.2.2 gJ5_ensureCapacityInternal_d00df_J5_newCapacity_0f7a4_u104J4 rfl rfl rfl rfl (by decide +kernel) ⟨Nat.le_of_ble_eq_true rfl, Nat.le_of_ble_eq_true rfl⟩) hm rfl rfl rfl (Nat.le_of_ble_eq_true rfl) dJ5_ensureCapacityInternal_d00df_24 ⟨Nat.zero_le _, Nat.zero_le _⟩ (fun v M1 h => ?_)
    obtain ⟨rfl, rfl⟩ := h
    refine g_aload_n (pc := 27) S 1 dJ5_ensureCapacityInternal_d00df_27 rfl rfl ?_
    refine g_get (pc := 28) S hz (ref := "java/lang/AbstractStringBuilder") (v := .int (nI 0)) hm i_RJ4 rfl 1 (Nat.le_of_ble_eq_true rfl) (by decide +kernel) (fun _ h => h) rfl dJ5_ensureCapacityInternal_d00df_28 ?_
    refine g_ishl (pc := 31) S dJ5_ensureCapacityInternal_d00df_31 ?_
    refine g_top (u := .int (nI (cap + max (w - cap) (cap + 2)))) (congrArg Value.int (sb_shl0 _)) ?_
    refine g_callS (pc := 32) S hz hml [.ref b, .int (nI (cap + max (w - cap) (cap + 2)))] (k_copyOfB Z l M q b cap (cap + max (w - cap) (cap + 2)) g hq hq1 (by omega) (by omega) hb) (va_cwS 2 S.2.2.2.2 gJ5_ensureCapacityInternal_d00df_J7_copyOf_9075b rfl rfl rfl (by decide +kernel) ⟨Nat.le_of_ble_eq_true rfl, Nat.le_of_ble_eq_true rfl⟩) rfl rfl (Nat.le_of_ble_eq_true rfl) dJ5_ensureCapacityInternal_d00df_32 ⟨by show 0 + 0 + 1 ≤ mc; omega, by show 0 + 0 + _ ≤ ms; omega⟩ (fun _ _ h => h.elim) (fun v M2 h => ?_)
    obtain ⟨b2, rfl, f2, h2⟩ := h
    refine g_put (pc := 35) S hz (r := r) (v := .ref b2) (ty := .array .byte) ((f2 r hr1).trans hm) i_RJ4 tyJ4 tyJ4_ok nmJ4 rfl 0 (Nat.le_of_ble_eq_true rfl) (by decide +kernel) (fun _ h => h) rfl (by decide +kernel) rfl rfl _ (Nat.le_of_ble_eq_true rfl) rfl dJ5_ensureCapacityInternal_d00df_35 (fun M3 f3 h3 => ?_)
    refine g_world (M2 := wmv M3 (51, 0) q) (fun H h => h.mv) ?_
    have e51 : M3 (51, 0) = some (b2, aN .byte (cap + max (w - cap) (cap + 2)) (cpN g (fun _ => 0) 0 0 cap)) := (f3 _ (Ne.symm hr1)).trans h2
    refine g_vret (pc := 38) S hz hlo hr2 ⟨rfl, b2, cap + max (w - cap) (cap + 2), cpN g (fun _ => 0) 0 0 cap, fun r2 z1 z2 z3 => ?_, ?_, ?_, by omega, by rw [if_neg (by omega)], fun j hj => ?_, fun j hj => ?_⟩ (by show 0 + 0 + 1 ≤ mc; omega) (by show 0 + 0 + _ ≤ ms; omega) dJ5_ensureCapacityInternal_d00df_38
    · show (if r2 = q then _ else if r2 = (51, 0) then _ else _) = _
      rw [if_neg z2, if_neg z3, f3 r2 z1, f2 r2 z3]
    · show (if r = q then _ else if r = (51, 0) then _ else _) = _
      rw [if_neg hrq, if_neg hr1, h3]
      rfl
    · show (if q = q then _ else _) = _
      rw [if_pos rfl, e51]
    · unfold cpN
      rw [if_pos (by omega), Nat.zero_add, Nat.sub_zero]
    · unfold cpN
      split
      · rw [Nat.zero_add, Nat.sub_zero]; exact hb j (by omega)
      · exact Nat.zero_lt_succ 127
  · refine g_isub (pc := 13) S dJ5_ensureCapacityInternal_d00df_13 ?_
    refine g_if_le (pc := 14) S 38 dJ5_ensureCapacityInternal_d00df_14 (by decide) (fun _ => ?_) (fun h => absurd (sb_subLe hge (by omega)) h)
    exact g_vret (pc := 38) S hz hlo hr2 ⟨rfl, b, cap, g, fun _ _ _ _ => rfl, hm, hq, hge, by rw [if_pos hge], fun _ _ => rfl, hb⟩ (Nat.zero_le _) (Nat.zero_le _) dJ5_ensureCapacityInternal_d00df_38
