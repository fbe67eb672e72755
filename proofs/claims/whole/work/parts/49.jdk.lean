set_option maxHeartbeats 4000000 in
set_option maxRecDepth 100000 in
theorem k_stringSize (Z : Zp) (l : Launch) (M : Wd) (v : Nat) (hv : v < 1000) : Ct Z l yJ6_stringSize_0f7a4 wsJ6_stringSize_0f7a4 ({ frames := 0, cells := 0, slots := 0, locals := 0 }) [.int (nI v)] M 0 0 (fun r M2 => M = M2 ∧ some (.int (nI (sb_dg v))) = r) (fun _ _ => False) := by
  refine Ct.of (cc := cJ6_stringSize_0f7a4) (maxL := 4) (ret := (some .int)) (by decide) rfl (Nat.le_of_ble_eq_true rfl) ?_
  intro p_ e_ s_ m_ args_ below_ meth_ c_ S hz hml hex hlo hr hin
  refine g_loc (L2 := [(0, .int (nI v))]) rfl ?_
  refine g_iconst (pc := 0) S (v := (nI 1)) dJ6_stringSize_0f7a4_0 (by decide) ?_
  refine g_istore_n (pc := 1) S [(1, .int (nI 1)), (0, .int (nI v))] dJ6_stringSize_0f7a4_1 rfl (by decide) rfl ?_
  refine g_iload_n (pc := 2) S 1 dJ6_stringSize_0f7a4_2 rfl rfl ?_
  refine g_if_ltN (pc := 3) S 11 dJ6_stringSize_0f7a4_3 (by decide) (by omega) (fun c_1 => absurd c_1 (by omega)) (fun c_1 => ?_)
  refine g_iconst (pc := 6) S (v := (nI 0)) dJ6_stringSize_0f7a4_6 (by decide) ?_
  refine g_istore_n (pc := 7) S [(1, .int (nI 0)), (0, .int (nI v))] dJ6_stringSize_0f7a4_7 rfl (by decide) rfl ?_
  refine g_iload_n (pc := 8) S 1 dJ6_stringSize_0f7a4_8 rfl rfl ?_
  refine g_ineg (pc := 9) S dJ6_stringSize_0f7a4_9 ?_
  refine g_istore_n (pc := 10) S [(0, .int (-(nI v))), (1, .int (nI 0))] dJ6_stringSize_0f7a4_10 rfl (by decide) rfl ?_
  refine g_bipush (pc := 11) S (v := (-10)) dJ6_stringSize_0f7a4_11 (by decide) ?_
  refine g_istore_n (pc := 13) S [(2, .int (-10)), (0, .int (-(nI v))), (1, .int (nI 0))] dJ6_stringSize_0f7a4_13 rfl (by decide) rfl ?_
  refine g_iconst (pc := 14) S (v := (nI 1)) dJ6_stringSize_0f7a4_14 (by decide) ?_
  refine g_istore_n (pc := 15) S [(3, .int (nI 1)), (2, .int (-10)), (0, .int (-(nI v))), (1, .int (nI 0))] dJ6_stringSize_0f7a4_15 rfl (by decide) rfl ?_
  refine g_iload_n (pc := 16) S 0 dJ6_stringSize_0f7a4_16 rfl rfl ?_
  refine g_bipush (pc := 17) S (v := (nI 10)) dJ6_stringSize_0f7a4_17 (by decide) ?_
  refine g_icmp_geN (pc := 19) S 42 dJ6_stringSize_0f7a4_19 (by decide) (by decide) (by decide) (fun h => absurd h (by decide)) (fun _ => ?_)
  refine g_iload_n (pc := 22) S 2 dJ6_stringSize_0f7a4_22 rfl rfl ?_
  refine g_iload_n (pc := 23) S 1 dJ6_stringSize_0f7a4_23 rfl rfl ?_
  refine g_icmp_le (pc := 24) S 31 dJ6_stringSize_0f7a4_24 (by decide) (fun c_2 => ?_) (fun c_2 => ?_)
  · have c_2_ : 10 ≤ v := (sb_nle (by omega) (by decide)).mp (show -nI v ≤ -nI 10 from c_2)
    refine g_bipush (pc := 31) S (v := (nI 10)) dJ6_stringSize_0f7a4_31 (by decide) ?_
    refine g_iload_n (pc := 33) S 1 dJ6_stringSize_0f7a4_33 rfl rfl ?_
    refine g_imul (pc := 34) S dJ6_stringSize_0f7a4_34 ?_
    refine g_top (u := .int (-100)) (by decide) ?_
    refine g_istore_n (pc := 35) S [(2, .int (-100)), (3, .int (nI 1)), (0, .int (-(nI v))), (1, .int (nI 0))] dJ6_stringSize_0f7a4_35 rfl (by decide) rfl ?_
    refine g_iinc (pc := 36) S 1 [(3, .int (nI 2)), (2, .int (-100)), (0, .int (-(nI v))), (1, .int (nI 0))] dJ6_stringSize_0f7a4_36 rfl (by decide) (by decide) rfl ?_
    refine g_goto (pc := 39) S 16 dJ6_stringSize_0f7a4_39 (by decide) ?_
    refine g_iload_n (pc := 16) S 0 dJ6_stringSize_0f7a4_16 rfl rfl ?_
    refine g_bipush (pc := 17) S (v := (nI 10)) dJ6_stringSize_0f7a4_17 (by decide) ?_
    refine g_icmp_geN (pc := 19) S 42 dJ6_stringSize_0f7a4_19 (by decide) (by decide) (by decide) (fun h => absurd h (by decide)) (fun _ => ?_)
    refine g_iload_n (pc := 22) S 2 dJ6_stringSize_0f7a4_22 rfl rfl ?_
    refine g_iload_n (pc := 23) S 1 dJ6_stringSize_0f7a4_23 rfl rfl ?_
    refine g_icmp_le (pc := 24) S 31 dJ6_stringSize_0f7a4_24 (by decide) (fun c_3 => ?_) (fun c_3 => ?_)
    · have c_3_ : 100 ≤ v := (sb_nle (by omega) (by decide)).mp (show -nI v ≤ -nI 100 from c_3)
      refine g_bipush (pc := 31) S (v := (nI 10)) dJ6_stringSize_0f7a4_31 (by decide) ?_
      refine g_iload_n (pc := 33) S 1 dJ6_stringSize_0f7a4_33 rfl rfl ?_
      refine g_imul (pc := 34) S dJ6_stringSize_0f7a4_34 ?_
      refine g_top (u := .int (-1000)) (by decide) ?_
      refine g_istore_n (pc := 35) S [(2, .int (-1000)), (3, .int (nI 2)), (0, .int (-(nI v))), (1, .int (nI 0))] dJ6_stringSize_0f7a4_35 rfl (by decide) rfl ?_
      refine g_iinc (pc := 36) S 1 [(3, .int (nI 3)), (2, .int (-1000)), (0, .int (-(nI v))), (1, .int (nI 0))] dJ6_stringSize_0f7a4_36 rfl (by decide) (by decide) rfl ?_
      refine g_goto (pc := 39) S 16 dJ6_stringSize_0f7a4_39 (by decide) ?_
      refine g_iload_n (pc := 16) S 0 dJ6_stringSize_0f7a4_16 rfl rfl ?_
      refine g_bipush (pc := 17) S (v := (nI 10)) dJ6_stringSize_0f7a4_17 (by decide) ?_
      refine g_icmp_geN (pc := 19) S 42 dJ6_stringSize_0f7a4_19 (by decide) (by decide) (by decide) (fun h => absurd h (by decide)) (fun _ => ?_)
      refine g_iload_n (pc := 22) S 2 dJ6_stringSize_0f7a4_22 rfl rfl ?_
      refine g_iload_n (pc := 23) S 1 dJ6_stringSize_0f7a4_23 rfl rfl ?_
      refine g_icmp_le (pc := 24) S 31 dJ6_stringSize_0f7a4_24 (by decide) (fun c_4 => ?_) (fun c_4 => ?_)
      · have c_4_ : 1000 ≤ v := (sb_nle (by omega) (by decide)).mp (show -nI v ≤ -nI 1000 from c_4)
        exact absurd hv (by omega)
      · have c_4_ : ¬ 1000 ≤ v := fun z => c_4 ((sb_nle (by omega) (by decide)).mpr z)
        refine g_iload_n (pc := 27) S 0 dJ6_stringSize_0f7a4_27 rfl rfl ?_
        refine g_iload_n (pc := 28) S 3 dJ6_stringSize_0f7a4_28 rfl rfl ?_
        refine g_iadd (pc := 29) S dJ6_stringSize_0f7a4_29 ?_
        refine g_top (u := .int (nI 3)) (by decide) ?_
        exact g_iret (pc := 30) S hz hlo hr ⟨rfl, by rw [show sb_dg v = 3 by unfold sb_dg; rw [if_neg (show ¬ v < 10 by omega), if_neg (show ¬ v < 100 by omega), if_pos (show v < 1000 by omega)]]⟩ (Nat.le_of_ble_eq_true rfl) (Nat.le_of_ble_eq_true rfl) dJ6_stringSize_0f7a4_30
    · have c_3_ : ¬ 100 ≤ v := fun z => c_3 ((sb_nle (by omega) (by decide)).mpr z)
      refine g_iload_n (pc := 27) S 0 dJ6_stringSize_0f7a4_27 rfl rfl ?_
      refine g_iload_n (pc := 28) S 3 dJ6_stringSize_0f7a4_28 rfl rfl ?_
      refine g_iadd (pc := 29) S dJ6_stringSize_0f7a4_29 ?_
      refine g_top (u := .int (nI 2)) (by decide) ?_
      exact g_iret (pc := 30) S hz hlo hr ⟨rfl, by rw [show sb_dg v = 2 by unfold sb_dg; rw [if_neg (show ¬ v < 10 by omega), if_pos (show v < 100 by omega)]]⟩ (Nat.le_of_ble_eq_true rfl) (Nat.le_of_ble_eq_true rfl) dJ6_stringSize_0f7a4_30
  · have c_2_ : ¬ 10 ≤ v := fun z => c_2 ((sb_nle (by omega) (by decide)).mpr z)
    refine g_iload_n (pc := 27) S 0 dJ6_stringSize_0f7a4_27 rfl rfl ?_
    refine g_iload_n (pc := 28) S 3 dJ6_stringSize_0f7a4_28 rfl rfl ?_
    refine g_iadd (pc := 29) S dJ6_stringSize_0f7a4_29 ?_
    refine g_top (u := .int (nI 1)) (by decide) ?_
    exact g_iret (pc := 30) S hz hlo hr ⟨rfl, by rw [show sb_dg v = 1 by unfold sb_dg; rw [if_pos (show v < 10 by omega)]]⟩ (Nat.le_of_ble_eq_true rfl) (Nat.le_of_ble_eq_true rfl) dJ6_stringSize_0f7a4_30
