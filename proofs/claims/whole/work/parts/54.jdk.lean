set_option maxHeartbeats 4000000 in
set_option maxRecDepth 100000 in
theorem k_newLength (Z : Zp) (l : Launch) (M : Wd) (o u w : Nat) (ho : o ≤ 2 ^ 28) (hu : u ≤ 2 ^ 28) (hw : w ≤ 2 ^ 28) (h1 : 1 ≤ u) : Ct Z l yJ8_newLength_cabcc wsJ8_newLength_cabcc ({ frames := 1, cells := 0, slots := 0, locals := 21 }) [.int (nI o), .int (nI u), .int (nI w)] M 0 0 (fun v M2 => M = M2 ∧ some (.int (nI (o + max u w))) = v) (fun _ _ => False) := by
  refine Ct.of (cc := cJ8_newLength_cabcc) (maxL := 4) (ret := (some .int)) (by decide) rfl (Nat.le_of_ble_eq_true rfl) ?_
  intro p_ e_ s_ m_ args_ below_ meth_ c_ S hz hml hex hlo hr hin
  refine g_loc (L2 := [(0, .int (nI o)), (1, .int (nI u)), (2, .int (nI w))]) rfl ?_
  refine g_iload_n (pc := 0) S 0 dJ8_newLength_cabcc_0 rfl rfl ?_
  refine g_iload_n (pc := 1) S 1 dJ8_newLength_cabcc_1 rfl rfl ?_
  refine g_iload_n (pc := 2) S 2 dJ8_newLength_cabcc_2 rfl rfl ?_
  refine g_max (pc := 3) S hml (by omega) (by omega) (by decide +kernel) (by decide +kernel) (by decide +kernel) (by decide +kernel) (Nat.le_of_ble_eq_true rfl) (Nat.le_of_ble_eq_true rfl) (Nat.le_of_ble_eq_true rfl) (Nat.le_of_ble_eq_true rfl) dJ8_newLength_cabcc_3 ?_
  refine g_iaddN (pc := 6) S dJ8_newLength_cabcc_6 ?_
  refine g_istore_n (pc := 7) S [(3, .int (nI (o + (max u w)))), (0, .int (nI o)), (1, .int (nI u)), (2, .int (nI w))] dJ8_newLength_cabcc_7 rfl (by decide) rfl ?_
  refine g_iconst (pc := 8) S (v := (nI 0)) dJ8_newLength_cabcc_8 (by decide) ?_
  refine g_iload_n (pc := 9) S 0 dJ8_newLength_cabcc_9 rfl rfl ?_
  refine g_icmp_geN (pc := 10) S 21 dJ8_newLength_cabcc_10 (by decide) (by omega) (by omega) (fun h => absurd h (by omega)) (fun _ => ?_)
  refine g_iload_n (pc := 13) S 0 dJ8_newLength_cabcc_13 rfl rfl ?_
  refine g_ldc (pc := 14) S (v := 2147483639) (by decide +kernel) dJ8_newLength_cabcc_14 ?_
  refine g_top (u := .int (nI 2147483639)) rfl ?_
  refine g_icmp_gtN (pc := 16) S 21 dJ8_newLength_cabcc_16 (by decide) (by omega) (by omega) (fun h => absurd h (by omega)) (fun _ => ?_)
  refine g_iload_n (pc := 19) S 0 dJ8_newLength_cabcc_19 rfl rfl ?_
  exact g_iret (pc := 20) S hz hlo hr ⟨rfl, rfl⟩ (Nat.le_of_ble_eq_true rfl) (Nat.le_of_ble_eq_true rfl) dJ8_newLength_cabcc_20
