set_option maxHeartbeats 4000000 in
set_option maxRecDepth 100000 in
theorem k_newCapacity (Z : Zp) (l : Launch) (M : Wd) (r : Role) (a b x n : Nat) (hm : M r = some (a, .inr (1, [.ref b, .int (nI 0), .int (nI x), .int (nI n)]))) (q : Role) (cap w : Nat) (g : Nat → Nat) (hq : M q = some (b, aN .byte cap g)) (hc : cap < w) (hw : w ≤ 65536) : Ct Z l yJ5_newCapacity_0f7a4 wsJ5_newCapacity_0f7a4 ({ frames := 2, cells := 0, slots := 0, locals := 44 }) [.ref a, .int (nI w)] M 0 0 (fun v M2 => M = M2 ∧ some (.int (nI (cap + max (w - cap) (cap + 2)))) = v) (fun _ _ => False) := by
  refine Ct.of (cc := cJ5_newCapacity_0f7a4) (maxL := 6) (ret := (some .int)) (by decide) rfl (Nat.le_of_ble_eq_true rfl) ?_
  intro p_ e_ s_ m_ args_ below_ meth_ c_ S hz hml hex hlo hr hin
  refine g_loc (L2 := [(0, .ref a), (1, .int (nI w))]) rfl ?_
  have i_RJ4 : ∀ w ∈ u_ws RJ4 TJ4 4, w ∈ wsJ5_newCapacity_0f7a4 := by decide +kernel
  refine g_aload_n (pc := 0) S 0 dJ5_newCapacity_0f7a4_0 rfl rfl ?_
  refine g_get (pc := 1) S hz (ref := "java/lang/AbstractStringBuilder") (v := .ref b) hm i_RJ4 rfl 0 (Nat.le_of_ble_eq_true rfl) (by decide +kernel) (fun _ h => h) rfl dJ5_newCapacity_0f7a4_1 ?_
  refine g_alen (pc := 4) S hz hq dJ5_newCapacity_0f7a4_4 ?_
  refine g_istore_n (pc := 5) S [(2, .int (nI cap)), (0, .ref a), (1, .int (nI w))] dJ5_newCapacity_0f7a4_5 rfl (by decide) rfl ?_
  refine g_iload_n (pc := 6) S 2 dJ5_newCapacity_0f7a4_6 rfl rfl ?_
  refine g_aload_n (pc := 7) S 1 dJ5_newCapacity_0f7a4_7 rfl rfl ?_
  refine g_get (pc := 8) S hz (ref := "java/lang/AbstractStringBuilder") (v := .int (nI 0)) hm i_RJ4 rfl 1 (Nat.le_of_ble_eq_true rfl) (by decide +kernel) (fun _ h => h) rfl dJ5_newCapacity_0f7a4_8 ?_
  refine g_ishl (pc := 11) S dJ5_newCapacity_0f7a4_11 ?_
  refine g_top (u := .int (nI w)) (congrArg Value.int (sb_shl0 _)) ?_
  refine g_istore_n (pc := 12) S [(3, .int (nI w)), (2, .int (nI cap)), (0, .ref a), (1, .int (nI w))] dJ5_newCapacity_0f7a4_12 rfl (by decide) rfl ?_
  refine g_iload_n (pc := 13) S 0 dJ5_newCapacity_0f7a4_13 rfl rfl ?_
  refine g_iload_n (pc := 14) S 1 dJ5_newCapacity_0f7a4_14 rfl rfl ?_
  refine g_isubN (pc := 15) S dJ5_newCapacity_0f7a4_15 (by omega) ?_
  refine g_istore (pc := 16) S [(4, .int (nI (w - cap))), (3, .int (nI w)), (2, .int (nI cap)), (0, .ref a), (1, .int (nI w))] dJ5_newCapacity_0f7a4_16 (by decide) rfl ?_
  refine g_iload_n (pc := 18) S 2 dJ5_newCapacity_0f7a4_18 rfl rfl ?_
  refine g_iload (pc := 19) S 0 dJ5_newCapacity_0f7a4_19 rfl ?_
  refine g_iload_n (pc := 21) S 2 dJ5_newCapacity_0f7a4_21 rfl rfl ?_
  refine g_iconst (pc := 22) S (v := (nI 2)) dJ5_newCapacity_0f7a4_22 (by decide) ?_
  refine g_aload_n (pc := 23) S 3 dJ5_newCapacity_0f7a4_23 rfl rfl ?_
  refine g_get (pc := 24) S hz (ref := "java/lang/AbstractStringBuilder") (v := .int (nI 0)) hm i_RJ4 rfl 1 (Nat.le_of_ble_eq_true rfl) (by decide +kernel) (fun _ h => h) rfl dJ5_newCapacity_0f7a4_24 ?_
  refine g_ishl (pc := 27) S dJ5_newCapacity_0f7a4_27 ?_
  refine g_top (u := .int (nI 2)) (congrArg Value.int (sb_shl0 _)) ?_
  refine g_iaddN (pc := 28) S dJ5_newCapacity_0f7a4_28 ?_
  refine g_callS (pc := 29) S hz hml [.int (nI cap), .int (nI (w - cap)), .int (nI (cap + 2))] (k_newLength Z l M cap (w - cap) (cap + 2) (by omega) (by omega) (by omega) (by omega)) (va_cwS 3 S.2.2.2.2 gJ5_newCapacity_0f7a4_J8_newLength_cabcc rfl rfl rfl (by decide +kernel) ⟨Nat.le_of_ble_eq_true rfl, Nat.le_of_ble_eq_true rfl⟩) rfl rfl (Nat.le_of_ble_eq_true rfl) dJ5_newCapacity_0f7a4_29 ⟨Nat.le_of_ble_eq_true rfl, Nat.le_of_ble_eq_true rfl⟩ (fun _ _ h => h.elim) (fun v M2 h => ?_)
  obtain ⟨rfl, rfl⟩ := h
  refine g_istore (pc := 32) S [(5, .int (nI (cap + max (w - cap) (cap + 2)))), (4, .int (nI (w - cap))), (3, .int (nI w)), (2, .int (nI cap)), (0, .ref a), (1, .int (nI w))] dJ5_newCapacity_0f7a4_32 (by decide) rfl ?_
  refine g_iload (pc := 34) S 0 dJ5_newCapacity_0f7a4_34 rfl ?_
  refine g_ldc (pc := 36) S (v := 2147483647) (by decide +kernel) dJ5_newCapacity_0f7a4_36 ?_
  refine g_top (u := .int (nI 2147483647)) rfl ?_
  refine g_icmp_neN (pc := 38) S 51 dJ5_newCapacity_0f7a4_38 (by decide) (by omega) (by omega) (fun _ => ?_) (fun h => absurd h (by omega))
  refine g_iload (pc := 51) S 0 dJ5_newCapacity_0f7a4_51 rfl ?_
  refine g_aload_n (pc := 53) S 4 dJ5_newCapacity_0f7a4_53 rfl rfl ?_
  refine g_get (pc := 54) S hz (ref := "java/lang/AbstractStringBuilder") (v := .int (nI 0)) hm i_RJ4 rfl 1 (Nat.le_of_ble_eq_true rfl) (by decide +kernel) (fun _ h => h) rfl dJ5_newCapacity_0f7a4_54 ?_
  refine g_ishr (pc := 57) S dJ5_newCapacity_0f7a4_57 ?_
  refine g_top (u := .int (nI (cap + max (w - cap) (cap + 2)))) (congrArg Value.int (sb_shr0 _)) ?_
  exact g_iret (pc := 58) S hz hlo hr ⟨rfl, rfl⟩ (Nat.le_of_ble_eq_true rfl) (Nat.le_of_ble_eq_true rfl) dJ5_newCapacity_0f7a4_58
