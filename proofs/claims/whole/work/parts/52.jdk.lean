set_option maxHeartbeats 4000000 in
set_option maxRecDepth 100000 in
theorem k_isLatin1 (Z : Zp) (l : Launch) (M : Wd) (r : Role) (a b x n : Nat) (hm : M r = some (a, .inr (1, [.ref b, .int (nI 0), .int (nI x), .int (nI n)]))) : Ct Z l yJ5_isLatin1_aae02 wsJ5_isLatin1_aae02 ({ frames := 0, cells := 0, slots := 0, locals := 0 }) [.ref a] M 0 0 (fun v M2 => M = M2 ∧ some (.int (nI 1)) = v) (fun _ _ => False) := by
  refine Ct.of (cc := cJ5_isLatin1_aae02) (maxL := 1) (ret := (some .boolean)) (by decide) rfl (Nat.le_of_ble_eq_true rfl) ?_
  intro p_ e_ s_ m_ args_ below_ meth_ c_ S hz hml hex hlo hr hin
  refine g_loc (L2 := [(0, .ref a)]) rfl ?_
  have i_RJ4 : ∀ w ∈ u_ws RJ4 TJ4 4, w ∈ wsJ5_isLatin1_aae02 := by decide +kernel
  refine g_getsI (pc := 0) S (ref := "java/lang/String") (hz.zv (C := "java/lang/String") (n := "COMPACT_STRINGS") (d := "Z") (x := 1) (by decide +kernel) (by decide +kernel) (by decide +kernel)) (by decide +kernel) (fun _ h => h) dJ5_isLatin1_aae02_0 ?_
  refine g_top (u := .int (nI 1)) rfl ?_
  refine g_if_eqN (pc := 3) S 17 dJ5_isLatin1_aae02_3 (by decide) (by decide) (fun h => absurd h (by decide)) (fun _ => ?_)
  refine g_aload_n (pc := 6) S 0 dJ5_isLatin1_aae02_6 rfl rfl ?_
  refine g_get (pc := 7) S hz (ref := "java/lang/AbstractStringBuilder") (v := .int (nI 0)) hm i_RJ4 rfl 1 (Nat.le_of_ble_eq_true rfl) (by decide +kernel) (fun _ h => h) rfl dJ5_isLatin1_aae02_7 ?_
  refine g_if_neN (pc := 10) S 17 dJ5_isLatin1_aae02_10 (by decide) (by decide) (fun h => absurd h (by decide)) (fun _ => ?_)
  refine g_iconst (pc := 13) S (v := (nI 1)) dJ5_isLatin1_aae02_13 (by decide) ?_
  refine g_goto (pc := 14) S 18 dJ5_isLatin1_aae02_14 (by decide) ?_
  exact g_zret (pc := 18) S hz hlo (nar_z (by omega)) hr ⟨rfl, rfl⟩ (Nat.le_of_ble_eq_true rfl) (Nat.le_of_ble_eq_true rfl) dJ5_isLatin1_aae02_18
set_option maxHeartbeats 4000000 in
set_option maxRecDepth 100000 in
theorem k_sbLen5 (Z : Zp) (l : Launch) (M : Wd) (r : Role) (a b x n : Nat) (hm : M r = some (a, .inr (1, [.ref b, .int (nI 0), .int (nI x), .int (nI n)]))) : Ct Z l yJ5_length_8abf5 wsJ5_length_8abf5 ({ frames := 0, cells := 0, slots := 0, locals := 0 }) [.ref a] M 0 0 (fun v M2 => M = M2 ∧ some (.int (nI n)) = v) (fun _ _ => False) := by
  refine Ct.of (cc := cJ5_length_8abf5) (maxL := 1) (ret := (some .int)) (by decide) rfl (Nat.le_of_ble_eq_true rfl) ?_
  intro p_ e_ s_ m_ args_ below_ meth_ c_ S hz hml hex hlo hr hin
  refine g_loc (L2 := [(0, .ref a)]) rfl ?_
  have i_RJ4 : ∀ w ∈ u_ws RJ4 TJ4 4, w ∈ wsJ5_length_8abf5 := by decide +kernel
  refine g_aload_n (pc := 0) S 0 dJ5_length_8abf5_0 rfl rfl ?_
  refine g_get (pc := 1) S hz (ref := "java/lang/AbstractStringBuilder") (v := .int (nI n)) hm i_RJ4 rfl 3 (Nat.le_of_ble_eq_true rfl) (by decide +kernel) (fun _ h => h) rfl dJ5_length_8abf5_1 ?_
  exact g_iret (pc := 4) S hz hlo hr ⟨rfl, rfl⟩ (Nat.le_of_ble_eq_true rfl) (Nat.le_of_ble_eq_true rfl) dJ5_length_8abf5_4
