set_option maxHeartbeats 4000000 in
set_option maxRecDepth 100000 in
theorem k_getChars (Z : Zp) (l : Launch) (M : Wd) (q : Role) (b cap : Nat) (g : Nat → Nat) (v ix : Nat) (hv : v < 1000) (hm : M q = some (b, aN .byte cap g)) (h1 : sb_dg v ≤ ix) (h2 : ix ≤ cap) (h3 : cap < 2 ^ 30) : Ct Z l yJ6_getChars_ba4f3 wsJ6_getChars_ba4f3 ({ frames := 0, cells := 0, slots := 0, locals := 0 }) [.int (nI v), .int (nI ix), .ref b] M 0 0 (fun r M2 => (∀ r2 : Role, r2 ≠ q → M2 r2 = M r2) ∧ M2 q = some (b, aN .byte cap (digN (ix - sb_dg v) v g)) ∧ ∃ x : Int32, some (.int x) = r) (fun _ _ => False) := by
  refine Ct.of (cc := cJ6_getChars_ba4f3) (maxL := 7) (ret := (some .int)) (by decide) rfl (Nat.le_of_ble_eq_true rfl) ?_
  intro p_ e_ s_ m_ args_ below_ meth_ c_ S hz hml hex hlo hr hin
  refine g_loc (L2 := [(0, .int (nI v)), (1, .int (nI ix)), (2, .ref b)]) rfl ?_
  obtain ⟨t1, hz1, hT1⟩ := hz.zd
  obtain ⟨t2, hz2, hT2⟩ := hz.ze
  have hdg := sb_dg_in v
  refine g_iload_n (pc := 0) S 1 dJ6_getChars_ba4f3_0 rfl rfl ?_
  refine g_istore (pc := 1) S [(5, .int (nI ix)), (0, .int (nI v)), (1, .int (nI ix)), (2, .ref b)] dJ6_getChars_ba4f3_1 (by decide) rfl ?_
  refine g_iload_n (pc := 3) S 1 dJ6_getChars_ba4f3_3 rfl rfl ?_
  refine g_if_geN (pc := 4) S 11 dJ6_getChars_ba4f3_4 (by decide) (by omega) (fun c_1 => ?_) (fun c_1 => absurd c_1 (by omega))
  refine g_iconst (pc := 11) S (v := (nI 0)) dJ6_getChars_ba4f3_11 (by decide) ?_
  refine g_istore (pc := 12) S [(6, .int (nI 0)), (5, .int (nI ix)), (0, .int (nI v)), (1, .int (nI ix)), (2, .ref b)] dJ6_getChars_ba4f3_12 (by decide) rfl ?_
  refine g_iload (pc := 14) S 0 dJ6_getChars_ba4f3_14 rfl ?_
  refine g_if_neN (pc := 16) S 22 dJ6_getChars_ba4f3_16 (by decide) (by decide) (fun h => absurd h (by decide)) (fun _ => ?_)
  refine g_iload_n (pc := 19) S 2 dJ6_getChars_ba4f3_19 rfl rfl ?_
  refine g_ineg (pc := 20) S dJ6_getChars_ba4f3_20 ?_
  refine g_top (u := .int (-nI (v))) rfl ?_
  refine g_istore_n (pc := 21) S [(0, .int (-nI (v))), (6, .int (nI 0)), (5, .int (nI ix)), (1, .int (nI ix)), (2, .ref b)] dJ6_getChars_ba4f3_21 rfl (by decide) rfl ?_
  refine g_iload_n (pc := 22) S 0 dJ6_getChars_ba4f3_22 rfl rfl ?_
  refine g_bipush (pc := 23) S (v := (-100)) dJ6_getChars_ba4f3_23 (by decide) ?_
  refine g_icmp_gt (pc := 25) S 72 dJ6_getChars_ba4f3_25 (by decide) (fun c_2 => ?_) (fun c_2 => ?_)
  · have c_2_ : v < 100 := (sb_nlt (by decide) (by omega)).mp (show -nI 100 < -nI (v) from c_2)
    refine g_aload_n (pc := 72) S 4 dJ6_getChars_ba4f3_72 rfl rfl ?_
    refine g_iinc (pc := 73) S 2 [(5, .int (nI (ix - 1))), (0, .int (-nI (v))), (6, .int (nI 0)), (1, .int (nI ix)), (2, .ref b)] dJ6_getChars_ba4f3_73 rfl (g_dec (by omega)) (by decide) rfl ?_
    refine g_iload (pc := 76) S 0 dJ6_getChars_ba4f3_76 rfl ?_
    refine g_getsR (pc := 78) S (ref := "java/lang/Integer") hz1 (by decide +kernel) (fun _ h => h) dJ6_getChars_ba4f3_78 ?_
    refine g_iload_n (pc := 81) S 1 dJ6_getChars_ba4f3_81 rfl rfl ?_
    refine g_ineg (pc := 82) S dJ6_getChars_ba4f3_82 ?_
    refine g_top (u := .int (nI v)) (congrArg Value.int Int32.neg_neg) ?_
    refine g_tb (pc := 83) S (v := .int (nI (48 + v % 10))) hT1 (by omega) (by decide) rfl dJ6_getChars_ba4f3_83 ?_
    refine g_bast (pc := 84) S hz hm (by omega) (by omega) (by omega) dJ6_getChars_ba4f3_84 (fun M1 f1 h1 => ?_)
    refine g_iload_n (pc := 85) S 1 dJ6_getChars_ba4f3_85 rfl rfl ?_
    refine g_bipush (pc := 86) S (v := (-9)) dJ6_getChars_ba4f3_86 (by decide) ?_
    refine g_icmp_ge (pc := 88) S 104 dJ6_getChars_ba4f3_88 (by decide) (fun c_3 => ?_) (fun c_3 => ?_)
    · have c_3_ : v ≤ 9 := (sb_nle (by decide) (by omega)).mp (show -nI 9 ≤ -nI (v) from c_3)
      have hd1 := dg_1 (v := v) (by omega)
      refine g_iload (pc := 104) S 2 dJ6_getChars_ba4f3_104 rfl ?_
      refine g_if_eqN (pc := 106) S 118 dJ6_getChars_ba4f3_106 (by decide) (by decide) (fun _ => ?_) (fun h => absurd h (by decide))
      refine g_iload (pc := 118) S 0 dJ6_getChars_ba4f3_118 rfl ?_
      exact g_iret (pc := 120) S hz hlo hr ⟨fun r2 hr2 => by rw [f1 r2 hr2], by rw [h1, dig1 (by omega) (by omega)], _, rfl⟩ (Nat.le_of_ble_eq_true rfl) (Nat.le_of_ble_eq_true rfl) dJ6_getChars_ba4f3_120
    · have c_3_ : ¬ v ≤ 9 := fun z => c_3 (show -nI 9 ≤ -nI (v) from (sb_nle (by decide) (by omega)).mpr z)
      have hd2 := dg_2 (v := v) (by omega) (by omega)
      refine g_aload_n (pc := 91) S 4 dJ6_getChars_ba4f3_91 rfl rfl ?_
      refine g_iinc (pc := 92) S 0 [(5, .int (nI ((ix - 1) - 1))), (0, .int (-nI (v))), (6, .int (nI 0)), (1, .int (nI ix)), (2, .ref b)] dJ6_getChars_ba4f3_92 rfl (g_dec (by omega)) (by decide) rfl ?_
      refine g_iload (pc := 95) S 0 dJ6_getChars_ba4f3_95 rfl ?_
      refine g_getsR (pc := 97) S (ref := "java/lang/Integer") hz2 (by decide +kernel) (fun _ h => h) dJ6_getChars_ba4f3_97 ?_
      refine g_iload_n (pc := 100) S 1 dJ6_getChars_ba4f3_100 rfl rfl ?_
      refine g_ineg (pc := 101) S dJ6_getChars_ba4f3_101 ?_
      refine g_top (u := .int (nI v)) (congrArg Value.int Int32.neg_neg) ?_
      refine g_tb (pc := 102) S (v := .int (nI (48 + v / 10))) hT2 (by omega) (by decide) rfl dJ6_getChars_ba4f3_102 ?_
      refine g_bast (pc := 103) S hz h1 (by omega) (by omega) (by omega) dJ6_getChars_ba4f3_103 (fun M2 f2 h2 => ?_)
      refine g_iload (pc := 104) S 2 dJ6_getChars_ba4f3_104 rfl ?_
      refine g_if_eqN (pc := 106) S 118 dJ6_getChars_ba4f3_106 (by decide) (by decide) (fun _ => ?_) (fun h => absurd h (by decide))
      refine g_iload (pc := 118) S 0 dJ6_getChars_ba4f3_118 rfl ?_
      exact g_iret (pc := 120) S hz hlo hr ⟨fun r2 hr2 => by rw [f2 r2 hr2, f1 r2 hr2], by rw [h2, dig2 (by omega) (by omega) (by omega)], _, rfl⟩ (Nat.le_of_ble_eq_true rfl) (Nat.le_of_ble_eq_true rfl) dJ6_getChars_ba4f3_120
  · have c_2_ : ¬ v < 100 := fun z => c_2 (show -nI 100 < -nI (v) from (sb_nlt (by decide) (by omega)).mpr z)
    have hd3 := dg_3 (v := v) (by omega) hv
    refine g_iload_n (pc := 28) S 0 dJ6_getChars_ba4f3_28 rfl rfl ?_
    refine g_bipush (pc := 29) S (v := (nI 100)) dJ6_getChars_ba4f3_29 (by decide) ?_
    refine g_idiv (pc := 31) S dJ6_getChars_ba4f3_31 (by decide) ?_
    refine g_top (u := .int (-nI (v / 100))) (congrArg Value.int (sb_ndiv (w := v) (by omega))) ?_
    refine g_istore_n (pc := 32) S [(3, .int (-nI (v / 100))), (0, .int (-nI (v))), (6, .int (nI 0)), (5, .int (nI ix)), (1, .int (nI ix)), (2, .ref b)] dJ6_getChars_ba4f3_32 rfl (by decide) rfl ?_
    refine g_iload_n (pc := 33) S 0 dJ6_getChars_ba4f3_33 rfl rfl ?_
    refine g_bipush (pc := 34) S (v := (nI 100)) dJ6_getChars_ba4f3_34 (by decide) ?_
    refine g_imul (pc := 36) S dJ6_getChars_ba4f3_36 ?_
    refine g_iload_n (pc := 37) S 1 dJ6_getChars_ba4f3_37 rfl rfl ?_
    refine g_isub (pc := 38) S dJ6_getChars_ba4f3_38 ?_
    refine g_top (u := .int (nI (v % 100))) (congrArg Value.int (sb_nrem (w := v) (by omega))) ?_
    refine g_istore (pc := 39) S [(4, .int (nI (v % 100))), (3, .int (-nI (v / 100))), (0, .int (-nI (v))), (6, .int (nI 0)), (5, .int (nI ix)), (1, .int (nI ix)), (2, .ref b)] dJ6_getChars_ba4f3_39 (by decide) rfl ?_
    refine g_iload_n (pc := 41) S 1 dJ6_getChars_ba4f3_41 rfl rfl ?_
    refine g_istore_n (pc := 42) S [(0, .int (-nI (v / 100))), (4, .int (nI (v % 100))), (3, .int (-nI (v / 100))), (6, .int (nI 0)), (5, .int (nI ix)), (1, .int (nI ix)), (2, .ref b)] dJ6_getChars_ba4f3_42 rfl (by decide) rfl ?_
    refine g_aload_n (pc := 43) S 6 dJ6_getChars_ba4f3_43 rfl rfl ?_
    refine g_iinc (pc := 44) S 4 [(5, .int (nI (ix - 1))), (0, .int (-nI (v / 100))), (4, .int (nI (v % 100))), (3, .int (-nI (v / 100))), (6, .int (nI 0)), (1, .int (nI ix)), (2, .ref b)] dJ6_getChars_ba4f3_44 rfl (g_dec (by omega)) (by decide) rfl ?_
    refine g_iload (pc := 47) S 0 dJ6_getChars_ba4f3_47 rfl ?_
    refine g_getsR (pc := 49) S (ref := "java/lang/Integer") hz1 (by decide +kernel) (fun _ h => h) dJ6_getChars_ba4f3_49 ?_
    refine g_iload (pc := 52) S 2 dJ6_getChars_ba4f3_52 rfl ?_
    refine g_tb (pc := 54) S (v := .int (nI (48 + (v % 100) % 10))) hT1 (by omega) (by decide) rfl dJ6_getChars_ba4f3_54 ?_
    refine g_bast (pc := 55) S hz hm (by omega) (by omega) (by omega) dJ6_getChars_ba4f3_55 (fun M3 f3 h3 => ?_)
    refine g_aload_n (pc := 56) S 6 dJ6_getChars_ba4f3_56 rfl rfl ?_
    refine g_iinc (pc := 57) S 0 [(5, .int (nI ((ix - 1) - 1))), (0, .int (-nI (v / 100))), (4, .int (nI (v % 100))), (3, .int (-nI (v / 100))), (6, .int (nI 0)), (1, .int (nI ix)), (2, .ref b)] dJ6_getChars_ba4f3_57 rfl (g_dec (by omega)) (by decide) rfl ?_
    refine g_iload (pc := 60) S 0 dJ6_getChars_ba4f3_60 rfl ?_
    refine g_getsR (pc := 62) S (ref := "java/lang/Integer") hz2 (by decide +kernel) (fun _ h => h) dJ6_getChars_ba4f3_62 ?_
    refine g_iload (pc := 65) S 2 dJ6_getChars_ba4f3_65 rfl ?_
    refine g_tb (pc := 67) S (v := .int (nI (48 + (v % 100) / 10))) hT2 (by omega) (by decide) rfl dJ6_getChars_ba4f3_67 ?_
    refine g_bast (pc := 68) S hz h3 (by omega) (by omega) (by omega) dJ6_getChars_ba4f3_68 (fun M4 f4 h4 => ?_)
    refine g_goto (pc := 69) S 22 dJ6_getChars_ba4f3_69 (by decide) ?_
    refine g_iload_n (pc := 22) S 1 dJ6_getChars_ba4f3_22 rfl rfl ?_
    refine g_bipush (pc := 23) S (v := (-100)) dJ6_getChars_ba4f3_23 (by decide) ?_
    refine g_icmp_gt (pc := 25) S 72 dJ6_getChars_ba4f3_25 (by decide) (fun c_4 => ?_) (fun c_4 => ?_)
    · have c_4_ : v / 100 < 100 := (sb_nlt (by decide) (by omega)).mp (show -nI 100 < -nI (v / 100) from c_4)
      refine g_aload_n (pc := 72) S 6 dJ6_getChars_ba4f3_72 rfl rfl ?_
      refine g_iinc (pc := 73) S 0 [(5, .int (nI (((ix - 1) - 1) - 1))), (0, .int (-nI (v / 100))), (4, .int (nI (v % 100))), (3, .int (-nI (v / 100))), (6, .int (nI 0)), (1, .int (nI ix)), (2, .ref b)] dJ6_getChars_ba4f3_73 rfl (g_dec (by omega)) (by decide) rfl ?_
      refine g_iload (pc := 76) S 0 dJ6_getChars_ba4f3_76 rfl ?_
      refine g_getsR (pc := 78) S (ref := "java/lang/Integer") hz1 (by decide +kernel) (fun _ h => h) dJ6_getChars_ba4f3_78 ?_
      refine g_iload_n (pc := 81) S 1 dJ6_getChars_ba4f3_81 rfl rfl ?_
      refine g_ineg (pc := 82) S dJ6_getChars_ba4f3_82 ?_
      refine g_top (u := .int (nI (v / 100))) (congrArg Value.int Int32.neg_neg) ?_
      refine g_tb (pc := 83) S (v := .int (nI (48 + (v / 100) % 10))) hT1 (by omega) (by decide) rfl dJ6_getChars_ba4f3_83 ?_
      refine g_bast (pc := 84) S hz h4 (by omega) (by omega) (by omega) dJ6_getChars_ba4f3_84 (fun M5 f5 h5 => ?_)
      refine g_iload_n (pc := 85) S 1 dJ6_getChars_ba4f3_85 rfl rfl ?_
      refine g_bipush (pc := 86) S (v := (-9)) dJ6_getChars_ba4f3_86 (by decide) ?_
      refine g_icmp_ge (pc := 88) S 104 dJ6_getChars_ba4f3_88 (by decide) (fun c_5 => ?_) (fun c_5 => ?_)
      · have c_5_ : v / 100 ≤ 9 := (sb_nle (by decide) (by omega)).mp (show -nI 9 ≤ -nI (v / 100) from c_5)
        refine g_iload (pc := 104) S 4 dJ6_getChars_ba4f3_104 rfl ?_
        refine g_if_eqN (pc := 106) S 118 dJ6_getChars_ba4f3_106 (by decide) (by decide) (fun _ => ?_) (fun h => absurd h (by decide))
        refine g_iload (pc := 118) S 0 dJ6_getChars_ba4f3_118 rfl ?_
        exact g_iret (pc := 120) S hz hlo hr ⟨fun r2 hr2 => by rw [f5 r2 hr2, f4 r2 hr2, f3 r2 hr2], by rw [h5, dig3 (by omega) hv (by omega)], _, rfl⟩ (Nat.le_of_ble_eq_true rfl) (Nat.le_of_ble_eq_true rfl) dJ6_getChars_ba4f3_120
      · have c_5_ : ¬ v / 100 ≤ 9 := fun z => c_5 (show -nI 9 ≤ -nI (v / 100) from (sb_nle (by decide) (by omega)).mpr z)
        exact absurd hv (by omega)
    · have c_4_ : ¬ v / 100 < 100 := fun z => c_4 (show -nI 100 < -nI (v / 100) from (sb_nlt (by decide) (by omega)).mpr z)
      exact absurd hv (by omega)
