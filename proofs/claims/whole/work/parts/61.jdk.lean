set_option maxHeartbeats 4000000 in
set_option maxRecDepth 100000 in
theorem k_coderS (Z : Zp) (l : Launch) (M : Wd) (q b w : Nat) (tx : Nat → Nat) (hstr : ∀ U : State, Stat Z U → zS Z q b w tx U) : Ct Z l yJ0_coder_7d493 wsJ0_coder_7d493 ({ frames := 0, cells := 0, slots := 0, locals := 0 }) [.ref q] M 0 0 (fun v M2 => M = M2 ∧ some (.int (nI 0)) = v) (fun _ _ => False) := by
  refine Ct.of (cc := cJ0_coder_7d493) (maxL := 1) (ret := (some .byte)) (by decide) rfl (Nat.le_of_ble_eq_true rfl) ?_
  intro p_ e_ s_ m_ args_ below_ meth_ c_ S hz hml hex hlo hr hin
  refine g_loc (L2 := [(0, .ref q)]) rfl ?_
  have hs := hstr s_ hz
  refine g_getsI (pc := 0) S (ref := "java/lang/String") (hz.zv (C := "java/lang/String") (n := "COMPACT_STRINGS") (d := "Z") (x := 1) (by decide +kernel) (by decide +kernel) (by decide +kernel)) (by decide +kernel) (fun _ h => h) dJ0_coder_7d493_0 ?_
  refine g_top (u := .int (nI 1)) rfl ?_
  refine g_if_eqN (pc := 3) S 13 dJ0_coder_7d493_3 (by decide) (by decide) (fun h => absurd h (by decide)) (fun _ => ?_)
  refine g_aload_n (pc := 6) S 0 dJ0_coder_7d493_6 rfl rfl ?_
  refine g_sget (pc := 7) S hs.2.1 (by decide +kernel) (fun _ h => h) dJ0_coder_7d493_7 ?_
  refine g_top (u := .int (nI 0)) rfl ?_
  refine g_goto (pc := 10) S 14 dJ0_coder_7d493_10 (by decide) ?_
  exact g_zret (pc := 14) S hz hlo (ty := .byte) (nar_b0 (by decide)) hr ⟨rfl, rfl⟩ (Nat.le_of_ble_eq_true rfl) (Nat.le_of_ble_eq_true rfl) dJ0_coder_7d493_14
set_option maxHeartbeats 4000000 in
set_option maxRecDepth 100000 in
theorem k_strLenS (Z : Zp) (l : Launch) (M : Wd) (q b w : Nat) (tx : Nat → Nat) (hstr : ∀ U : State, Stat Z U → zS Z q b w tx U) : Ct Z l yJ0_length_8abf5 wsJ0_length_8abf5 ({ frames := 1, cells := 0, slots := 0, locals := 20 }) [.ref q] M 0 0 (fun v M2 => M = M2 ∧ some (.int (nI w)) = v) (fun _ _ => False) := by
  refine Ct.of (cc := cJ0_length_8abf5) (maxL := 1) (ret := (some .int)) (by decide) rfl (Nat.le_of_ble_eq_true rfl) ?_
  intro p_ e_ s_ m_ args_ below_ meth_ c_ S hz hml hex hlo hr hin
  refine g_loc (L2 := [(0, .ref q)]) rfl ?_
  have hs := hstr s_ hz
  refine g_aload_n (pc := 0) S 0 dJ0_length_8abf5_0 rfl rfl ?_
  refine g_sget (pc := 1) S hs.2.2.1 (by decide +kernel) (fun _ h => h) dJ0_length_8abf5_1 ?_
  refine g_tlen (pc := 4) S hs.2.2.2 dJ0_length_8abf5_4 ?_
  refine g_aload_n (pc := 5) S 0 dJ0_length_8abf5_5 rfl rfl ?_
  refine g_callVS (pc := 6) S hz hml [] (k_coderS Z l M q b w tx hstr) (cwV 0 S.2.2.2.2 gJ0_length_8abf5_J0_coder_7d493 rfl rfl rfl (by decide +kernel) ⟨Nat.le_of_ble_eq_true rfl, Nat.le_of_ble_eq_true rfl⟩) hs.1 rfl rfl (Nat.le_of_ble_eq_true rfl) dJ0_length_8abf5_6 ⟨Nat.le_of_ble_eq_true rfl, Nat.le_of_ble_eq_true rfl⟩ (fun v_3 M_2 h_1 => ?_)
  obtain ⟨rfl, rfl⟩ := h_1
  refine g_ishr (pc := 9) S dJ0_length_8abf5_9 ?_
  refine g_top (u := .int (nI w)) (congrArg Value.int (sb_shr0 _)) ?_
  exact g_iret (pc := 10) S hz hlo hr ⟨rfl, rfl⟩ (Nat.le_of_ble_eq_true rfl) (Nat.le_of_ble_eq_true rfl) dJ0_length_8abf5_10
set_option maxHeartbeats 4000000 in
set_option maxRecDepth 100000 in
theorem k_inflS (Z : Zp) (l : Launch) (M : Wd) (q b w : Nat) (tx : Nat → Nat) (hstr : ∀ U : State, Stat Z U → zS Z q b w tx U) (r : Role) (a c x n : Nat) (hm : M r = some (a, .inr (1, [.ref c, .int (nI 0), .int (nI x), .int (nI n)]))) : Ct Z l yJ5_inflateIfNeededFor_a7421 wsJ5_inflateIfNeededFor_a7421 ({ frames := 1, cells := 0, slots := 0, locals := 20 }) [.ref a, .ref q] M 0 0 (fun v M2 => M = M2 ∧ none = v) (fun _ _ => False) := by
  refine Ct.of (cc := cJ5_inflateIfNeededFor_a7421) (maxL := 2) (ret := none) (by decide) rfl (Nat.le_of_ble_eq_true rfl) ?_
  intro p_ e_ s_ m_ args_ below_ meth_ c_ S hz hml hex hlo hr hin
  refine g_loc (L2 := [(0, .ref a), (1, .ref q)]) rfl ?_
  have i_RJ4 : ∀ w ∈ u_ws RJ4 TJ4 4, w ∈ wsJ5_inflateIfNeededFor_a7421 := by decide +kernel
  have hs := hstr s_ hz
  refine g_getsI (pc := 0) S (ref := "java/lang/String") (hz.zv (C := "java/lang/String") (n := "COMPACT_STRINGS") (d := "Z") (x := 1) (by decide +kernel) (by decide +kernel) (by decide +kernel)) (by decide +kernel) (fun _ h => h) dJ5_inflateIfNeededFor_a7421_0 ?_
  refine g_top (u := .int (nI 1)) rfl ?_
  refine g_if_eqN (pc := 3) S 21 dJ5_inflateIfNeededFor_a7421_3 (by decide) (by decide) (fun h => absurd h (by decide)) (fun _ => ?_)
  refine g_aload_n (pc := 6) S 0 dJ5_inflateIfNeededFor_a7421_6 rfl rfl ?_
  refine g_get (pc := 7) S hz (ref := "java/lang/AbstractStringBuilder") (v := .int (nI 0)) hm i_RJ4 rfl 1 (Nat.le_of_ble_eq_true rfl) (by decide +kernel) (fun _ h => h) rfl dJ5_inflateIfNeededFor_a7421_7 ?_
  refine g_aload_n (pc := 10) S 1 dJ5_inflateIfNeededFor_a7421_10 rfl rfl ?_
  refine g_callVS (pc := 11) S hz hml [] (k_coderS Z l M q b w tx hstr) (cwV 0 S.2.2.2.2 gJ5_inflateIfNeededFor_a7421_J0_coder_7d493 rfl rfl rfl (by decide +kernel) ⟨Nat.le_of_ble_eq_true rfl, Nat.le_of_ble_eq_true rfl⟩) hs.1 rfl rfl (Nat.le_of_ble_eq_true rfl) dJ5_inflateIfNeededFor_a7421_11 ⟨Nat.le_of_ble_eq_true rfl, Nat.le_of_ble_eq_true rfl⟩ (fun v_3 M_2 h_1 => ?_)
  obtain ⟨rfl, rfl⟩ := h_1
  refine g_icmp_eqN (pc := 14) S 21 dJ5_inflateIfNeededFor_a7421_14 (by decide) (by decide) (by decide) (fun _ => ?_) (fun h => absurd h (by decide))
  exact g_vret (pc := 21) S hz hlo hr ⟨rfl, rfl⟩ (Nat.le_of_ble_eq_true rfl) (Nat.le_of_ble_eq_true rfl) dJ5_inflateIfNeededFor_a7421_21
set_option maxHeartbeats 4000000 in
set_option maxRecDepth 100000 in
theorem k_getBytesS (Z : Zp) (l : Launch) (M : Wd) (q b w : Nat) (tx : Nat → Nat) (hstr : ∀ U : State, Stat Z U → zS Z q b w tx U) (q2 : Role) (c n cap : Nat) (g : Nat → Nat) (hq : M q2 = some (c, aN .byte cap g)) (hnw : n + w ≤ cap) (hcap : cap < 2 ^ 30) (hb : ∀ j : Nat, j < w → tx j < 128) : Ct Z l yJ0_getBytes_840e7 wsJ0_getBytes_840e7 ({ frames := 1, cells := 0, slots := 0, locals := 64 }) [.ref q, .ref c, .int (nI n), .int (nI 0)] M 0 0 (fun v M2 => none = v ∧ (∀ r2 : Role, r2 ≠ q2 → M2 r2 = M r2) ∧ M2 q2 = some (c, aN .byte cap (cpN tx g 0 n w))) (fun _ _ => False) := by
  refine Ct.of (cc := cJ0_getBytes_840e7) (maxL := 4) (ret := none) (by decide) rfl (Nat.le_of_ble_eq_true rfl) ?_
  intro p_ e_ s_ m_ args_ below_ meth_ c_ S hz hml hex hlo hr hin
  refine g_loc (L2 := [(0, .ref q), (1, .ref c), (2, .int (nI n)), (3, .int (nI 0))]) rfl ?_
  have hs := hstr s_ hz
  refine g_aload_n (pc := 0) S 0 dJ0_getBytes_840e7_0 rfl rfl ?_
  refine g_callVS (pc := 1) S hz hml [] (k_coderS Z l M q b w tx hstr) (cwV 0 S.2.2.2.2 gJ0_getBytes_840e7_J0_coder_7d493 rfl rfl rfl (by decide +kernel) ⟨Nat.le_of_ble_eq_true rfl, Nat.le_of_ble_eq_true rfl⟩) hs.1 rfl rfl (Nat.le_of_ble_eq_true rfl) dJ0_getBytes_840e7_1 ⟨Nat.le_of_ble_eq_true rfl, Nat.le_of_ble_eq_true rfl⟩ (fun v_3 M_2 h_1 => ?_)
  obtain ⟨rfl, rfl⟩ := h_1
  refine g_iload_n (pc := 4) S 3 dJ0_getBytes_840e7_4 rfl rfl ?_
  refine g_icmp_neN (pc := 5) S 28 dJ0_getBytes_840e7_5 (by decide) (by decide) (by decide) (fun h => absurd h (by decide)) (fun _ => ?_)
  refine g_aload_n (pc := 8) S 0 dJ0_getBytes_840e7_8 rfl rfl ?_
  refine g_sget (pc := 9) S hs.2.2.1 (by decide +kernel) (fun _ h => h) dJ0_getBytes_840e7_9 ?_
  refine g_iconst (pc := 12) S (v := (nI 0)) dJ0_getBytes_840e7_12 (by decide) ?_
  refine g_aload_n (pc := 13) S 1 dJ0_getBytes_840e7_13 rfl rfl ?_
  refine g_iload_n (pc := 14) S 2 dJ0_getBytes_840e7_14 rfl rfl ?_
  refine g_iload_n (pc := 15) S 3 dJ0_getBytes_840e7_15 rfl rfl ?_
  refine g_ishl (pc := 16) S dJ0_getBytes_840e7_16 ?_
  refine g_top (u := .int (nI n)) (congrArg Value.int (sb_shl0 _)) ?_
  refine g_aload_n (pc := 17) S 0 dJ0_getBytes_840e7_17 rfl rfl ?_
  refine g_sget (pc := 18) S hs.2.2.1 (by decide +kernel) (fun _ h => h) dJ0_getBytes_840e7_18 ?_
  refine g_tlen (pc := 21) S hs.2.2.2 dJ0_getBytes_840e7_21 ?_
  refine g_copyS (pc := 22) S hs.2.2.2 hq (by omega) (by omega) (by omega) (by omega) (fun i hi => by rw [Nat.zero_add]; exact fit_b (hb i hi)) (by decide +kernel) (by decide +kernel) (by decide +kernel) (by decide +kernel) hml (Nat.le_of_ble_eq_true rfl) (Nat.le_of_ble_eq_true rfl) dJ0_getBytes_840e7_22 (fun M2 f2 m2 => ?_)
  refine g_goto (pc := 25) S 43 dJ0_getBytes_840e7_25 (by decide) ?_
  exact g_vret (pc := 43) S hz hlo hr ⟨rfl, f2, m2⟩ (Nat.le_of_ble_eq_true rfl) (Nat.le_of_ble_eq_true rfl) dJ0_getBytes_840e7_43
set_option maxHeartbeats 4000000 in
set_option maxRecDepth 100000 in
theorem k_putStr (Z : Zp) (l : Launch) (M : Wd) (q b w : Nat) (tx : Nat → Nat) (hstr : ∀ U : State, Stat Z U → zS Z q b w tx U) (r : Role) (a c x n : Nat) (hm : M r = some (a, .inr (1, [.ref c, .int (nI 0), .int (nI x), .int (nI n)]))) (q2 : Role) (cap : Nat) (g : Nat → Nat) (hq : M q2 = some (c, aN .byte cap g)) (hrq : r ≠ q2) (hnw : n + w ≤ cap) (hcap : cap < 2 ^ 30) (hb : ∀ j : Nat, j < w → tx j < 128) : Ct Z l yJ5_putStringAt_47b60 wsJ5_putStringAt_47b60 ({ frames := 2, cells := 0, slots := 0, locals := 87 }) [.ref a, .int (nI n), .ref q] M 0 0 (fun v M2 => none = v ∧ (∀ r2 : Role, r2 ≠ q2 → M2 r2 = M r2) ∧ M2 q2 = some (c, aN .byte cap (cpN tx g 0 n w))) (fun _ _ => False) := by
  refine Ct.of (cc := cJ5_putStringAt_47b60) (maxL := 3) (ret := none) (by decide) rfl (Nat.le_of_ble_eq_true rfl) ?_
  intro p_ e_ s_ m_ args_ below_ meth_ c_ S hz hml hex hlo hr hin
  refine g_loc (L2 := [(0, .ref a), (1, .int (nI n)), (2, .ref q)]) rfl ?_
  have i_RJ4 : ∀ w ∈ u_ws RJ4 TJ4 4, w ∈ wsJ5_putStringAt_47b60 := by decide +kernel
  have hs := hstr s_ hz
  refine g_aload_n (pc := 0) S 0 dJ5_putStringAt_47b60_0 rfl rfl ?_
  refine g_aload_n (pc := 1) S 2 dJ5_putStringAt_47b60_1 rfl rfl ?_
  refine g_callU (pc := 2) S hz hml [.ref q] (k_inflS Z l M q b w tx hstr r a c x n hm) (va_cwU 1 S.2.2.2.2 gJ5_putStringAt_47b60_J5_inflateIfNeededFor_a7421_u397J4 rfl rfl rfl rfl (by decide +kernel) ⟨Nat.le_of_ble_eq_true rfl, Nat.le_of_ble_eq_true rfl⟩) hm rfl rfl rfl (Nat.le_of_ble_eq_true rfl) dJ5_putStringAt_47b60_2 ⟨Nat.le_of_ble_eq_true rfl, Nat.le_of_ble_eq_true rfl⟩ (fun v_3 M_2 h_1 => ?_)
  obtain ⟨rfl, rfl⟩ := h_1
  refine g_aload_n (pc := 5) S 2 dJ5_putStringAt_47b60_5 rfl rfl ?_
  refine g_aload_n (pc := 6) S 0 dJ5_putStringAt_47b60_6 rfl rfl ?_
  refine g_get (pc := 7) S hz (ref := "java/lang/AbstractStringBuilder") (v := .ref c) hm i_RJ4 rfl 0 (Nat.le_of_ble_eq_true rfl) (by decide +kernel) (fun _ h => h) rfl dJ5_putStringAt_47b60_7 ?_
  refine g_iload_n (pc := 10) S 1 dJ5_putStringAt_47b60_10 rfl rfl ?_
  refine g_aload_n (pc := 11) S 0 dJ5_putStringAt_47b60_11 rfl rfl ?_
  refine g_get (pc := 12) S hz (ref := "java/lang/AbstractStringBuilder") (v := .int (nI 0)) hm i_RJ4 rfl 1 (Nat.le_of_ble_eq_true rfl) (by decide +kernel) (fun _ h => h) rfl dJ5_putStringAt_47b60_12 ?_
  refine g_callVS (pc := 15) S hz hml [.ref c, .int (nI n), .int (nI 0)] (k_getBytesS Z l M q b w tx hstr q2 c n cap g hq hnw hcap hb) (cwV 3 S.2.2.2.2 gJ5_putStringAt_47b60_J0_getBytes_840e7 rfl rfl rfl (by decide +kernel) ⟨Nat.le_of_ble_eq_true rfl, Nat.le_of_ble_eq_true rfl⟩) hs.1 rfl rfl (Nat.le_of_ble_eq_true rfl) dJ5_putStringAt_47b60_15 ⟨Nat.le_of_ble_eq_true rfl, Nat.le_of_ble_eq_true rfl⟩ (fun v_6 M_5 h_4 => ?_)
  obtain ⟨rfl, f2, m2⟩ := h_4
  exact g_vret (pc := 18) S hz hlo hr ⟨rfl, f2, m2⟩ (Nat.le_of_ble_eq_true rfl) (Nat.le_of_ble_eq_true rfl) dJ5_putStringAt_47b60_18
