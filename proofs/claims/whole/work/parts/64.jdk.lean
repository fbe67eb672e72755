set_option maxHeartbeats 4000000 in
set_option maxRecDepth 100000 in
theorem k_ckLen (Z : Zp) (l : Launch) (M : Wd) (n : Nat) (hn : n < 2 ^ 31) : Ct Z l yJ7_checkLength_df160 wsJ7_checkLength_df160 ({ frames := 0, cells := 0, slots := 0, locals := 0 }) [.int (nI 0), .int (nI n)] M 0 0 (fun v M2 => M = M2 ∧ none = v) (fun _ _ => False) := by
  refine Ct.of (cc := cJ7_checkLength_df160) (maxL := 2) (ret := none) (by decide) rfl (Nat.le_of_ble_eq_true rfl) ?_
  intro p_ e_ s_ m_ args_ below_ meth_ c_ S hz hml hex hlo hr hin
  refine g_loc (L2 := [(0, .int (nI 0)), (1, .int (nI n))]) rfl ?_
  refine g_iload_n (pc := 0) S 1 dJ7_checkLength_df160_0 rfl rfl ?_
  refine g_iload_n (pc := 1) S 0 dJ7_checkLength_df160_1 rfl rfl ?_
  refine g_icmp_geN (pc := 2) S 37 dJ7_checkLength_df160_2 (by decide) (by omega) (by decide) (fun _ => ?_) (fun h => absurd (Nat.zero_le _) h)
  exact g_vret (pc := 37) S hz hlo hr ⟨rfl, rfl⟩ (Nat.le_of_ble_eq_true rfl) (Nat.le_of_ble_eq_true rfl) dJ7_checkLength_df160_37
set_option maxHeartbeats 4000000 in
set_option maxRecDepth 100000 in
theorem k_crByte (Z : Zp) (l : Launch) (M : Wd) (q2 q3 : Role) (c cap n : Nat) (g : Nat → Nat) (hq : M q2 = some (c, aN .byte cap g)) (hqq : q2 ≠ q3) (hn : n ≤ cap) (hcap : cap ≤ 65536) (hb : ∀ j : Nat, j < cap → g j < 128) : Ct Z l yJ7_copyOfRangeByte_39247 wsJ7_copyOfRangeByte_39247 ({ frames := 1, cells := 1, slots := n, locals := 64 }) [.ref c, .int (nI 0), .int (nI n)] M 1 n (fun v M2 => ∃ (b2 : Nat) (g2 : Nat → Nat), v = some (.ref b2) ∧ (∀ r2 : Role, r2 ≠ q3 → M2 r2 = M r2) ∧ M2 q3 = some (b2, aN .byte n g2) ∧ ∀ j : Nat, j < n → g2 j = g j) (fun _ _ => False) := by
  refine Ct.of (cc := cJ7_copyOfRangeByte_39247) (maxL := 5) (ret := (some (.array .byte))) (by decide) rfl (Nat.le_of_ble_eq_true rfl) ?_
  intro p_ e_ s_ m_ args_ below_ meth_ c_ S hz hml hex hlo hr hin
  refine g_loc (L2 := [(0, .ref c), (1, .int (nI 0)), (2, .int (nI n))]) rfl ?_
  refine g_iload_n (pc := 0) S 1 dJ7_copyOfRangeByte_39247_0 rfl rfl ?_
  refine g_iload_n (pc := 1) S 2 dJ7_copyOfRangeByte_39247_1 rfl rfl ?_
  refine g_callS (pc := 2) S hz hml [.int (nI 0), .int (nI n)] (k_ckLen Z l M n (by omega)) (va_cwS 2 S.2.2.2.2 gJ7_copyOfRangeByte_39247_J7_checkLength_df160 rfl rfl rfl (by decide +kernel) ⟨Nat.le_of_ble_eq_true rfl, Nat.le_of_ble_eq_true rfl⟩) rfl rfl (Nat.le_of_ble_eq_true rfl) dJ7_copyOfRangeByte_39247_2 ⟨Nat.zero_le _, Nat.zero_le _⟩ (fun _ _ h => h.elim) (fun v_3 M_2 h_1 => ?_)
  obtain ⟨rfl, rfl⟩ := h_1
  refine g_iload_n (pc := 5) S 2 dJ7_copyOfRangeByte_39247_5 rfl rfl ?_
  refine g_iload_n (pc := 6) S 1 dJ7_copyOfRangeByte_39247_6 rfl rfl ?_
  refine g_isubN (pc := 7) S dJ7_copyOfRangeByte_39247_7 (Nat.zero_le _) ?_
  refine g_top (u := .int (nI n)) rfl ?_
  refine g_istore_n (pc := 8) S [(3, .int (nI n)), (0, .ref c), (1, .int (nI 0)), (2, .int (nI n))] dJ7_copyOfRangeByte_39247_8 rfl (by decide) rfl ?_
  refine g_iload_n (pc := 9) S 0 dJ7_copyOfRangeByte_39247_9 rfl rfl ?_
  refine g_newa (pc := 10) S hz (ty := .byte) (n := n) (x := (n, .inl (fun _ => nI 0))) q3 rfl (by decide +kernel) (fun cA => by rw [vp_cell_i]; rfl) (by omega) (by show n * 1 ≤ _; omega) (Nat.le_refl _) (Nat.le_of_eq (Nat.zero_add _)) dJ7_copyOfRangeByte_39247_10 (fun b M2 f2 m2 => ?_)
  refine g_astore (pc := 12) S [(4, .ref b), (3, .int (nI n)), (0, .ref c), (1, .int (nI 0)), (2, .int (nI n))] dJ7_copyOfRangeByte_39247_12 (by decide) rfl ?_
  refine g_aload_n (pc := 14) S 2 dJ7_copyOfRangeByte_39247_14 rfl rfl ?_
  refine g_iload_n (pc := 15) S 3 dJ7_copyOfRangeByte_39247_15 rfl rfl ?_
  refine g_aload (pc := 16) S 0 dJ7_copyOfRangeByte_39247_16 rfl ?_
  refine g_iconst (pc := 18) S (v := (nI 0)) dJ7_copyOfRangeByte_39247_18 (by decide) ?_
  refine g_aload_n (pc := 19) S 2 dJ7_copyOfRangeByte_39247_19 rfl rfl ?_
  refine g_alen (pc := 20) S hz ((f2 _ hqq).trans hq) dJ7_copyOfRangeByte_39247_20 ?_
  refine g_iload_n (pc := 21) S 3 dJ7_copyOfRangeByte_39247_21 rfl rfl ?_
  refine g_isubN (pc := 22) S dJ7_copyOfRangeByte_39247_22 (Nat.zero_le _) ?_
  refine g_top (u := .int (nI cap)) rfl ?_
  refine g_iload_n (pc := 23) S 1 dJ7_copyOfRangeByte_39247_23 rfl rfl ?_
  refine g_min (pc := 24) S hml (by omega) (by omega) (by decide +kernel) (by decide +kernel) (by decide +kernel) (by decide +kernel) (Nat.le_of_ble_eq_true rfl) (Nat.le_of_ble_eq_true rfl) (Nat.le_refl _) (Nat.le_of_eq (Nat.zero_add _)) dJ7_copyOfRangeByte_39247_24 ?_
  refine g_top (u := .int (nI (n))) (congrArg (fun z => Value.int (nI z)) (by omega)) ?_
  refine g_copyB (pc := 27) S ((f2 _ hqq).trans hq) m2 rfl (by omega) (by omega) (by omega) (by omega) (fun i hi => by rw [Nat.zero_add]; exact fit_b (hb i (by omega))) (by decide +kernel) (by decide +kernel) (by decide +kernel) (by decide +kernel) hml (Nat.le_of_ble_eq_true rfl) (Nat.le_of_ble_eq_true rfl) dJ7_copyOfRangeByte_39247_27 (fun M3 f3 m3 => ?_)
  refine g_aload (pc := 30) S 0 dJ7_copyOfRangeByte_39247_30 rfl ?_
  exact g_aretA (pc := 32) S hz hlo hr ⟨b, _, rfl, fun r2 z => (f3 r2 z).trans (f2 r2 z), m3, fun j hj => by unfold cpN; rw [if_pos (by omega), Nat.zero_add, Nat.sub_zero]⟩ (Nat.le_refl _) (Nat.le_of_eq (Nat.zero_add _)) dJ7_copyOfRangeByte_39247_32
set_option maxHeartbeats 4000000 in
set_option maxRecDepth 100000 in
theorem k_copyRange (Z : Zp) (l : Launch) (M : Wd) (q2 q3 : Role) (c cap n : Nat) (g : Nat → Nat) (hq : M q2 = some (c, aN .byte cap g)) (hqq : q2 ≠ q3) (hn : n ≤ cap) (hcap : cap ≤ 65536) (hb : ∀ j : Nat, j < cap → g j < 128) : Ct Z l yJ7_copyOfRange_39247 wsJ7_copyOfRange_39247 ({ frames := 2, cells := 1, slots := n, locals := 88 }) [.ref c, .int (nI 0), .int (nI n)] M 1 n (fun v M2 => ∃ (b2 : Nat) (g2 : Nat → Nat), v = some (.ref b2) ∧ (∀ r2 : Role, r2 ≠ q3 → M2 r2 = M r2) ∧ M2 q3 = some (b2, aN .byte n g2) ∧ ∀ j : Nat, j < n → g2 j = g j) (fun _ _ => False) := by
  refine Ct.of (cc := cJ7_copyOfRange_39247) (maxL := 3) (ret := (some (.array .byte))) (by decide) rfl (Nat.le_of_ble_eq_true rfl) ?_
  intro p_ e_ s_ m_ args_ below_ meth_ c_ S hz hml hex hlo hr hin
  refine g_loc (L2 := [(0, .ref c), (1, .int (nI 0)), (2, .int (nI n))]) rfl ?_
  refine g_iload_n (pc := 0) S 1 dJ7_copyOfRange_39247_0 rfl rfl ?_
  refine g_if_neN (pc := 1) S 10 dJ7_copyOfRange_39247_1 (by decide) (by decide) (fun h => absurd h (by decide)) (fun _ => ?_)
  refine g_iload_n (pc := 4) S 2 dJ7_copyOfRange_39247_4 rfl rfl ?_
  refine g_aload_n (pc := 5) S 0 dJ7_copyOfRange_39247_5 rfl rfl ?_
  refine g_alen (pc := 6) S hz hq dJ7_copyOfRange_39247_6 ?_
  refine g_icmp_eqN (pc := 7) S 17 dJ7_copyOfRange_39247_7 (by decide) (by omega) (by omega) (fun c_1 => ?_) (fun c_1 => ?_)
  · refine g_aload_n (pc := 17) S 0 dJ7_copyOfRange_39247_17 rfl rfl ?_
    subst c_1
    refine g_cloneB (pc := 18) S hz hml q3 hq hb (by decide +kernel) (by decide +kernel) (by decide +kernel) (by decide +kernel) (by decide +kernel) (hz.word (by decide +kernel) (by decide +kernel)) (Nat.le_of_ble_eq_true rfl) (Nat.le_of_ble_eq_true rfl) (Nat.le_refl _) (Nat.le_of_eq (Nat.zero_add _)) dJ7_copyOfRange_39247_18 (fun b M2 f2 m2 => ?_)
    refine g_castB (pc := 21) S m2 (by decide +kernel) dJ7_copyOfRange_39247_21 ?_
    exact g_aretA (pc := 24) S hz hlo hr ⟨b, g, rfl, f2, m2, fun j hj => rfl⟩ (Nat.le_refl _) (Nat.le_of_eq (Nat.zero_add _)) dJ7_copyOfRange_39247_24
  · refine g_aload_n (pc := 10) S 0 dJ7_copyOfRange_39247_10 rfl rfl ?_
    refine g_iload_n (pc := 11) S 1 dJ7_copyOfRange_39247_11 rfl rfl ?_
    refine g_iload_n (pc := 12) S 2 dJ7_copyOfRange_39247_12 rfl rfl ?_
    refine g_callS (pc := 13) S hz hml [.ref c, .int (nI 0), .int (nI n)] (k_crByte Z l M q2 q3 c cap n g hq hqq hn hcap hb) (va_cwS 3 S.2.2.2.2 gJ7_copyOfRange_39247_J7_copyOfRangeByte_39247 rfl rfl rfl (by decide +kernel) ⟨Nat.le_of_ble_eq_true rfl, Nat.le_of_ble_eq_true rfl⟩) rfl rfl (Nat.le_of_ble_eq_true rfl) dJ7_copyOfRange_39247_13 ⟨Nat.le_refl _, Nat.le_of_eq (Nat.zero_add _)⟩ (fun _ _ h => h.elim) (fun v_4 M_3 h_2 => ?_)
    obtain ⟨b2, g2, rfl, h⟩ := h_2
    exact g_aretA (pc := 16) S hz hlo hr ⟨b2, g2, rfl, h⟩ (Nat.le_refl _) (Nat.le_of_eq (Nat.zero_add _)) dJ7_copyOfRange_39247_16
set_option maxHeartbeats 4000000 in
set_option maxRecDepth 100000 in
theorem k_getValue (Z : Zp) (l : Launch) (M : Wd) (r : Role) (a c x n : Nat) (hm : M r = some (a, .inr (1, [.ref c, .int (nI 0), .int (nI x), .int (nI n)]))) : Ct Z l yJ5_getValue_6d5f1 wsJ5_getValue_6d5f1 ({ frames := 0, cells := 0, slots := 0, locals := 0 }) [.ref a] M 0 0 (fun v M2 => M = M2 ∧ some (.ref c) = v) (fun _ _ => False) := by
  refine Ct.of (cc := cJ5_getValue_6d5f1) (maxL := 1) (ret := (some (.array .byte))) (by decide) rfl (Nat.le_of_ble_eq_true rfl) ?_
  intro p_ e_ s_ m_ args_ below_ meth_ c_ S hz hml hex hlo hr hin
  refine g_loc (L2 := [(0, .ref a)]) rfl ?_
  have i_RJ4 : ∀ w ∈ u_ws RJ4 TJ4 4, w ∈ wsJ5_getValue_6d5f1 := by decide +kernel
  refine g_aload_n (pc := 0) S 0 dJ5_getValue_6d5f1_0 rfl rfl ?_
  refine g_get (pc := 1) S hz (ref := "java/lang/AbstractStringBuilder") (v := .ref c) hm i_RJ4 rfl 0 (Nat.le_of_ble_eq_true rfl) (by decide +kernel) (fun _ h => h) rfl dJ5_getValue_6d5f1_1 ?_
  exact g_aretA (pc := 4) S hz hlo hr ⟨rfl, rfl⟩ (Nat.le_of_ble_eq_true rfl) (Nat.le_of_ble_eq_true rfl) dJ5_getValue_6d5f1_4
set_option maxHeartbeats 4000000 in
set_option maxRecDepth 100000 in
theorem k_strInit5 (Z : Zp) (l : Launch) (M : Wd) (a2 : Nat) (r : Role) (a c x n : Nat) (hm : M r = some (a, .inr (1, [.ref c, .int (nI 0), .int (nI x), .int (nI n)]))) (q2 : Role) (cap : Nat) (g : Nat → Nat) (hq : M q2 = some (c, aN .byte cap g)) (hrq : r ≠ q2) (rs rb : Role) (h1 : r ≠ rs) (h2 : r ≠ rb) (h3 : q2 ≠ rs) (h4 : q2 ≠ rb) (h5 : rs ≠ rb) (hn : n ≤ cap) (hcap : cap ≤ 65536) (hb : ∀ j : Nat, j < cap → g j < 128) (hs2 : M rs = some (a2, .inr (0, [.null, .int (nI 0), .int (nI 0), .int (nI 0)]))) : Ct Z l yJ0_init_db425 wsJ0_init_db425 ({ frames := 3, cells := 1, slots := n, locals := 110 }) [.ref a2, .ref a, .null] M 1 n (fun v M2 => none = v ∧ ∃ (c2 : Nat) (g2 : Nat → Nat), (∀ r2 : Role, r2 ≠ rs → r2 ≠ rb → M2 r2 = M r2) ∧ M2 rs = some (a2, .inr (0, [.ref c2, .int (nI 0), .int (nI 0), .int (nI 0)])) ∧ M2 rb = some (c2, aN .byte n g2) ∧ ∀ j : Nat, j < n → g2 j = g j) (fun _ _ => False) := by
  refine Ct.of (cc := cJ0_init_db425) (maxL := 5) (ret := none) (by decide) rfl (Nat.le_of_ble_eq_true rfl) ?_
  intro p_ e_ s_ m_ args_ below_ meth_ c_ S hz hml hex hlo hr hin
  refine g_loc (L2 := [(0, .ref a2), (1, .ref a), (2, .null)]) rfl ?_
  have i_RJ0 : ∀ w ∈ u_ws RJ0 TJ0 4, w ∈ wsJ0_init_db425 := by decide +kernel
  refine g_aload_n (pc := 0) S 0 dJ0_init_db425_0 rfl rfl ?_
  refine g_objInit (pc := 1) S hml (by decide +kernel) (by decide +kernel) (by decide +kernel) dJ0_init_db425_1 (Nat.le_of_ble_eq_true rfl) (Nat.le_of_ble_eq_true rfl) ?_
  refine g_aload_n (pc := 4) S 1 dJ0_init_db425_4 rfl rfl ?_
  refine g_callU (pc := 5) S hz hml [] (k_getValue Z l M r a c x n hm) (va_cwU 0 S.2.2.2.2 gJ0_init_db425_J5_getValue_6d5f1_u552J4 rfl rfl rfl rfl (by decide +kernel) ⟨Nat.le_of_ble_eq_true rfl, Nat.le_of_ble_eq_true rfl⟩) hm rfl rfl rfl (Nat.le_of_ble_eq_true rfl) dJ0_init_db425_5 ⟨Nat.zero_le _, Nat.zero_le _⟩ (fun v_3 M_2 h_1 => ?_)
  obtain ⟨rfl, rfl⟩ := h_1
  refine g_astore_n (pc := 8) S [(3, .ref c), (0, .ref a2), (1, .ref a), (2, .null)] dJ0_init_db425_8 rfl (by decide) rfl ?_
  refine g_aload_n (pc := 9) S 2 dJ0_init_db425_9 rfl rfl ?_
  refine g_callU (pc := 10) S hz hml [] (k_sbLen Z l M r a c x n hm) (va_cwO 0 S.2.2.2.2 gJ0_init_db425_J4_length_8abf5_u549J4 rfl rfl rfl (show Cond.code yJ5_length_8abf5 cJ5_length_8abf5 1 (some .int) ∈ wsJ0_init_db425 by decide +kernel) (by decide +kernel) ⟨Nat.le_of_ble_eq_true rfl, Nat.le_of_ble_eq_true rfl⟩) hm rfl rfl rfl (Nat.le_of_ble_eq_true rfl) dJ0_init_db425_10 ⟨Nat.zero_le _, Nat.zero_le _⟩ (fun v_6 M_5 h_4 => ?_)
  obtain ⟨rfl, rfl⟩ := h_4
  refine g_istore (pc := 13) S [(4, .int (nI n)), (3, .ref c), (0, .ref a2), (1, .ref a), (2, .null)] dJ0_init_db425_13 (by decide) rfl ?_
  refine g_aload_n (pc := 15) S 3 dJ0_init_db425_15 rfl rfl ?_
  refine g_callU (pc := 16) S hz hml [] (k_isLatin1 Z l M r a c x n hm) (va_cwU 0 S.2.2.2.2 gJ0_init_db425_J5_isLatin1_aae02_u1047J4 rfl rfl rfl rfl (by decide +kernel) ⟨Nat.le_of_ble_eq_true rfl, Nat.le_of_ble_eq_true rfl⟩) hm rfl rfl rfl (Nat.le_of_ble_eq_true rfl) dJ0_init_db425_16 ⟨Nat.zero_le _, Nat.zero_le _⟩ (fun v_9 M_8 h_7 => ?_)
  obtain ⟨rfl, rfl⟩ := h_7
  refine g_if_eqN (pc := 19) S 41 dJ0_init_db425_19 (by decide) (by decide) (fun h => absurd h (by decide)) (fun _ => ?_)
  refine g_aload_n (pc := 22) S 2 dJ0_init_db425_22 rfl rfl ?_
  refine g_iconst (pc := 23) S (v := (nI 0)) dJ0_init_db425_23 (by decide) ?_
  refine g_putF (pc := 24) S hz (ref := "java/lang/String") (r := rs) (v := .int (nI 0)) (ty := .byte) hs2 i_RJ0 tyJ0 tyJ0_ok nmJ0 rfl 1 (Nat.le_of_ble_eq_true rfl) (by decide +kernel) (fun _ h => h) rfl (hin rfl) rfl (by decide +kernel) (nar_b0 (by first | decide | omega)) (fit_b (by first | decide | omega)) _ (Nat.le_of_ble_eq_true rfl) rfl dJ0_init_db425_24 (fun M_10 f_11 m_12 => ?_)
  refine g_aload_n (pc := 27) S 2 dJ0_init_db425_27 rfl rfl ?_
  refine g_aload_n (pc := 28) S 1 dJ0_init_db425_28 rfl rfl ?_
  refine g_iconst (pc := 29) S (v := (nI 0)) dJ0_init_db425_29 (by decide) ?_
  refine g_iload (pc := 30) S 0 dJ0_init_db425_30 rfl ?_
  refine g_callS (pc := 32) S hz hml [.ref c, .int (nI 0), .int (nI n)] (k_copyRange Z l M_10 q2 rb c cap n g ((f_11 _ h3).trans hq) h4 hn hcap hb) (va_cwS 3 S.2.2.2.2 gJ0_init_db425_J7_copyOfRange_39247 rfl rfl rfl (by decide +kernel) ⟨Nat.le_of_ble_eq_true rfl, Nat.le_of_ble_eq_true rfl⟩) rfl rfl (Nat.le_of_ble_eq_true rfl) dJ0_init_db425_32 ⟨Nat.le_refl _, Nat.le_of_eq (Nat.zero_add _)⟩ (fun _ _ h => h.elim) (fun v_15 M_14 h_13 => ?_)
  obtain ⟨c2, g2, rfl, f8, m8, h8⟩ := h_13
  refine g_putF (pc := 35) S hz (ref := "java/lang/String") (r := rs) (v := .ref c2) (ty := .array .byte) ((f8 _ h5).trans m_12) i_RJ0 tyJ0 tyJ0_ok nmJ0 rfl 0 (Nat.le_of_ble_eq_true rfl) (by decide +kernel) (fun _ h => h) rfl (hin rfl) rfl (by decide +kernel) rfl rfl _ (Nat.le_of_ble_eq_true rfl) rfl dJ0_init_db425_35 (fun M_16 f_17 m_18 => ?_)
  refine g_goto (pc := 38) S 97 dJ0_init_db425_38 (by decide) ?_
  exact g_vret (pc := 97) S hz hlo hr ⟨rfl, c2, g2, fun r2 z1 z2 => by rw [f_17 r2 z1, f8 r2 z2, f_11 r2 z1], m_18, ((f_17 _ (Ne.symm h5)).trans m8), h8⟩ (Nat.le_refl _) (Nat.le_of_eq (Nat.zero_add _)) dJ0_init_db425_97
set_option maxHeartbeats 4000000 in
set_option maxRecDepth 100000 in
theorem k_strInit (Z : Zp) (l : Launch) (M : Wd) (a2 : Nat) (r : Role) (a c x n : Nat) (hm : M r = some (a, .inr (1, [.ref c, .int (nI 0), .int (nI x), .int (nI n)]))) (q2 : Role) (cap : Nat) (g : Nat → Nat) (hq : M q2 = some (c, aN .byte cap g)) (hrq : r ≠ q2) (rs rb : Role) (h1 : r ≠ rs) (h2 : r ≠ rb) (h3 : q2 ≠ rs) (h4 : q2 ≠ rb) (h5 : rs ≠ rb) (hn : n ≤ cap) (hcap : cap ≤ 65536) (hb : ∀ j : Nat, j < cap → g j < 128) (hs2 : M rs = some (a2, .inr (0, [.null, .int (nI 0), .int (nI 0), .int (nI 0)]))) : Ct Z l yJ0_init_81219 wsJ0_init_81219 ({ frames := 4, cells := 1, slots := n, locals := 134 }) [.ref a2, .ref a] M 1 n (fun v M2 => none = v ∧ ∃ (c2 : Nat) (g2 : Nat → Nat), (∀ r2 : Role, r2 ≠ rs → r2 ≠ rb → M2 r2 = M r2) ∧ M2 rs = some (a2, .inr (0, [.ref c2, .int (nI 0), .int (nI 0), .int (nI 0)])) ∧ M2 rb = some (c2, aN .byte n g2) ∧ ∀ j : Nat, j < n → g2 j = g j) (fun _ _ => False) := by
  refine Ct.of (cc := cJ0_init_81219) (maxL := 2) (ret := none) (by decide) rfl (Nat.le_of_ble_eq_true rfl) ?_
  intro p_ e_ s_ m_ args_ below_ meth_ c_ S hz hml hex hlo hr hin
  refine g_loc (L2 := [(0, .ref a2), (1, .ref a)]) rfl ?_
  refine g_aload_n (pc := 0) S 0 dJ0_init_81219_0 rfl rfl ?_
  refine g_aload_n (pc := 1) S 1 dJ0_init_81219_1 rfl rfl ?_
  refine g_null (pc := 2) S dJ0_init_81219_2 ?_
  refine g_callI (pc := 3) S hz hml [.ref a, .null] (k_strInit5 Z l M a2 r a c x n hm q2 cap g hq hrq rs rb h1 h2 h3 h4 h5 hn hcap hb hs2) (cwI 2 S.2.2.2.2 gJ0_init_81219_J0_init_db425 rfl rfl rfl (S.2.2.2.2 _ (by decide +kernel)) (S.2.2.2.2 _ (by decide +kernel)) (S.2.2.2.2 _ (by decide +kernel)) rfl (by decide +kernel) ⟨Nat.le_of_ble_eq_true rfl, Nat.le_of_ble_eq_true rfl⟩) rfl rfl (Nat.le_of_ble_eq_true rfl) dJ0_init_81219_3 ⟨Nat.le_refl _, Nat.le_of_eq (Nat.zero_add _)⟩ (fun v_3 M_2 h_1 => ?_)
  obtain ⟨rfl, h⟩ := h_1
  exact g_vret (pc := 6) S hz hlo hr ⟨rfl, h⟩ (Nat.le_refl _) (Nat.le_of_eq (Nat.zero_add _)) dJ0_init_81219_6
set_option maxHeartbeats 4000000 in
set_option maxRecDepth 100000 in
theorem k_toString (Z : Zp) (l : Launch) (M : Wd) (r : Role) (a c x n : Nat) (hm : M r = some (a, .inr (1, [.ref c, .int (nI 0), .int (nI x), .int (nI n)]))) (q2 : Role) (cap : Nat) (g : Nat → Nat) (hq : M q2 = some (c, aN .byte cap g)) (hrq : r ≠ q2) (rs rb : Role) (h1 : r ≠ rs) (h2 : r ≠ rb) (h3 : q2 ≠ rs) (h4 : q2 ≠ rb) (h5 : rs ≠ rb) (hn : n ≤ cap) (hcap : cap ≤ 65536) (hb : ∀ j : Nat, j < cap → g j < 128) : Ct Z l yJ4_toString_0e30d wsJ4_toString_0e30d ({ frames := 5, cells := 2, slots := n + 4, locals := 155 }) [.ref a] M 2 (n + 4) (fun v M2 => ∃ a2 : Nat, v = some (.ref a2) ∧ ∃ (c2 : Nat) (g2 : Nat → Nat), (∀ r2 : Role, r2 ≠ rs → r2 ≠ rb → M2 r2 = M r2) ∧ M2 rs = some (a2, .inr (0, [.ref c2, .int (nI 0), .int (nI 0), .int (nI 0)])) ∧ M2 rb = some (c2, aN .byte n g2) ∧ ∀ j : Nat, j < n → g2 j = g j) (fun _ _ => False) := by
  refine Ct.of (cc := cJ4_toString_0e30d) (maxL := 1) (ret := (some (.object "java/lang/String"))) (by decide) rfl (Nat.le_of_ble_eq_true rfl) ?_
  intro p_ e_ s_ m_ args_ below_ meth_ c_ S hz hml hex hlo hr hin
  refine g_loc (L2 := [(0, .ref a)]) rfl ?_
  have i_RJ0 : ∀ w ∈ u_ws RJ0 TJ0 4, w ∈ wsJ4_toString_0e30d := by decide +kernel
  refine g_new (pc := 0) S hz (ci := 0) (fs := [.null, .int (nI 0), .int (nI 0), .int (nI 0)]) rs i_RJ0 tyJ0 tyJ0_ok (by decide +kernel) (by decide +kernel) (by decide +kernel) rfl (fun j hj => by revert j; decide) (Nat.le_of_ble_eq_true rfl) (by show 0 + 4 ≤ n + 4; omega) dJ4_toString_0e30d_0 (fun a2 M1 f1 m1 => ?_)
  refine g_dup (pc := 3) S dJ4_toString_0e30d_3 rfl ?_
  refine g_aload_n (pc := 4) S 0 dJ4_toString_0e30d_4 rfl rfl ?_
  refine g_callI (pc := 5) S hz hml [.ref a] (k_strInit Z l M1 a2 r a c x n ((f1 _ h1).trans hm) q2 cap g ((f1 _ h3).trans hq) hrq rs rb h1 h2 h3 h4 h5 hn hcap hb m1) (cwI 1 S.2.2.2.2 gJ4_toString_0e30d_J0_init_81219 rfl rfl rfl (S.2.2.2.2 _ (by decide +kernel)) (S.2.2.2.2 _ (by decide +kernel)) (S.2.2.2.2 _ (by decide +kernel)) rfl (by decide +kernel) ⟨Nat.le_of_ble_eq_true rfl, Nat.le_of_ble_eq_true rfl⟩) rfl rfl (Nat.le_of_ble_eq_true rfl) dJ4_toString_0e30d_5 ⟨Nat.le_refl _, by show 0 + 4 + n ≤ n + 4; omega⟩ (fun v_3 M_2 h_1 => ?_)
  obtain ⟨rfl, c2, g2, f8, m8, m9, h8⟩ := h_1
  exact g_aret (pc := 8) S hz hlo hr ⟨a2, rfl, c2, g2, fun r2 z1 z2 => (f8 r2 z1 z2).trans (f1 r2 z1), m8, m9, h8⟩ (Nat.le_refl _) (by show 0 + 4 + n ≤ n + 4; omega) dJ4_toString_0e30d_8
