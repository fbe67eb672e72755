set_option maxHeartbeats 4000000 in
set_option maxRecDepth 100000 in
theorem k_listSize (Z : Zp) (l : Launch) (M : Wd) (r : Role) (a d md sz : Nat) (hm : M r = some (a, .inr (4, [.int (nI md), .ref d, .int (nI sz)]))) : Ct Z l yJx4a65c_size_8abf5 wsJx4a65c_size_8abf5 ({ frames := 0, cells := 0, slots := 0, locals := 0 }) [.ref a] M 0 0 (fun v M2 => M = M2 ∧ some (.int (nI sz)) = v) (fun _ _ => False) := by
  refine Ct.of (cc := cJx4a65c_size_8abf5) (maxL := 1) (ret := (some .int)) (by decide) rfl (Nat.le_of_ble_eq_true rfl) ?_
  intro p_ e_ s_ m_ args_ below_ meth_ c_ S hz hml hex hlo hr hin
  refine g_loc (L2 := [(0, .ref a)]) rfl ?_
  have i_RJx4a65c : ∀ w ∈ u_ws RJx4a65c TJx4a65c 3, w ∈ wsJx4a65c_size_8abf5 := by decide +kernel
  refine g_aload_n (pc := 0) S 0 dJx4a65c_size_8abf5_0 rfl rfl ?_
  refine g_get (pc := 1) S hz (ref := "java/util/ArrayList") (v := .int (nI sz)) hm i_RJx4a65c rfl 2 (Nat.le_of_ble_eq_true rfl) (by decide +kernel) (fun _ h => h) rfl dJx4a65c_size_8abf5_1 ?_
  exact g_iret (pc := 4) S hz hlo hr ⟨rfl, rfl⟩ (Nat.le_of_ble_eq_true rfl) (Nat.le_of_ble_eq_true rfl) dJx4a65c_size_8abf5_4
set_option maxHeartbeats 4000000 in
set_option maxRecDepth 100000 in
theorem k_listElem (Z : Zp) (l : Launch) (M : Wd) (i y : Nat) (r : Role) (a d md sz : Nat) (hm : M r = some (a, .inr (4, [.int (nI md), .ref d, .int (nI sz)]))) (q2 : Role) (cap : Nat) (f : Nat → Option Nat) (hq : M q2 = some (d, aR "java/lang/Object" cap f)) (hi : i < cap) (hcap : cap < 2 ^ 30) (hy : f i = some y) : Ct Z l yJx4a65c_elementData_915e3 wsJx4a65c_elementData_915e3 ({ frames := 0, cells := 0, slots := 0, locals := 0 }) [.ref a, .int (nI i)] M 0 0 (fun v M2 => M = M2 ∧ some (.ref y) = v) (fun _ _ => False) := by
  refine Ct.of (cc := cJx4a65c_elementData_915e3) (maxL := 2) (ret := (some (.object "java/lang/Object"))) (by decide) rfl (Nat.le_of_ble_eq_true rfl) ?_
  intro p_ e_ s_ m_ args_ below_ meth_ c_ S hz hml hex hlo hr hin
  refine g_loc (L2 := [(0, .ref a), (1, .int (nI i))]) rfl ?_
  have i_RJx4a65c : ∀ w ∈ u_ws RJx4a65c TJx4a65c 3, w ∈ wsJx4a65c_elementData_915e3 := by decide +kernel
  refine g_aload_n (pc := 0) S 0 dJx4a65c_elementData_915e3_0 rfl rfl ?_
  refine g_get (pc := 1) S hz (ref := "java/util/ArrayList") (v := .ref d) hm i_RJx4a65c rfl 1 (Nat.le_of_ble_eq_true rfl) (by decide +kernel) (fun _ h => h) rfl dJx4a65c_elementData_915e3_1 ?_
  refine g_iload_n (pc := 4) S 1 dJx4a65c_elementData_915e3_4 rfl rfl ?_
  refine g_aald (pc := 5) S hz hq (by omega) (by omega) (v := .ref y) (by rw [hy]; rfl) dJx4a65c_elementData_915e3_5 ?_
  exact g_aret (pc := 6) S hz hlo hr ⟨rfl, rfl⟩ (Nat.le_of_ble_eq_true rfl) (Nat.le_of_ble_eq_true rfl) dJx4a65c_elementData_915e3_6
set_option maxHeartbeats 4000000 in
set_option maxRecDepth 100000 in
theorem k_listGet (Z : Zp) (l : Launch) (M : Wd) (i y : Nat) (r : Role) (a d md sz : Nat) (hm : M r = some (a, .inr (4, [.int (nI md), .ref d, .int (nI sz)]))) (q2 : Role) (cap : Nat) (f : Nat → Option Nat) (hq : M q2 = some (d, aR "java/lang/Object" cap f)) (hi : i < sz) (hsz : sz ≤ cap) (hcap : cap < 2 ^ 30) (hy : f i = some y) : Ct Z l yJx4a65c_get_915e3 wsJx4a65c_get_915e3 ({ frames := 2, cells := 0, slots := 0, locals := 43 }) [.ref a, .int (nI i)] M 0 0 (fun v M2 => M = M2 ∧ some (.ref y) = v) (fun _ _ => False) := by
  refine Ct.of (cc := cJx4a65c_get_915e3) (maxL := 2) (ret := (some (.object "java/lang/Object"))) (by decide) rfl (Nat.le_of_ble_eq_true rfl) ?_
  intro p_ e_ s_ m_ args_ below_ meth_ c_ S hz hml hex hlo hr hin
  refine g_loc (L2 := [(0, .ref a), (1, .int (nI i))]) rfl ?_
  have i_RJx4a65c : ∀ w ∈ u_ws RJx4a65c TJx4a65c 3, w ∈ wsJx4a65c_get_915e3 := by decide +kernel
  refine g_iload_n (pc := 0) S 1 dJx4a65c_get_915e3_0 rfl rfl ?_
  refine g_aload_n (pc := 1) S 0 dJx4a65c_get_915e3_1 rfl rfl ?_
  refine g_get (pc := 2) S hz (ref := "java/util/ArrayList") (v := .int (nI sz)) hm i_RJx4a65c rfl 2 (Nat.le_of_ble_eq_true rfl) (by decide +kernel) (fun _ h => h) rfl dJx4a65c_get_915e3_2 ?_
  refine g_callS (pc := 5) S hz hml [.int (nI i), .int (nI sz)] (k_chk15 Z l M i sz hi (by omega)) (va_cwS 2 S.2.2.2.2 gJx4a65c_get_915e3_J15_checkIndex_7cf53 rfl rfl rfl (by decide +kernel) ⟨Nat.le_of_ble_eq_true rfl, Nat.le_of_ble_eq_true rfl⟩) rfl rfl (Nat.le_of_ble_eq_true rfl) dJx4a65c_get_915e3_5 ⟨Nat.le_of_ble_eq_true rfl, Nat.le_of_ble_eq_true rfl⟩ (fun _ _ h => h.elim) (fun v_3 M_2 h_1 => ?_)
  obtain ⟨rfl, rfl⟩ := h_1
  refine g_pop (pc := 8) S dJx4a65c_get_915e3_8 rfl ?_
  refine g_aload_n (pc := 9) S 0 dJx4a65c_get_915e3_9 rfl rfl ?_
  refine g_iload_n (pc := 10) S 1 dJx4a65c_get_915e3_10 rfl rfl ?_
  refine g_callV (pc := 11) S hz hml [.int (nI i)] (k_listElem Z l M i y r a d md sz hm q2 cap f hq (by omega) hcap hy) (cwV 1 S.2.2.2.2 gJx4a65c_get_915e3_Jx4a65c_elementData_915e3 rfl rfl rfl (by decide +kernel) ⟨Nat.le_of_ble_eq_true rfl, Nat.le_of_ble_eq_true rfl⟩) hm rfl rfl rfl (Nat.le_of_ble_eq_true rfl) dJx4a65c_get_915e3_11 ⟨Nat.le_of_ble_eq_true rfl, Nat.le_of_ble_eq_true rfl⟩ (fun _ _ h => h.elim) (fun v_6 M_5 h_4 => ?_)
  obtain ⟨rfl, rfl⟩ := h_4
  exact g_aret (pc := 14) S hz hlo hr ⟨rfl, rfl⟩ (Nat.le_of_ble_eq_true rfl) (Nat.le_of_ble_eq_true rfl) dJx4a65c_get_915e3_14
set_option maxHeartbeats 4000000 in
set_option maxRecDepth 100000 in
theorem k_copyO3 (Z : Zp) (l : Launch) (M : Wd) (q2 q3 : Role) (d cap n : Nat) (f : Nat → Option Nat) (hq : M q2 = some (d, aR "java/lang/Object" cap f)) (hqq : q2 ≠ q3) (hn : cap ≤ n) (hn2 : n ≤ 2 ^ 26) (hel : ∀ i, i < cap → ∀ y : Nat, f i = some y → ∃ (rr : Role) (vs : List Value), rr ≠ q3 ∧ M rr = some (y, .inr (5, vs))) (hfn : ∀ i, cap ≤ i → f i = none) : Ct Z l yJ7_copyOf_6403c wsJ7_copyOf_6403c ({ frames := 1, cells := 1, slots := n, locals := 64 }) [.ref d, .int (nI n), .ref (miO Z)] M 1 n (fun v M2 => ∃ b2 : Nat, v = some (.ref b2) ∧ (∀ r2 : Role, r2 ≠ q3 → M2 r2 = M r2) ∧ M2 q3 = some (b2, aR "java/lang/Object" n f)) (fun _ _ => False) := by
  refine Ct.of (cc := cJ7_copyOf_6403c) (maxL := 4) (ret := (some (.array (.object "java/lang/Object")))) (by decide) rfl (Nat.le_of_ble_eq_true rfl) ?_
  intro p_ e_ s_ m_ args_ below_ meth_ c_ S hz hml hex hlo hr hin
  refine g_loc (L2 := [(0, .ref d), (1, .int (nI n)), (2, .ref (miO Z))]) rfl ?_
  have hM := hz.mi (C := "[Ljava/lang/Object;") (by decide +kernel)
  refine g_aload_n (pc := 0) S 2 dJ7_copyOf_6403c_0 rfl rfl ?_
  refine g_ldcM (pc := 1) S (by decide +kernel) hM dJ7_copyOf_6403c_1 ?_
  refine g_acmp_neR (pc := 3) S 13 dJ7_copyOf_6403c_3 (by decide) (fun h => absurd rfl h) (fun _ => ?_)
  refine g_iload_n (pc := 6) S 1 dJ7_copyOf_6403c_6 rfl rfl ?_
  refine g_anew (pc := 7) S hz (C := "java/lang/Object") (n := n) q3 (by decide +kernel) (hz.over (by decide +kernel)) (by omega) (by omega) (Nat.le_refl _) (Nat.le_of_eq (Nat.zero_add _)) dJ7_copyOf_6403c_7 (fun b M2 f2 m2 => ?_)
  refine g_goto (pc := 10) S 24 dJ7_copyOf_6403c_10 (by decide) ?_
  refine g_astore_n (pc := 24) S [(3, .ref b), (0, .ref d), (1, .int (nI n)), (2, .ref (miO Z))] dJ7_copyOf_6403c_24 rfl (by decide) rfl ?_
  refine g_aload_n (pc := 25) S 1 dJ7_copyOf_6403c_25 rfl rfl ?_
  refine g_iconst (pc := 26) S (v := (nI 0)) dJ7_copyOf_6403c_26 (by decide) ?_
  refine g_aload_n (pc := 27) S 0 dJ7_copyOf_6403c_27 rfl rfl ?_
  refine g_iconst (pc := 28) S (v := (nI 0)) dJ7_copyOf_6403c_28 (by decide) ?_
  refine g_aload_n (pc := 29) S 1 dJ7_copyOf_6403c_29 rfl rfl ?_
  refine g_alen (pc := 30) S hz ((f2 _ hqq).trans hq) dJ7_copyOf_6403c_30 ?_
  refine g_iload_n (pc := 31) S 2 dJ7_copyOf_6403c_31 rfl rfl ?_
  refine g_min (pc := 32) S hml (by omega) (by omega) (by decide +kernel) (by decide +kernel) (by decide +kernel) (by decide +kernel) (Nat.le_of_ble_eq_true rfl) (Nat.le_of_ble_eq_true rfl) (Nat.le_refl _) (Nat.le_of_eq (Nat.zero_add _)) dJ7_copyOf_6403c_32 ?_
  refine g_top (u := .int (nI (cap))) (congrArg (fun z => Value.int (nI z)) (by omega)) ?_
  refine g_copyO (pc := 35) S hz (C := "SpoolFarm$Entry") (ci := 5) ((f2 _ hqq).trans hq) m2 (Nat.le_refl _) hn (by omega) (by omega) rfl (fun i hi y hy => by obtain ⟨rr, vs, g1, g2⟩ := hel i hi y hy; exact ⟨rr, vs, (f2 rr g1).trans g2⟩) hfn (hz.word (by decide +kernel) (by decide +kernel)) (by decide +kernel) (by decide +kernel) (by decide +kernel) (by decide +kernel) hml (Nat.le_of_ble_eq_true rfl) (Nat.le_of_ble_eq_true rfl) dJ7_copyOf_6403c_35 (fun M3 f3 m3 => ?_)
  refine g_aload_n (pc := 38) S 0 dJ7_copyOf_6403c_38 rfl rfl ?_
  exact g_aretA (pc := 39) S hz hlo hr ⟨b, rfl, fun r2 z => (f3 r2 z).trans (f2 r2 z), m3⟩ (Nat.le_refl _) (Nat.le_of_eq (Nat.zero_add _)) dJ7_copyOf_6403c_39
set_option maxHeartbeats 4000000 in
set_option maxRecDepth 100000 in
theorem k_copyO (Z : Zp) (l : Launch) (M : Wd) (q2 q3 : Role) (d cap n : Nat) (f : Nat → Option Nat) (hq : M q2 = some (d, aR "java/lang/Object" cap f)) (hqq : q2 ≠ q3) (hn : cap ≤ n) (hn2 : n ≤ 2 ^ 26) (hel : ∀ i, i < cap → ∀ y : Nat, f i = some y → ∃ (rr : Role) (vs : List Value), rr ≠ q3 ∧ M rr = some (y, .inr (5, vs))) (hfn : ∀ i, cap ≤ i → f i = none) : Ct Z l yJ7_copyOf_1904c wsJ7_copyOf_1904c ({ frames := 2, cells := 1, slots := n, locals := 87 }) [.ref d, .int (nI n)] M 1 n (fun v M2 => ∃ b2 : Nat, v = some (.ref b2) ∧ (∀ r2 : Role, r2 ≠ q3 → M2 r2 = M r2) ∧ M2 q3 = some (b2, aR "java/lang/Object" n f)) (fun _ _ => False) := by
  refine Ct.of (cc := cJ7_copyOf_1904c) (maxL := 2) (ret := (some (.array (.object "java/lang/Object")))) (by decide) rfl (Nat.le_of_ble_eq_true rfl) ?_
  intro p_ e_ s_ m_ args_ below_ meth_ c_ S hz hml hex hlo hr hin
  refine g_loc (L2 := [(0, .ref d), (1, .int (nI n))]) rfl ?_
  have hM := hz.mi (C := "[Ljava/lang/Object;") (by decide +kernel)
  refine g_aload_n (pc := 0) S 0 dJ7_copyOf_1904c_0 rfl rfl ?_
  refine g_iload_n (pc := 1) S 1 dJ7_copyOf_1904c_1 rfl rfl ?_
  refine g_aload_n (pc := 2) S 0 dJ7_copyOf_1904c_2 rfl rfl ?_
  refine g_getC (pc := 3) S hml hq hM (by decide +kernel) (hz.word (by decide +kernel) (by decide +kernel)) (by decide +kernel) (by decide +kernel) (by decide +kernel) (Nat.le_of_ble_eq_true rfl) (Nat.le_of_ble_eq_true rfl) dJ7_copyOf_1904c_3 ?_
  refine g_callS (pc := 6) S hz hml [.ref d, .int (nI n), .ref (miO Z)] (k_copyO3 Z l M q2 q3 d cap n f hq hqq hn hn2 hel hfn) (va_cwS 3 S.2.2.2.2 gJ7_copyOf_1904c_J7_copyOf_6403c rfl rfl rfl (by decide +kernel) ⟨Nat.le_of_ble_eq_true rfl, Nat.le_of_ble_eq_true rfl⟩) rfl rfl (Nat.le_of_ble_eq_true rfl) dJ7_copyOf_1904c_6 ⟨Nat.le_refl _, Nat.le_of_eq (Nat.zero_add _)⟩ (fun _ _ h => h.elim) (fun v_3 M_2 h_1 => ?_)
  obtain ⟨b2, rfl, h⟩ := h_1
  exact g_aretA (pc := 9) S hz hlo hr ⟨b2, rfl, h⟩ (Nat.le_refl _) (Nat.le_of_eq (Nat.zero_add _)) dJ7_copyOf_1904c_9
