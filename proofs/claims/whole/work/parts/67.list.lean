set_option maxHeartbeats 4000000 in
set_option maxRecDepth 100000 in
theorem k_grow (Z : Zp) (l : Launch) (M : Wd) (r : Role) (a d md sz : Nat) (hm : M r = some (a, .inr (4, [.int (nI md), .ref d, .int (nI sz)]))) (q2 : Role) (cap : Nat) (f : Nat → Option Nat) (hq : (cap = 0 ∧ d = zD Z) ∨ (0 < cap ∧ M q2 = some (d, aR "java/lang/Object" cap f))) (hsz : sz ≤ cap) (hcap : cap ≤ 2 ^ 24) (hfn : ∀ i, sz ≤ i → f i = none) (hel : ∀ i, i < sz → ∀ y : Nat, f i = some y → ∃ (rr : Role) (vs : List Value), rr ≠ (51, 1) ∧ M rr = some (y, .inr (5, vs))) (hrq : r ≠ q2) (hr1 : r ≠ (51, 1)) (hq1 : q2 ≠ (51, 1)) (hfull : sz = cap) : Ct Z l yJx4a65c_grow_92f84 wsJx4a65c_grow_92f84 ({ frames := 3, cells := 1, slots := (capN cap sz), locals := 108 }) [.ref a, .int (nI (sz + 1))] M 1 (capN cap sz) (fun v M2 => ∃ b2 : Nat, v = some (.ref b2) ∧ (∀ r2 : Role, r2 ≠ r → r2 ≠ q2 → r2 ≠ (51, 1) → M2 r2 = M r2) ∧ M2 r = some (a, .inr (4, [.int (nI md), .ref b2, .int (nI sz)])) ∧ M2 q2 = some (b2, aR "java/lang/Object" (capN cap sz) f)) (fun _ _ => False) := by
  refine Ct.of (cc := cJx4a65c_grow_92f84) (maxL := 4) (ret := (some (.array (.object "java/lang/Object")))) (by decide) rfl (Nat.le_of_ble_eq_true rfl) ?_
  intro p_ e_ s_ m_ args_ below_ meth_ c_ S hz hml hex hlo hr hin
  refine g_loc (L2 := [(0, .ref a), (1, .int (nI (sz + 1)))]) rfl ?_
  have i_RJx4a65c : ∀ w ∈ u_ws RJx4a65c TJx4a65c 3, w ∈ wsJx4a65c_grow_92f84 := by decide +kernel
  have hD := hz.zDe
  subst hfull
  rcases hq with ⟨h0, rfl⟩ | ⟨hpos, hq⟩
  · have hmc : 1 ≤ 1 := Nat.le_refl _
    have hms : 10 ≤ capN sz sz := by unfold capN; rw [if_pos rfl, if_pos h0]; exact Nat.le_refl _
    obtain rfl : sz = 0 := by omega
    obtain rfl : f = fun _ => none := funext fun i => hfn i (Nat.zero_le _)
    refine g_aload_n (pc := 0) S 0 dJx4a65c_grow_92f84_0 rfl rfl ?_
    refine g_get (pc := 1) S hz (ref := "java/util/ArrayList") (v := .ref (zD Z)) hm i_RJx4a65c rfl 1 (Nat.le_of_ble_eq_true rfl) (by decide +kernel) (fun _ h => h) rfl dJx4a65c_grow_92f84_1 ?_
    refine g_tlen (pc := 4) S hD.2 dJx4a65c_grow_92f84_4 ?_
    refine g_istore_n (pc := 5) S [(2, .int (nI 0)), (0, .ref a), (1, .int (nI (0 + 1)))] dJx4a65c_grow_92f84_5 rfl (by decide) rfl ?_
    refine g_iload_n (pc := 6) S 0 dJx4a65c_grow_92f84_6 rfl rfl ?_
    refine g_if_gtN (pc := 7) S 20 dJx4a65c_grow_92f84_7 (by decide) (by decide) (fun h => absurd h (by decide)) (fun _ => ?_)
    refine g_aload_n (pc := 10) S 1 dJx4a65c_grow_92f84_10 rfl rfl ?_
    refine g_get (pc := 11) S hz (ref := "java/util/ArrayList") (v := .ref (zD Z)) hm i_RJx4a65c rfl 1 (Nat.le_of_ble_eq_true rfl) (by decide +kernel) (fun _ h => h) rfl dJx4a65c_grow_92f84_11 ?_
    refine g_getsR (pc := 14) S (ref := "java/util/ArrayList") hD.1 (by decide +kernel) (fun _ h => h) dJx4a65c_grow_92f84_14 ?_
    refine g_acmp_eqR (pc := 17) S 45 dJx4a65c_grow_92f84_17 (by decide) (fun _ => ?_) (fun h => absurd rfl h)
    refine g_aload_n (pc := 45) S 1 dJx4a65c_grow_92f84_45 rfl rfl ?_
    refine g_bipush (pc := 46) S (v := (nI 10)) dJx4a65c_grow_92f84_46 (by decide) ?_
    refine g_iload_n (pc := 48) S 2 dJx4a65c_grow_92f84_48 rfl rfl ?_
    refine g_max (pc := 49) S hml (by decide) (by decide) (by decide +kernel) (by decide +kernel) (by decide +kernel) (by decide +kernel) (Nat.le_of_ble_eq_true rfl) (Nat.le_of_ble_eq_true rfl) (Nat.zero_le _) (Nat.zero_le _) dJx4a65c_grow_92f84_49 ?_
    refine g_top (u := .int (nI 10)) rfl ?_
    refine g_anew (pc := 52) S hz (C := "java/lang/Object") (n := 10) (51, 1) (by decide +kernel) (hz.over (by decide +kernel)) (by decide) (by decide) hmc (by show 0 + 10 ≤ _; exact hms) dJx4a65c_grow_92f84_52 (fun b M2 f2 m2 => ?_)
    refine g_dup_x1 (pc := 55) S dJx4a65c_grow_92f84_55 rfl rfl ?_
    refine g_put (pc := 56) S hz (ref := "java/util/ArrayList") (r := r) (v := .ref b) (ty := .array (.object "java/lang/Object")) ((f2 _ hr1).trans hm) i_RJx4a65c tyJx4a65c tyJx4a65c_ok nmJx4a65c rfl 1 (Nat.le_of_ble_eq_true rfl) (by decide +kernel) (fun _ h => h) rfl (by decide +kernel) rfl rfl _ (Nat.le_of_ble_eq_true rfl) rfl dJx4a65c_grow_92f84_56 (fun M_1 f_2 m_3 => ?_)
    refine g_world (M2 := wmv M_1 (51, 1) q2) (fun H h => h.mv) ?_
    exact g_aretA (pc := 59) S hz hlo hr ⟨b, rfl, fun r2 z1 z2 z3 => by show (if r2 = q2 then _ else if r2 = (51, 1) then _ else _) = _; rw [if_neg z2, if_neg z3, f_2 r2 z1, f2 r2 z3], by show (if r = q2 then _ else if r = (51, 1) then _ else _) = _; rw [if_neg hrq, if_neg hr1]; exact m_3, by show (if q2 = q2 then _ else _) = _; rw [if_pos rfl, f_2 _ (Ne.symm hr1), m2]; rfl⟩ hmc (by show 0 + 10 ≤ _; (try simp only [Nat.zero_add]); exact hms) dJx4a65c_grow_92f84_59
  · have hmc : 1 ≤ 1 := Nat.le_refl _
    have hms : sz + max 1 (sz / 2) ≤ capN sz sz := by unfold capN; rw [if_pos rfl, if_neg (by omega)]; exact Nat.le_refl _
    refine g_aload_n (pc := 0) S 0 dJx4a65c_grow_92f84_0 rfl rfl ?_
    refine g_get (pc := 1) S hz (ref := "java/util/ArrayList") (v := .ref d) hm i_RJx4a65c rfl 1 (Nat.le_of_ble_eq_true rfl) (by decide +kernel) (fun _ h => h) rfl dJx4a65c_grow_92f84_1 ?_
    refine g_alen (pc := 4) S hz hq dJx4a65c_grow_92f84_4 ?_
    refine g_istore_n (pc := 5) S [(2, .int (nI sz)), (0, .ref a), (1, .int (nI (sz + 1)))] dJx4a65c_grow_92f84_5 rfl (by decide) rfl ?_
    refine g_iload_n (pc := 6) S 0 dJx4a65c_grow_92f84_6 rfl rfl ?_
    refine g_if_gtN (pc := 7) S 20 dJx4a65c_grow_92f84_7 (by decide) (by omega) (fun _ => ?_) (fun h => absurd hpos h)
    refine g_iload_n (pc := 20) S 0 dJx4a65c_grow_92f84_20 rfl rfl ?_
    refine g_iload_n (pc := 21) S 2 dJx4a65c_grow_92f84_21 rfl rfl ?_
    refine g_iload_n (pc := 22) S 0 dJx4a65c_grow_92f84_22 rfl rfl ?_
    refine g_isubN (pc := 23) S dJx4a65c_grow_92f84_23 (by omega) ?_
    refine g_top (u := .int (nI 1)) (congrArg (fun z => Value.int (nI z)) (by omega)) ?_
    refine g_iload_n (pc := 24) S 0 dJx4a65c_grow_92f84_24 rfl rfl ?_
    refine g_iconst (pc := 25) S (v := (nI 1)) dJx4a65c_grow_92f84_25 (by decide) ?_
    refine g_ishr (pc := 26) S dJx4a65c_grow_92f84_26 ?_
    refine g_top (u := .int (nI (sz / 2))) (congrArg Value.int (shr1 (by omega))) ?_
    refine g_callS (pc := 27) S hz hml [.int (nI sz), .int (nI 1), .int (nI (sz / 2))] (k_newLength Z l M sz 1 (sz / 2) (by omega) (by decide) (by omega) (Nat.le_refl _)) (va_cwS 3 S.2.2.2.2 gJx4a65c_grow_92f84_J8_newLength_cabcc rfl rfl rfl (by decide +kernel) ⟨Nat.le_of_ble_eq_true rfl, Nat.le_of_ble_eq_true rfl⟩) rfl rfl (Nat.le_of_ble_eq_true rfl) dJx4a65c_grow_92f84_27 ⟨Nat.zero_le _, Nat.zero_le _⟩ (fun _ _ h => h.elim) (fun v_6 M_5 h_4 => ?_)
    obtain ⟨rfl, rfl⟩ := h_4
    refine g_istore_n (pc := 30) S [(3, .int (nI (sz + max 1 (sz / 2)))), (2, .int (nI sz)), (0, .ref a), (1, .int (nI (sz + 1)))] dJx4a65c_grow_92f84_30 rfl (by decide) rfl ?_
    refine g_aload_n (pc := 31) S 2 dJx4a65c_grow_92f84_31 rfl rfl ?_
    refine g_aload_n (pc := 32) S 2 dJx4a65c_grow_92f84_32 rfl rfl ?_
    refine g_get (pc := 33) S hz (ref := "java/util/ArrayList") (v := .ref d) hm i_RJx4a65c rfl 1 (Nat.le_of_ble_eq_true rfl) (by decide +kernel) (fun _ h => h) rfl dJx4a65c_grow_92f84_33 ?_
    refine g_iload_n (pc := 36) S 0 dJx4a65c_grow_92f84_36 rfl rfl ?_
    refine g_callS (pc := 37) S hz hml [.ref d, .int (nI (sz + max 1 (sz / 2)))] (k_copyO Z l M q2 (51, 1) d sz (sz + max 1 (sz / 2)) f hq hq1 (by omega) (by omega) hel hfn) (va_cwS 2 S.2.2.2.2 gJx4a65c_grow_92f84_J7_copyOf_1904c rfl rfl rfl (by decide +kernel) ⟨Nat.le_of_ble_eq_true rfl, Nat.le_of_ble_eq_true rfl⟩) rfl rfl (Nat.le_of_ble_eq_true rfl) dJx4a65c_grow_92f84_37 ⟨by show 0 + 0 + 1 ≤ _; exact hmc, by show 0 + 0 + (sz + max 1 (sz / 2)) ≤ capN sz sz; simp only [Nat.zero_add]; exact hms⟩ (fun _ _ h => h.elim) (fun v_9 M_8 h_7 => ?_)
    obtain ⟨b, rfl, f2, m2⟩ := h_7
    refine g_dup_x1 (pc := 40) S dJx4a65c_grow_92f84_40 rfl rfl ?_
    refine g_put (pc := 41) S hz (ref := "java/util/ArrayList") (r := r) (v := .ref b) (ty := .array (.object "java/lang/Object")) ((f2 _ hr1).trans hm) i_RJx4a65c tyJx4a65c tyJx4a65c_ok nmJx4a65c rfl 1 (Nat.le_of_ble_eq_true rfl) (by decide +kernel) (fun _ h => h) rfl (by decide +kernel) rfl rfl _ (Nat.le_of_ble_eq_true rfl) rfl dJx4a65c_grow_92f84_41 (fun M_10 f_11 m_12 => ?_)
    refine g_world (M2 := wmv M_10 (51, 1) q2) (fun H h => h.mv) ?_
    exact g_aretA (pc := 44) S hz hlo hr ⟨b, rfl, fun r2 z1 z2 z3 => by show (if r2 = q2 then _ else if r2 = (51, 1) then _ else _) = _; rw [if_neg z2, if_neg z3, f_11 r2 z1, f2 r2 z3], by show (if r = q2 then _ else if r = (51, 1) then _ else _) = _; rw [if_neg hrq, if_neg hr1]; exact m_12, by show (if q2 = q2 then _ else _) = _; rw [if_pos rfl, f_11 _ (Ne.symm hr1), m2]; unfold capN; rw [if_pos rfl, if_neg (by omega)]⟩ hmc (by show 0 + 0 + (sz + max 1 (sz / 2)) ≤ _; (try simp only [Nat.zero_add]); exact hms) dJx4a65c_grow_92f84_44
set_option maxHeartbeats 4000000 in
set_option maxRecDepth 100000 in
theorem k_grow0 (Z : Zp) (l : Launch) (M : Wd) (r : Role) (a d md sz : Nat) (hm : M r = some (a, .inr (4, [.int (nI md), .ref d, .int (nI sz)]))) (q2 : Role) (cap : Nat) (f : Nat → Option Nat) (hq : (cap = 0 ∧ d = zD Z) ∨ (0 < cap ∧ M q2 = some (d, aR "java/lang/Object" cap f))) (hsz : sz ≤ cap) (hcap : cap ≤ 2 ^ 24) (hfn : ∀ i, sz ≤ i → f i = none) (hel : ∀ i, i < sz → ∀ y : Nat, f i = some y → ∃ (rr : Role) (vs : List Value), rr ≠ (51, 1) ∧ M rr = some (y, .inr (5, vs))) (hrq : r ≠ q2) (hr1 : r ≠ (51, 1)) (hq1 : q2 ≠ (51, 1)) (hfull : sz = cap) : Ct Z l yJx4a65c_grow_d5877 wsJx4a65c_grow_d5877 ({ frames := 4, cells := 1, slots := (capN cap sz), locals := 131 }) [.ref a] M 1 (capN cap sz) (fun v M2 => ∃ b2 : Nat, v = some (.ref b2) ∧ (∀ r2 : Role, r2 ≠ r → r2 ≠ q2 → r2 ≠ (51, 1) → M2 r2 = M r2) ∧ M2 r = some (a, .inr (4, [.int (nI md), .ref b2, .int (nI sz)])) ∧ M2 q2 = some (b2, aR "java/lang/Object" (capN cap sz) f)) (fun _ _ => False) := by
  refine Ct.of (cc := cJx4a65c_grow_d5877) (maxL := 1) (ret := (some (.array (.object "java/lang/Object")))) (by decide) rfl (Nat.le_of_ble_eq_true rfl) ?_
  intro p_ e_ s_ m_ args_ below_ meth_ c_ S hz hml hex hlo hr hin
  refine g_loc (L2 := [(0, .ref a)]) rfl ?_
  have i_RJx4a65c : ∀ w ∈ u_ws RJx4a65c TJx4a65c 3, w ∈ wsJx4a65c_grow_d5877 := by decide +kernel
  refine g_aload_n (pc := 0) S 0 dJx4a65c_grow_d5877_0 rfl rfl ?_
  refine g_aload_n (pc := 1) S 0 dJx4a65c_grow_d5877_1 rfl rfl ?_
  refine g_get (pc := 2) S hz (ref := "java/util/ArrayList") (v := .int (nI sz)) hm i_RJx4a65c rfl 2 (Nat.le_of_ble_eq_true rfl) (by decide +kernel) (fun _ h => h) rfl dJx4a65c_grow_d5877_2 ?_
  refine g_iconst (pc := 5) S (v := (nI 1)) dJx4a65c_grow_d5877_5 (by decide) ?_
  refine g_iaddN (pc := 6) S dJx4a65c_grow_d5877_6 ?_
  refine g_callV (pc := 7) S hz hml [.int (nI (sz + 1))] (k_grow Z l M r a d md sz hm q2 cap f hq hsz hcap hfn hel hrq hr1 hq1 hfull) (cwV 1 S.2.2.2.2 gJx4a65c_grow_d5877_Jx4a65c_grow_92f84 rfl rfl rfl (by decide +kernel) ⟨Nat.le_of_ble_eq_true rfl, Nat.le_of_ble_eq_true rfl⟩) hm rfl rfl rfl (Nat.le_of_ble_eq_true rfl) dJx4a65c_grow_d5877_7 ⟨Nat.le_refl _, Nat.le_of_eq (Nat.zero_add _)⟩ (fun _ _ h => h.elim) (fun v_3 M_2 h_1 => ?_)
  obtain ⟨b2, rfl, h⟩ := h_1
  exact g_aretA (pc := 10) S hz hlo hr ⟨b2, rfl, h⟩ (Nat.le_refl _) (Nat.le_of_eq (Nat.zero_add _)) dJx4a65c_grow_d5877_10
set_option maxHeartbeats 4000000 in
set_option maxRecDepth 100000 in
theorem k_add3 (Z : Zp) (l : Launch) (M : Wd) (r : Role) (a d md sz : Nat) (hm : M r = some (a, .inr (4, [.int (nI md), .ref d, .int (nI sz)]))) (q2 : Role) (cap : Nat) (f : Nat → Option Nat) (hq : (cap = 0 ∧ d = zD Z) ∨ (0 < cap ∧ M q2 = some (d, aR "java/lang/Object" cap f))) (hsz : sz ≤ cap) (hcap : cap ≤ 2 ^ 24) (hfn : ∀ i, sz ≤ i → f i = none) (hel : ∀ i, i < sz → ∀ y : Nat, f i = some y → ∃ (rr : Role) (vs : List Value), rr ≠ (51, 1) ∧ M rr = some (y, .inr (5, vs))) (hrq : r ≠ q2) (hr1 : r ≠ (51, 1)) (hq1 : q2 ≠ (51, 1)) (rv : Role) (y : Nat) (vs : List Value) (hv : M rv = some (y, .inr (5, vs))) (hv1 : rv ≠ (51, 1)) (hv2 : rv ≠ q2) (hv3 : rv ≠ r) (mc ms : Nat) (hms : sz = cap → 1 ≤ mc ∧ capN cap sz ≤ ms) : Ct Z l yJx4a65c_add_72be8 wsJx4a65c_add_72be8 ({ frames := 5, cells := mc, slots := ms, locals := 151 }) [.ref a, .ref y, .ref d, .int (nI sz)] M mc ms (fun v M2 => none = v ∧ ∃ d2 : Nat, (∀ r2 : Role, r2 ≠ r → r2 ≠ q2 → r2 ≠ (51, 1) → M2 r2 = M r2) ∧ M2 r = some (a, .inr (4, [.int (nI md), .ref d2, .int (nI (sz + 1))])) ∧ M2 q2 = some (d2, aR "java/lang/Object" (capN cap sz) (upN f sz (some y)))) (fun _ _ => False) := by
  refine Ct.of (cc := cJx4a65c_add_72be8) (maxL := 4) (ret := none) (by decide) rfl (Nat.le_of_ble_eq_true rfl) ?_
  intro p_ e_ s_ m_ args_ below_ meth_ c_ S hz hml hex hlo hr hin
  refine g_loc (L2 := [(0, .ref a), (1, .ref y), (2, .ref d), (3, .int (nI sz))]) rfl ?_
  have i_RJx4a65c : ∀ w ∈ u_ws RJx4a65c TJx4a65c 3, w ∈ wsJx4a65c_add_72be8 := by decide +kernel
  have hD := hz.zDe
  have hq0 := hq
  by_cases hfull : sz = cap
  · have hlt : sz < capN cap sz := by unfold capN; rw [if_pos hfull]; split <;> omega
    have hcl : capN cap sz < 2 ^ 31 := by unfold capN; rw [if_pos hfull]; split <;> omega
    rcases hq with ⟨h0, rfl⟩ | ⟨hpos, hq⟩
    · subst h0
      refine g_iload_n (pc := 0) S 3 dJx4a65c_add_72be8_0 rfl rfl ?_
      refine g_aload_n (pc := 1) S 2 dJx4a65c_add_72be8_1 rfl rfl ?_
      refine g_tlen (pc := 2) S hD.2 dJx4a65c_add_72be8_2 ?_
      refine g_icmp_neN (pc := 3) S 11 dJx4a65c_add_72be8_3 (by decide) (by omega) (by omega) (fun h => absurd hfull h) (fun _ => ?_)
      refine g_aload_n (pc := 6) S 0 dJx4a65c_add_72be8_6 rfl rfl ?_
      refine g_callV (pc := 7) S hz hml [] (k_grow0 Z l M r a (zD Z) md sz hm q2 0 f hq0 hsz hcap hfn hel hrq hr1 hq1 hfull) (cwV 0 S.2.2.2.2 gJx4a65c_add_72be8_Jx4a65c_grow_d5877 rfl rfl rfl (by decide +kernel) ⟨Nat.le_of_ble_eq_true rfl, Nat.le_of_ble_eq_true rfl⟩) hm rfl rfl rfl (Nat.le_of_ble_eq_true rfl) dJx4a65c_add_72be8_7 ⟨(hms hfull).1, by show 0 + capN 0 sz ≤ ms; rw [Nat.zero_add]; exact (hms hfull).2⟩ (fun _ _ h => h.elim) (fun v_3 M_2 h_1 => ?_)
      obtain ⟨d2, rfl, f2, m2, q3⟩ := h_1
      refine g_astore_n (pc := 10) S [(2, .ref d2), (0, .ref a), (1, .ref y), (3, .int (nI sz))] dJx4a65c_add_72be8_10 rfl (by decide) rfl ?_
      refine g_aload_n (pc := 11) S 0 dJx4a65c_add_72be8_11 rfl rfl ?_
      refine g_iload_n (pc := 12) S 3 dJx4a65c_add_72be8_12 rfl rfl ?_
      refine g_aload_n (pc := 13) S 2 dJx4a65c_add_72be8_13 rfl rfl ?_
      refine g_aastO (pc := 14) S hz (C := "SpoolFarm$Entry") (ci := 5) q3 ((f2 rv hv3 hv2 hv1).trans hv) rfl (hz.word (by decide +kernel) (by decide +kernel)) hlt hcl dJx4a65c_add_72be8_14 (fun M8 f8 m8 => ?_)
      refine g_aload_n (pc := 15) S 1 dJx4a65c_add_72be8_15 rfl rfl ?_
      refine g_iload_n (pc := 16) S 3 dJx4a65c_add_72be8_16 rfl rfl ?_
      refine g_iconst (pc := 17) S (v := (nI 1)) dJx4a65c_add_72be8_17 (by decide) ?_
      refine g_iaddN (pc := 18) S dJx4a65c_add_72be8_18 ?_
      refine g_put (pc := 19) S hz (ref := "java/util/ArrayList") (r := r) (v := .int (nI (sz + 1))) (ty := .int) ((f8 _ hrq).trans m2) i_RJx4a65c tyJx4a65c tyJx4a65c_ok nmJx4a65c rfl 2 (Nat.le_of_ble_eq_true rfl) (by decide +kernel) (fun _ h => h) rfl (by decide +kernel) rfl rfl _ (Nat.le_of_ble_eq_true rfl) rfl dJx4a65c_add_72be8_19 (fun M_4 f_5 m_6 => ?_)
      exact g_vret (pc := 22) S hz hlo hr ⟨rfl, d2, fun r2 z1 z2 z3 => by rw [f_5 r2 z1, f8 r2 z2, f2 r2 z1 z2 z3], m_6, (f_5 q2 (Ne.symm hrq)).trans m8⟩ (hms hfull).1 (by show 0 + capN 0 sz ≤ ms; rw [Nat.zero_add]; exact (hms hfull).2) dJx4a65c_add_72be8_22
    · refine g_iload_n (pc := 0) S 3 dJx4a65c_add_72be8_0 rfl rfl ?_
      refine g_aload_n (pc := 1) S 2 dJx4a65c_add_72be8_1 rfl rfl ?_
      refine g_alen (pc := 2) S hz hq dJx4a65c_add_72be8_2 ?_
      refine g_icmp_neN (pc := 3) S 11 dJx4a65c_add_72be8_3 (by decide) (by omega) (by omega) (fun h => absurd hfull h) (fun _ => ?_)
      refine g_aload_n (pc := 6) S 0 dJx4a65c_add_72be8_6 rfl rfl ?_
      refine g_callV (pc := 7) S hz hml [] (k_grow0 Z l M r a d md sz hm q2 cap f hq0 hsz hcap hfn hel hrq hr1 hq1 hfull) (cwV 0 S.2.2.2.2 gJx4a65c_add_72be8_Jx4a65c_grow_d5877 rfl rfl rfl (by decide +kernel) ⟨Nat.le_of_ble_eq_true rfl, Nat.le_of_ble_eq_true rfl⟩) hm rfl rfl rfl (Nat.le_of_ble_eq_true rfl) dJx4a65c_add_72be8_7 ⟨(hms hfull).1, by show 0 + capN cap sz ≤ ms; rw [Nat.zero_add]; exact (hms hfull).2⟩ (fun _ _ h => h.elim) (fun v_9 M_8 h_7 => ?_)
      obtain ⟨d2, rfl, f2, m2, q3⟩ := h_7
      refine g_astore_n (pc := 10) S [(2, .ref d2), (0, .ref a), (1, .ref y), (3, .int (nI sz))] dJx4a65c_add_72be8_10 rfl (by decide) rfl ?_
      refine g_aload_n (pc := 11) S 0 dJx4a65c_add_72be8_11 rfl rfl ?_
      refine g_iload_n (pc := 12) S 3 dJx4a65c_add_72be8_12 rfl rfl ?_
      refine g_aload_n (pc := 13) S 2 dJx4a65c_add_72be8_13 rfl rfl ?_
      refine g_aastO (pc := 14) S hz (C := "SpoolFarm$Entry") (ci := 5) q3 ((f2 rv hv3 hv2 hv1).trans hv) rfl (hz.word (by decide +kernel) (by decide +kernel)) hlt hcl dJx4a65c_add_72be8_14 (fun M8 f8 m8 => ?_)
      refine g_aload_n (pc := 15) S 1 dJx4a65c_add_72be8_15 rfl rfl ?_
      refine g_iload_n (pc := 16) S 3 dJx4a65c_add_72be8_16 rfl rfl ?_
      refine g_iconst (pc := 17) S (v := (nI 1)) dJx4a65c_add_72be8_17 (by decide) ?_
      refine g_iaddN (pc := 18) S dJx4a65c_add_72be8_18 ?_
      refine g_put (pc := 19) S hz (ref := "java/util/ArrayList") (r := r) (v := .int (nI (sz + 1))) (ty := .int) ((f8 _ hrq).trans m2) i_RJx4a65c tyJx4a65c tyJx4a65c_ok nmJx4a65c rfl 2 (Nat.le_of_ble_eq_true rfl) (by decide +kernel) (fun _ h => h) rfl (by decide +kernel) rfl rfl _ (Nat.le_of_ble_eq_true rfl) rfl dJx4a65c_add_72be8_19 (fun M_10 f_11 m_12 => ?_)
      exact g_vret (pc := 22) S hz hlo hr ⟨rfl, d2, fun r2 z1 z2 z3 => by rw [f_11 r2 z1, f8 r2 z2, f2 r2 z1 z2 z3], m_12, (f_11 q2 (Ne.symm hrq)).trans m8⟩ (hms hfull).1 (by show 0 + capN cap sz ≤ ms; rw [Nat.zero_add]; exact (hms hfull).2) dJx4a65c_add_72be8_22
  · obtain ⟨hpos, hq⟩ := hq.resolve_left (fun z => by omega)
    have hlt : sz < cap := by omega
    have hcl : cap < 2 ^ 31 := by omega
    refine g_iload_n (pc := 0) S 3 dJx4a65c_add_72be8_0 rfl rfl ?_
    refine g_aload_n (pc := 1) S 2 dJx4a65c_add_72be8_1 rfl rfl ?_
    refine g_alen (pc := 2) S hz hq dJx4a65c_add_72be8_2 ?_
    refine g_icmp_neN (pc := 3) S 11 dJx4a65c_add_72be8_3 (by decide) (by omega) (by omega) (fun _ => ?_) (fun h => absurd h hfull)
    refine g_aload_n (pc := 11) S 2 dJx4a65c_add_72be8_11 rfl rfl ?_
    refine g_iload_n (pc := 12) S 3 dJx4a65c_add_72be8_12 rfl rfl ?_
    refine g_aload_n (pc := 13) S 1 dJx4a65c_add_72be8_13 rfl rfl ?_
    refine g_aastO (pc := 14) S hz (C := "SpoolFarm$Entry") (ci := 5) hq hv rfl (hz.word (by decide +kernel) (by decide +kernel)) hlt hcl dJx4a65c_add_72be8_14 (fun M8 f8 m8 => ?_)
    refine g_aload_n (pc := 15) S 0 dJx4a65c_add_72be8_15 rfl rfl ?_
    refine g_iload_n (pc := 16) S 3 dJx4a65c_add_72be8_16 rfl rfl ?_
    refine g_iconst (pc := 17) S (v := (nI 1)) dJx4a65c_add_72be8_17 (by decide) ?_
    refine g_iaddN (pc := 18) S dJx4a65c_add_72be8_18 ?_
    refine g_put (pc := 19) S hz (ref := "java/util/ArrayList") (r := r) (v := .int (nI (sz + 1))) (ty := .int) ((f8 _ hrq).trans hm) i_RJx4a65c tyJx4a65c tyJx4a65c_ok nmJx4a65c rfl 2 (Nat.le_of_ble_eq_true rfl) (by decide +kernel) (fun _ h => h) rfl (by decide +kernel) rfl rfl _ (Nat.le_of_ble_eq_true rfl) rfl dJx4a65c_add_72be8_19 (fun M_13 f_14 m_15 => ?_)
    exact g_vret (pc := 22) S hz hlo hr ⟨rfl, d, fun r2 z1 z2 z3 => by rw [f_14 r2 z1, f8 r2 z2], m_15, by rw [f_14 q2 (Ne.symm hrq), m8]; unfold capN; rw [if_neg hfull]⟩ (Nat.zero_le _) (Nat.zero_le _) dJx4a65c_add_72be8_22
set_option maxHeartbeats 4000000 in
set_option maxRecDepth 100000 in
theorem k_add (Z : Zp) (l : Launch) (M : Wd) (r : Role) (a d md sz : Nat) (hm : M r = some (a, .inr (4, [.int (nI md), .ref d, .int (nI sz)]))) (q2 : Role) (cap : Nat) (f : Nat → Option Nat) (hq : (cap = 0 ∧ d = zD Z) ∨ (0 < cap ∧ M q2 = some (d, aR "java/lang/Object" cap f))) (hsz : sz ≤ cap) (hcap : cap ≤ 2 ^ 24) (hfn : ∀ i, sz ≤ i → f i = none) (hel : ∀ i, i < sz → ∀ y : Nat, f i = some y → ∃ (rr : Role) (vs : List Value), rr ≠ (51, 1) ∧ M rr = some (y, .inr (5, vs))) (hrq : r ≠ q2) (hr1 : r ≠ (51, 1)) (hq1 : q2 ≠ (51, 1)) (rv : Role) (y : Nat) (vs : List Value) (hv : M rv = some (y, .inr (5, vs))) (hv1 : rv ≠ (51, 1)) (hv2 : rv ≠ q2) (hv3 : rv ≠ r) (mc ms : Nat) (hms : sz = cap → 1 ≤ mc ∧ capN cap sz ≤ ms) : Ct Z l yJx4a65c_add_9ea2d wsJx4a65c_add_9ea2d ({ frames := 6, cells := mc, slots := ms, locals := 174 }) [.ref a, .ref y] M mc ms (fun v M2 => some (.int (nI 1)) = v ∧ ∃ d2 : Nat, (∀ r2 : Role, r2 ≠ r → r2 ≠ q2 → r2 ≠ (51, 1) → M2 r2 = M r2) ∧ M2 r = some (a, .inr (4, [.int (nI (md + 1)), .ref d2, .int (nI (sz + 1))])) ∧ M2 q2 = some (d2, aR "java/lang/Object" (capN cap sz) (upN f sz (some y)))) (fun _ _ => False) := by
  refine Ct.of (cc := cJx4a65c_add_9ea2d) (maxL := 2) (ret := (some .boolean)) (by decide) rfl (Nat.le_of_ble_eq_true rfl) ?_
  intro p_ e_ s_ m_ args_ below_ meth_ c_ S hz hml hex hlo hr hin
  refine g_loc (L2 := [(0, .ref a), (1, .ref y)]) rfl ?_
  have i_RJx4a65c : ∀ w ∈ u_ws RJx4a65c TJx4a65c 3, w ∈ wsJx4a65c_add_9ea2d := by decide +kernel
  refine g_aload_n (pc := 0) S 0 dJx4a65c_add_9ea2d_0 rfl rfl ?_
  refine g_dup (pc := 1) S dJx4a65c_add_9ea2d_1 rfl ?_
  refine g_get (pc := 2) S hz (ref := "java/util/ArrayList") (v := .int (nI md)) hm i_RJx4a65c rfl 0 (Nat.le_of_ble_eq_true rfl) (by decide +kernel) (u_same (S.2.2.2.2 (Cond.sameField "java/util/ArrayList" "java/util/AbstractList" "modCount" "I") (by decide +kernel))) rfl dJx4a65c_add_9ea2d_2 ?_
  refine g_iconst (pc := 5) S (v := (nI 1)) dJx4a65c_add_9ea2d_5 (by decide) ?_
  refine g_iaddN (pc := 6) S dJx4a65c_add_9ea2d_6 ?_
  refine g_put (pc := 7) S hz (ref := "java/util/ArrayList") (r := r) (v := .int (nI (md + 1))) (ty := .int) hm i_RJx4a65c tyJx4a65c tyJx4a65c_ok nmJx4a65c rfl 0 (Nat.le_of_ble_eq_true rfl) (by decide +kernel) (u_same (S.2.2.2.2 (Cond.sameField "java/util/ArrayList" "java/util/AbstractList" "modCount" "I") (by decide +kernel))) rfl (by decide +kernel) rfl rfl _ (Nat.le_of_ble_eq_true rfl) rfl dJx4a65c_add_9ea2d_7 (fun M_1 f_2 m_3 => ?_)
  refine g_aload_n (pc := 10) S 0 dJx4a65c_add_9ea2d_10 rfl rfl ?_
  refine g_aload_n (pc := 11) S 1 dJx4a65c_add_9ea2d_11 rfl rfl ?_
  refine g_aload_n (pc := 12) S 0 dJx4a65c_add_9ea2d_12 rfl rfl ?_
  refine g_get (pc := 13) S hz (ref := "java/util/ArrayList") (v := .ref d) m_3 i_RJx4a65c rfl 1 (Nat.le_of_ble_eq_true rfl) (by decide +kernel) (fun _ h => h) rfl dJx4a65c_add_9ea2d_13 ?_
  refine g_aload_n (pc := 16) S 0 dJx4a65c_add_9ea2d_16 rfl rfl ?_
  refine g_get (pc := 17) S hz (ref := "java/util/ArrayList") (v := .int (nI sz)) m_3 i_RJx4a65c rfl 2 (Nat.le_of_ble_eq_true rfl) (by decide +kernel) (fun _ h => h) rfl dJx4a65c_add_9ea2d_17 ?_
  refine g_callV (pc := 20) S hz hml [.ref y, .ref d, .int (nI sz)] (k_add3 Z l M_1 r a d (md + 1) sz m_3 q2 cap f (hq.imp id (fun z => ⟨z.1, (f_2 _ (Ne.symm hrq)).trans z.2⟩)) hsz hcap hfn (fun i hi y hy => by obtain ⟨rr, vs, g1, g2⟩ := hel i hi y hy; exact ⟨rr, vs, g1, (f_2 _ (fun z => by rw [z, hm] at g2; cases g2)).trans g2⟩) hrq hr1 hq1 rv y vs ((f_2 _ hv3).trans hv) hv1 hv2 hv3 mc ms hms) (cwV 3 S.2.2.2.2 gJx4a65c_add_9ea2d_Jx4a65c_add_72be8 rfl rfl rfl (by decide +kernel) ⟨Nat.le_of_ble_eq_true rfl, Nat.le_of_ble_eq_true rfl⟩) m_3 rfl rfl rfl (Nat.le_of_ble_eq_true rfl) dJx4a65c_add_9ea2d_20 ⟨Nat.le_of_eq (Nat.zero_add _), Nat.le_of_eq (Nat.zero_add _)⟩ (fun _ _ h => h.elim) (fun v_6 M_5 h_4 => ?_)
  obtain ⟨rfl, d2, f2, m2, q3⟩ := h_4
  refine g_iconst (pc := 23) S (v := (nI 1)) dJx4a65c_add_9ea2d_23 (by decide) ?_
  exact g_zret (pc := 24) S hz hlo (nar_z (by decide)) hr ⟨rfl, d2, fun r2 z1 z2 z3 => by rw [f2 r2 z1 z2 z3, f_2 r2 z1], m2, q3⟩ (Nat.le_of_eq (Nat.zero_add _)) (Nat.le_of_eq (Nat.zero_add _)) dJx4a65c_add_9ea2d_24
set_option maxHeartbeats 4000000 in
set_option maxRecDepth 100000 in
theorem k_colInit (Z : Zp) (l : Launch) (M : Wd) (r : Role) (a : Nat) (hm : M r = some (a, .inr (4, [.int (nI 0), .null, .int (nI 0)]))) : Ct Z l yJxa1e45_init_da8c8 wsJxa1e45_init_da8c8 ({ frames := 1, cells := 0, slots := 0, locals := 20 }) [.ref a] M 0 0 (fun v M2 => none = v ∧ (∀ r2 : Role, r2 ≠ r → M2 r2 = M r2) ∧ M2 r = some (a, .inr (4, [.int (nI 0), .null, .int (nI 0)]))) (fun _ _ => False) := by
  refine Ct.of (cc := cJxa1e45_init_da8c8) (maxL := 1) (ret := none) (by decide) rfl (Nat.le_of_ble_eq_true rfl) ?_
  intro p_ e_ s_ m_ args_ below_ meth_ c_ S hz hml hex hlo hr hin
  refine g_loc (L2 := [(0, .ref a)]) rfl ?_
  refine g_aload_n (pc := 0) S 0 dJxa1e45_init_da8c8_0 rfl rfl ?_
  refine g_objInit (pc := 1) S hml (by decide +kernel) (by decide +kernel) (by decide +kernel) dJxa1e45_init_da8c8_1 (Nat.le_of_ble_eq_true rfl) (Nat.le_of_ble_eq_true rfl) ?_
  exact g_vret (pc := 4) S hz hlo hr ⟨rfl, fun r2 z1 => rfl, hm⟩ (Nat.le_of_ble_eq_true rfl) (Nat.le_of_ble_eq_true rfl) dJxa1e45_init_da8c8_4
set_option maxHeartbeats 4000000 in
set_option maxRecDepth 100000 in
theorem k_alInit (Z : Zp) (l : Launch) (M : Wd) (r : Role) (a : Nat) (hm : M r = some (a, .inr (4, [.int (nI 0), .null, .int (nI 0)]))) : Ct Z l yJxc12de_init_da8c8 wsJxc12de_init_da8c8 ({ frames := 2, cells := 0, slots := 0, locals := 40 }) [.ref a] M 0 0 (fun v M2 => none = v ∧ (∀ r2 : Role, r2 ≠ r → M2 r2 = M r2) ∧ M2 r = some (a, .inr (4, [.int (nI 0), .null, .int (nI 0)]))) (fun _ _ => False) := by
  refine Ct.of (cc := cJxc12de_init_da8c8) (maxL := 1) (ret := none) (by decide) rfl (Nat.le_of_ble_eq_true rfl) ?_
  intro p_ e_ s_ m_ args_ below_ meth_ c_ S hz hml hex hlo hr hin
  refine g_loc (L2 := [(0, .ref a)]) rfl ?_
  have i_RJx4a65c : ∀ w ∈ u_ws RJx4a65c TJx4a65c 3, w ∈ wsJxc12de_init_da8c8 := by decide +kernel
  refine g_aload_n (pc := 0) S 0 dJxc12de_init_da8c8_0 rfl rfl ?_
  refine g_callI (pc := 1) S hz hml [] (k_colInit Z l M r a hm) (cwI 0 S.2.2.2.2 gJxc12de_init_da8c8_Jxa1e45_init_da8c8 rfl rfl rfl (S.2.2.2.2 _ (by decide +kernel)) (S.2.2.2.2 _ (by decide +kernel)) (S.2.2.2.2 _ (by decide +kernel)) rfl (by decide +kernel) ⟨Nat.le_of_ble_eq_true rfl, Nat.le_of_ble_eq_true rfl⟩) rfl rfl (Nat.le_of_ble_eq_true rfl) dJxc12de_init_da8c8_1 ⟨Nat.le_of_ble_eq_true rfl, Nat.le_of_ble_eq_true rfl⟩ (fun v_3 M_2 h_1 => ?_)
  obtain ⟨rfl, f2, m2⟩ := h_1
  refine g_aload_n (pc := 4) S 0 dJxc12de_init_da8c8_4 rfl rfl ?_
  refine g_iconst (pc := 5) S (v := (nI 0)) dJxc12de_init_da8c8_5 (by decide) ?_
  refine g_put (pc := 6) S hz (ref := "java/util/AbstractList") (r := r) (v := .int (nI 0)) (ty := .int) m2 i_RJx4a65c tyJx4a65c tyJx4a65c_ok nmJx4a65c rfl 0 (Nat.le_of_ble_eq_true rfl) (by decide +kernel) (fun _ h => h) rfl (by decide +kernel) rfl rfl _ (Nat.le_of_ble_eq_true rfl) rfl dJxc12de_init_da8c8_6 (fun M_4 f_5 m_6 => ?_)
  exact g_vret (pc := 9) S hz hlo hr ⟨rfl, fun r2 z1 => by rw [f_5 r2 z1, f2 r2 z1], m_6⟩ (Nat.le_of_ble_eq_true rfl) (Nat.le_of_ble_eq_true rfl) dJxc12de_init_da8c8_9
set_option maxHeartbeats 4000000 in
set_option maxRecDepth 100000 in
theorem k_listInit (Z : Zp) (l : Launch) (M : Wd) (r : Role) (a : Nat) (hm : M r = some (a, .inr (4, [.int (nI 0), .null, .int (nI 0)]))) : Ct Z l yJx4a65c_init_da8c8 wsJx4a65c_init_da8c8 ({ frames := 3, cells := 0, slots := 0, locals := 60 }) [.ref a] M 0 0 (fun v M2 => none = v ∧ (∀ r2 : Role, r2 ≠ r → M2 r2 = M r2) ∧ M2 r = some (a, .inr (4, [.int (nI 0), .ref (zD Z), .int (nI 0)]))) (fun _ _ => False) := by
  refine Ct.of (cc := cJx4a65c_init_da8c8) (maxL := 1) (ret := none) (by decide) rfl (Nat.le_of_ble_eq_true rfl) ?_
  intro p_ e_ s_ m_ args_ below_ meth_ c_ S hz hml hex hlo hr hin
  refine g_loc (L2 := [(0, .ref a)]) rfl ?_
  have i_RJx4a65c : ∀ w ∈ u_ws RJx4a65c TJx4a65c 3, w ∈ wsJx4a65c_init_da8c8 := by decide +kernel
  refine g_aload_n (pc := 0) S 0 dJx4a65c_init_da8c8_0 rfl rfl ?_
  refine g_callI (pc := 1) S hz hml [] (k_alInit Z l M r a hm) (cwI 0 S.2.2.2.2 gJx4a65c_init_da8c8_Jxc12de_init_da8c8 rfl rfl rfl (S.2.2.2.2 _ (by decide +kernel)) (S.2.2.2.2 _ (by decide +kernel)) (S.2.2.2.2 _ (by decide +kernel)) rfl (by decide +kernel) ⟨Nat.le_of_ble_eq_true rfl, Nat.le_of_ble_eq_true rfl⟩) rfl rfl (Nat.le_of_ble_eq_true rfl) dJx4a65c_init_da8c8_1 ⟨Nat.le_of_ble_eq_true rfl, Nat.le_of_ble_eq_true rfl⟩ (fun v_3 M_2 h_1 => ?_)
  obtain ⟨rfl, f2, m2⟩ := h_1
  refine g_aload_n (pc := 4) S 0 dJx4a65c_init_da8c8_4 rfl rfl ?_
  refine g_getsR (pc := 5) S (ref := "java/util/ArrayList") hz.zDe.1 (by decide +kernel) (fun _ h => h) dJx4a65c_init_da8c8_5 ?_
  refine g_put (pc := 8) S hz (ref := "java/util/ArrayList") (r := r) (v := .ref (zD Z)) (ty := .array (.object "java/lang/Object")) m2 i_RJx4a65c tyJx4a65c tyJx4a65c_ok nmJx4a65c rfl 1 (Nat.le_of_ble_eq_true rfl) (by decide +kernel) (fun _ h => h) rfl (by decide +kernel) rfl rfl _ (Nat.le_of_ble_eq_true rfl) rfl dJx4a65c_init_da8c8_8 (fun M_4 f_5 m_6 => ?_)
  exact g_vret (pc := 11) S hz hlo hr ⟨rfl, fun r2 z1 => by rw [f_5 r2 z1, f2 r2 z1], m_6⟩ (Nat.le_of_ble_eq_true rfl) (Nat.le_of_ble_eq_true rfl) dJx4a65c_init_da8c8_11
