set_option maxHeartbeats 4000000 in
/-- StringBuilder.append(int), below 1000 -/
theorem k_appI4 (Z : Zp) (l : Launch) (M : Wd) (r q : Role) (a b x n cap v mc ms : Nat) (g : Nat → Nat) (hm : M r = some (a, .inr (1, [.ref b, .int (nI 0), .int (nI x), .int (nI n)]))) (hq : M q = some (b, aN .byte cap g)) (hrq : r ≠ q) (hr1 : r ≠ (51, 0)) (hq1 : q ≠ (51, 0)) (hv : v < 1000) (hc : cap ≤ 20000) (hn : n ≤ 10000) (hb : ∀ j : Nat, j < cap → g j < 128) (hmc : cap < n + sb_dg v → 1 ≤ mc ∧ cap + max (n + sb_dg v - cap) (cap + 2) ≤ ms) (hnc : n ≤ cap) : Ct Z l yJ4_append_bf812 wsJ4_append_bf812 ({ frames := 6, cells := mc, slots := ms, locals := 260 }) [.ref a, .int (nI v)] M mc ms (fun w M2 => some (.ref a) = w ∧ ∃ (b2 cap2 : Nat) (g2 : Nat → Nat), (∀ r2 : Role, r2 ≠ r → r2 ≠ q → r2 ≠ (51, 0) → M2 r2 = M r2) ∧ M2 r = some (a, .inr (1, [.ref b2, .int (nI 0), .int (nI x), .int (nI (n + sb_dg v))])) ∧ M2 q = some (b2, aN .byte cap2 (digN n v g2)) ∧ n + sb_dg v ≤ cap2 ∧ (if n + sb_dg v ≤ cap then cap else cap + max (n + sb_dg v - cap) (cap + 2)) = cap2 ∧ (∀ j : Nat, j < cap → g2 j = g j) ∧ ∀ j : Nat, j < cap2 → g2 j < 128) (fun _ _ => False) := by
  refine Ct.of (cc := cJ4_append_bf812) (maxL := 2) (ret := some (.object "java/lang/StringBuilder")) (by decide) rfl (Nat.le_of_ble_eq_true rfl) ?_
  intro p_ e_ s_ m_ args_ below_ meth_ c_ S hz hml hex hlo hr2 hin
  refine g_loc (L2 := [(0, .ref a), (1, .int (nI v))]) rfl ?_
  refine g_aload_n (pc := 0) S 0 dJ4_append_bf812_0 rfl rfl ?_
  refine g_iload_n (pc := 1) S 1 dJ4_append_bf812_1 rfl rfl ?_
  refine g_callSU (pc := 2) S hz hml [.int (nI v)] (k_appI5 Z l M r q a b x n cap v mc ms g hm hq hrq hr1 hq1 hv hc hn hb hmc hnc) (va_cwSU 1 S.2.2.2.2 gJ4_append_bf812_J5_append_c97b9_s53 rfl rfl rfl (by decide +kernel) ⟨Nat.le_of_ble_eq_true rfl, Nat.le_of_ble_eq_true rfl⟩) hm rfl rfl rfl (Nat.le_of_ble_eq_true rfl) dJ4_append_bf812_2 ⟨Nat.le_of_eq (Nat.zero_add _), Nat.le_of_eq (Nat.zero_add _)⟩ (fun w M2 h => ?_)
  obtain ⟨rfl, h⟩ := h
  refine g_pop (pc := 5) S dJ4_append_bf812_5 rfl ?_
  refine g_aload_n (pc := 6) S 0 dJ4_append_bf812_6 rfl rfl ?_
  exact g_aret (pc := 7) S hz hlo hr2 ⟨rfl, h⟩ (Nat.le_of_eq (Nat.zero_add _)) (Nat.le_of_eq (Nat.zero_add _)) dJ4_append_bf812_7
