set_option maxHeartbeats 4000000 in
/-- Arrays.copyOf of bytes to a longer row -/
theorem k_copyOfB (Z : Zp) (l : Launch) (M : Wd) (r : Role) (a cap N : Nat) (g : Nat → Nat) (hm : M r = some (a, aN .byte cap g)) (hr : r ≠ (51, 0)) (hN : cap < N) (hN2 : N ≤ 65536) (hb : ∀ j : Nat, j < cap → g j < 128) : Ct Z l yJ7_copyOf_9075b wsJ7_copyOf_9075b ({ frames := 1, cells := 1, slots := N, locals := 64 }) [.ref a, .int (nI N)] M 1 N (fun v M2 => ∃ b : Nat, v = some (.ref b) ∧ (∀ r2 : Role, r2 ≠ (51, 0) → M2 r2 = M r2) ∧ M2 (51, 0) = some (b, aN .byte N (cpN g (fun _ => 0) 0 0 cap))) (fun _ _ => False) := by
  refine Ct.of (cc := cJ7_copyOf_9075b) (maxL := 3) (ret := some (.array .byte)) (by decide) rfl (Nat.le_of_ble_eq_true rfl) ?_
  intro p_ e_ s_ m_ args_ below_ meth_ c_ S hz hml hex hlo hr2 hin
  refine g_loc (L2 := [(0, .ref a), (1, .int (nI N))]) rfl ?_
  refine g_iload_n (pc := 0) S 1 dJ7_copyOf_9075b_0 rfl rfl ?_
  refine g_aload_n (pc := 1) S 0 dJ7_copyOf_9075b_1 rfl rfl ?_
  refine g_alen (pc := 2) S hz hm dJ7_copyOf_9075b_2 ?_
  refine g_icmp_neN (pc := 3) S 14 dJ7_copyOf_9075b_3 (by decide) (by omega) (by omega) (fun _ => ?_) (fun h => absurd h (by omega))
  refine g_iload_n (pc := 14) S 1 dJ7_copyOf_9075b_14 rfl rfl ?_
  refine g_newa (pc := 15) S hz (ty := .byte) (n := N) (x := (N, .inl (fun _ => nI 0))) (51, 0) rfl (by decide +kernel) (fun cA => by rw [vp_cell_i]; rfl) (by omega) (by show N * 1 ≤ _; omega) (Nat.le_refl _) (Nat.le_of_eq (Nat.zero_add _)) dJ7_copyOf_9075b_15 (fun b M2 f2 h2 => ?_)
  refine g_astore_n (pc := 17) S [(2, .ref b), (0, .ref a), (1, .int (nI N))] dJ7_copyOf_9075b_17 rfl (by decide) rfl ?_
  refine g_aload_n (pc := 18) S 1 dJ7_copyOf_9075b_18 rfl rfl ?_
  refine g_iconst (pc := 19) S (v := nI 0) dJ7_copyOf_9075b_19 (by decide) ?_
  refine g_aload_n (pc := 20) S 0 dJ7_copyOf_9075b_20 rfl rfl ?_
  refine g_iconst (pc := 21) S (v := nI 0) dJ7_copyOf_9075b_21 (by decide) ?_
  refine g_aload_n (pc := 22) S 1 dJ7_copyOf_9075b_22 rfl rfl ?_
  have hm2 : M2 r = some (a, aN .byte cap g) := (f2 r hr).trans hm
  refine g_alen (pc := 23) S hz hm2 dJ7_copyOf_9075b_23 ?_
  refine g_iload_n (pc := 24) S 2 dJ7_copyOf_9075b_24 rfl rfl ?_
  refine g_min (pc := 25) S hml (by omega) (by omega) (by decide +kernel) (by decide +kernel) (by decide +kernel) (by decide +kernel) (Nat.le_of_ble_eq_true rfl) (Nat.le_of_ble_eq_true rfl) (Nat.le_refl _) (Nat.le_of_eq (Nat.zero_add _)) dJ7_copyOf_9075b_25 ?_
  refine g_top (u := .int (nI cap)) (by rw [show min cap N = cap by omega]) ?_
  refine g_copyB (pc := 28) S hm2 h2 rfl (by omega) (by omega) (by omega) (by omega) (fun i hi => by rw [Nat.zero_add]; exact fit_b (hb i hi)) (by decide +kernel) (by decide +kernel) (by decide +kernel) (by decide +kernel) hml (Nat.le_of_ble_eq_true rfl) (Nat.le_of_ble_eq_true rfl) dJ7_copyOf_9075b_28 (fun M3 f3 h3 => ?_)
  refine g_aload_n (pc := 31) S 0 dJ7_copyOf_9075b_31 rfl rfl ?_
  exact g_aretA (pc := 32) S hz hlo hr2 ⟨b, rfl, fun r2 z => (f3 r2 z).trans (f2 r2 z), h3⟩ (Nat.le_refl _) (Nat.le_of_eq (Nat.zero_add _)) dJ7_copyOf_9075b_32
