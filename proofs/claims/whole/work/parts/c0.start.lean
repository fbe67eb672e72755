section LAWSTART
theorem kn_all {s : State} {b : Addr} (hts : ∀ w ∈ lw_tbl, w.before #[Value.ref b] s = true) : ∃ D : va_G, va_K D vwCl [] s := by
  have h : ∀ k : Nat, ∃ (cC : ClassId) (iS : Nat → Nat), ∀ q : vw_C, vwCl[k]? = some q → u_Kn s q.1 q.2.1 q.2.2 cC iS := by
    intro k
    match k with
    | 0 =>
      obtain ⟨c0, i0, h0⟩ := u_known (C := RJ0) (T := TJ0) (N := 4) (n := 4) hts inJ0 (hts (.instantiable RJ0 4) (by decide +kernel))
      exact ⟨c0, i0, fun q hq => by cases hq; exact h0⟩
    | 1 =>
      obtain ⟨c0, i0, h0⟩ := u_known (C := RJ4) (T := TJ4) (N := 4) (n := 4) hts inJ4 (hts (.instantiable RJ4 4) (by decide +kernel))
      exact ⟨c0, i0, fun q hq => by cases hq; exact h0⟩
    | 2 =>
      obtain ⟨c0, i0, h0⟩ := u_known (C := RJx00060) (T := TJx00060) (N := 6) (n := 6) hts inJx00060 (hts (.instantiable RJx00060 6) (by decide +kernel))
      exact ⟨c0, i0, fun q hq => by cases hq; exact h0⟩
    | 3 =>
      obtain ⟨c0, i0, h0⟩ := u_known (C := RJx7c733) (T := TJx7c733) (N := 6) (n := 6) hts inJx7c733 (hts (.instantiable RJx7c733 6) (by decide +kernel))
      exact ⟨c0, i0, fun q hq => by cases hq; exact h0⟩
    | 4 =>
      obtain ⟨c0, i0, h0⟩ := u_known (C := RJx4a65c) (T := TJx4a65c) (N := 3) (n := 3) hts inJx4a65c (hts (.instantiable RJx4a65c 3) (by decide +kernel))
      exact ⟨c0, i0, fun q hq => by cases hq; exact h0⟩
    | 5 =>
      obtain ⟨c0, i0, h0⟩ := u_known (C := RX0) (T := TX0) (N := 6) (n := 6) hts inX0 (hts (.instantiable RX0 6) (by decide +kernel))
      exact ⟨c0, i0, fun q hq => by cases hq; exact h0⟩
    | 6 =>
      obtain ⟨c0, i0, h0⟩ := u_known (C := RX1) (T := TX1) (N := 14) (n := 14) hts inX1 (hts (.instantiable RX1 14) (by decide +kernel))
      exact ⟨c0, i0, fun q hq => by cases hq; exact h0⟩
    | 7 =>
      obtain ⟨c0, i0, h0⟩ := u_known (C := RX2) (T := TX2) (N := 10) (n := 10) hts inX2 (hts (.instantiable RX2 10) (by decide +kernel))
      exact ⟨c0, i0, fun q hq => by cases hq; exact h0⟩
    | 8 =>
      obtain ⟨c0, i0, h0⟩ := u_known (C := RX3) (T := TX3) (N := 6) (n := 6) hts inX3 (hts (.instantiable RX3 6) (by decide +kernel))
      exact ⟨c0, i0, fun q hq => by cases hq; exact h0⟩
    | 9 =>
      obtain ⟨c0, i0, h0⟩ := u_known (C := RX4) (T := TX4) (N := 2) (n := 2) hts inX4 (hts (.instantiable RX4 2) (by decide +kernel))
      exact ⟨c0, i0, fun q hq => by cases hq; exact h0⟩
    | 10 =>
      obtain ⟨c0, i0, h0⟩ := u_known (C := RX5) (T := TX5) (N := 4) (n := 4) hts inX5 (hts (.instantiable RX5 4) (by decide +kernel))
      exact ⟨c0, i0, fun q hq => by cases hq; exact h0⟩
    | 11 =>
      obtain ⟨c0, i0, h0⟩ := u_known (C := RX6) (T := TX6) (N := 12) (n := 12) hts inX6 (hts (.instantiable RX6 12) (by decide +kernel))
      exact ⟨c0, i0, fun q hq => by cases hq; exact h0⟩
    | 12 =>
      obtain ⟨c0, i0, h0⟩ := u_known (C := RX7) (T := TX7) (N := 38) (n := 38) hts inX7 (hts (.instantiable RX7 38) (by decide +kernel))
      exact ⟨c0, i0, fun q hq => by cases hq; exact h0⟩
    | k + 13 =>
      obtain ⟨c0, i0, -⟩ := u_known (C := RX0) (T := TX0) (N := 6) (n := 6) hts inX0 (hts (.instantiable RX0 6) (by decide +kernel))
      exact ⟨c0, i0, fun q hq => by simp [vwCl] at hq⟩
  exact ⟨(fun k => (h k).choose, fun k => (h k).choose_spec.choose), fun k q hq => (h k).choose_spec.choose_spec q hq, fun k q h => by simp at h⟩
/-- where a term of the start lies -/
noncomputable def tmZ (s : State) (b : Addr) (tm : Term) : Nat := match tm.eval #[Value.ref b] s none [] s with
  | some (.ref q) => q
  | _ => 0
theorem stat_start {s : State} {b : Addr} {D : va_G} (hK : va_K D vwCl [] s) (hts : ∀ w ∈ lw_tbl, w.before #[Value.ref b] s = true) (hgv : (Jvm.Cond.and given_1 narrow_1).before #[Value.ref b] s = true) : Stat (D, s.heap.size, b, tmZ s b) s :=
  ⟨s, rfl, ⟨hK, State.WarmedH.refl s, fun tm q h => by show tmZ s b tm = q; unfold tmZ; rw [h]⟩, hts, hgv, Vm.Alike.refl s.vm, Nat.le_refl _, fun _ _ => rfl⟩
/-- the world that the constructors leave shows the start -/
theorem rep_start {A : AF} {g : Nat → Nat} {M : Wd} (h0 : M (0, 0) = some (A 0 0, .inr (11, farmFs A (C01 g 0 0)))) (h1 : M (1, 0) = some (A 1 0, aR "SpoolFarm$User" 6 (fun _ => none))) (h2 : M (2, 0) = some (A 2 0, aR "SpoolFarm$Printer" 4 (fun _ => none))) (h3 : M (3, 0) = some (A 3 0, aR "SpoolFarm$Job" 40 (fun _ => none))) (h4 : M (4, 0) = some (A 4 0, .inr (4, listFs A (C01 g 4 0)))) (h5 : M (5, 0) = some (A 5 0, .inr (1, sbFs (A 8 0) (C01 g 5 0)))) (h6 : M (6, 0) = some (A 6 0, .inr (7, planFs (C01 g 6 0)))) (h8 : M (8, 0) = some (A 8 0, aN .byte 16 (fun _ => 0))) (h70 : M (70, 0) = some (A 70 0, aL 1 (fun _ => lN 0))) (h71 : M (70, 1) = some (A 70 1, aD 1 (fun _ => UInt64.ofNat 0))) (h60 : ∀ (i : Nat) (x : Nat × Ev), cc A (C01 g) 60 i = some x → M (60, i) = some x) : Rep A (C01 g) M := by
  intro k i x hx
  by_cases k60 : k = 60
  · subst k60
    exact h60 i x hx
  unfold cc at hx
  rw [if_neg k60] at hx
  have z5 : C01 g 0 0 5 = 0 := rfl
  have z4 : C01 g 0 0 4 = 0 := rfl
  have z3 : C01 g 0 0 3 = 0 := rfl
  have z2 : C01 g 4 0 2 = 0 := rfl
  have z7 : C01 g 7 100 0 = 0 := rfl
  have z8 : C01 g 8 100 0 = 16 := rfl
  rw [z5, z4, z3, z2, z7, z8] at hx
  by_cases k11 : k = 11
  · rw [if_pos k11, if_neg (Nat.not_lt_zero i)] at hx
    cases hx
  rw [if_neg k11] at hx
  by_cases k6 : k = 6
  · rw [if_pos k6] at hx
    by_cases hi : i = 0
    · rw [if_pos hi] at hx
      rw [k6, hi, h6]
      exact hx
    · rw [if_neg hi] at hx
      cases hx
  rw [if_neg k6] at hx
  by_cases k0 : k = 0
  · rw [if_pos k0] at hx
    by_cases hi : i = 0
    · rw [if_pos hi] at hx
      rw [k0, hi, h0]
      exact hx
    · rw [if_neg hi] at hx
      cases hx
  rw [if_neg k0] at hx
  by_cases k9 : k = 9
  · rw [if_pos k9, if_neg (Nat.not_lt_zero i)] at hx
    cases hx
  rw [if_neg k9] at hx
  by_cases k10 : k = 10
  · rw [if_pos k10, if_neg (Nat.not_lt_zero i)] at hx
    cases hx
  rw [if_neg k10] at hx
  by_cases k12 : k = 12
  · rw [if_pos k12, if_neg (fun z => Nat.not_lt_zero _ z.1)] at hx
    cases hx
  rw [if_neg k12] at hx
  by_cases k13 : k = 13
  · rw [if_pos k13, if_neg (Nat.not_lt_zero i)] at hx
    cases hx
  rw [if_neg k13] at hx
  by_cases k14 : k = 14
  · rw [if_pos k14, if_neg (Nat.not_lt_zero i)] at hx
    cases hx
  rw [if_neg k14] at hx
  have row : ∀ (Cn : String) (n kk : Nat) (f : Nat → Option Nat), M (kk, 0) = some (A kk 0, aR Cn n (fun _ => none)) → (∀ j : Nat, f j = none) → k = kk → (if i = 0 then some (A kk 0, aR Cn n f) else none) = some x → M (k, i) = some x := by
    intro Cn n kk f g1 g2 g3 g4
    by_cases hi : i = 0
    · rw [if_pos hi, show f = (fun _ => none) from funext g2] at g4
      rw [g3, hi, g1]
      exact g4
    · rw [if_neg hi] at g4
      cases g4
  have one : ∀ (kk : Nat) (y : Nat × Ev), M (kk, 0) = some y → k = kk → (if i = 0 then some y else none) = some x → M (k, i) = some x := by
    intro kk y g1 g3 g4
    by_cases hi : i = 0
    · rw [if_pos hi] at g4
      rw [g3, hi, g1]
      exact g4
    · rw [if_neg hi] at g4
      cases g4
  by_cases k1 : k = 1
  · rw [if_pos k1] at hx
    exact row _ _ 1 _ h1 (fun j => if_neg (Nat.not_lt_zero j)) k1 hx
  rw [if_neg k1] at hx
  by_cases k2 : k = 2
  · rw [if_pos k2] at hx
    exact row _ _ 2 _ h2 (fun j => if_neg (Nat.not_lt_zero j)) k2 hx
  rw [if_neg k2] at hx
  by_cases k3 : k = 3
  · rw [if_pos k3] at hx
    exact row _ _ 3 _ h3 (fun j => if_neg (Nat.not_lt_zero j)) k3 hx
  rw [if_neg k3] at hx
  by_cases k4 : k = 4
  · rw [if_pos k4] at hx
    exact one 4 _ h4 k4 hx
  rw [if_neg k4] at hx
  by_cases k5 : k = 5
  · rw [if_pos k5] at hx
    exact one 5 _ h5 k5 hx
  rw [if_neg k5] at hx
  by_cases k7 : k = 7
  · rw [if_pos k7, if_neg (fun z => Nat.lt_irrefl 0 z.2)] at hx
    cases hx
  rw [if_neg k7] at hx
  by_cases k8 : k = 8
  · rw [if_pos k8] at hx
    exact one 8 _ h8 k8 hx
  rw [if_neg k8] at hx
  by_cases k70 : k = 70
  · rw [if_pos k70] at hx
    by_cases hi : i = 0
    · rw [if_pos hi] at hx
      rw [k70, hi, h70]
      exact hx
    · rw [if_neg hi] at hx
      by_cases hj : i = 1
      · rw [if_pos hj] at hx
        rw [k70, hj, h71]
        exact hx
      · rw [if_neg hj] at hx
        cases hx
  · rw [if_neg k70] at hx
    cases hx
set_option maxHeartbeats 4000000 in
set_option maxRecDepth 100000 in
/-- THE LAW, from its entry -/
theorem whole_start {p : Program} {e : Env} {s : State} {m : MethodId} {below : List Frame} {meth : Method} {c : Code} (l : Launch) (hflags : l.flags = flags0) {b L : Nat} {xs : Nat → Int32} (hL : L ≤ 3584) (C0 : lw_At p s m meth c b L xs) : W p l e room_1 s m #[Value.ref b] below meth c s.heap [] 0 0 (lw_Z below #[Value.ref b] s) (entryFrame m ([Value.ref b] : List Value).toArray 9) := by
  obtain ⟨hx, hb, hr, hml, hown, hts, hX, hbl, hlocks, hgv⟩ := id C0
  have hfl : l.stackTraces = false := by
    show (!l.flags.contains Jvm.noTraceFlag) = false
    rw [hflags]
    decide +kernel
  obtain ⟨D, hK⟩ := kn_all hts
  have hz := stat_start hK hts hgv
  generalize hZ : ((D, s.heap.size, b, tmZ s b) : Zp) = Z at hz
  have hAZ : ∀ q : Nat, AZ Z q ↔ s.heap.size ≤ q := by intro q; rw [← hZ]
  have S : CallFix p m c cL_law 9 s #[Value.ref b] wsL_law RL := ⟨hx, hb, hml, hown, fun w hw => hts w (wsL_law_in w hw)⟩
  have hScr : Scr b L xs Z s := ⟨hX, hbl, fun z => absurd ((hAZ b).mp z) (Nat.not_le.mpr hbl)⟩
  have hd0 := Drawn.sameBut.refl s.drawn lw_cs
  have K : G Z p l e room_1 s m #[Value.ref b] below meth c (lw_Z below #[Value.ref b] s) 0 0 9 (fun _ => none) 0 [(0, .ref b)] [] := by
    refine g_new (pc := 0) S hz (ci := 11) (fs := [.null, .null, .null, .int (nI 0), .int (nI 0), .int (nI 0), .int (nI 0), .int (nI 0), .int (nI 0), .null, .null, .null]) (0, 0) inlX6 tyX6 tyX6_ok (by decide +kernel) (by decide +kernel) (by decide +kernel) rfl (fun j hj => by revert j; decide) (Nat.le_of_ble_eq_true rfl) (Nat.le_of_ble_eq_true rfl) dL_law_0 (fun a0 M1 f1 m1 => ?_)
    refine g_dup (pc := 3) S dL_law_3 rfl ?_
    refine g_callI (pc := 4) S hz hml [] (k_X6_init Z l M1 a0 m1) (cwI 0 S.2.2.2.2 gL_law_X6_init rfl rfl rfl (S.2.2.2.2 _ (by decide +kernel)) (S.2.2.2.2 _ (by decide +kernel)) (S.2.2.2.2 _ (by decide +kernel)) rfl (by decide +kernel) ⟨(Nat.le_of_ble_eq_true rfl), (Nat.le_of_ble_eq_true rfl)⟩) rfl rfl (Nat.le_of_ble_eq_true rfl) dL_law_4 ⟨(Nat.le_of_ble_eq_true rfl), (Nat.le_of_ble_eq_true rfl)⟩ (fun v M2 h => ?_)
    obtain ⟨rfl, a1, a2, a3, a4, a5, a6, a8, f2, m00, m10, m20, m30, m40, m50, m60, m80⟩ := h
    refine g_astore_n (pc := 7) S [(1, .ref a0), (0, .ref b)] dL_law_7 rfl (by decide) rfl ?_
    refine g_new (pc := 8) S hz (ci := 12) (fs := [.null, .null, .null, .null, .null, .null, .null, .null, .null, .null, .null, .null, .null, .null, .null, .null, .null, .null, .null, .null, .null, .null, .null, .null, .null, .null, .null, .int (nI 0), .int (nI 0), .int (nI 0), .int (nI 0), .int (nI 0), .int (nI 0), .int (nI 0), .int (nI 0), .int (nI 0), .int (nI 0), .int (nI 0)]) (60, 100) inlX7 tyX7 tyX7_ok (by decide +kernel) (by decide +kernel) (by decide +kernel) rfl (fun j hj => by revert j; decide) (Nat.le_of_ble_eq_true rfl) (Nat.le_of_ble_eq_true rfl) dL_law_8 (fun am M3 f3 m3 => ?_)
    refine g_dup (pc := 11) S dL_law_11 rfl ?_
    refine g_callI (pc := 12) S hz hml [] (k_X7_init Z l M3 am m3) (cwI 0 S.2.2.2.2 gL_law_X7_init rfl rfl rfl (S.2.2.2.2 _ (by decide +kernel)) (S.2.2.2.2 _ (by decide +kernel)) (S.2.2.2.2 _ (by decide +kernel)) rfl (by decide +kernel) ⟨(Nat.le_of_ble_eq_true rfl), (Nat.le_of_ble_eq_true rfl)⟩) rfl rfl (Nat.le_of_ble_eq_true rfl) dL_law_12 ⟨(Nat.le_of_ble_eq_true rfl), (Nat.le_of_ble_eq_true rfl)⟩ (fun v M4 h => ?_)
    obtain ⟨rfl, bb, g, f4, m4⟩ := h
    refine g_astore_n (pc := 15) S [(2, .ref am), (1, .ref a0), (0, .ref b)] dL_law_15 rfl (by decide) rfl ?_
    refine g_iconst (pc := 16) S (v := nI 1) dL_law_16 (by decide) ?_
    refine g_newa (pc := 17) S hz (ty := .long) (n := 1) (x := (1, .inr (.inl (fun _ => lN 0)))) (70, 0) rfl (by decide +kernel) (fun cA => by rw [vp_cell_l]; rfl) (by decide) (by decide) (Nat.le_of_ble_eq_true rfl) (Nat.le_of_ble_eq_true rfl) dL_law_17 (fun ao M5 f5 m5 => ?_)
    refine g_astore_n (pc := 19) S [(3, .ref ao), (2, .ref am), (1, .ref a0), (0, .ref b)] dL_law_19 rfl (by decide) rfl ?_
    refine g_iconst (pc := 20) S (v := nI 1) dL_law_20 (by decide) ?_
    refine g_newa (pc := 21) S hz (ty := .double) (n := 1) (x := (1, .inr (.inr (.inr (.inl (fun _ => UInt64.ofNat 0)))))) (70, 1) rfl (by decide +kernel) (fun cA => by rw [vp_cell_d]; rfl) (by decide) (by decide) (Nat.le_of_ble_eq_true rfl) (Nat.le_of_ble_eq_true rfl) dL_law_21 (fun ad M6 f6 m6 => ?_)
    refine g_astore (pc := 23) S [(4, .ref ad), (3, .ref ao), (2, .ref am), (1, .ref a0), (0, .ref b)] dL_law_23 (by decide) rfl ?_
    refine g_iconst (pc := 25) S (v := nI 0) dL_law_25 (by decide) ?_
    refine g_istore (pc := 26) S [(5, .int (nI 0)), (4, .ref ad), (3, .ref ao), (2, .ref am), (1, .ref a0), (0, .ref b)] dL_law_26 (by decide) rfl ?_
    -- the state
    have hA : ∃ A : AF, A 0 0 = a0 ∧ A 1 0 = a1 ∧ A 2 0 = a2 ∧ A 3 0 = a3 ∧ A 4 0 = a4 ∧ A 5 0 = a5 ∧ A 6 0 = a6 ∧ A 7 0 = zD Z ∧ A 8 0 = a8 ∧ (∀ i : Nat, A 60 i = if i = 100 then am else bb i) ∧ A 70 0 = ao ∧ A 70 1 = ad := ⟨fun k i => if k = 0 then a0 else if k = 1 then a1 else if k = 2 then a2 else if k = 3 then a3 else if k = 4 then a4 else if k = 5 then a5 else if k = 6 then a6 else if k = 7 then zD Z else if k = 8 then a8 else if k = 60 then (if i = 100 then am else bb i) else if i = 0 then ao else ad, rfl, rfl, rfl, rfl, rfl, rfl, rfl, rfl, rfl, fun _ => rfl, rfl, rfl⟩
    obtain ⟨A, rfl, rfl, rfl, rfl, rfl, rfl, rfl, hA7, rfl, hA60, rfl, rfl⟩ := hA
    have ham : A 60 100 = am := (hA60 100).trans (if_pos rfl)
    have up : ∀ (k i : Nat) (y : Nat × Ev), k ≠ 60 → k ≠ 50 → k ≠ 70 → M2 (k, i) = some y → M6 (k, i) = some y := by
      intro k i y h1 h2 h3 h
      rw [f6 (k, i) (fun z => h3 (congrArg Prod.fst z)), f5 (k, i) (fun z => h3 (congrArg Prod.fst z)), f4 (k, i) h1 h2, f3 (k, i) (fun z => h1 (congrArg Prod.fst z))]
      exact h
    have hcc : ∀ (i : Nat), cc A (C01 g) 60 i = cc (fun _ ii => if ii = 100 then am else bb ii) (C01 g) 60 i := by
      intro i
      have hA6 : A 60 = fun ii => if ii = 100 then am else bb ii := funext hA60
      unfold cc modFs
      rw [if_pos rfl, if_pos rfl, hA6]
    have hRep : Rep A (C01 g) M6 := by
      refine rep_start (up 0 0 _ (by decide) (by decide) (by decide) m00) (up 1 0 _ (by decide) (by decide) (by decide) m10) (up 2 0 _ (by decide) (by decide) (by decide) m20) (up 3 0 _ (by decide) (by decide) (by decide) m30) ?_ (up 5 0 _ (by decide) (by decide) (by decide) m50) (up 6 0 _ (by decide) (by decide) (by decide) m60) (up 8 0 _ (by decide) (by decide) (by decide) m80) ?_ m6 (fun i x hx => ?_)
      · refine up 4 0 _ (by decide) (by decide) (by decide) ?_
        rw [m40, ← hA7]
        rfl
      · rw [f6 _ (by decide)]
        exact m5
      · rw [f6 (60, i) (fun z => absurd (congrArg Prod.fst z) (show ¬ (60 : Nat) = 70 by decide)), f5 (60, i) (fun z => absurd (congrArg Prod.fst z) (show ¬ (60 : Nat) = 70 by decide))]
        exact m4 i x (by rw [← hcc i]; exact hx)
    subst ham
    have hLI : LI Z 0 A (C01 g) := ⟨⟨start_sm g, start_okm g, start_okl g⟩, fun _ => hA7, Nat.zero_le _⟩
    have fin : ∀ (A : AF) (C : CF) (L : List (Nat × Value)), LGS Z p l e s m #[Value.ref b] below meth c (lw_Z below #[Value.ref b] s) 678332 6993525 M6 A C 3153 L [.int 1] := by
      intro A2 C2 L2 M hM hF H locs ls hP hS hl
      refine va_forget (fun q hq => (hAZ _).mp (hS.2.2 q hq)) ?_
      exact W.base (lw_ret hd0 hx hb hr hlocks dL_law_3153)
    have go := law_loop S hz hml hfl hScr hL fin (L + 1) 0 A (C01 g) (by omega) (by omega) hLI
    have go2 : LGS Z p l e s m #[Value.ref b] below meth c (lw_Z below #[Value.ref b] s) (bC 0 (C01 g)) (bS 0 (C01 g)) M6 A (C01 g) 28 [(5, .int (nI 0)), (4, .ref (A 70 1)), (3, .ref (A 70 0)), (2, .ref (A 60 100)), (1, .ref (A 0 0)), (0, .ref b)] [] := s_perm [0, 5, 4, 3, 2, 1] (Ll b 0 A) rfl go
    exact (s_widen (by show _ ≤ 100 + 60 * 0 + 6 * 0; decide) (by show _ ≤ 3000 + 2500 * 0 + 6 * 0 + 4 * 0 + 8 * 64; decide) go2) M6 hRep (fun _ _ => rfl)
  have hl := lv_entry ([.ref b]) (n := 9) (Nat.le_of_ble_eq_true rfl)
  rw [lg_entry_eq]
  refine K s.heap [] _ ⟨fun r a e h => (by simp at h), fun r r2 a e e2 h => (by simp at h)⟩ va_S.rf hl
end LAWSTART
