section OROWS
variable {Z : Zp} {p : Program} {l : Launch} {e : Env} {R : Room} {s : State} {m : MethodId} {args : Array Value} {below : List Frame} {meth : Method} {c : Code} {Q : State → Prop} {cells slots nL : Nat} {M : Wd} {pc : Nat} {L : List (Nat × Value)} {st rest : List Value}
variable {cc : ByteArray} {Ts : List Cond} {own : String}
/-- an object laid into a row of Objects -/
theorem g_aastO (S : CallFix p m c cc nL s args Ts own) (hz : Stat Z s) {n a j v ci : Nat} {vs : List Value} {C E : String} {T : u_T} {N : Nat} {g : Nat → Option Nat} {r rv : Role} (hm : M r = some (a, aR E n g)) (hv : M rv = some (v, .inr (ci, vs))) (hc : vwCl[ci]? = some (C, T, N)) (hcast : (Cond.castable C E).before args s = true) (hj : j < n) (hn : n < 2 ^ 31) (hd : decode cc pc = .ok (.aastore, 1)) (kk : ∀ M2 : Wd, (∀ r2 : Role, r2 ≠ r → M2 r2 = M r2) → M2 r = some (a, aR E n (upN g j (some v))) → G Z p l e R s m args below meth c Q cells slots nL M2 (pc + 1) L rest) : G Z p l e R s m args below meth c Q cells slots nL M pc L (.ref v :: .int (nI j) :: .ref a :: rest) := by
  intro H locs ls hP hS hl
  have hK := hz.K
  obtain ⟨cA, h1, h2, kA, comp, k1, k2, k3, k4⟩ := (hP.1 _ _ _ hm).1
  obtain ⟨r', hr', cellV, g1, g2, g3, -⟩ := (hP.1 _ _ _ hv).1
  have hcls := (hK.1 ci _ hc).2
  obtain ⟨c0, t0, f1, f2, f3⟩ := Cond.castable_spec hcast
  cases f1.symm.trans hcls.1
  cases f2.symm.trans k3
  obtain ⟨kE, hkE, -⟩ := Vm.findClass_spec k3
  obtain ⟨kC, hkC, -⟩ := hcls.2
  have h0 : ¬ nI j < 0 := fun q => vp_in_nI hj hn (Or.inl q)
  have hlt : (nI j).toNatClampNeg < n := by rw [nI_clamp (Nat.lt_trans hj hn)]; exact hj
  refine W.aast S.1 S.2.1 h1 (fun q h => by cases h) (fun h => by cases h) k1 k2 rfl hkE ⟨h0, by show _ < (arrV _ _ _).slots.size; rw [arrV_size]; exact hlt⟩ g1 (fun q h => by rw [g3] at h; cases h) (by rw [g2]; exact hkC) (by rw [g2]; exact f3) rfl rfl hd fun H1 e1 z1 o1 => ?_
  refine kk (wup M r a (aR E n (upN g j (some v)))) (fun r2 h => wup_n h) wup_s H1 _ ls (hP.put hm ⟨cA, ?_, h2, kA, _, k1, k2, k3, k4⟩ o1) (hS.put z1 o1 (hP.1 _ _ _ hm).2) hl
  rw [e1]
  show some ((vp_cell cA (n, .inr (.inr (.inr (.inr g))))).setSlot _ _) = some (vp_cell cA (n, .inr (.inr (.inr (.inr (upN g j (some v)))))))
  rw [nI_clamp (Nat.lt_trans hj hn), vp_cell_q, vp_cell_q, arrV_store]
  congr 2
  funext q
  by_cases hq : q = j
  · subst hq
    simp [updV, upN, va_rf]
  · simp [updV, upN, hq]
set_option maxHeartbeats 1000000 in
/-- System.arraycopy of a row of Objects into a fresh one -/
theorem g_copyO (S : CallFix p m c cc nL s args Ts own) (hz : Stat Z s) {n0 n1 a0 a index ci : Nat} {C E : String} {T : u_T} {N : Nat} {f : Nat → Option Nat} {r0 r : Role} (hm0 : M r0 = some (a0, aR E n0 f)) (hm : M r = some (a, aR E n1 (fun _ => none))) {n : Nat} (h4 : n ≤ n0) (h5 : n ≤ n1) (hb0 : n0 < 2 ^ 31) (hb1 : n1 < 2 ^ 31) (hc : vwCl[ci]? = some (C, T, N)) (hel : ∀ i, i < n → ∀ y : Nat, f i = some y → ∃ (rr : Role) (vs : List Value), M rr = some (y, .inr (ci, vs))) (hfn : ∀ i, n ≤ i → f i = none) (hcast : (Cond.castable C E).before args s = true)
    (hlink : Cond.methodLink own index arraycopyName ∈ Ts) (hnat : Cond.native arraycopyName ∈ Ts) (hstat : Cond.static arraycopyName ∈ Ts) (hini : Cond.initialized "java/lang/System" ∈ Ts) (hml2 : c.maxLocals = nL) (hframes : 1 ≤ R.frames) (hlocals : (rest.map fun v => v.category).sum + (nativeFrameWords "java/lang/System" "arraycopy" 5 + 11) ≤ R.locals) (hd : decode cc pc = .ok (.invokestatic index, 3))
    (kk : ∀ M2 : Wd, (∀ r2 : Role, r2 ≠ r → M2 r2 = M r2) → M2 r = some (a, aR E n1 f) → G Z p l e R s m args below meth c Q cells slots nL M2 (pc + 3) L rest) : G Z p l e R s m args below meth c Q cells slots nL M pc L (.int (nI n) :: .int (nI 0) :: .ref a :: .int (nI 0) :: .ref a0 :: rest) := by
  intro H locs ls hP hS hl T0 hT X
  have hK := hz.K
  obtain ⟨c0, x1, x2, kA0, comp0, x3, x4, x5, x6⟩ := (hP.1 _ _ _ hm0).1
  obtain ⟨c1, y1, y2, kA, comp, y3, y4, y5, y6⟩ := (hP.1 _ _ _ hm).1
  obtain ⟨-, k0, hk0, cm0, hkk0⟩ := x2 n0 (fun j => va_rf (f j))
  obtain ⟨-, k1, hk1, cm1, hkk1⟩ := y2 n1 (fun j => va_rf ((fun _ => none : Nat → Option Nat) j))
  have es : (nI 0).toNatClampNeg = 0 := nI_clamp (by decide)
  have en : (nI n).toNatClampNeg = n := nI_clamp (by omega)
  have hcls := (hK.1 ci _ hc).2
  obtain ⟨cc0, t0, f1, f2, f3⟩ := Cond.castable_spec hcast
  cases f1.symm.trans hcls.1
  cases f2.symm.trans y5
  obtain ⟨vm', X', step⟩ := X.arraycopy S.1 S.2.2.2.1 (S.2.2.2.2 _ hlink) (S.2.2.2.2 _ hnat) (S.2.2.2.2 _ hstat) (S.2.2.2.2 _ hini) (src := a0) (dst := a) (cs := vp_cell c0 (n0, .inr (.inr (.inr (.inr f))))) (cd := vp_cell c1 (n1, .inr (.inr (.inr (.inr (fun _ => none)))))) (srcPos := nI 0) (destPos := nI 0) (n := nI n) (by rw [hT]; exact x1) (by rw [hT]; exact y1)
    (fun _ h => by cases h) (fun _ h => by cases h) (fun h => by cases h) (fun h => by cases h) hk0 hk1 hkk0 hkk1 rfl (nI_pos (by decide)) (nI_pos (by decide)) (nI_pos (by omega))
    (by rw [nI_toInt (show 0 < 2 ^ 31 by decide), nI_toInt (show n < 2 ^ 31 by omega)]; show ¬ _ > ((arrV c0 n0 (fun j => va_rf (f j))).slots.size : Int); rw [arrV_size]; omega)
    (by rw [nI_toInt (show 0 < 2 ^ 31 by decide), nI_toInt (show n < 2 ^ 31 by omega)]; show ¬ _ > ((arrV c1 n1 (fun j => va_rf ((fun _ => none : Nat → Option Nat) j))).slots.size : Int); rw [arrV_size]; omega)
    (fun vm₁ hal i hi => by
      rw [en] at hi
      rw [es, Nat.zero_add]
      have e0 : (vp_cell c0 (n0, .inr (.inr (.inr (.inr f))))).slots.getD i .null = va_rf (f i) := by
        show (arrV c0 n0 (fun j => va_rf (f j))).slots.getD _ _ = _
        rw [Array.getD_eq_getD_getElem?, arrV_read _ _ (by omega)]
        rfl
      rw [e0]
      cases hy : f i with
      | none => exact ⟨rfl, trivial⟩
      | some y =>
        obtain ⟨rr, vs, hrr⟩ := hel i hi y hy
        obtain ⟨r', hr', cellV, g1, g2, g3, -⟩ := (hP.1 _ _ _ hrr).1
        cases hk1.symm.trans y3
        cases hkk1.symm.trans y4
        obtain ⟨kC, hkC, -⟩ := hcls.2
        obtain ⟨kE, hkE, -⟩ := Vm.findClass_spec y5
        obtain ⟨kC', hkC', -⟩ := hal.2.2 _ _ hkC
        obtain ⟨kE', hkE', -⟩ := hal.2.2 _ _ hkE
        refine ⟨rfl, cellV, (show T0.heap[y]? = some cellV by rw [hT]; exact g1), (fun q h => by rw [g3] at h; cases h), ⟨kC', by rw [g2]; exact hkC'⟩, ?_, ?_⟩
        · exact ⟨kE', hkE'⟩
        · show vm₁.assignable _ _ = true
          rw [hal.assignable, g2]
          exact f3)
    (g := F0 m pc ls (.int (nI n) :: .int (nI 0) :: .ref a :: .int (nI 0) :: .ref a0 :: rest)) rfl (by rw [hml2]; exact hl.1) (rest := rest) rfl (by rw [S.2.1]; exact hd) hframes (by show 2 * 0 + _ + _ ≤ _; omega)
  have hcp : va_cpy f (fun _ => none) 0 0 n = f := by
    funext j
    unfold va_cpy
    split
    · congr 1
      omega
    · exact (hfn j (by omega)).symm
  have e1 : copied (vp_cell c0 (n0, .inr (.inr (.inr (.inr f))))) (vp_cell c1 (n1, .inr (.inr (.inr (.inr (fun _ => none)))))) (nI 0) (nI 0) (nI n) = vp_cell c1 (n1, .inr (.inr (.inr (.inr f)))) := by
    rw [vp_cell_q, vp_cell_q, vp_cell_q]
    show (arrV c1 n1 (fun j => va_rf ((fun _ => none : Nat → Option Nat) j))).storeRun (nI 0).toNatClampNeg ((arrV c0 n0 (fun j => va_rf (f j))).stretch (nI 0).toNatClampNeg (nI n).toNatClampNeg) = _
    rw [es, en, va_copied (fun z => va_rf z) c0 c1 (n0 := n0) (n1 := n1) f (fun _ => none) (by omega), hcp]
  rw [e1] at X' step
  have hl2 : a < H.size := (Array.getElem?_eq_some_iff.mp y1).1
  have o1 : ∀ q : Nat, q ≠ a → (H.setIfInBounds a (vp_cell c1 (n1, .inr (.inr (.inr (.inr f))))))[q]? = H[q]? := fun q hq => by simp [Array.getElem?_setIfInBounds, Ne.symm hq]
  have z1 : (H.setIfInBounds a (vp_cell c1 (n1, .inr (.inr (.inr (.inr f)))))).size = H.size := by simp
  have hge : Z.2.1 ≤ a := (hP.1 _ _ _ hm).2
  obtain ⟨t, a1, b1⟩ := kk (wup M r a (aR E n1 f)) (fun r2 h => wup_n h) wup_s (H.setIfInBounds a (vp_cell c1 (n1, .inr (.inr (.inr (.inr f)))))) _ ls (hP.put hm ⟨c1, by simp [Array.getElem?_setIfInBounds, hl2], y2, kA, _, y3, y4, y5, y6⟩ o1) ⟨by rw [z1]; exact hS.1, fun q g1 g2 => (o1 q (fun z => g2 (by rw [z]; exact hge))).trans (hS.2.1 q g1 g2), fun q hq => by
      rcases List.mem_append.mp hq with h | h
      · exact hS.2.2 q h
      · obtain ⟨z, -, hzz⟩ := List.mem_map.mp h
        rw [← hzz]
        exact (hP.1 _ _ _ hm).2⟩ hl _ (by rw [← hT]; rfl) X'
  exact ⟨t, step t a1, b1⟩
/-- the object at a role has the class of the cast -/
theorem g_castO (S : CallFix p m c cc nL s args Ts own) (hz : Stat Z s) {a index ci : Nat} {C : String} {T : u_T} {N : Nat} {fs : List Value} {r : Role} (hm : M r = some (a, .inr (ci, fs))) (hc : vwCl[ci]? = some (C, T, N)) (hlink : Cond.classLink own index C ∈ Ts) (hd : decode cc pc = .ok (.checkcast index, 3)) (kk : G Z p l e R s m args below meth c Q cells slots nL M (pc + 3) L (.ref a :: rest)) : G Z p l e R s m args below meth c Q cells slots nL M pc L (.ref a :: rest) :=
  fun H locs ls hP hS hl => va_castE S.1 S.2.1 S.2.2.2.1 (S.2.2.2.2 _ hlink) (va_recv (q0 := 0) hz.K (hP.one hm) hc rfl) hd (kk H locs ls hP hS hl)
/-- getClass() of a row of Objects, and the class constant -/
theorem Stat.mi (h : Stat Z s) {C : String} (h1 : Cond.isRef (.mirror C) ∈ flatC (Jvm.Cond.and given_1 narrow_1)) : va_Mi C (Z.2.2.2 (.mirror C)) s := by
  obtain ⟨U0, e1, ⟨-, eW, eT⟩, e3, e4, e5, e6, e7⟩ := h
  obtain ⟨v, hv, -⟩ := Cond.isRef_spec (flat_of_before _ e4 _ h1)
  obtain ⟨c, k, a, g1, g2, g3, g4⟩ := Term.mirror_spec hv
  rw [eT _ a (by rw [hv, g4])]
  exact va_Mi.moved e5 ⟨c, k, g1, g2, g3⟩
theorem Stat.over (h : Stat Z s) {C : String} {A : Array Value} (h1 : Cond.arrayOver (.object C) ∈ lw_tbl) : (Cond.arrayOver (.object C)).before A s = true := by
  obtain ⟨U0, e1, -, e3, e4, e5, e6, e7⟩ := h
  exact va_AO.use (va_AO.moved e5 (va_AO.of (e3 _ h1)))
/-- the list's first row, which every new list has -/
abbrev zD (Z : Zp) : Nat := Z.2.2.2 (.static "java/util/ArrayList" "DEFAULTCAPACITY_EMPTY_ELEMENTDATA" "[Ljava/lang/Object;")
abbrev miO (Z : Zp) : Nat := Z.2.2.2 (.mirror "[Ljava/lang/Object;")
theorem Stat.zDe (h : Stat Z s) : va_Z "java/util/ArrayList" "DEFAULTCAPACITY_EMPTY_ELEMENTDATA" "[Ljava/lang/Object;" (.ref (zD Z)) (AZ Z) s s.heap ∧ va_T (.object "java/lang/Object") (zD Z) 0 (fun _ => .int 0) (AZ Z) s s.heap := by
  obtain ⟨U0, e1, ⟨-, eW, eT⟩, e3, e4, e5, e6, e7⟩ := h
  have hA : ∀ a : Nat, a < U0.heap.size → ¬ AZ Z a := fun a ha => Nat.not_le.mpr (e1 ▸ ha)
  obtain ⟨t, ht, hT⟩ := va_Tof (N := 0) (f := fun _ => .int 0) (A := AZ Z) (by decide) (flat_of_before _ e4 (Cond.arrayOf (.static "java/util/ArrayList" "DEFAULTCAPACITY_EMPTY_ELEMENTDATA" "[Ljava/lang/Object;") (.object "java/lang/Object")) (by decide +kernel)) (va_eqt (flat_of_before _ e4 (Cond.eq (.length (.static "java/util/ArrayList" "DEFAULTCAPACITY_EMPTY_ELEMENTDATA" "[Ljava/lang/Object;")) (.int (Int32.ofNat 0))) (by decide +kernel))) (fun j hj => absurd hj (Nat.not_lt_zero j)) hA
  unfold zD
  rw [eT _ _ ht]
  exact ⟨((va_Zref (e3 _ (by decide +kernel)) (e3 _ (by decide +kernel)) ht hA).moved e5).kept (fun a ha _ => e7 a (e1 ▸ ha)), (va_T.moved e5 hT).kept (fun a ha _ => e7 a (e1 ▸ ha))⟩
theorem shr1 {n : Nat} (h : n < 2 ^ 31) : nI n >>> (nI 1 &&& 31) = nI (n / 2) := by
  have k := pk_shrN (n := n) (by omega) (nI 1 &&& 31) 1 (by decide)
  rw [Nat.pow_one] at k
  exact k
/-- the capacity behind one more -/
def capN (cap sz : Nat) : Nat := if sz = cap then (if cap = 0 then 10 else cap + max 1 (cap / 2)) else cap
theorem g_getC (S : CallFix p m c cc nL s args Ts own) (hml2 : c.maxLocals = nL) {a n index mi : Nat} {g : Nat → Option Nat} {r : Role} (hm : M r = some (a, aR "java/lang/Object" n g)) (hM : va_Mi "[Ljava/lang/Object;" mi s) (hlink : Cond.methodLink own index ⟨"java/lang/Object", "getClass", "()Ljava/lang/Class;"⟩ ∈ Ts) (hdecl : (Cond.declares ⟨"java/lang/Object", "getClass", "()Ljava/lang/Class;"⟩).before args s = true)
    (hsel : Cond.selects "[Ljava/lang/Object;" ⟨"java/lang/Object", "getClass", "()Ljava/lang/Class;"⟩ ⟨"java/lang/Object", "getClass", "()Ljava/lang/Class;"⟩ ∈ Ts) (hinst : Cond.instanceMethod ⟨"java/lang/Object", "getClass", "()Ljava/lang/Class;"⟩ ∈ Ts) (hnat : Cond.native ⟨"java/lang/Object", "getClass", "()Ljava/lang/Class;"⟩ ∈ Ts) (hframes : 1 ≤ R.frames) (hlocals : (rest.map fun v => v.category).sum + 14 ≤ R.locals) (hd : decode cc pc = .ok (.invokevirtual index, 3))
    (kk : G Z p l e R s m args below meth c Q cells slots nL M (pc + 3) L (.ref mi :: rest)) : G Z p l e R s m args below meth c Q cells slots nL M pc L (.ref a :: rest) := by
  intro H locs ls hP hS hl
  obtain ⟨cA, h1, h2, h3⟩ := (hP.1 _ _ _ hm).1
  refine va_getC S.1 S.2.1 (by rw [hml2]; exact hl.1.symm) S.2.2.2.1 (S.2.2.2.2 _ hlink) hdecl (S.2.2.2.2 _ hsel) (S.2.2.2.2 _ hinst) (S.2.2.2.2 _ hnat) hM ⟨_, h1, rfl, va_nmO h3 rfl⟩ hframes hlocals hd (kk H locs ls hP hS hl)
theorem g_ldcM (S : CallFix p m c cc nL s args Ts own) {C : String} {index mi : Nat} (hlink : Cond.classLink own index C ∈ Ts) (hM : va_Mi C mi s) (hd : decode cc pc = .ok (.ldc index, 2)) (kk : G Z p l e R s m args below meth c Q cells slots nL M (pc + 2) L (.ref mi :: rest)) : G Z p l e R s m args below meth c Q cells slots nL M pc L rest :=
  fun H locs ls hP hS hl => va_ldcM S.1 S.2.1 S.2.2.2.1 (S.2.2.2.2 _ hlink) hM hd (kk H locs ls hP hS hl)
theorem g_acmp_eqR (S : CallFix p m c cc nL s args Ts own) {x y : Nat} {off : Int} (tgt : Nat) (hd : decode cc pc = .ok (.if_acmp .eq off, 3)) (ht : (pc : Int) + off = (tgt : Int)) (kt : x = y → G Z p l e R s m args below meth c Q cells slots nL M tgt L rest) (kf : ¬ x = y → G Z p l e R s m args below meth c Q cells slots nL M (pc + 3) L rest) : G Z p l e R s m args below meth c Q cells slots nL M pc L (.ref y :: .ref x :: rest) :=
  fun H locs ls hP hS hl => lv_acmp_eq (rx := some x) (ry := some y) S.1 S.2.1 hd ht (fun h => kt (Option.some.inj h) H locs ls hP hS hl) (fun h => kf (fun z => h (by rw [z])) H locs ls hP hS hl)
theorem g_acmp_neR (S : CallFix p m c cc nL s args Ts own) {x y : Nat} {off : Int} (tgt : Nat) (hd : decode cc pc = .ok (.if_acmp .ne off, 3)) (ht : (pc : Int) + off = (tgt : Int)) (kt : ¬ x = y → G Z p l e R s m args below meth c Q cells slots nL M tgt L rest) (kf : x = y → G Z p l e R s m args below meth c Q cells slots nL M (pc + 3) L rest) : G Z p l e R s m args below meth c Q cells slots nL M pc L (.ref y :: .ref x :: rest) :=
  fun H locs ls hP hS hl => lv_acmp_ne (rx := some x) (ry := some y) S.1 S.2.1 hd ht (fun h => kt (fun z => h (by rw [z])) H locs ls hP hS hl) (fun h => kf (Option.some.inj h) H locs ls hP hS hl)
end OROWS
