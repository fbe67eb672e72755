section JROWS
variable {Z : Zp} {p : Program} {l : Launch} {e : Env} {R : Room} {s : State} {m : MethodId} {args : Array Value} {below : List Frame} {meth : Method} {c : Code} {Q : State → Prop} {cells slots nL : Nat} {M : Wd} {pc : Nat} {L : List (Nat × Value)} {st rest : List Value}
variable {cc : ByteArray} {Ts : List Cond} {own : String}
/-- a static int or boolean of the start -/
theorem Stat.zv (h : Stat Z s) {C n d : String} {x : Int32} (h1 : Cond.laysStatic C n d ∈ lw_tbl) (h2 : Cond.initialized C ∈ lw_tbl) (h3 : Cond.eq (.static C n d) (.int x) ∈ flatC (Jvm.Cond.and given_1 narrow_1)) : va_Z C n d (.int x) (AZ Z) s s.heap := by
  obtain ⟨U0, e1, -, e3, e4, e5, e6, e7⟩ := h
  have hq := va_Zof (A := AZ Z) (e3 _ h1) (e3 _ h2) (va_eqi (flat_of_before _ e4 _ h3)) (fun a ha => Nat.not_le.mpr (e1 ▸ ha))
  exact (hq.moved e5).kept (fun a ha _ => e7 a (e1 ▸ ha))
theorem g_getsI (S : CallFix p m c cc nL s args Ts own) {C n d ref : String} {x : Int32} {index : Nat} (hZ : va_Z C n d (.int x) (AZ Z) s s.heap) (hlink : Cond.fieldLink own index ref n d ∈ Ts) (hsame : ∀ x, s.fieldFound? C n d = some x → s.fieldFound? ref n d = some x) (hd : decode cc pc = .ok (.getstatic index, 3)) (kk : G Z p l e R s m args below meth c Q cells slots nL M (pc + 3) L (.int x :: rest)) : G Z p l e R s m args below meth c Q cells slots nL M pc L rest :=
  fun H locs ls hP hS hl => va_gets S.1 S.2.1 hZ hS S.2.2.2.1 (S.2.2.2.2 _ hlink) hsame hd (kk H locs ls hP hS hl)
theorem g_ldc (S : CallFix p m c cc nL s args Ts own) {index : Nat} {v : Int32} (hk : Cond.constant own index v ∈ Ts) (hd : decode cc pc = .ok (.ldc index, 2)) (kk : G Z p l e R s m args below meth c Q cells slots nL M (pc + 2) L (.int v :: rest)) : G Z p l e R s m args below meth c Q cells slots nL M pc L rest :=
  fun H locs ls hP hS hl => lv_ldc S.1 S.2.1 S.2.2.2.1 (S.2.2.2.2 _ hk) hd (kk H locs ls hP hS hl)
/-- a method that the receiver's class inherits -/
theorem g_callU (S : CallFix p m c cc nL s args Ts own) (hz : Stat Z s) (hml2 : c.maxLocals = nL) {x y : MethodName} {bytes : ByteArray} {maxL n index : Nat} {ret : Option FieldType} {ws : List Cond} {rm : Room} {mc ms : Nat} {post : Option Value → Wd → Prop} {C owner : String} {T0 : u_T} {N0 a ci : Nat} {fs : List Value} {r : Role} (As : List Value) (hM : Ct Z l y ws rm (.ref a :: As) M mc ms post (fun _ _ => False)) (cw : va_CU R s args own C owner index x y bytes maxL ret ws rm mc ms n) (hm : M r = some (a, .inr (ci, fs))) (hc : vwCl[ci]? = some (C, T0, N0)) (hst : st = As.reverse ++ .ref a :: rest) (hn : As.length = n) (hcat : (rest.map fun v => v.category).sum ≤ 8) (hd : decode cc pc = .ok (.invokevirtual index, 3)) (hf : cells + mc ≤ R.cells ∧ slots + ms ≤ R.slots) (kk : ∀ (v : Option Value) (M2 : Wd), post v M2 → G Z p l e R s m args below meth c Q (cells + mc) (slots + ms) nL M2 (pc + 3) L (v.toList ++ rest)) : G Z p l e R s m args below meth c Q cells slots nL M pc L st := by
  subst hst
  intro H locs ls hP hS hl T hT X
  obtain ⟨v, st₀, t, T', LL, h0, X', hL, e1, e2, ⟨⟨v2, M', hv, hpo, hi⟩, hF⟩, st⟩ := va_runU (g := F0 m pc ls (As.reverse ++ .ref a :: rest)) S hM.met cw ⟨pre_blind, va_recv (q0 := 0) hz.K (hP.one hm) hc rfl, pre_inv hz hP hS⟩ rfl hn (hl.1.trans (hml2.symm.trans S.2.2.1)) rfl (lv_room hcat) hd hf T hT X
  cases hv
  obtain ⟨k1, k2, k3⟩ := vx_keep h0 e1 hS (fun q _ h => h) (fun q h => h) hL hF
  have hal : t.vm.Alike s.vm := by rw [← e2]; exact X'.warmed.alike.symm
  obtain ⟨t2, a1, b1⟩ := kk v M' hpo T'.heap (locs ++ LL) ls (by rw [e1]; exact hi.2.moved hal) k3 hl T' rfl X'
  exact ⟨t2, st t2 a1, b1⟩
/-- super's method -/
theorem g_callSU (S : CallFix p m c cc nL s args Ts own) (hz : Stat Z s) (hml2 : c.maxLocals = nL) {y : MethodName} {bytes : ByteArray} {maxL n index : Nat} {ret : Option FieldType} {ws : List Cond} {rm : Room} {mc ms : Nat} {post : Option Value → Wd → Prop} {C : String} {T0 : u_T} {N0 a ci : Nat} {fs : List Value} {r : Role} (As : List Value) (hM : Ct Z l y ws rm (.ref a :: As) M mc ms post (fun _ _ => False)) (cw : va_CS R s args own index y bytes maxL ret ws rm mc ms n) (hm : M r = some (a, .inr (ci, fs))) (hc : vwCl[ci]? = some (C, T0, N0)) (hst : st = As.reverse ++ .ref a :: rest) (hn : As.length = n) (hcat : (rest.map fun v => v.category).sum ≤ 8) (hd : decode cc pc = .ok (.invokespecial index, 3)) (hf : cells + mc ≤ R.cells ∧ slots + ms ≤ R.slots) (kk : ∀ (v : Option Value) (M2 : Wd), post v M2 → G Z p l e R s m args below meth c Q (cells + mc) (slots + ms) nL M2 (pc + 3) L (v.toList ++ rest)) : G Z p l e R s m args below meth c Q cells slots nL M pc L st := by
  subst hst
  intro H locs ls hP hS hl T hT X
  obtain ⟨v, st₀, t, T', LL, h0, X', hL, e1, e2, ⟨⟨v2, M', hv, hpo, hi⟩, hF⟩, st⟩ := va_runSU (g := F0 m pc ls (As.reverse ++ .ref a :: rest)) (hz.K.1 ci _ hc).2 S hM.met cw ⟨pre_blind, va_recv (q0 := 0) hz.K (hP.one hm) hc rfl, pre_inv hz hP hS⟩ rfl hn (hl.1.trans (hml2.symm.trans S.2.2.1)) rfl (lv_room hcat) hd hf T hT X
  cases hv
  obtain ⟨k1, k2, k3⟩ := vx_keep h0 e1 hS (fun q _ h => h) (fun q h => h) hL hF
  have hal : t.vm.Alike s.vm := by rw [← e2]; exact X'.warmed.alike.symm
  obtain ⟨t2, a1, b1⟩ := kk v M' hpo T'.heap (locs ++ LL) ls (by rw [e1]; exact hi.2.moved hal) k3 hl T' rfl X'
  exact ⟨t2, st t2 a1, b1⟩
/-- a static row of the start: where it lies, what it holds -/
theorem Stat.zt (h : Stat Z s) {C n d : String} {ty : FieldType} {N : Nat} {f : Nat → Int32} (hN : N < 2 ^ 31) (h1 : Cond.laysStatic C n d ∈ lw_tbl) (h2 : Cond.initialized C ∈ lw_tbl) (h3 : Cond.arrayOf (.static C n d) ty ∈ flatC (Jvm.Cond.and given_1 narrow_1)) (h4 : Cond.eq (.length (.static C n d)) (.int (Int32.ofNat N)) ∈ flatC (Jvm.Cond.and given_1 narrow_1)) (h5 : ∀ j : Nat, j < N → Cond.eq (.elem (.static C n d) (.int (Int32.ofNat j))) (.int (f j)) ∈ flatC (Jvm.Cond.and given_1 narrow_1)) : ∃ t : Nat, va_Z C n d (.ref t) (AZ Z) s s.heap ∧ va_T ty t N (fun j => .int (f j)) (AZ Z) s s.heap := by
  obtain ⟨U0, e1, -, e3, e4, e5, e6, e7⟩ := h
  have hA : ∀ a : Nat, a < U0.heap.size → ¬ AZ Z a := fun a ha => Nat.not_le.mpr (e1 ▸ ha)
  obtain ⟨t, ht, hT⟩ := va_Tof (f := fun j => .int (f j)) (A := AZ Z) hN (flat_of_before _ e4 _ h3) (va_eqt (flat_of_before _ e4 _ h4)) (fun j hj => va_eqt (flat_of_before _ e4 _ (h5 j hj))) hA
  exact ⟨t, ((va_Zref (e3 _ h1) (e3 _ h2) ht hA).moved e5).kept (fun a ha _ => e7 a (e1 ▸ ha)), (hT.moved e5).kept (fun a ha _ => e7 a (e1 ▸ ha))⟩
theorem g_getsR (S : CallFix p m c cc nL s args Ts own) {C n d ref : String} {t : Nat} {index : Nat} (hZ : va_Z C n d (.ref t) (AZ Z) s s.heap) (hlink : Cond.fieldLink own index ref n d ∈ Ts) (hsame : ∀ x, s.fieldFound? C n d = some x → s.fieldFound? ref n d = some x) (hd : decode cc pc = .ok (.getstatic index, 3)) (kk : G Z p l e R s m args below meth c Q cells slots nL M (pc + 3) L (.ref t :: rest)) : G Z p l e R s m args below meth c Q cells slots nL M pc L rest :=
  fun H locs ls hP hS hl => va_gets S.1 S.2.1 hZ hS S.2.2.2.1 (S.2.2.2.2 _ hlink) hsame hd (kk H locs ls hP hS hl)
theorem g_tb (S : CallFix p m c cc nL s args Ts own) {t N j : Nat} {f : Nat → Value} {v : Value} (hT : va_T .byte t N f (AZ Z) s s.heap) (hj : j < N) (hN : N < 2 ^ 31) (hv : f j = v) (hd : decode cc pc = .ok (.baload, 1)) (kk : G Z p l e R s m args below meth c Q cells slots nL M (pc + 1) L (v :: rest)) : G Z p l e R s m args below meth c Q cells slots nL M pc L (.int (nI j) :: .ref t :: rest) :=
  fun H locs ls hP hS hl => va_tb S.1 S.2.1 hT hS (vp_in_nI hj hN) (by rw [nI_clamp (Nat.lt_trans hj hN)]; exact hv) hd (kk H locs ls hP hS hl)
def cpN (f g : Nat → Nat) (sp dp n : Nat) : Nat → Nat := fun j => if dp ≤ j ∧ j < dp + n then f (sp + (j - dp)) else g j
theorem cpN_cpy (f g : Nat → Nat) (sp dp n : Nat) : va_cpy (fun j => nI (f j)) (fun j => nI (g j)) sp dp n = fun j => nI (cpN f g sp dp n j) := by
  funext j
  unfold va_cpy cpN
  split <;> rfl
set_option maxHeartbeats 1000000 in
/-- System.arraycopy between two rows of one kind of numbers -/
theorem g_copyB (S : CallFix p m c cc nL s args Ts own) {ty : FieldType} {n0 n1 a0 a index : Nat} {f g : Nat → Nat} {r0 r : Role} (hm0 : M r0 = some (a0, aN ty n0 f)) (hm : M r = some (a, aN ty n1 g)) (hprim : refKind ty = false) {sp dp n : Nat} (h4 : sp + n ≤ n0) (h5 : dp + n ≤ n1) (hb0 : n0 < 2 ^ 31) (hb1 : n1 < 2 ^ 31) (hfit : ∀ i, i < n → fits ty (.int (nI (f (sp + i)))) = true)
    (hlink : Cond.methodLink own index arraycopyName ∈ Ts) (hnat : Cond.native arraycopyName ∈ Ts) (hstat : Cond.static arraycopyName ∈ Ts) (hini : Cond.initialized "java/lang/System" ∈ Ts) (hml2 : c.maxLocals = nL) (hframes : 1 ≤ R.frames) (hlocals : (rest.map fun v => v.category).sum + (nativeFrameWords "java/lang/System" "arraycopy" 5 + 11) ≤ R.locals) (hd : decode cc pc = .ok (.invokestatic index, 3))
    (kk : ∀ M2 : Wd, (∀ r2 : Role, r2 ≠ r → M2 r2 = M r2) → M2 r = some (a, aN ty n1 (cpN f g sp dp n)) → G Z p l e R s m args below meth c Q cells slots nL M2 (pc + 3) L rest) : G Z p l e R s m args below meth c Q cells slots nL M pc L (.int (nI n) :: .int (nI dp) :: .ref a :: .int (nI sp) :: .ref a0 :: rest) := by
  intro H locs ls hP hS hl T hT X
  obtain ⟨c0, x1, x2, x3⟩ := (hP.1 _ _ _ hm0).1
  obtain ⟨c1, y1, y2, y3⟩ := (hP.1 _ _ _ hm).1
  obtain ⟨-, k0, hk0, cm0, hkk0⟩ := x2 n0 (fun j => .int (nI (f j)))
  obtain ⟨-, k1, hk1, cm1, hkk1⟩ := y2 n1 (fun j => .int (nI (g j)))
  have es : (nI sp).toNatClampNeg = sp := nI_clamp (by omega)
  have ed : (nI dp).toNatClampNeg = dp := nI_clamp (by omega)
  have en : (nI n).toNatClampNeg = n := nI_clamp (by omega)
  obtain ⟨vm', X', step⟩ := X.arraycopy S.1 S.2.2.2.1 (S.2.2.2.2 _ hlink) (S.2.2.2.2 _ hnat) (S.2.2.2.2 _ hstat) (S.2.2.2.2 _ hini) (src := a0) (dst := a) (cs := vp_cell c0 (n0, .inl (fun j => nI (f j)))) (cd := vp_cell c1 (n1, .inl (fun j => nI (g j)))) (srcPos := nI sp) (destPos := nI dp) (n := nI n) (by rw [hT]; exact x1) (by rw [hT]; exact y1)
    (fun _ h => by cases h) (fun _ h => by cases h) (fun h => by cases h) (fun h => by cases h) hk0 hk1 hkk0 hkk1 (by simp [hprim]) (nI_pos (by omega)) (nI_pos (by omega)) (nI_pos (by omega))
    (by rw [nI_toInt (show sp < 2 ^ 31 by omega), nI_toInt (show n < 2 ^ 31 by omega)]; show ¬ _ > ((arrV c0 n0 (fun j => .int (nI (f j)))).slots.size : Int); rw [arrV_size]; omega)
    (by rw [nI_toInt (show dp < 2 ^ 31 by omega), nI_toInt (show n < 2 ^ 31 by omega)]; show ¬ _ > ((arrV c1 n1 (fun j => .int (nI (g j)))).slots.size : Int); rw [arrV_size]; omega)
    (fun vm₁ _ i hi => by
      rw [en] at hi
      rw [es]
      have e0 : (vp_cell c0 (n0, .inl (fun j => nI (f j)))).slots.getD (sp + i) .null = .int (nI (f (sp + i))) := by
        show (arrV c0 n0 (fun j => .int (nI (f j)))).slots.getD _ _ = _
        rw [Array.getD_eq_getD_getElem?, arrV_read _ _ (by omega)]
        rfl
      rw [e0]
      exact ⟨hfit i hi, trivial⟩)
    (g := F0 m pc ls (.int (nI n) :: .int (nI dp) :: .ref a :: .int (nI sp) :: .ref a0 :: rest)) rfl (by rw [hml2]; exact hl.1) (rest := rest) rfl (by rw [S.2.1]; exact hd) hframes (by show 2 * 0 + _ + _ ≤ _; omega)
  have e1 : copied (vp_cell c0 (n0, .inl (fun j => nI (f j)))) (vp_cell c1 (n1, .inl (fun j => nI (g j)))) (nI sp) (nI dp) (nI n) = vp_cell c1 (n1, .inl (fun j => nI (cpN f g sp dp n j))) := by
    show (arrV c1 n1 (fun j => .int (nI (g j)))).storeRun (nI dp).toNatClampNeg ((arrV c0 n0 (fun j => .int (nI (f j)))).stretch (nI sp).toNatClampNeg (nI n).toNatClampNeg) = arrV c1 n1 (fun j => .int (nI (cpN f g sp dp n j)))
    rw [es, ed, en, va_copied (fun z => .int z) c0 c1 (n0 := n0) (n1 := n1) (fun j => nI (f j)) (fun j => nI (g j)) h4, cpN_cpy]
  rw [e1] at X' step
  have hl2 : a < H.size := (Array.getElem?_eq_some_iff.mp y1).1
  have o1 : ∀ q : Nat, q ≠ a → (H.setIfInBounds a (vp_cell c1 (n1, .inl (fun j => nI (cpN f g sp dp n j)))))[q]? = H[q]? := fun q hq => by simp [Array.getElem?_setIfInBounds, Ne.symm hq]
  have z1 : (H.setIfInBounds a (vp_cell c1 (n1, .inl (fun j => nI (cpN f g sp dp n j))))).size = H.size := by simp
  have hge : Z.2.1 ≤ a := (hP.1 _ _ _ hm).2
  obtain ⟨t, a1, b1⟩ := kk (wup M r a (aN ty n1 (cpN f g sp dp n))) (fun r2 h => wup_n h) wup_s (H.setIfInBounds a (vp_cell c1 (n1, .inl (fun j => nI (cpN f g sp dp n j))))) _ ls (hP.put hm ⟨c1, by simp [Array.getElem?_setIfInBounds, hl2], y2, y3⟩ o1) ⟨by rw [z1]; exact hS.1, fun q g1 g2 => (o1 q (fun z => g2 (by rw [z]; exact hge))).trans (hS.2.1 q g1 g2), fun q hq => by
      rcases List.mem_append.mp hq with h | h
      · exact hS.2.2 q h
      · obtain ⟨z, -, hzz⟩ := List.mem_map.mp h
        rw [← hzz]
        exact (hP.1 _ _ _ hm).2⟩ hl _ (by rw [← hT]; rfl) X'
  exact ⟨t, step t a1, b1⟩
theorem nI_by : ∀ x : Nat, x < 128 → (nI x).toInt8.toInt32 = nI x := by decide +kernel
theorem fit_b {x : Nat} (h : x < 128) : fits .byte (.int (nI x)) = true := by
  rw [← nI_by x h]
  exact pk_fb _
theorem g_bast (S : CallFix p m c cc nL s args Ts own) (hz : Stat Z s) {n a j x : Nat} {g : Nat → Nat} {r : Role} (hm : M r = some (a, aN .byte n g)) (hj : j < n) (hn : n < 2 ^ 31) (hx : x < 128) (hd : decode cc pc = .ok (.bastore, 1)) (kk : ∀ M2 : Wd, (∀ r2 : Role, r2 ≠ r → M2 r2 = M r2) → M2 r = some (a, aN .byte n (upN g j x)) → G Z p l e R s m args below meth c Q cells slots nL M2 (pc + 1) L rest) : G Z p l e R s m args below meth c Q cells slots nL M pc L (.int (nI x) :: .int (nI j) :: .ref a :: rest) := by
  intro H locs ls hP hS hl
  obtain ⟨cA, h1, h2, h3⟩ := (hP.1 _ _ _ hm).1
  refine W.bast S.1 S.2.1 h1 (h2 n (fun k => .int (nI (g k)))) (fun q => by cases q) (by show ¬ (nI j < 0 ∨ (arrV _ _ _).slots.size ≤ _); rw [arrV_size]; exact vp_in_nI hj hn) rfl rfl hd fun H1 e1 z1 o1 => ?_
  have hnar : narrow .byte (.int (nI x)) = .int (nI x) := by
    have := pk_nb (nI x)
    rw [nI_by x hx] at this
    exact this
  rw [hnar] at e1
  refine kk (wup M r a (aN .byte n (upN g j x))) (fun r2 h => wup_n h) wup_s H1 _ ls (hP.put hm ⟨cA, ?_, h2, h3⟩ o1) (hS.put z1 o1 (hP.1 _ _ _ hm).2) hl
  rw [e1]
  show some ((vp_cell cA (n, .inl (fun k => nI (g k)))).setSlot _ _) = some (vp_cell cA (n, .inl (fun k => nI (upN g j x k))))
  rw [nI_clamp (Nat.lt_trans hj hn), vp_cell_i, vp_cell_i, arrV_store]
  congr 2
  funext q
  by_cases hq : q = j
  · subst hq
    simp [updV, upN]
  · simp [updV, upN, hq]
set_option maxRecDepth 100000 in
/-- the digits' rows -/
theorem Stat.zd (h : Stat Z s) : ∃ t : Nat, va_Z "java/lang/Integer" "DigitOnes" "[B" (.ref t) (AZ Z) s s.heap ∧ va_T .byte t 100 (fun j => .int (nI (48 + j % 10))) (AZ Z) s s.heap := by
  exact h.zt (by decide) (by decide +kernel) (by decide +kernel) (by decide +kernel) (by decide +kernel) (fun j hj => va_run (N := 100) (p := 18) (f := fun j => Cond.eq (.elem (.static "java/lang/Integer" "DigitOnes" "[B") (.int (Int32.ofNat j))) (.int (nI (48 + j % 10)))) (by decide +kernel) j hj)
set_option maxRecDepth 100000 in
theorem Stat.ze (h : Stat Z s) : ∃ t : Nat, va_Z "java/lang/Integer" "DigitTens" "[B" (.ref t) (AZ Z) s s.heap ∧ va_T .byte t 100 (fun j => .int (nI (48 + j / 10))) (AZ Z) s s.heap := by
  exact h.zt (by decide) (by decide +kernel) (by decide +kernel) (by decide +kernel) (by decide +kernel) (fun j hj => va_run (N := 100) (p := 121) (f := fun j => Cond.eq (.elem (.static "java/lang/Integer" "DigitTens" "[B") (.int (Int32.ofNat j))) (.int (nI (48 + j / 10)))) (by decide +kernel) j hj)
end JROWS
