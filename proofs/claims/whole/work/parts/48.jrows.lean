section JROWS
variable {Z : Zp} {p : Program} {l : Launch} {e : Env} {R : Room} {s : State} {m : MethodId} {args : Array Value} {below : List Frame} {meth : Method} {c : Code} {Q : State → Prop} {cells slots nL : Nat} {M : Wd} {pc : Nat} {L : List (Nat × Value)} {st rest : List Value}
variable {cc : ByteArray} {Ts : List Cond} {own : String}
/-- a static int or boolean of the start -/
theorem Stat.zv (h : Stat Z s) {C n d : String} {x : Int32} (h1 : Cond.laysStatic C n d ∈ lw_tbl) (h2 : Cond.initialized C ∈ lw_tbl) (h3 : Cond.eq (.static C n d) (.int x) ∈ flatC (Jvm.Cond.and given_1 narrow_1)) : va_Z C n d (.int x) (AZ Z) s s.heap := by
  obtain ⟨U0, e1, -, e3, e4, e5, e6, e7⟩ := h
  have hq := va_Zof (A := AZ Z) (e3 _ h1) (e3 _ h2) (va_eqi (flat_of_before _ e4 _ h3)) (fun a ha => Nat.not_le.mpr (e1 ▸ ha))
  exact (hq.moved e5).kept (fun a ha _ => e7 a (e1 ▸ ha))
theorem g_getsI (S : CallFix p m c cc nL s args Ts own) {C n d ref : String} {x : Int32} {index : Nat} (hZ : va_Z C n d (.int x) (AZ Z) s s.heap) (hlink : Cond.fieldLink own index ref n d ∈ Ts) (hsame : ∀ x, s.fieldFound? C n d = some x → s.fieldFound? ref n d = some x) (hd : decode cc pc = .ok (.getstatic index, 3)) (kk : G Z p l e R s m args below meth c Q cells slots nL M (pc + 3) L (.int x :: rest)) : G Z p l e R s m args below meth c Q cells slots nL M pc L rest :=
  fun H locs ls hP hS hl => va_gets S.1 S.2.1 hZ hS S.2.2.2.1 (S.2.2.2.2 _ hlink) hsame hd (kk H locs ls hP hS hl)
theorem g_ldc (S : CallFix p m c cc nL s args Ts own) {index : Nat} {v : Int32} (hk : Cond.constant own index v ∈ Ts) (hd : decode cc pc = .ok (.ldc index, 2)) (kk : G Z p l e R s m args below meth c Q cells slots nL M (pc + 2) L (.int v :: rest)) : G Z p l e R s m args below meth c Q cells slots nL M pc L rest :=
  fun H locs ls hP hS hl => lv_ldc S.1 S.2.1 S.2.2.2.1 (S.2.2.2.2 _ hk) hd (kk H locs ls hP hS hl)
/-- a method that the receiver's class inherits -/
theorem g_callU (S : CallFix p m c cc nL s args Ts own) (hz : Stat Z s) (hml2 : c.maxLocals = nL) {x y : MethodName} {bytes : ByteArray} {maxL n index : Nat} {ret : Option FieldType} {ws : List Cond} {rm : Room} {mc ms : Nat} {post : Option Value → Wd → Prop} {C owner : String} {T0 : u_T} {N0 a ci : Nat} {fs : List Value} {r : Role} (As : List Value) (hM : Ct Z l y ws rm (.ref a :: As) M mc ms post (fun _ _ => False)) (cw : va_CU R s args own C owner index x y bytes maxL ret ws rm mc ms n) (hm : M r = some (a, .inr (ci, fs))) (hc : vwCl[ci]? = some (C, T0, N0)) (hst : st = As.reverse ++ .ref a :: rest) (hn : As.length = n) (hcat : (rest.map fun v => v.category).sum ≤ 8) (hd : decode cc pc = .ok (.invokevirtual index, 3)) (hf : cells + mc ≤ R.cells ∧ slots + ms ≤ R.slots) (kk : ∀ (v : Option Value) (M2 : Wd), post v M2 → G Z p l e R s m args below meth c Q (cells + mc) (slots + ms) nL M2 (pc + 3) L (v.toList ++ rest)) : G Z p l e R s m args below meth c Q cells slots nL M pc L st := by
  subst hst
  intro H locs ls hP hS hl T hT X
  obtain ⟨v, st₀, t, T', LL, h0, X', hL, e1, e2, ⟨⟨v2, M', hv, hpo, hi⟩, hF⟩, st⟩ := va_runU (g := F0 m pc ls (As.reverse ++ .ref a :: rest)) S hM.met cw ⟨pre_blind, va_recv (q0 := 0) hz.K (hP.one hm) hc rfl, pre_inv hz hP hS⟩ rfl hn (hl.1.trans (hml2.symm.trans S.2.2.1)) rfl (lv_room hcat) hd hf T hT X
  cases hv
  obtain ⟨k1, k2, k3⟩ := vx_keep h0 e1 hS (fun q _ h => h) (fun q h => h) hL hF
  have hal : t.vm.Alike s.vm := by rw [← e2]; exact X'.warmed.alike.symm
  obtain ⟨t2, a1, b1⟩ := kk v M' hpo T'.heap (locs ++ LL) ls (by rw [e1]; exact hi.2.moved hal) k3 hl T' rfl X'
  exact ⟨t2, st t2 a1, b1⟩
/-- super's method -/
theorem g_callSU (S : CallFix p m c cc nL s args Ts own) (hz : Stat Z s) (hml2 : c.maxLocals = nL) {y : MethodName} {bytes : ByteArray} {maxL n index : Nat} {ret : Option FieldType} {ws : List Cond} {rm : Room} {mc ms : Nat} {post : Option Value → Wd → Prop} {C : String} {T0 : u_T} {N0 a ci : Nat} {fs : List Value} {r : Role} (As : List Value) (hM : Ct Z l y ws rm (.ref a :: As) M mc ms post (fun _ _ => False)) (cw : va_CS R s args own index y bytes maxL ret ws rm mc ms n) (hm : M r = some (a, .inr (ci, fs))) (hc : vwCl[ci]? = some (C, T0, N0)) (hst : st = As.reverse ++ .ref a :: rest) (hn : As.length = n) (hcat : (rest.map fun v => v.category).sum ≤ 8) (hd : decode cc pc = .ok (.invokespecial index, 3)) (hf : cells + mc ≤ R.cells ∧ slots + ms ≤ R.slots) (kk : ∀ (v : Option Value) (M2 : Wd), post v M2 → G Z p l e R s m args below meth c Q (cells + mc) (slots + ms) nL M2 (pc + 3) L (v.toList ++ rest)) : G Z p l e R s m args below meth c Q cells slots nL M pc L st := by
  subst hst
  intro H locs ls hP hS hl T hT X
  obtain ⟨v, st₀, t, T', LL, h0, X', hL, e1, e2, ⟨⟨v2, M', hv, hpo, hi⟩, hF⟩, st⟩ := va_runSU (g := F0 m pc ls (As.reverse ++ .ref a :: rest)) (hz.K.1 ci _ hc).2 S hM.met cw ⟨pre_blind, va_recv (q0 := 0) hz.K (hP.one hm) hc rfl, pre_inv hz hP hS⟩ rfl hn (hl.1.trans (hml2.symm.trans S.2.2.1)) rfl (lv_room hcat) hd hf T hT X
  cases hv
  obtain ⟨k1, k2, k3⟩ := vx_keep h0 e1 hS (fun q _ h => h) (fun q h => h) hL hF
  have hal : t.vm.Alike s.vm := by rw [← e2]; exact X'.warmed.alike.symm
  obtain ⟨t2, a1, b1⟩ := kk v M' hpo T'.heap (locs ++ LL) ls (by rw [e1]; exact hi.2.moved hal) k3 hl T' rfl X'
  exact ⟨t2, st t2 a1, b1⟩
end JROWS
