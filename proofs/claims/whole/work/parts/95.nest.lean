section NEST
variable {Z : Zp} {p : Program} {l : Launch} {e : Env} {R : Room} {s : State} {m : MethodId} {args : Array Value} {below : List Frame} {meth : Method} {c : Code} {Q : State → Prop} {cells slots nL : Nat} {M M0 : Wd} {pc : Nat} {L : List (Nat × Value)} {st rest : List Value}
variable {cc : ByteArray} {Ts : List Cond} {own : String}
theorem Stat.nest (h : Stat Z s) {ow host : String} {k : Nat} {y : MethodName} (h1 : Cond.methodLinkNest ow k y host ∈ lw_tbl) : va_Nw (.methodLinkNest ow k y host) s := by
  obtain ⟨U0, e1, ⟨-, eW, eT⟩, e3, e4, e5, e6, e7⟩ := h
  exact va_Nw.warmM eW (va_Nw.of rfl (e3 _ h1))
/-- the constructor of a nest mate -/
theorem g_callIN (S : CallFix p m c cc nL s args Ts own) (hz : Stat Z s) (hml2 : c.maxLocals = nL) {y : MethodName} {host : String} {bytes : ByteArray} {maxL n index : Nat} {ws : List Cond} {rm : Room} {mc ms a : Nat} {post : Option Value → Wd → Prop} (As : List Value) (hM : Ct Z l y ws rm (.ref a :: As) M mc ms post (fun _ _ => False)) (cw : va_CN R s args own index y host bytes maxL none ws rm mc ms n ∧ y.name = "<init>" ∧ (Cond.instanceMethod y).before args s = true) (hst : st = As.reverse ++ .ref a :: rest) (hn : As.length = n) (hcat : (rest.map fun v => v.category).sum ≤ 8) (hd : decode cc pc = .ok (.invokespecial index, 3)) (hf : cells + mc ≤ R.cells ∧ slots + ms ≤ R.slots) (kk : ∀ (v : Option Value) (M2 : Wd), post v M2 → G Z p l e R s m args below meth c Q (cells + mc) (slots + ms) nL M2 (pc + 3) L (v.toList ++ rest)) : G Z p l e R s m args below meth c Q cells slots nL M pc L st := by
  subst hst
  intro H locs ls hP hS hl T hT X
  obtain ⟨v, st₀, t, T', LL, h0, X', hL, e1, e2, ⟨⟨v2, M', hv, hpo, hi⟩, hF⟩, st⟩ := va_runIN S hM.met cw ⟨pre_blind, pre_inv hz hP hS⟩ rfl hn (hl.1.trans (hml2.symm.trans S.2.2.1)) rfl (lv_room hcat) hd hf T hT X
  cases hv
  obtain ⟨k1, k2, k3⟩ := vx_keep h0 e1 hS (fun q _ h => h) (fun q h => h) hL hF
  have hal : t.vm.Alike s.vm := by rw [← e2]; exact X'.warmed.alike.symm
  obtain ⟨t2, a1, b1⟩ := kk v M' hpo T'.heap (locs ++ LL) ls (by rw [e1]; exact hi.2.moved hal) k3 hl T' rfl X'
  exact ⟨t2, st t2 a1, b1⟩
end NEST
