section LROWS
variable {Z : Zp} {p : Program} {l : Launch} {e : Env} {R : Room} {s : State} {m : MethodId} {args : Array Value} {below : List Frame} {meth : Method} {c : Code} {Q : State → Prop} {cells slots nL : Nat} {M : Wd} {pc : Nat} {L : List (Nat × Value)} {st rest : List Value}
variable {cc : ByteArray} {Ts : List Cond} {own : String}
/-- a class that can't be cast, by the start -/
theorem Stat.nc (h : Stat Z s) {E nm : String} (h1 : Cond.not (Cond.castable E nm) ∈ flatC (Jvm.Cond.and given_1 narrow_1)) : va_Nc E nm s := by
  obtain ⟨U0, e1, -, e3, e4, e5, e6, e7⟩ := h
  exact va_Nc.moved e5 (va_Nc.of (flat_of_before _ e4 _ h1))
/-- a contract of a method with handlers, by a walk of the body -/
theorem Ct.ofH {y : MethodName} {ws ws' : List Cond} {rm : Room} {av : List Value} {mc ms maxL : Nat} {ret : Option FieldType} {hh : List (Nat × Nat × Nat × Nat)} {post : Option Value → Wd → Prop} {px : String → Wd → Prop} (hy : plainName y.cls = true) (hw : ws = Cond.codeWith y cc maxL ret hh :: ws') (hlen : (lg_sl av).length ≤ maxL)
    (body : ∀ (p : Program) (e : Env) (s : State) (m : MethodId) (args : Array Value) (below : List Frame) (meth : Method) (c : Code), CallFix p m c cc maxL s args ws y.cls → Stat Z s → c.maxLocals = maxL → c.exceptionTable.toList = tableOf hh → meth.locks = false → meth.sig.returnType = ret → G Z p l e (headSpec ws rm).room s m args below meth c (QZ Z below args s mc ms post px) 0 0 maxL M 0 (lv_args 0 av) []) : Ct Z l y ws rm av M mc ms post px := by
  refine vx_ofWH (cc := cc) (maxL := maxL) (ret := ret) (hh := hh) hy hw ?_
  intro p e s m args below meth c s₁ B hml hv
  obtain ⟨rfl, hz, hP⟩ := hv
  have hl := lv_entry av (n := maxL) hlen
  have hts := atoms_spec (ws := ws) B.pre
  have hcw := hts (Cond.codeWith y cc maxL ret hh) (by rw [hw]; exact List.mem_cons_self)
  have htb := vx_table (x := y) B hcw
  rw [lg_entry_eq]
  exact body p e s m _ below meth c ⟨B.exec, B.bytes, hml, findClass_of_methodNamed B.named, hts⟩ hz hml htb B.notSynchronized B.returns s.heap [] _ hP va_S.rf hl
/-- a static call of a method with handlers -/
theorem g_callSX (S : CallFix p m c cc nL s args Ts own) (hz : Stat Z s) (hml2 : c.maxLocals = nL) {y : MethodName} {bytes : ByteArray} {maxL n index : Nat} {ret : Option FieldType} {hh : List (Nat × Nat × Nat × Nat)} {ws : List Cond} {rm : Room} {mc ms : Nat} {post : Option Value → Wd → Prop} (As : List Value) (hM : Ct Z l y ws rm As M mc ms post (fun _ _ => False)) (cw : vx_CSW R s args own index y bytes maxL ret hh ws rm mc ms n) (hst : st = As.reverse ++ rest) (hn : As.length = n) (hcat : (rest.map fun v => v.category).sum ≤ 8) (hd : decode cc pc = .ok (.invokestatic index, 3)) (hf : cells + mc ≤ R.cells ∧ slots + ms ≤ R.slots) (kk : ∀ (v : Option Value) (M2 : Wd), post v M2 → G Z p l e R s m args below meth c Q (cells + mc) (slots + ms) nL M2 (pc + 3) L (v.toList ++ rest)) : G Z p l e R s m args below meth c Q cells slots nL M pc L st := by
  subst hst
  intro H locs ls hP hS hl T hT X
  rcases vx_runSX S hM cw ⟨pre_blind, pre_inv hz hP hS⟩ rfl hn (hl.1.trans (hml2.symm.trans S.2.2.1)) rfl (lv_room hcat) hd hf T hT X with ⟨v, st₀, t, T', LL, h0, X', hL, e1, e2, ⟨⟨v2, M', hv, hpo, hi⟩, hF⟩, st⟩ | ⟨q, st₀, t, T', LL, E, ce, h0, X', hL, e1, e2, ⟨⟨M', hpx, hi⟩, hF⟩, hce, hcv, hcl, st⟩
  · cases hv
    obtain ⟨k1, k2, k3⟩ := vx_keep h0 e1 hS (fun q _ h => h) (fun q h => h) hL hF
    have hal : t.vm.Alike s.vm := by rw [← e2]; exact X'.warmed.alike.symm
    obtain ⟨t2, a1, b1⟩ := kk v M' hpo T'.heap (locs ++ LL) ls (by rw [e1]; exact hi.2.moved hal) k3 hl T' rfl X'
    exact ⟨t2, st t2 a1, b1⟩
  · exact hpx.elim
/-- the script of the law -/
def Scr (b N : Nat) (xs : Nat → Int32) (Z : Zp) (s : State) : Prop := va_X b N xs s s.heap ∧ b < s.heap.size ∧ ¬ AZ Z b
theorem g_sld (S : CallFix p m c cc nL s args Ts own) {b N : Nat} {xs : Nat → Int32} (hX : Scr b N xs Z s) {j : Nat} (hj : j < N) (hN : N < 2 ^ 31) (hd : decode cc pc = .ok (.iaload, 1)) (k : G Z p l e R s m args below meth c Q cells slots nL M (pc + 1) L (.int (xs j) :: rest)) : G Z p l e R s m args below meth c Q cells slots nL M pc L (.int (nI j) :: .ref b :: rest) := by
  intro H locs ls hP hS hl
  refine va_sld S.1 S.2.1 hX.1 hX.2.1 hX.2.2 hS (vp_in_nI hj hN) hd ?_
  rw [nI_clamp (by omega)]
  exact k H locs ls hP hS hl
theorem g_slen (S : CallFix p m c cc nL s args Ts own) {b N : Nat} {xs : Nat → Int32} (hX : Scr b N xs Z s) (hd : decode cc pc = .ok (.arraylength, 1)) (k : G Z p l e R s m args below meth c Q cells slots nL M (pc + 1) L (.int (nI N) :: rest)) : G Z p l e R s m args below meth c Q cells slots nL M pc L (.ref b :: rest) := by
  intro H locs ls hP hS hl
  exact va_slen S.1 S.2.1 hX.1 hX.2.1 hX.2.2 hS hd (k H locs ls hP hS hl)
theorem g_tabIn (S : CallFix p m c cc nL s args Ts own) {dflt lo hi : Int} {offs : Array Int} {len : Nat} {x : Int32} {off : Int} (tgt : Nat) (hd : decode cc pc = .ok (.tableswitch dflt lo hi offs, len)) (h1 : ¬ x.toInt < lo) (h2 : ¬ hi < x.toInt) (ho : offs[(x.toInt - lo).toNat]? = some off) (ht : (pc : Int) + off = (tgt : Int)) (k : G Z p l e R s m args below meth c Q cells slots nL M tgt L rest) : G Z p l e R s m args below meth c Q cells slots nL M pc L (.int x :: rest) :=
  fun H locs ls hP hS hl => lv_tableIn S.1 S.2.1 hd h1 h2 ho ht (k H locs ls hP hS hl)
theorem g_tabOut (S : CallFix p m c cc nL s args Ts own) {dflt lo hi : Int} {offs : Array Int} {len : Nat} {x : Int32} (tgt : Nat) (hd : decode cc pc = .ok (.tableswitch dflt lo hi offs, len)) (h : x.toInt < lo ∨ hi < x.toInt) (ht : (pc : Int) + dflt = (tgt : Int)) (k : G Z p l e R s m args below meth c Q cells slots nL M tgt L rest) : G Z p l e R s m args below meth c Q cells slots nL M pc L (.int x :: rest) :=
  fun H locs ls hP hS hl => lv_tableOut S.1 S.2.1 hd h ht (k H locs ls hP hS hl)
end LROWS
section LROWS2
variable {Z : Zp} {p : Program} {l : Launch} {e : Env} {R : Room} {s : State} {m : MethodId} {args : Array Value} {below : List Frame} {meth : Method} {c : Code} {Q : State → Prop} {cells slots nL : Nat} {M0 : Wd} {A : AF} {C : CF} {pc : Nat} {L : List (Nat × Value)} {st rest : List Value}
variable {cc0 : ByteArray} {Ts : List Cond} {own : String}
theorem CtS.ofH {y : MethodName} {ws ws' : List Cond} {rm : Room} {av : List Value} {mc ms maxL : Nat} {ret : Option FieldType} {hh : List (Nat × Nat × Nat × Nat)} {post : PostS} {px : PxS} (hy : plainName y.cls = true) (hw : ws = Cond.codeWith y cc0 maxL ret hh :: ws') (hlen : (lg_sl av).length ≤ maxL)
    (body : ∀ (M0 : Wd) (p : Program) (e : Env) (s : State) (m : MethodId) (args : Array Value) (below : List Frame) (meth : Method) (c : Code), CallFix p m c cc0 maxL s args ws y.cls → Stat Z s → c.maxLocals = maxL → c.exceptionTable.toList = tableOf hh → meth.locks = false → meth.sig.returnType = ret → GS Z p l e (headSpec ws rm).room s m args below meth c (QS Z below args s mc ms M0 post px) 0 0 maxL M0 A C 0 (lv_args 0 av) []) : CtS Z l y ws rm av A C mc ms post px :=
  fun M hM => Ct.ofH hy hw hlen (fun p e s m args below meth c S hz hml htb hlo hr => body M p e s m args below meth c S hz hml htb hlo hr M hM (fun _ _ => rfl))
/-- an exception is caught by a row of this method's table -/
theorem s_catch (S : CallFix p m c cc0 nL s args Ts own) (hz : Stat Z s) {E : String} {tb : List ExceptionTableEntry} (htb : c.exceptionTable.toList = tb) (pre : List ExceptionTableEntry) (x : ExceptionTableEntry) (suf : List ExceptionTableEntry) (hsplit : tb = pre ++ x :: suf) (hpass : ∀ z ∈ pre, z.catchType ≠ 0 ∧ ∃ nm : String, Cond.classLink own z.catchType nm ∈ lw_tbl ∧ Cond.not (Cond.castable E nm) ∈ flatC (Jvm.Cond.and given_1 narrow_1)) (hx : covers x pc = true) (h0 : x.catchType ≠ 0) (hlink : Cond.classLink own x.catchType E ∈ lw_tbl) (hcast : Cond.castable E E ∈ lw_tbl) (tgt : Nat) (ht : x.handlerPc = tgt)
    (kk : ∀ q : Nat, GS Z p l e R s m args below meth c Q cells slots nL M0 A C tgt L [.ref q]) : GSX Z p l e R s m args below meth c Q cells slots nL M0 A C pc L E := by
  subst ht
  intro M hM hF H locs ls rest q ce hP hS hl hce hv hcl
  refine vx_catch (name := E) (E := E) S.2.2.2.1 pre x suf (htb.trans hsplit) (fun z hz2 => ?_) hx h0 (hz.word hlink rfl) (hz.word hcast rfl) hce hv hcl (kk q M hM hF H locs ls hP hS hl)
  obtain ⟨h1, nm, h2, h3⟩ := hpass z hz2
  exact Or.inr ⟨h1, nm, hz.word h2 rfl, hz.nc h3⟩
theorem s_callSX (S : CallFix p m c cc0 nL s args Ts own) (hz : Stat Z s) (hml2 : c.maxLocals = nL) {y : MethodName} {bytes : ByteArray} {maxL n index : Nat} {ret : Option FieldType} {hh : List (Nat × Nat × Nat × Nat)} {ws : List Cond} {rm : Room} {mc ms : Nat} {post : PostS} (As : List Value) (hM : CtS Z l y ws rm As A C mc ms post (fun _ _ _ => False)) (cw : vx_CSW R s args own index y bytes maxL ret hh ws rm mc ms n) (hst : st = As.reverse ++ rest) (hn : As.length = n) (hcat : (rest.map fun v => v.category).sum ≤ 8) (hd : decode cc0 pc = .ok (.invokestatic index, 3)) (hf : cells + mc ≤ R.cells ∧ slots + ms ≤ R.slots) (kk : ∀ (v : Option Value) (A2 : AF) (C2 : CF), post v A2 C2 → GS Z p l e R s m args below meth c Q (cells + mc) (slots + ms) nL M0 A2 C2 (pc + 3) L (v.toList ++ rest)) : GS Z p l e R s m args below meth c Q cells slots nL M0 A C pc L st := by
  intro M hR hF
  have hM2 : Ct Z l y ws rm As M mc ms (poS M post) (fun _ _ => False) := (hM M hR).imp (fun _ _ h => h) (fun _ _ h => by obtain ⟨_, _, _, _, h⟩ := h; exact h)
  exact g_callSX S hz hml2 As hM2 cw hst hn hcat hd hf (fun v M2 h => by obtain ⟨A2, C2, h1, h9, h2⟩ := h; exact kk v A2 C2 h2 M2 h1 (fun r hr => (h9 r hr).trans (hF r hr)))
theorem s_sld (S : CallFix p m c cc0 nL s args Ts own) {b N : Nat} {xs : Nat → Int32} (hX : Scr b N xs Z s) {j : Nat} (hj : j < N) (hN : N < 2 ^ 31) (hd : decode cc0 pc = .ok (.iaload, 1)) (k : GS Z p l e R s m args below meth c Q cells slots nL M0 A C (pc + 1) L (.int (xs j) :: rest)) : GS Z p l e R s m args below meth c Q cells slots nL M0 A C pc L (.int (nI j) :: .ref b :: rest) :=
  fun M hM hF => g_sld S hX hj hN hd (k M hM hF)
theorem s_slen (S : CallFix p m c cc0 nL s args Ts own) {b N : Nat} {xs : Nat → Int32} (hX : Scr b N xs Z s) (hd : decode cc0 pc = .ok (.arraylength, 1)) (k : GS Z p l e R s m args below meth c Q cells slots nL M0 A C (pc + 1) L (.int (nI N) :: rest)) : GS Z p l e R s m args below meth c Q cells slots nL M0 A C pc L (.ref b :: rest) :=
  fun M hM hF => g_slen S hX hd (k M hM hF)
theorem s_tabIn (S : CallFix p m c cc0 nL s args Ts own) {dflt lo hi : Int} {offs : Array Int} {len : Nat} {x : Int32} {off : Int} (tgt : Nat) (hd : decode cc0 pc = .ok (.tableswitch dflt lo hi offs, len)) (h1 : ¬ x.toInt < lo) (h2 : ¬ hi < x.toInt) (ho : offs[(x.toInt - lo).toNat]? = some off) (ht : (pc : Int) + off = (tgt : Int)) (k : GS Z p l e R s m args below meth c Q cells slots nL M0 A C tgt L rest) : GS Z p l e R s m args below meth c Q cells slots nL M0 A C pc L (.int x :: rest) :=
  fun M hM hF => g_tabIn S tgt hd h1 h2 ho ht (k M hM hF)
theorem s_tabOut (S : CallFix p m c cc0 nL s args Ts own) {dflt lo hi : Int} {offs : Array Int} {len : Nat} {x : Int32} (tgt : Nat) (hd : decode cc0 pc = .ok (.tableswitch dflt lo hi offs, len)) (h : x.toInt < lo ∨ hi < x.toInt) (ht : (pc : Int) + dflt = (tgt : Int)) (k : GS Z p l e R s m args below meth c Q cells slots nL M0 A C tgt L rest) : GS Z p l e R s m args below meth c Q cells slots nL M0 A C pc L (.int x :: rest) :=
  fun M hM hF => g_tabOut S tgt hd h ht (k M hM hF)
/-- more room than was taken -/
theorem s_widen {c2 s2 : Nat} (h1 : cells ≤ c2) (h2 : slots ≤ s2) (k : GS Z p l e R s m args below meth c Q c2 s2 nL M0 A C pc L st) : GS Z p l e R s m args below meth c Q cells slots nL M0 A C pc L st :=
  fun M hM hF H locs ls hP hS hl => W.widen h1 h2 (k M hM hF H locs ls hP hS hl)
theorem lN_ex (r : Int64) : ∃ o : Nat, lN o = r := ⟨r.toBitVec.toNat, (Int64.ofNat_bitVecToNat r.toBitVec).trans rfl⟩
theorem uN_ex (r : UInt64) : ∃ o : Nat, UInt64.ofNat o = r := ⟨r.toNat, by simp⟩
theorem out_up {o : Nat} : (fun j => lN (up3 C 70 0 0 o 70 0 j)) = upN (fun j => lN (C 70 0 j)) 0 (lN o) := by
  rw [up3_u]
  exact lrow_up _ _ _
theorem outD_up {o : Nat} : (fun j => UInt64.ofNat (up3 C 70 1 0 o 70 1 j)) = upN (fun j => UInt64.ofNat (C 70 1 j)) 0 (UInt64.ofNat o) := by
  rw [up3_u]
  funext k
  by_cases h : k = 0
  · subst h
    simp [upN]
  · simp [upN, h]
theorem cu_70 {i o : Nat} : ∀ k2 i2 : Nat, ¬ (k2 = 70 ∧ i2 = i) → cc A (up3 C 70 i 0 o) k2 i2 = cc A C k2 i2 := by
  intro k2 i2 hq
  unfold cc
  simp only [rowEv, rowLen, up3_k (show (0 : Nat) ≠ 70 by decide), up3_k (show (4 : Nat) ≠ 70 by decide), up3_k (show (5 : Nat) ≠ 70 by decide), up3_k (show (6 : Nat) ≠ 70 by decide), up3_k (show (7 : Nat) ≠ 70 by decide), up3_k (show (8 : Nat) ≠ 70 by decide), up3_k (show (9 : Nat) ≠ 70 by decide), up3_k (show (10 : Nat) ≠ 70 by decide), up3_k (show (11 : Nat) ≠ 70 by decide), up3_k (show (12 : Nat) ≠ 70 by decide), up3_k (show (13 : Nat) ≠ 70 by decide), up3_k (show (60 : Nat) ≠ 70 by decide), up3_k (show (61 : Nat) ≠ 70 by decide)]
  by_cases hk : k2 = 70
  · subst hk
    have hi : i2 ≠ i := fun z => hq ⟨rfl, z⟩
    by_cases h0 : i2 = 0
    · subst h0
      simp [up3_i hi]
    · by_cases h1 : i2 = 1
      · subst h1
        simp [up3_i hi]
      · simp [h0, h1]
  · simp [hk]
theorem s_lout (S : CallFix p m c cc0 nL s args Ts own) (hz : Stat Z s) {o a : Nat} (hA : A 70 0 = a) (hd : decode cc0 pc = .ok (.lastore, 1)) (kk : GS Z p l e R s m args below meth c Q cells slots nL M0 A (up3 C 70 0 0 o) (pc + 1) L rest) : GS Z p l e R s m args below meth c Q cells slots nL M0 A C pc L (.long (lN o) :: .int (nI 0) :: .ref a :: rest) := by
  subst hA
  exact s_last S hz (cc_out (A := A) (C := C)) (by decide) (by decide) (up3 C 70 0 0 o) cu_70 (by rw [cc_out, out_up]) hd kk
theorem s_dout (S : CallFix p m c cc0 nL s args Ts own) (hz : Stat Z s) {o a : Nat} (hA : A 70 1 = a) (hd : decode cc0 pc = .ok (.dastore, 1)) (kk : GS Z p l e R s m args below meth c Q cells slots nL M0 A (up3 C 70 1 0 o) (pc + 1) L rest) : GS Z p l e R s m args below meth c Q cells slots nL M0 A C pc L (.double (UInt64.ofNat o) :: .int (nI 0) :: .ref a :: rest) := by
  subst hA
  exact s_dast S hz (cc_outD (A := A) (C := C)) (by decide) (by decide) (up3 C 70 1 0 o) cu_70 (by rw [cc_outD, outD_up]) hd kk
theorem cast_IOB : Cond.castable "java/lang/IndexOutOfBoundsException" "java/lang/IndexOutOfBoundsException" ∈ lw_tbl := by decide +kernel
theorem cast_IAE : Cond.castable "java/lang/IllegalArgumentException" "java/lang/IllegalArgumentException" ∈ lw_tbl := by decide +kernel
theorem cast_ISE : Cond.castable "java/lang/IllegalStateException" "java/lang/IllegalStateException" ∈ lw_tbl := by decide +kernel
theorem cast_UOE : Cond.castable "java/lang/UnsupportedOperationException" "java/lang/UnsupportedOperationException" ∈ lw_tbl := by decide +kernel
theorem cast_NSE : Cond.castable "java/util/NoSuchElementException" "java/util/NoSuchElementException" ∈ lw_tbl := by decide +kernel
theorem cast_ARI : Cond.castable "java/lang/ArithmeticException" "java/lang/ArithmeticException" ∈ lw_tbl := by decide +kernel
theorem link_IAE : Cond.classLink RL 13 "java/lang/IllegalArgumentException" ∈ lw_tbl := by decide +kernel
theorem link_ISE : Cond.classLink RL 15 "java/lang/IllegalStateException" ∈ lw_tbl := by decide +kernel
theorem link_IOB : Cond.classLink RL 25 "java/lang/IndexOutOfBoundsException" ∈ lw_tbl := by decide +kernel
theorem link_UOE : Cond.classLink RL 50 "java/lang/UnsupportedOperationException" ∈ lw_tbl := by decide +kernel
theorem link_NSE : Cond.classLink RL 110 "java/util/NoSuchElementException" ∈ lw_tbl := by decide +kernel
theorem link_ARI : Cond.classLink RL 150 "java/lang/ArithmeticException" ∈ lw_tbl := by decide +kernel
end LROWS2
