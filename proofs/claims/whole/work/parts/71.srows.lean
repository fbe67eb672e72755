section KROWS
variable {Z : Zp} {p : Program} {l : Launch} {e : Env} {R : Room} {s : State} {m : MethodId} {args : Array Value} {below : List Frame} {meth : Method} {c : Code} {Q : State → Prop} {cells slots nL : Nat} {M0 : Wd} {A : AF} {C : CF} {pc : Nat} {L : List (Nat × Value)} {st rest : List Value}
variable {cc0 : ByteArray} {Ts : List Cond} {own : String}
abbrev nmE : List String := ["java/lang/RuntimeException", "java/lang/Exception"]
/-- the words of a class's throw are there -/
def ThrOk (cls : String) (ic : Nat) : Prop := Bundle.fit cls = true ∧ (vx_atS RX6 ic cls nmE).all (fun w => decide (w ∈ lw_tbl) && (w.onTables && w.keepsFace)) = true ∧ (vx_atS RX6 ic cls nmE).all (fun w => vx_ot w) = true
theorem nmE_ok : ∀ n ∈ nmE, Bundle.fit n = true := by decide +kernel
theorem thr_IAE : ThrOk "java/lang/IllegalArgumentException" 340 := ⟨by decide +kernel, by decide +kernel, by decide +kernel⟩
theorem thr_ISE : ThrOk "java/lang/IllegalStateException" 75 := ⟨by decide +kernel, by decide +kernel, by decide +kernel⟩
theorem thr_IOB : ThrOk "java/lang/IndexOutOfBoundsException" 331 := ⟨by decide +kernel, by decide +kernel, by decide +kernel⟩
theorem thr_UOE : ThrOk "java/lang/UnsupportedOperationException" 211 := ⟨by decide +kernel, by decide +kernel, by decide +kernel⟩
theorem thr_ARI : ThrOk "java/lang/ArithmeticException" 273 := ⟨by decide +kernel, by decide +kernel, by decide +kernel⟩
theorem thr_good {cls : String} {ic ik : Nat} (h : ThrOk cls ic) : ∀ w ∈ Cond.classLink RX6 ik cls :: Cond.initialized cls :: vx_atS RX6 ic cls nmE, vx_ot w = true := by
  intro w hw
  rcases List.mem_cons.mp hw with rfl | hw
  · rfl
  · rcases List.mem_cons.mp hw with rfl | hw
    · rfl
    · exact List.all_eq_true.mp h.2.2 w hw
theorem s_thr (S : CallFix p m c cc0 nL s args Ts RX6) (hz : Stat Z s) (hfl : l.stackTraces = false) (hml2 : c.maxLocals = nL) (hex : ∀ x ∈ c.exceptionTable.toList, False) (hlocks : meth.locks = false) {cls text : String} {ik is ic mc ms : Nat} {post : PostS} {px : PxS} (hT : ThrOk cls ic) (hk : Cond.classLink RX6 ik cls ∈ Ts) (hini : Cond.initialized cls ∈ Ts) (h1 : Cond.stringRef RX6 is text ∈ lw_tbl) (h2 : Cond.exactly (.string RX6 is) "java/lang/String" ∈ flatC (Jvm.Cond.and given_1 narrow_1))
    (d0 : decode cc0 pc = .ok (.new ik, 3)) (d3 : decode cc0 (pc + 3) = .ok (.dup, 1)) (d4 : decode cc0 (pc + 4) = .ok (.ldc is, 2)) (d6 : decode cc0 (pc + 6) = .ok (.invokespecial ic, 3)) (d9 : decode cc0 (pc + 9) = .ok (.athrow, 1))
    (hRf : 5 < R.frames) (hRl : (rest.map fun v => v.category).sum + 82 ≤ R.locals) (hRc : cells + 1 ≤ R.cells) (hRs : slots + 6 ≤ R.slots) (hp : px cls A C) (hc : cells + 1 ≤ mc) (hs : slots + 6 ≤ ms) : GS Z p l e R s m args below meth c (QS Z below args s mc ms M0 post px) cells slots nL M0 A C pc L rest :=
  fun M hM hF => g_throwS S hz hfl hml2 hex hlocks (names := nmE) hT.1 nmE_ok hk hini (hz.kr h1 h2) (hz.words hT.2.1) (thr_good hT) d0 d3 d4 d6 d9 hRf hRl hRc hRs ⟨A, C, hM, hF, hp⟩ hc hs
theorem s_thrW (S : CallFix p m c cc0 nL s args Ts RX6) (hz : Stat Z s) (hfl : l.stackTraces = false) (hml2 : c.maxLocals = nL) (hex : ∀ x ∈ c.exceptionTable.toList, False) (hlocks : meth.locks = false) {cls text : String} {ik is ic mc ms : Nat} {post : PostS} {px : PxS} (hT : ThrOk cls ic) (hk : Cond.classLink RX6 ik cls ∈ Ts) (hini : Cond.initialized cls ∈ Ts) (h1 : Cond.stringRef RX6 is text ∈ lw_tbl) (h2 : Cond.exactly (.string RX6 is) "java/lang/String" ∈ flatC (Jvm.Cond.and given_1 narrow_1))
    (d0 : decode cc0 pc = .ok (.new ik, 3)) (d3 : decode cc0 (pc + 3) = .ok (.dup, 1)) (d4 : decode cc0 (pc + 4) = .ok (.ldc_w is, 3)) (d7 : decode cc0 (pc + 7) = .ok (.invokespecial ic, 3)) (d10 : decode cc0 (pc + 10) = .ok (.athrow, 1))
    (hRf : 5 < R.frames) (hRl : (rest.map fun v => v.category).sum + 82 ≤ R.locals) (hRc : cells + 1 ≤ R.cells) (hRs : slots + 6 ≤ R.slots) (hp : px cls A C) (hc : cells + 1 ≤ mc) (hs : slots + 6 ≤ ms) : GS Z p l e R s m args below meth c (QS Z below args s mc ms M0 post px) cells slots nL M0 A C pc L rest :=
  fun M hM hF => g_throwSW S hz hfl hml2 hex hlocks (names := nmE) hT.1 nmE_ok hk hini (hz.kr h1 h2) (hz.words hT.2.1) (thr_good hT) d0 d3 d4 d7 d10 hRf hRl hRc hRs ⟨A, C, hM, hF, hp⟩ hc hs
/-- NoSuchElementException -/
abbrev nsL : List Cond := (Bundle.ownAtomsX RX6 227 "java/util/NoSuchElementException" 13 prog_43_method_4_code nmE).filter vx_no
theorem ns_ok : nsL.all (fun w => decide (w ∈ lw_tbl) && (w.onTables && w.keepsFace)) = true := by decide +kernel
theorem ns_ot : nsL.all (fun w => vx_ot w) = true := by decide +kernel
theorem ns_good : ∀ w ∈ Cond.classLink RX6 223 "java/util/NoSuchElementException" :: Cond.initialized "java/util/NoSuchElementException" :: nsL, vx_ot w = true := by
  intro w hw
  rcases List.mem_cons.mp hw with rfl | hw
  · rfl
  · rcases List.mem_cons.mp hw with rfl | hw
    · rfl
    · exact List.all_eq_true.mp ns_ot w hw
theorem g_throwN (S : CallFix p m c cc0 nL s args Ts RX6) (hz : Stat Z s) (hfl : l.stackTraces = false) (hml2 : c.maxLocals = nL) (hex : ∀ x ∈ c.exceptionTable.toList, False) (hlocks : meth.locks = false) {text : String} {is mc ms : Nat} {M : Wd} {post : Option Value → Wd → Prop} {px : String → Wd → Prop} (hk : Cond.classLink RX6 223 "java/util/NoSuchElementException" ∈ Ts) (hini : Cond.initialized "java/util/NoSuchElementException" ∈ Ts) (h1 : Cond.stringRef RX6 is text ∈ lw_tbl) (h2 : Cond.exactly (.string RX6 is) "java/lang/String" ∈ flatC (Jvm.Cond.and given_1 narrow_1))
    (d0 : decode cc0 pc = .ok (.new 223, 3)) (d3 : decode cc0 (pc + 3) = .ok (.dup, 1)) (d4 : decode cc0 (pc + 4) = .ok (.ldc is, 2)) (d6 : decode cc0 (pc + 6) = .ok (.invokespecial 227, 3)) (d9 : decode cc0 (pc + 9) = .ok (.athrow, 1))
    (hRf : 5 < R.frames) (hRl : (rest.map fun v => v.category).sum + 82 ≤ R.locals) (hRc : cells + 1 ≤ R.cells) (hRs : slots + 6 ≤ R.slots) (hp : px "java/util/NoSuchElementException" M) (hc : cells + 1 ≤ mc) (hs : slots + 6 ≤ ms) : G Z p l e R s m args below meth c (QZ Z below args s mc ms post px) cells slots nL M pc L rest := by
  intro H locs ls hP hS hl
  exact vx_throwN S.1 S.2.1 hfl (names := nmE) (ix := 13) (rx := prog_43_method_4_code) (by decide +kernel) (by decide +kernel) (by decide +kernel) (by decide +kernel) S.2.2.2.1 (by decide +kernel) nmE_ok (S.2.2.2.2 _ hk) (S.2.2.2.2 _ hini) (hz.kr h1 h2) (hz.words ns_ok) ns_good hz.zU hz.zN hS (hl.1.trans hml2.symm) d0 d3 d4 d6 d9 (fun x hx => (hex x hx).elim) hRf hRl hRc hRs hlocks
    (fun t hvm hsz hq => ⟨⟨M, hp, trivial, ⟨fun r a e hm => ⟨((hP.1 r a e hm).1.kept (hq a (hP.1 r a e hm).1.lt)).moved hvm, (hP.1 r a e hm).2⟩, hP.2⟩⟩, ⟨Nat.le_trans hS.1 hsz, fun q h1 h2 => (hq q (Nat.lt_of_lt_of_le h1 hS.1)).trans (hS.2.1 q h1 h2)⟩⟩) hS.2.2 hc hs
theorem s_throwN (S : CallFix p m c cc0 nL s args Ts RX6) (hz : Stat Z s) (hfl : l.stackTraces = false) (hml2 : c.maxLocals = nL) (hex : ∀ x ∈ c.exceptionTable.toList, False) (hlocks : meth.locks = false) {text : String} {is mc ms : Nat} {post : PostS} {px : PxS} (hk : Cond.classLink RX6 223 "java/util/NoSuchElementException" ∈ Ts) (hini : Cond.initialized "java/util/NoSuchElementException" ∈ Ts) (h1 : Cond.stringRef RX6 is text ∈ lw_tbl) (h2 : Cond.exactly (.string RX6 is) "java/lang/String" ∈ flatC (Jvm.Cond.and given_1 narrow_1))
    (d0 : decode cc0 pc = .ok (.new 223, 3)) (d3 : decode cc0 (pc + 3) = .ok (.dup, 1)) (d4 : decode cc0 (pc + 4) = .ok (.ldc is, 2)) (d6 : decode cc0 (pc + 6) = .ok (.invokespecial 227, 3)) (d9 : decode cc0 (pc + 9) = .ok (.athrow, 1))
    (hRf : 5 < R.frames) (hRl : (rest.map fun v => v.category).sum + 82 ≤ R.locals) (hRc : cells + 1 ≤ R.cells) (hRs : slots + 6 ≤ R.slots) (hp : px "java/util/NoSuchElementException" A C) (hc : cells + 1 ≤ mc) (hs : slots + 6 ≤ ms) : GS Z p l e R s m args below meth c (QS Z below args s mc ms M0 post px) cells slots nL M0 A C pc L rest :=
  fun M hM hF => g_throwN S hz hfl hml2 hex hlocks hk hini h1 h2 d0 d3 d4 d6 d9 hRf hRl hRc hRs ⟨A, C, hM, hF, hp⟩ hc hs
theorem s_castO (S : CallFix p m c cc0 nL s args Ts own) (hz : Stat Z s) {a index ci : Nat} {Cn : String} {T : u_T} {N : Nat} {fs : List Value} {kd i : Nat} (hm : cc A C kd i = some (a, .inr (ci, fs))) (hc : vwCl[ci]? = some (Cn, T, N)) (hlink : Cond.classLink own index Cn ∈ Ts) (hd : decode cc0 pc = .ok (.checkcast index, 3)) (kk : GS Z p l e R s m args below meth c Q cells slots nL M0 A C (pc + 3) L (.ref a :: rest)) : GS Z p l e R s m args below meth c Q cells slots nL M0 A C pc L (.ref a :: rest) :=
  fun M hM hF => g_castO S hz (hM kd i _ hm) hc hlink hd (kk M hM hF)
theorem s_min (S : CallFix p m c cc0 nL s args Ts own) (hml2 : c.maxLocals = nL) {index x y : Nat} (hx : x < 2 ^ 31) (hy : y < 2 ^ 31) (hlink : Cond.methodLink own index Lib.Math.min.name ∈ Ts) (hstat : Cond.static Lib.Math.min.name ∈ Ts) (hini : Cond.initialized "java/lang/Math" ∈ Ts) (hcode : Cond.code Lib.Math.min.name Lib.Math.min.code 2 (some .int) ∈ Ts) (hframes : 1 ≤ R.frames) (hlocals : (rest.map fun v => v.category).sum + 13 ≤ R.locals) (hc : cells ≤ R.cells) (hs : slots ≤ R.slots) (hd : decode cc0 pc = .ok (.invokestatic index, 3)) (kk : GS Z p l e R s m args below meth c Q cells slots nL M0 A C (pc + 3) L (.int (nI (min x y)) :: rest)) : GS Z p l e R s m args below meth c Q cells slots nL M0 A C pc L (.int (nI y) :: .int (nI x) :: rest) :=
  fun M hM hF => g_min S hml2 hx hy hlink hstat hini hcode hframes hlocals hc hs hd (kk M hM hF)
end KROWS
