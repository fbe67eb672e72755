section MATHR
variable {Z : Zp} {p : Program} {l : Launch} {e : Env} {R : Room} {s : State} {m : MethodId} {args : Array Value} {below : List Frame} {meth : Method} {c : Code} {Q : State → Prop} {cells slots nL : Nat} {M : Wd} {pc : Nat} {L : List (Nat × Value)} {rest : List Value}
variable {cc : ByteArray} {Ts : List Cond} {own : String}
/-- Math.max and Math.min of naturals -/
theorem g_max (S : CallFix p m c cc nL s args Ts own) (hml2 : c.maxLocals = nL) {index x y : Nat} (hx : x < 2 ^ 31) (hy : y < 2 ^ 31) (hlink : Cond.methodLink own index Lib.Math.max.name ∈ Ts) (hstat : Cond.static Lib.Math.max.name ∈ Ts) (hini : Cond.initialized "java/lang/Math" ∈ Ts) (hcode : Cond.code Lib.Math.max.name Lib.Math.max.code 2 (some .int) ∈ Ts) (hframes : 1 ≤ R.frames) (hlocals : (rest.map fun v => v.category).sum + 13 ≤ R.locals) (hc : cells ≤ R.cells) (hs : slots ≤ R.slots) (hd : decode cc pc = .ok (.invokestatic index, 3)) (kk : G Z p l e R s m args below meth c Q cells slots nL M (pc + 3) L (.int (nI (max x y)) :: rest)) : G Z p l e R s m args below meth c Q cells slots nL M pc L (.int (nI y) :: .int (nI x) :: rest) := by
  intro H locs ls hP hS hl
  refine va_mmax S.1 S.2.1 (by rw [hml2]; exact hl.1.symm) S.2.2.2.1 (S.2.2.2.2 _ hlink) (S.2.2.2.2 _ hstat) (S.2.2.2.2 _ hini) (S.2.2.2.2 _ hcode) hframes hlocals hc hs hd ?_
  have e1 : (if nI x < nI y then nI y else nI x) = nI (max x y) := by
    by_cases h : x < y
    · rw [if_pos ((nI_ltI hx hy).mpr h), show max x y = y by omega]
    · rw [if_neg (fun z => h ((nI_ltI hx hy).mp z)), show max x y = x by omega]
  rw [e1]
  exact kk H locs ls hP hS hl
theorem g_min (S : CallFix p m c cc nL s args Ts own) (hml2 : c.maxLocals = nL) {index x y : Nat} (hx : x < 2 ^ 31) (hy : y < 2 ^ 31) (hlink : Cond.methodLink own index Lib.Math.min.name ∈ Ts) (hstat : Cond.static Lib.Math.min.name ∈ Ts) (hini : Cond.initialized "java/lang/Math" ∈ Ts) (hcode : Cond.code Lib.Math.min.name Lib.Math.min.code 2 (some .int) ∈ Ts) (hframes : 1 ≤ R.frames) (hlocals : (rest.map fun v => v.category).sum + 13 ≤ R.locals) (hc : cells ≤ R.cells) (hs : slots ≤ R.slots) (hd : decode cc pc = .ok (.invokestatic index, 3)) (kk : G Z p l e R s m args below meth c Q cells slots nL M (pc + 3) L (.int (nI (min x y)) :: rest)) : G Z p l e R s m args below meth c Q cells slots nL M pc L (.int (nI y) :: .int (nI x) :: rest) := by
  intro H locs ls hP hS hl
  refine va_mmin S.1 S.2.1 (by rw [hml2]; exact hl.1.symm) S.2.2.2.1 (S.2.2.2.2 _ hlink) (S.2.2.2.2 _ hstat) (S.2.2.2.2 _ hini) (S.2.2.2.2 _ hcode) hframes hlocals hc hs hd ?_
  have e1 : (if nI y < nI x then nI y else nI x) = nI (min x y) := by
    by_cases h : y < x
    · rw [if_pos ((nI_ltI hy hx).mpr h), show min x y = y by omega]
    · rw [if_neg (fun z => h ((nI_ltI hy hx).mp z)), show min x y = x by omega]
  rw [e1]
  exact kk H locs ls hP hS hl
end MATHR
