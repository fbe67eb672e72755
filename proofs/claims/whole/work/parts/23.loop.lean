section LOOPS
variable {Z : Zp} {p : Program} {l : Launch} {e : Env} {R : Room} {s : State} {m : MethodId} {args : Array Value} {below : List Frame} {meth : Method} {c : Code} {Q : State → Prop} {cells slots nL : Nat} {M0 : Wd} {A : AF} {C : CF} {pc : Nat} {L : List (Nat × Value)} {st rest : List Value}
theorem s_perm (ks : List Nat) (L2 : List (Nat × Value)) (h : lv_pick L ks = L2) (k : GS Z p l e R s m args below meth c Q cells slots nL M0 A C pc L2 st) : GS Z p l e R s m args below meth c Q cells slots nL M0 A C pc L st :=
  fun M hM hF H locs ls hP hS hl => k M hM hF H locs ls hP hS (lv_sub hl ks h)
/-- a loop: its states, what holds of each, a measure that falls -/
theorem s_loop {σ : Type} (I : σ → Prop) (μ : σ → Nat) (As : σ → AF) (Cs : σ → CF) (Ls : σ → List (Nat × Value)) (x0 : σ) (h0 : I x0) (hA : As x0 = A) (hC : Cs x0 = C) (hL : Ls x0 = L)
    (body : ∀ x : σ, I x → (∀ y : σ, I y → μ y < μ x → GS Z p l e R s m args below meth c Q cells slots nL M0 (As y) (Cs y) pc (Ls y) st) → GS Z p l e R s m args below meth c Q cells slots nL M0 (As x) (Cs x) pc (Ls x) st) : GS Z p l e R s m args below meth c Q cells slots nL M0 A C pc L st := by
  subst hA hC hL
  have key : ∀ (n : Nat) (x : σ), μ x < n → I x → GS Z p l e R s m args below meth c Q cells slots nL M0 (As x) (Cs x) pc (Ls x) st := by
    intro n
    induction n with
    | zero => intro x h; omega
    | succ n ih => intro x h hI; exact body x hI (fun y hy hlt => ih y (by omega) hy)
  exact key (μ x0 + 1) x0 (by omega) h0
theorem s_C {C2 : CF} (h : C2 = C) (k : GS Z p l e R s m args below meth c Q cells slots nL M0 A C2 pc L st) : GS Z p l e R s m args below meth c Q cells slots nL M0 A C pc L st := by
  subst h
  exact k
end LOOPS
