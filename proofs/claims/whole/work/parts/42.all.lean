section RALL
abbrev dnR (C : CF) (k : Nat) : Prop := C 60 19 k = csN (C 60 13 k) (C 60 17 k) * C 60 18 k
abbrev raG (C : CF) (u j : Nat) : Prop := C 60 16 j = u ∧ ¬ dnR C j ∧ C 60 15 j = 0
/-- the model behind j jobs of a releaseAll, how many got done, and the room they took -/
def raS (C : CF) (u p : Nat) : Nat → CF
  | 0 => C
  | j + 1 => if raG (raS C u p j) u j then rlR (raS C u p j) j p else raS C u p j
def raN (C : CF) (u p : Nat) : Nat → Nat
  | 0 => 0
  | j + 1 => raN C u p j + if raG (raS C u p j) u j ∧ pgR (raS C u p j) j p ≠ 0 ∧ dnR (rlR (raS C u p j) j p) j then 1 else 0
def raC (C : CF) (u p : Nat) : Nat → Nat
  | 0 => 0
  | j + 1 => raC C u p j + if raG (raS C u p j) u j then rC (raS C u p j) j p else 0
def raL (C : CF) (u p : Nat) : Nat → Nat
  | 0 => 0
  | j + 1 => raL C u p j + if raG (raS C u p j) u j then rS (raS C u p j) j p else 0
theorem raS_ok {C : CF} {u p : Nat} (hM : OkM C) (hp : p < C 60 100 29) (hlg : C 60 100 31 + 40 ≤ 40000) : ∀ j : Nat, j ≤ C 60 100 30 → OkM (raS C u p j) ∧ raS C u p j 60 100 31 ≤ C 60 100 31 + j ∧ raS C u p j 60 100 28 = C 60 100 28 ∧ raS C u p j 60 100 29 = C 60 100 29 ∧ raS C u p j 60 100 30 = C 60 100 30
  | 0, _ => ⟨hM, Nat.le_refl _, rfl, rfl, rfl⟩
  | j + 1, hj => by
    obtain ⟨h1, h2, h3, h4, h5⟩ := raS_ok hM hp hlg j (by omega)
    have hJ := hM.1.2.2.1
    unfold raS
    split
    · obtain ⟨g1, g2⟩ := h1.rl (k := j) (p := p) (by omega) (by omega) (by omega)
      have g3 := rl_k (C := raS C u p j) (k := j) (p := p)
      refine ⟨g1, by omega, by rw [g3 28 (by omega), h3], by rw [g3 29 (by omega), h4], by rw [g3 30 (by omega), h5]⟩
    · exact ⟨h1, by omega, h3, h4, h5⟩
theorem raC_mono (C : CF) (u p i : Nat) : ∀ d : Nat, raC C u p i ≤ raC C u p (i + d) ∧ raL C u p i ≤ raL C u p (i + d)
  | 0 => ⟨Nat.le_refl _, Nat.le_refl _⟩
  | d + 1 => ⟨Nat.le_trans (raC_mono C u p i d).1 (Nat.le_add_right _ _), Nat.le_trans (raC_mono C u p i d).2 (Nat.le_add_right _ _)⟩
theorem raN_le (C : CF) (u p : Nat) : ∀ j : Nat, raN C u p j ≤ j
  | 0 => Nat.le_refl _
  | j + 1 => by
    have := raN_le C u p j
    unfold raN
    split <;> omega
end RALL
section LOOPV
variable {Z : Zp} {p : Program} {l : Launch} {e : Env} {R : Room} {s : State} {m : MethodId} {args : Array Value} {below : List Frame} {meth : Method} {c : Code} {Q : State → Prop} {cells slots nL : Nat} {M0 : Wd} {A : AF} {C : CF} {pc : Nat} {L : List (Nat × Value)} {st : List Value}
/-- a loop whose turns take room -/
theorem s_loopV {σ : Type} (I : σ → Prop) (μ cs ss : σ → Nat) (As : σ → AF) (Cs : σ → CF) (Ls : σ → List (Nat × Value)) (x0 : σ) (h0 : I x0) (hc : cs x0 = cells) (hs : ss x0 = slots) (hA : As x0 = A) (hC : Cs x0 = C) (hL : Ls x0 = L)
    (body : ∀ x : σ, I x → (∀ y : σ, I y → μ y < μ x → GS Z p l e R s m args below meth c Q (cs y) (ss y) nL M0 (As y) (Cs y) pc (Ls y) st) → GS Z p l e R s m args below meth c Q (cs x) (ss x) nL M0 (As x) (Cs x) pc (Ls x) st) : GS Z p l e R s m args below meth c Q cells slots nL M0 A C pc L st := by
  subst hc hs hA hC hL
  have key : ∀ (n : Nat) (x : σ), μ x < n → I x → GS Z p l e R s m args below meth c Q (cs x) (ss x) nL M0 (As x) (Cs x) pc (Ls x) st := by
    intro n
    induction n with
    | zero => intro x h; omega
    | succ n ih => intro x h hI; exact body x hI (fun y hy hlt => ih y (by omega) hy)
  exact key (μ x0 + 1) x0 (by omega) h0
theorem s_room {c2 s2 : Nat} (h1 : c2 = cells) (h2 : s2 = slots) (k : GS Z p l e R s m args below meth c Q c2 s2 nL M0 A C pc L st) : GS Z p l e R s m args below meth c Q cells slots nL M0 A C pc L st := by
  subst h1 h2
  exact k
end LOOPV
