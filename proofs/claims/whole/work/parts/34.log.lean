section LOGS
theorem lrow3 (C : CF) (k i f v : Nat) : (fun j => lN (up3 C k i f v k i j)) = upN (fun j => lN (C k i j)) f (lN v) := by
  funext j
  rw [up3_u]
  exact congrFun (lrow_up _ _ _) j
/-- the log's rows elsewhere -/
def AG (A : AF) (b : Nat → Nat) : AF := fun k i => if k = 60 ∧ 21 ≤ i ∧ i ≤ 24 then b i else A k i
theorem AG_AG (A : AF) (b b2 : Nat → Nat) : AG (AG A b) b2 = AG A b2 := by
  funext k i
  unfold AG
  split <;> rfl
theorem AG_self (A : AF) : AG A (A 60) = A := by
  funext k i
  unfold AG
  split
  · rename_i h
    rw [h.1]
  · rfl
theorem AG_4 (A : AF) (b1 b2 b3 b4 : Nat) : AG A (fun i => if i = 21 then b1 else if i = 22 then b2 else if i = 23 then b3 else b4) = up2 (up2 (up2 (up2 A 60 21 b1) 60 22 b2) 60 23 b3) 60 24 b4 := by
  funext k i
  unfold AG up2
  by_cases hk : k = 60
  · subst hk
    by_cases h1 : i = 21
    · subst h1; simp
    · by_cases h2 : i = 22
      · subst h2; simp
      · by_cases h3 : i = 23
        · subst h3; simp
        · by_cases h4 : i = 24
          · subst h4; simp
          · simp [h1, h2, h3, h4, show ¬ (21 ≤ i ∧ i ≤ 24) by omega]
  · simp [hk]
def LgOk (C : CF) : Prop := 1 ≤ C 61 21 0 ∧ C 61 21 0 ≤ 100000 ∧ C 61 22 0 = C 61 21 0 ∧ C 61 23 0 = C 61 21 0 ∧ C 61 24 0 = C 61 21 0 ∧ C 60 100 31 ≤ C 61 21 0 ∧ C 60 100 31 ≤ 40000
/-- room for one entry more -/
def gwN (C : CF) : CF := if C 60 100 31 = C 61 21 0 then grw (grw (grw (grw C 21) 22) 23) 24 else C
def gC (C : CF) : Nat := if C 60 100 31 = C 61 21 0 then 4 else 0
def gS (C : CF) : Nat := if C 60 100 31 = C 61 21 0 then 8 * C 61 21 0 else 0
def noC (C : CF) (k p a b : Nat) : CF := up3 (up3 (up3 (up3 (up3 (gwN C) 60 21 (gwN C 60 100 31) k) 60 22 (gwN C 60 100 31) p) 60 23 (gwN C 60 100 31) a) 60 24 (gwN C 60 100 31) b) 60 100 31 (gwN C 60 100 31 + 1)
theorem gwN_ok {C : CF} (h : LgOk C) : gwN C 60 100 31 = C 60 100 31 ∧ gwN C 60 100 31 < gwN C 61 21 0 ∧ gwN C 61 22 0 = gwN C 61 21 0 ∧ gwN C 61 23 0 = gwN C 61 21 0 ∧ gwN C 61 24 0 = gwN C 61 21 0 ∧ gwN C 61 21 0 ≤ 100000 := by
  obtain ⟨h1, h2, h3, h4, h5, h6, h7⟩ := h
  unfold gwN
  split
  · rename_i e
    show C 60 100 31 = C 60 100 31 ∧ C 60 100 31 < 2 * C 61 21 0 ∧ 2 * C 61 22 0 = 2 * C 61 21 0 ∧ 2 * C 61 23 0 = 2 * C 61 21 0 ∧ 2 * C 61 24 0 = 2 * C 61 21 0 ∧ 2 * C 61 21 0 ≤ 100000
    omega
  · omega
end LOGS
section LOGR
variable {Z : Zp} {p : Program} {l : Launch} {e : Env} {R : Room} {s : State} {m : MethodId} {args : Array Value} {below : List Frame} {meth : Method} {c : Code} {Q : State → Prop} {cells slots nL : Nat} {M0 : Wd} {A : AF} {C : CF} {pc : Nat} {L : List (Nat × Value)} {st : List Value}
theorem s_A {A2 : AF} (h : A2 = A) (k : GS Z p l e R s m args below meth c Q cells slots nL M0 A2 C pc L st) : GS Z p l e R s m args below meth c Q cells slots nL M0 A C pc L st := by
  subst h
  exact k
end LOGR
