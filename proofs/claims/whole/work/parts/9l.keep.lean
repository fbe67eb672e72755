section KEEP1
theorem keep_setStaples {D D2 C : CF} (hS : Sm D C) (hM : OkM D) (hL : OkL D) {p v t : Nat} (hp : p < D 60 100 29) (hv : v ≤ 100) (hD : D2 = up3 (up3 D 60 100 27 t) 60 6 p v) : Sm D2 (up3 C 9 p 3 v) ∧ OkM D2 ∧ OkL D2 := by
  have eI : ∀ j : Nat, D2 60 6 j = if j = p then v else D 60 6 j := by
    intro j
    rw [hD]
    by_cases h : j = p
    · subst h
      rw [if_pos rfl]
      simp [up3]
    · rw [if_neg h]
      simp [up3, h]
  have e_ : ∀ i : Nat, i ≠ 6 → i ≠ 100 → D2 60 i = D 60 i := by
    intro i h1 h100
    rw [hD]
    funext j
    simp [up3, h1, h100]
  have e2 : ∀ j : Nat, j ≠ 27 → D2 60 100 j = D 60 100 j := by
    intro j h1
    rw [hD]
    simp [up3, h1]
  have e61 : D2 61 = D 61 := by
    rw [hD]
    funext i j
    simp [up3]
  clear hD
  obtain ⟨⟨c3, c4, c5, c6, c7, c8⟩, sU, sP, sT, sJ, sl, sE, sC, sB⟩ := hS
  obtain ⟨hO, hG, hX⟩ := hM
  obtain ⟨oU, oP, oJ, oTc, oY, o8, o9, o10, o11, o12, o13, o14, o15, oX, oQ, oB, oK, oS, oJk, oM, oCo, oSh, oLg, oPo, oLl, oL2, oL3, oL4, oLle, oE1, oE2, oE3, oE4⟩ := hO
  obtain ⟨l1, l2, l3, l4, l5, l6, l7⟩ := hL
  have kk_ : ∀ kk : Nat, kk ≠ 9 → (up3 C 9 p 3 v) kk = C kk := fun kk h1 => up3_k h1
  have hpg : ∀ u n : Nat, pgU D2 u n = pgU D u n := by
    intro u n
    induction n with
    | zero => rfl
    | succ n ih =>
      show pgU D2 u n + (if D2 60 16 (D2 60 21 n) = u then D2 60 23 n else 0) = pgU D u n + _
      rw [ih, e_ 16 (by decide) (by decide), e_ 21 (by decide) (by decide), e_ 23 (by decide) (by decide)]
  have hpj : ∀ u n : Nat, pgJ D2 u n = pgJ D u n := by
    intro u n
    induction n with
    | zero => rfl
    | succ n ih =>
      show pgJ D2 u n + (if D2 60 21 n = u then D2 60 23 n else 0) = pgJ D u n + _
      rw [ih, e_ 21 (by decide) (by decide), e_ 23 (by decide) (by decide)]
  refine ⟨⟨?_, fun u hu => ?_, fun r hr => ?_, fun r i hr hi => ?_, fun r hr => ?_, ?_, fun e he => ?_, fun u hu => ?_, ?_⟩, ⟨?_, ?_, ?_⟩, ?_⟩
  · rw [kk_ 0 (by decide), e2 28 (by decide), e2 29 (by decide), e2 30 (by decide), e2 32 (by decide), e2 33 (by decide), e2 34 (by decide)]
    exact ⟨c3, c4, c5, c6, c7, c8⟩
  · rw [e2 28 (by decide)] at hu
    rw [kk_ 10 (by decide), e_ 0 (by decide) (by decide), e_ 1 (by decide) (by decide), e_ 7 (by decide) (by decide)]
    exact sU u hu
  · rw [e2 29 (by decide)] at hr
    rw [e_ 11 (by decide) (by decide), e_ 4 (by decide) (by decide), e_ 5 (by decide) (by decide), eI, e_ 2 (by decide) (by decide)]
    have hh := sP r hr
    by_cases h : r = p
    · subst h
      rw [if_pos rfl]
      rw [up3_f (show (0 : Nat) ≠ 3 by decide), up3_f (show (1 : Nat) ≠ 3 by decide), up3_f (show (2 : Nat) ≠ 3 by decide), up3_s, up3_f (show (5 : Nat) ≠ 3 by decide)]
      obtain ⟨y0, y1, y2, y3, y5⟩ := hh
      exact ⟨y0, y1, y2, rfl, y5⟩
    · rw [if_neg h, up3_i h]
      exact hh
  · rw [e2 29 (by decide)] at hr
    rw [e_ 2 (by decide) (by decide)] at hi
    rw [kk_ 12 (by decide), e_ 8 (by decide) (by decide), e_ 3 (by decide) (by decide)]
    exact sT r i hr hi
  · rw [e2 30 (by decide)] at hr
    rw [kk_ 11 (by decide), e_ 16 (by decide) (by decide), e_ 17 (by decide) (by decide), e_ 18 (by decide) (by decide), e_ 9 (by decide) (by decide), e_ 12 (by decide) (by decide), e_ 13 (by decide) (by decide), e_ 14 (by decide) (by decide), e_ 15 (by decide) (by decide), e_ 19 (by decide) (by decide), e_ 20 (by decide) (by decide), e_ 10 (by decide) (by decide)]
    exact sJ r hr
  · rw [kk_ 4 (by decide), kk_ 7 (by decide), e2 31 (by decide)]
    exact sl
  · rw [e2 31 (by decide)] at he
    rw [kk_ 13 (by decide), e_ 21 (by decide) (by decide), e_ 16 (by decide) (by decide), e_ 22 (by decide) (by decide), e_ 23 (by decide) (by decide), e_ 24 (by decide) (by decide)]
    exact sE e he
  · rw [e2 28 (by decide)] at hu
    rw [csU_13 (kk_ 13 (by decide)), e2 31 (by decide), e_ 7 (by decide) (by decide)]
    exact sC u hu
  · rw [kk_ 5 (by decide), kk_ 8 (by decide), e61, e_ 27 (by decide) (by decide)]
    exact sB
  · unfold OkR
    rw [e2 28 (by decide), e2 29 (by decide), e2 30 (by decide), e2 31 (by decide), e2 32 (by decide), e2 33 (by decide), e2 34 (by decide), e61]
    rw [e_ 2 (by decide) (by decide), e_ 3 (by decide) (by decide), e_ 8 (by decide) (by decide), e_ 9 (by decide) (by decide), e_ 10 (by decide) (by decide), e_ 11 (by decide) (by decide), e_ 12 (by decide) (by decide), e_ 13 (by decide) (by decide), e_ 14 (by decide) (by decide), e_ 15 (by decide) (by decide), e_ 25 (by decide) (by decide), e_ 0 (by decide) (by decide), e_ 4 (by decide) (by decide), e_ 5 (by decide) (by decide), e_ 16 (by decide) (by decide), e_ 17 (by decide) (by decide), e_ 18 (by decide) (by decide), e_ 19 (by decide) (by decide), e_ 20 (by decide) (by decide), e_ 1 (by decide) (by decide), e_ 21 (by decide) (by decide), e_ 22 (by decide) (by decide), e_ 23 (by decide) (by decide), e_ 24 (by decide) (by decide)]
    refine ⟨oU, oP, oJ, oTc, oY, o8, o9, o10, o11, o12, o13, o14, o15, oX, oQ, oB, oK, fun i => ?_, oJk, oM, oCo, oSh, oLg, oPo, oLl, oL2, oL3, oL4, oLle, oE1, oE2, oE3, oE4⟩
    have := oS i
    rw [eI]
    split <;> omega
  · unfold LgOk
    rw [e61, e2 31 (by decide)]
    exact hG
  · unfold OkX
    rw [e_ 1 (by decide) (by decide), e_ 19 (by decide) (by decide), e_ 20 (by decide) (by decide), e2 31 (by decide), e2 30 (by decide)]
    exact hX
  · refine ⟨fun e he => ?_, fun u => ?_, fun j hk => ?_, fun u hu => ?_, fun j hk => ?_, fun r hr => ?_, fun u => ?_⟩
    · rw [e2 31 (by decide)] at he
      rw [e_ 21 (by decide) (by decide), e2 30 (by decide)]
      exact l1 e he
    · rw [hpg, e2 31 (by decide), e_ 1 (by decide) (by decide)]
      exact l2 u
    · rw [e2 30 (by decide)] at hk
      rw [hpj, e2 31 (by decide), e_ 13 (by decide) (by decide), e_ 17 (by decide) (by decide), e_ 19 (by decide) (by decide)]
      exact l3 j hk
    · rw [e2 28 (by decide)] at hu
      rw [e_ 7 (by decide) (by decide)]
      exact l4 u hu
    · rw [e2 30 (by decide)] at hk
      rw [e_ 19 (by decide) (by decide), e_ 20 (by decide) (by decide), e_ 14 (by decide) (by decide), e_ 15 (by decide) (by decide)]
      exact l5 j hk
    · rw [e2 29 (by decide)] at hr
      rw [e_ 2 (by decide) (by decide)]
      exact l6 r hr
    · rw [e_ 7 (by decide) (by decide), e2 31 (by decide)]
      exact l7 u
theorem keep_setBlack {D D2 C : CF} (hS : Sm D C) (hM : OkM D) (hL : OkL D) {p v t : Nat} (hp : p < D 60 100 29) (hv : v ≤ 1000) (hD : D2 = up3 (up3 D 60 100 27 t) 60 4 p v) : Sm D2 (up3 C 9 p 1 v) ∧ OkM D2 ∧ OkL D2 := by
  have eI : ∀ j : Nat, D2 60 4 j = if j = p then v else D 60 4 j := by
    intro j
    rw [hD]
    by_cases h : j = p
    · subst h
      rw [if_pos rfl]
      simp [up3]
    · rw [if_neg h]
      simp [up3, h]
  have e_ : ∀ i : Nat, i ≠ 4 → i ≠ 100 → D2 60 i = D 60 i := by
    intro i h1 h100
    rw [hD]
    funext j
    simp [up3, h1, h100]
  have e2 : ∀ j : Nat, j ≠ 27 → D2 60 100 j = D 60 100 j := by
    intro j h1
    rw [hD]
    simp [up3, h1]
  have e61 : D2 61 = D 61 := by
    rw [hD]
    funext i j
    simp [up3]
  clear hD
  obtain ⟨⟨c3, c4, c5, c6, c7, c8⟩, sU, sP, sT, sJ, sl, sE, sC, sB⟩ := hS
  obtain ⟨hO, hG, hX⟩ := hM
  obtain ⟨oU, oP, oJ, oTc, oY, o8, o9, o10, o11, o12, o13, o14, o15, oX, oQ, oB, oK, oS, oJk, oM, oCo, oSh, oLg, oPo, oLl, oL2, oL3, oL4, oLle, oE1, oE2, oE3, oE4⟩ := hO
  obtain ⟨l1, l2, l3, l4, l5, l6, l7⟩ := hL
  have kk_ : ∀ kk : Nat, kk ≠ 9 → (up3 C 9 p 1 v) kk = C kk := fun kk h1 => up3_k h1
  have hpg : ∀ u n : Nat, pgU D2 u n = pgU D u n := by
    intro u n
    induction n with
    | zero => rfl
    | succ n ih =>
      show pgU D2 u n + (if D2 60 16 (D2 60 21 n) = u then D2 60 23 n else 0) = pgU D u n + _
      rw [ih, e_ 16 (by decide) (by decide), e_ 21 (by decide) (by decide), e_ 23 (by decide) (by decide)]
  have hpj : ∀ u n : Nat, pgJ D2 u n = pgJ D u n := by
    intro u n
    induction n with
    | zero => rfl
    | succ n ih =>
      show pgJ D2 u n + (if D2 60 21 n = u then D2 60 23 n else 0) = pgJ D u n + _
      rw [ih, e_ 21 (by decide) (by decide), e_ 23 (by decide) (by decide)]
  refine ⟨⟨?_, fun u hu => ?_, fun r hr => ?_, fun r i hr hi => ?_, fun r hr => ?_, ?_, fun e he => ?_, fun u hu => ?_, ?_⟩, ⟨?_, ?_, ?_⟩, ?_⟩
  · rw [kk_ 0 (by decide), e2 28 (by decide), e2 29 (by decide), e2 30 (by decide), e2 32 (by decide), e2 33 (by decide), e2 34 (by decide)]
    exact ⟨c3, c4, c5, c6, c7, c8⟩
  · rw [e2 28 (by decide)] at hu
    rw [kk_ 10 (by decide), e_ 0 (by decide) (by decide), e_ 1 (by decide) (by decide), e_ 7 (by decide) (by decide)]
    exact sU u hu
  · rw [e2 29 (by decide)] at hr
    rw [e_ 11 (by decide) (by decide), eI, e_ 5 (by decide) (by decide), e_ 6 (by decide) (by decide), e_ 2 (by decide) (by decide)]
    have hh := sP r hr
    by_cases h : r = p
    · subst h
      rw [if_pos rfl]
      rw [up3_f (show (0 : Nat) ≠ 1 by decide), up3_s, up3_f (show (2 : Nat) ≠ 1 by decide), up3_f (show (3 : Nat) ≠ 1 by decide), up3_f (show (5 : Nat) ≠ 1 by decide)]
      obtain ⟨y0, y1, y2, y3, y5⟩ := hh
      exact ⟨y0, rfl, y2, y3, y5⟩
    · rw [if_neg h, up3_i h]
      exact hh
  · rw [e2 29 (by decide)] at hr
    rw [e_ 2 (by decide) (by decide)] at hi
    rw [kk_ 12 (by decide), e_ 8 (by decide) (by decide), e_ 3 (by decide) (by decide)]
    exact sT r i hr hi
  · rw [e2 30 (by decide)] at hr
    rw [kk_ 11 (by decide), e_ 16 (by decide) (by decide), e_ 17 (by decide) (by decide), e_ 18 (by decide) (by decide), e_ 9 (by decide) (by decide), e_ 12 (by decide) (by decide), e_ 13 (by decide) (by decide), e_ 14 (by decide) (by decide), e_ 15 (by decide) (by decide), e_ 19 (by decide) (by decide), e_ 20 (by decide) (by decide), e_ 10 (by decide) (by decide)]
    exact sJ r hr
  · rw [kk_ 4 (by decide), kk_ 7 (by decide), e2 31 (by decide)]
    exact sl
  · rw [e2 31 (by decide)] at he
    rw [kk_ 13 (by decide), e_ 21 (by decide) (by decide), e_ 16 (by decide) (by decide), e_ 22 (by decide) (by decide), e_ 23 (by decide) (by decide), e_ 24 (by decide) (by decide)]
    exact sE e he
  · rw [e2 28 (by decide)] at hu
    rw [csU_13 (kk_ 13 (by decide)), e2 31 (by decide), e_ 7 (by decide) (by decide)]
    exact sC u hu
  · rw [kk_ 5 (by decide), kk_ 8 (by decide), e61, e_ 27 (by decide) (by decide)]
    exact sB
  · unfold OkR
    rw [e2 28 (by decide), e2 29 (by decide), e2 30 (by decide), e2 31 (by decide), e2 32 (by decide), e2 33 (by decide), e2 34 (by decide), e61]
    rw [e_ 2 (by decide) (by decide), e_ 3 (by decide) (by decide), e_ 8 (by decide) (by decide), e_ 9 (by decide) (by decide), e_ 10 (by decide) (by decide), e_ 11 (by decide) (by decide), e_ 12 (by decide) (by decide), e_ 13 (by decide) (by decide), e_ 14 (by decide) (by decide), e_ 15 (by decide) (by decide), e_ 25 (by decide) (by decide), e_ 0 (by decide) (by decide), e_ 5 (by decide) (by decide), e_ 6 (by decide) (by decide), e_ 16 (by decide) (by decide), e_ 17 (by decide) (by decide), e_ 18 (by decide) (by decide), e_ 19 (by decide) (by decide), e_ 20 (by decide) (by decide), e_ 1 (by decide) (by decide), e_ 21 (by decide) (by decide), e_ 22 (by decide) (by decide), e_ 23 (by decide) (by decide), e_ 24 (by decide) (by decide)]
    refine ⟨oU, oP, oJ, oTc, oY, o8, o9, o10, o11, o12, o13, o14, o15, oX, oQ, fun i => ?_, oK, oS, oJk, oM, oCo, oSh, oLg, oPo, oLl, oL2, oL3, oL4, oLle, oE1, oE2, oE3, oE4⟩
    have := oB i
    rw [eI]
    split <;> omega
  · unfold LgOk
    rw [e61, e2 31 (by decide)]
    exact hG
  · unfold OkX
    rw [e_ 1 (by decide) (by decide), e_ 19 (by decide) (by decide), e_ 20 (by decide) (by decide), e2 31 (by decide), e2 30 (by decide)]
    exact hX
  · refine ⟨fun e he => ?_, fun u => ?_, fun j hk => ?_, fun u hu => ?_, fun j hk => ?_, fun r hr => ?_, fun u => ?_⟩
    · rw [e2 31 (by decide)] at he
      rw [e_ 21 (by decide) (by decide), e2 30 (by decide)]
      exact l1 e he
    · rw [hpg, e2 31 (by decide), e_ 1 (by decide) (by decide)]
      exact l2 u
    · rw [e2 30 (by decide)] at hk
      rw [hpj, e2 31 (by decide), e_ 13 (by decide) (by decide), e_ 17 (by decide) (by decide), e_ 19 (by decide) (by decide)]
      exact l3 j hk
    · rw [e2 28 (by decide)] at hu
      rw [e_ 7 (by decide) (by decide)]
      exact l4 u hu
    · rw [e2 30 (by decide)] at hk
      rw [e_ 19 (by decide) (by decide), e_ 20 (by decide) (by decide), e_ 14 (by decide) (by decide), e_ 15 (by decide) (by decide)]
      exact l5 j hk
    · rw [e2 29 (by decide)] at hr
      rw [e_ 2 (by decide) (by decide)]
      exact l6 r hr
    · rw [e_ 7 (by decide) (by decide), e2 31 (by decide)]
      exact l7 u
theorem keep_setStapled {D D2 C : CF} (hS : Sm D C) (hM : OkM D) (hL : OkL D) {k v t : Nat} (hk0 : k < D 60 100 30) (hv : v < 2) (hD : D2 = up3 (up3 D 60 100 27 t) 60 14 k v) : Sm D2 (up3 C 11 k 7 v) ∧ OkM D2 ∧ OkL D2 := by
  have eI : ∀ j : Nat, D2 60 14 j = if j = k then v else D 60 14 j := by
    intro j
    rw [hD]
    by_cases h : j = k
    · subst h
      rw [if_pos rfl]
      simp [up3]
    · rw [if_neg h]
      simp [up3, h]
  have e_ : ∀ i : Nat, i ≠ 14 → i ≠ 100 → D2 60 i = D 60 i := by
    intro i h1 h100
    rw [hD]
    funext j
    simp [up3, h1, h100]
  have e2 : ∀ j : Nat, j ≠ 27 → D2 60 100 j = D 60 100 j := by
    intro j h1
    rw [hD]
    simp [up3, h1]
  have e61 : D2 61 = D 61 := by
    rw [hD]
    funext i j
    simp [up3]
  clear hD
  obtain ⟨⟨c3, c4, c5, c6, c7, c8⟩, sU, sP, sT, sJ, sl, sE, sC, sB⟩ := hS
  obtain ⟨hO, hG, hX⟩ := hM
  obtain ⟨oU, oP, oJ, oTc, oY, o8, o9, o10, o11, o12, o13, o14, o15, oX, oQ, oB, oK, oS, oJk, oM, oCo, oSh, oLg, oPo, oLl, oL2, oL3, oL4, oLle, oE1, oE2, oE3, oE4⟩ := hO
  obtain ⟨l1, l2, l3, l4, l5, l6, l7⟩ := hL
  have kk_ : ∀ kk : Nat, kk ≠ 11 → (up3 C 11 k 7 v) kk = C kk := fun kk h1 => up3_k h1
  have hpg : ∀ u n : Nat, pgU D2 u n = pgU D u n := by
    intro u n
    induction n with
    | zero => rfl
    | succ n ih =>
      show pgU D2 u n + (if D2 60 16 (D2 60 21 n) = u then D2 60 23 n else 0) = pgU D u n + _
      rw [ih, e_ 16 (by decide) (by decide), e_ 21 (by decide) (by decide), e_ 23 (by decide) (by decide)]
  have hpj : ∀ u n : Nat, pgJ D2 u n = pgJ D u n := by
    intro u n
    induction n with
    | zero => rfl
    | succ n ih =>
      show pgJ D2 u n + (if D2 60 21 n = u then D2 60 23 n else 0) = pgJ D u n + _
      rw [ih, e_ 21 (by decide) (by decide), e_ 23 (by decide) (by decide)]
  refine ⟨⟨?_, fun u hu => ?_, fun r hr => ?_, fun r i hr hi => ?_, fun r hr => ?_, ?_, fun e he => ?_, fun u hu => ?_, ?_⟩, ⟨?_, ?_, ?_⟩, ?_⟩
  · rw [kk_ 0 (by decide), e2 28 (by decide), e2 29 (by decide), e2 30 (by decide), e2 32 (by decide), e2 33 (by decide), e2 34 (by decide)]
    exact ⟨c3, c4, c5, c6, c7, c8⟩
  · rw [e2 28 (by decide)] at hu
    rw [kk_ 10 (by decide), e_ 0 (by decide) (by decide), e_ 1 (by decide) (by decide), e_ 7 (by decide) (by decide)]
    exact sU u hu
  · rw [e2 29 (by decide)] at hr
    rw [kk_ 9 (by decide), e_ 11 (by decide) (by decide), e_ 4 (by decide) (by decide), e_ 5 (by decide) (by decide), e_ 6 (by decide) (by decide), e_ 2 (by decide) (by decide)]
    exact sP r hr
  · rw [e2 29 (by decide)] at hr
    rw [e_ 2 (by decide) (by decide)] at hi
    rw [kk_ 12 (by decide), e_ 8 (by decide) (by decide), e_ 3 (by decide) (by decide)]
    exact sT r i hr hi
  · rw [e2 30 (by decide)] at hr
    rw [e_ 16 (by decide) (by decide), e_ 17 (by decide) (by decide), e_ 18 (by decide) (by decide), e_ 9 (by decide) (by decide), e_ 12 (by decide) (by decide), e_ 13 (by decide) (by decide), eI, e_ 15 (by decide) (by decide), e_ 19 (by decide) (by decide), e_ 20 (by decide) (by decide), e_ 10 (by decide) (by decide)]
    have hh := sJ r hr
    by_cases h : r = k
    · subst h
      rw [if_pos rfl]
      rw [up3_f (show (0 : Nat) ≠ 7 by decide), up3_f (show (1 : Nat) ≠ 7 by decide), up3_f (show (2 : Nat) ≠ 7 by decide), up3_f (show (3 : Nat) ≠ 7 by decide), up3_f (show (4 : Nat) ≠ 7 by decide), up3_f (show (5 : Nat) ≠ 7 by decide), up3_f (show (6 : Nat) ≠ 7 by decide), up3_s, up3_f (show (8 : Nat) ≠ 7 by decide), up3_f (show (9 : Nat) ≠ 7 by decide), up3_f (show (10 : Nat) ≠ 7 by decide), up3_f (show (11 : Nat) ≠ 7 by decide), up3_f (show (12 : Nat) ≠ 7 by decide), up3_f (show (13 : Nat) ≠ 7 by decide)]
      obtain ⟨y0, y1, y2, y3, y4, y5, y6, y7, y8, y9, y10, y11, y12, y13⟩ := hh
      exact ⟨y0, y1, y2, y3, y4, y5, y6, rfl, y8, y9, y10, y11, y12, y13⟩
    · rw [if_neg h, up3_i h]
      exact hh
  · rw [kk_ 4 (by decide), kk_ 7 (by decide), e2 31 (by decide)]
    exact sl
  · rw [e2 31 (by decide)] at he
    rw [kk_ 13 (by decide), e_ 21 (by decide) (by decide), e_ 16 (by decide) (by decide), e_ 22 (by decide) (by decide), e_ 23 (by decide) (by decide), e_ 24 (by decide) (by decide)]
    exact sE e he
  · rw [e2 28 (by decide)] at hu
    rw [csU_13 (kk_ 13 (by decide)), e2 31 (by decide), e_ 7 (by decide) (by decide)]
    exact sC u hu
  · rw [kk_ 5 (by decide), kk_ 8 (by decide), e61, e_ 27 (by decide) (by decide)]
    exact sB
  · unfold OkR
    rw [e2 28 (by decide), e2 29 (by decide), e2 30 (by decide), e2 31 (by decide), e2 32 (by decide), e2 33 (by decide), e2 34 (by decide), e61]
    rw [e_ 2 (by decide) (by decide), e_ 3 (by decide) (by decide), e_ 8 (by decide) (by decide), e_ 9 (by decide) (by decide), e_ 10 (by decide) (by decide), e_ 11 (by decide) (by decide), e_ 12 (by decide) (by decide), e_ 13 (by decide) (by decide), e_ 15 (by decide) (by decide), e_ 25 (by decide) (by decide), e_ 0 (by decide) (by decide), e_ 4 (by decide) (by decide), e_ 5 (by decide) (by decide), e_ 6 (by decide) (by decide), e_ 16 (by decide) (by decide), e_ 17 (by decide) (by decide), e_ 18 (by decide) (by decide), e_ 19 (by decide) (by decide), e_ 20 (by decide) (by decide), e_ 1 (by decide) (by decide), e_ 21 (by decide) (by decide), e_ 22 (by decide) (by decide), e_ 23 (by decide) (by decide), e_ 24 (by decide) (by decide)]
    refine ⟨oU, oP, oJ, oTc, oY, o8, o9, o10, o11, o12, o13, fun i => ?_, o15, oX, oQ, oB, oK, oS, oJk, oM, oCo, oSh, oLg, oPo, oLl, oL2, oL3, oL4, oLle, oE1, oE2, oE3, oE4⟩
    have := o14 i
    rw [eI]
    split <;> omega
  · unfold LgOk
    rw [e61, e2 31 (by decide)]
    exact hG
  · unfold OkX
    rw [e_ 1 (by decide) (by decide), e_ 19 (by decide) (by decide), e_ 20 (by decide) (by decide), e2 31 (by decide), e2 30 (by decide)]
    exact hX
  · refine ⟨fun e he => ?_, fun u => ?_, fun j hk => ?_, fun u hu => ?_, fun j hk => ?_, fun r hr => ?_, fun u => ?_⟩
    · rw [e2 31 (by decide)] at he
      rw [e_ 21 (by decide) (by decide), e2 30 (by decide)]
      exact l1 e he
    · rw [hpg, e2 31 (by decide), e_ 1 (by decide) (by decide)]
      exact l2 u
    · rw [e2 30 (by decide)] at hk
      rw [hpj, e2 31 (by decide), e_ 13 (by decide) (by decide), e_ 17 (by decide) (by decide), e_ 19 (by decide) (by decide)]
      exact l3 j hk
    · rw [e2 28 (by decide)] at hu
      rw [e_ 7 (by decide) (by decide)]
      exact l4 u hu
    · rw [e2 30 (by decide)] at hk
      rw [e_ 19 (by decide) (by decide), e_ 20 (by decide) (by decide), eI, e_ 15 (by decide) (by decide)]
      rw [if_neg (by omega)]
      exact l5 j hk
    · rw [e2 29 (by decide)] at hr
      rw [e_ 2 (by decide) (by decide)]
      exact l6 r hr
    · rw [e_ 7 (by decide) (by decide), e2 31 (by decide)]
      exact l7 u
theorem keep_cancel {D D2 C : CF} (hS : Sm D C) (hM : OkM D) (hL : OkL D) {k t : Nat} (hk0 : k < D 60 100 30) (hD : D2 = up3 (up3 D 60 100 27 t) 60 15 k 1) : Sm D2 (up3 C 11 k 8 1) ∧ OkM D2 ∧ OkL D2 := by
  have eI : ∀ j : Nat, D2 60 15 j = if j = k then 1 else D 60 15 j := by
    intro j
    rw [hD]
    by_cases h : j = k
    · subst h
      rw [if_pos rfl]
      simp [up3]
    · rw [if_neg h]
      simp [up3, h]
  have e_ : ∀ i : Nat, i ≠ 15 → i ≠ 100 → D2 60 i = D 60 i := by
    intro i h1 h100
    rw [hD]
    funext j
    simp [up3, h1, h100]
  have e2 : ∀ j : Nat, j ≠ 27 → D2 60 100 j = D 60 100 j := by
    intro j h1
    rw [hD]
    simp [up3, h1]
  have e61 : D2 61 = D 61 := by
    rw [hD]
    funext i j
    simp [up3]
  clear hD
  obtain ⟨⟨c3, c4, c5, c6, c7, c8⟩, sU, sP, sT, sJ, sl, sE, sC, sB⟩ := hS
  obtain ⟨hO, hG, hX⟩ := hM
  obtain ⟨oU, oP, oJ, oTc, oY, o8, o9, o10, o11, o12, o13, o14, o15, oX, oQ, oB, oK, oS, oJk, oM, oCo, oSh, oLg, oPo, oLl, oL2, oL3, oL4, oLle, oE1, oE2, oE3, oE4⟩ := hO
  obtain ⟨l1, l2, l3, l4, l5, l6, l7⟩ := hL
  have kk_ : ∀ kk : Nat, kk ≠ 11 → (up3 C 11 k 8 1) kk = C kk := fun kk h1 => up3_k h1
  have hpg : ∀ u n : Nat, pgU D2 u n = pgU D u n := by
    intro u n
    induction n with
    | zero => rfl
    | succ n ih =>
      show pgU D2 u n + (if D2 60 16 (D2 60 21 n) = u then D2 60 23 n else 0) = pgU D u n + _
      rw [ih, e_ 16 (by decide) (by decide), e_ 21 (by decide) (by decide), e_ 23 (by decide) (by decide)]
  have hpj : ∀ u n : Nat, pgJ D2 u n = pgJ D u n := by
    intro u n
    induction n with
    | zero => rfl
    | succ n ih =>
      show pgJ D2 u n + (if D2 60 21 n = u then D2 60 23 n else 0) = pgJ D u n + _
      rw [ih, e_ 21 (by decide) (by decide), e_ 23 (by decide) (by decide)]
  refine ⟨⟨?_, fun u hu => ?_, fun r hr => ?_, fun r i hr hi => ?_, fun r hr => ?_, ?_, fun e he => ?_, fun u hu => ?_, ?_⟩, ⟨?_, ?_, ?_⟩, ?_⟩
  · rw [kk_ 0 (by decide), e2 28 (by decide), e2 29 (by decide), e2 30 (by decide), e2 32 (by decide), e2 33 (by decide), e2 34 (by decide)]
    exact ⟨c3, c4, c5, c6, c7, c8⟩
  · rw [e2 28 (by decide)] at hu
    rw [kk_ 10 (by decide), e_ 0 (by decide) (by decide), e_ 1 (by decide) (by decide), e_ 7 (by decide) (by decide)]
    exact sU u hu
  · rw [e2 29 (by decide)] at hr
    rw [kk_ 9 (by decide), e_ 11 (by decide) (by decide), e_ 4 (by decide) (by decide), e_ 5 (by decide) (by decide), e_ 6 (by decide) (by decide), e_ 2 (by decide) (by decide)]
    exact sP r hr
  · rw [e2 29 (by decide)] at hr
    rw [e_ 2 (by decide) (by decide)] at hi
    rw [kk_ 12 (by decide), e_ 8 (by decide) (by decide), e_ 3 (by decide) (by decide)]
    exact sT r i hr hi
  · rw [e2 30 (by decide)] at hr
    rw [e_ 16 (by decide) (by decide), e_ 17 (by decide) (by decide), e_ 18 (by decide) (by decide), e_ 9 (by decide) (by decide), e_ 12 (by decide) (by decide), e_ 13 (by decide) (by decide), e_ 14 (by decide) (by decide), eI, e_ 19 (by decide) (by decide), e_ 20 (by decide) (by decide), e_ 10 (by decide) (by decide)]
    have hh := sJ r hr
    by_cases h : r = k
    · subst h
      rw [if_pos rfl]
      rw [up3_f (show (0 : Nat) ≠ 8 by decide), up3_f (show (1 : Nat) ≠ 8 by decide), up3_f (show (2 : Nat) ≠ 8 by decide), up3_f (show (3 : Nat) ≠ 8 by decide), up3_f (show (4 : Nat) ≠ 8 by decide), up3_f (show (5 : Nat) ≠ 8 by decide), up3_f (show (6 : Nat) ≠ 8 by decide), up3_f (show (7 : Nat) ≠ 8 by decide), up3_s, up3_f (show (9 : Nat) ≠ 8 by decide), up3_f (show (10 : Nat) ≠ 8 by decide), up3_f (show (11 : Nat) ≠ 8 by decide), up3_f (show (12 : Nat) ≠ 8 by decide), up3_f (show (13 : Nat) ≠ 8 by decide)]
      obtain ⟨y0, y1, y2, y3, y4, y5, y6, y7, y8, y9, y10, y11, y12, y13⟩ := hh
      exact ⟨y0, y1, y2, y3, y4, y5, y6, y7, rfl, y9, y10, y11, y12, y13⟩
    · rw [if_neg h, up3_i h]
      exact hh
  · rw [kk_ 4 (by decide), kk_ 7 (by decide), e2 31 (by decide)]
    exact sl
  · rw [e2 31 (by decide)] at he
    rw [kk_ 13 (by decide), e_ 21 (by decide) (by decide), e_ 16 (by decide) (by decide), e_ 22 (by decide) (by decide), e_ 23 (by decide) (by decide), e_ 24 (by decide) (by decide)]
    exact sE e he
  · rw [e2 28 (by decide)] at hu
    rw [csU_13 (kk_ 13 (by decide)), e2 31 (by decide), e_ 7 (by decide) (by decide)]
    exact sC u hu
  · rw [kk_ 5 (by decide), kk_ 8 (by decide), e61, e_ 27 (by decide) (by decide)]
    exact sB
  · unfold OkR
    rw [e2 28 (by decide), e2 29 (by decide), e2 30 (by decide), e2 31 (by decide), e2 32 (by decide), e2 33 (by decide), e2 34 (by decide), e61]
    rw [e_ 2 (by decide) (by decide), e_ 3 (by decide) (by decide), e_ 8 (by decide) (by decide), e_ 9 (by decide) (by decide), e_ 10 (by decide) (by decide), e_ 11 (by decide) (by decide), e_ 12 (by decide) (by decide), e_ 13 (by decide) (by decide), e_ 14 (by decide) (by decide), e_ 25 (by decide) (by decide), e_ 0 (by decide) (by decide), e_ 4 (by decide) (by decide), e_ 5 (by decide) (by decide), e_ 6 (by decide) (by decide), e_ 16 (by decide) (by decide), e_ 17 (by decide) (by decide), e_ 18 (by decide) (by decide), e_ 19 (by decide) (by decide), e_ 20 (by decide) (by decide), e_ 1 (by decide) (by decide), e_ 21 (by decide) (by decide), e_ 22 (by decide) (by decide), e_ 23 (by decide) (by decide), e_ 24 (by decide) (by decide)]
    refine ⟨oU, oP, oJ, oTc, oY, o8, o9, o10, o11, o12, o13, o14, fun i => ?_, oX, oQ, oB, oK, oS, oJk, oM, oCo, oSh, oLg, oPo, oLl, oL2, oL3, oL4, oLle, oE1, oE2, oE3, oE4⟩
    have := o15 i
    rw [eI]
    split <;> omega
  · unfold LgOk
    rw [e61, e2 31 (by decide)]
    exact hG
  · unfold OkX
    rw [e_ 1 (by decide) (by decide), e_ 19 (by decide) (by decide), e_ 20 (by decide) (by decide), e2 31 (by decide), e2 30 (by decide)]
    exact hX
  · refine ⟨fun e he => ?_, fun u => ?_, fun j hk => ?_, fun u hu => ?_, fun j hk => ?_, fun r hr => ?_, fun u => ?_⟩
    · rw [e2 31 (by decide)] at he
      rw [e_ 21 (by decide) (by decide), e2 30 (by decide)]
      exact l1 e he
    · rw [hpg, e2 31 (by decide), e_ 1 (by decide) (by decide)]
      exact l2 u
    · rw [e2 30 (by decide)] at hk
      rw [hpj, e2 31 (by decide), e_ 13 (by decide) (by decide), e_ 17 (by decide) (by decide), e_ 19 (by decide) (by decide)]
      exact l3 j hk
    · rw [e2 28 (by decide)] at hu
      rw [e_ 7 (by decide) (by decide)]
      exact l4 u hu
    · rw [e2 30 (by decide)] at hk
      rw [e_ 19 (by decide) (by decide), e_ 20 (by decide) (by decide), e_ 14 (by decide) (by decide), eI]
      rw [if_neg (by omega)]
      exact l5 j hk
    · rw [e2 29 (by decide)] at hr
      rw [e_ 2 (by decide) (by decide)]
      exact l6 r hr
    · rw [e_ 7 (by decide) (by decide), e2 31 (by decide)]
      exact l7 u
theorem keep_setColour {D D2 C : CF} (hS : Sm D C) (hM : OkM D) (hL : OkL D) {p v t : Nat} (hp : p < D 60 100 29) (hv : v ≤ 1000) (hc : ¬ D 60 11 p = 0) (hD : D2 = up3 (up3 D 60 100 27 t) 60 5 p v) : Sm D2 (up3 C 9 p 2 v) ∧ OkM D2 ∧ OkL D2 := by
  have eI : ∀ j : Nat, D2 60 5 j = if j = p then v else D 60 5 j := by
    intro j
    rw [hD]
    by_cases h : j = p
    · subst h
      rw [if_pos rfl]
      simp [up3]
    · rw [if_neg h]
      simp [up3, h]
  have e_ : ∀ i : Nat, i ≠ 5 → i ≠ 100 → D2 60 i = D 60 i := by
    intro i h1 h100
    rw [hD]
    funext j
    simp [up3, h1, h100]
  have e2 : ∀ j : Nat, j ≠ 27 → D2 60 100 j = D 60 100 j := by
    intro j h1
    rw [hD]
    simp [up3, h1]
  have e61 : D2 61 = D 61 := by
    rw [hD]
    funext i j
    simp [up3]
  clear hD
  obtain ⟨⟨c3, c4, c5, c6, c7, c8⟩, sU, sP, sT, sJ, sl, sE, sC, sB⟩ := hS
  obtain ⟨hO, hG, hX⟩ := hM
  obtain ⟨oU, oP, oJ, oTc, oY, o8, o9, o10, o11, o12, o13, o14, o15, oX, oQ, oB, oK, oS, oJk, oM, oCo, oSh, oLg, oPo, oLl, oL2, oL3, oL4, oLle, oE1, oE2, oE3, oE4⟩ := hO
  obtain ⟨l1, l2, l3, l4, l5, l6, l7⟩ := hL
  have kk_ : ∀ kk : Nat, kk ≠ 9 → (up3 C 9 p 2 v) kk = C kk := fun kk h1 => up3_k h1
  have hpg : ∀ u n : Nat, pgU D2 u n = pgU D u n := by
    intro u n
    induction n with
    | zero => rfl
    | succ n ih =>
      show pgU D2 u n + (if D2 60 16 (D2 60 21 n) = u then D2 60 23 n else 0) = pgU D u n + _
      rw [ih, e_ 16 (by decide) (by decide), e_ 21 (by decide) (by decide), e_ 23 (by decide) (by decide)]
  have hpj : ∀ u n : Nat, pgJ D2 u n = pgJ D u n := by
    intro u n
    induction n with
    | zero => rfl
    | succ n ih =>
      show pgJ D2 u n + (if D2 60 21 n = u then D2 60 23 n else 0) = pgJ D u n + _
      rw [ih, e_ 21 (by decide) (by decide), e_ 23 (by decide) (by decide)]
  refine ⟨⟨?_, fun u hu => ?_, fun r hr => ?_, fun r i hr hi => ?_, fun r hr => ?_, ?_, fun e he => ?_, fun u hu => ?_, ?_⟩, ⟨?_, ?_, ?_⟩, ?_⟩
  · rw [kk_ 0 (by decide), e2 28 (by decide), e2 29 (by decide), e2 30 (by decide), e2 32 (by decide), e2 33 (by decide), e2 34 (by decide)]
    exact ⟨c3, c4, c5, c6, c7, c8⟩
  · rw [e2 28 (by decide)] at hu
    rw [kk_ 10 (by decide), e_ 0 (by decide) (by decide), e_ 1 (by decide) (by decide), e_ 7 (by decide) (by decide)]
    exact sU u hu
  · rw [e2 29 (by decide)] at hr
    rw [e_ 11 (by decide) (by decide), e_ 4 (by decide) (by decide), eI, e_ 6 (by decide) (by decide), e_ 2 (by decide) (by decide)]
    have hh := sP r hr
    by_cases h : r = p
    · subst h
      rw [if_pos rfl]
      rw [up3_f (show (0 : Nat) ≠ 2 by decide), up3_f (show (1 : Nat) ≠ 2 by decide), up3_s, up3_f (show (3 : Nat) ≠ 2 by decide), up3_f (show (5 : Nat) ≠ 2 by decide)]
      obtain ⟨y0, y1, y2, y3, y5⟩ := hh
      exact ⟨y0, y1, (if_neg hc).symm, y3, y5⟩
    · rw [if_neg h, up3_i h]
      exact hh
  · rw [e2 29 (by decide)] at hr
    rw [e_ 2 (by decide) (by decide)] at hi
    rw [kk_ 12 (by decide), e_ 8 (by decide) (by decide), e_ 3 (by decide) (by decide)]
    exact sT r i hr hi
  · rw [e2 30 (by decide)] at hr
    rw [kk_ 11 (by decide), e_ 16 (by decide) (by decide), e_ 17 (by decide) (by decide), e_ 18 (by decide) (by decide), e_ 9 (by decide) (by decide), e_ 12 (by decide) (by decide), e_ 13 (by decide) (by decide), e_ 14 (by decide) (by decide), e_ 15 (by decide) (by decide), e_ 19 (by decide) (by decide), e_ 20 (by decide) (by decide), e_ 10 (by decide) (by decide)]
    exact sJ r hr
  · rw [kk_ 4 (by decide), kk_ 7 (by decide), e2 31 (by decide)]
    exact sl
  · rw [e2 31 (by decide)] at he
    rw [kk_ 13 (by decide), e_ 21 (by decide) (by decide), e_ 16 (by decide) (by decide), e_ 22 (by decide) (by decide), e_ 23 (by decide) (by decide), e_ 24 (by decide) (by decide)]
    exact sE e he
  · rw [e2 28 (by decide)] at hu
    rw [csU_13 (kk_ 13 (by decide)), e2 31 (by decide), e_ 7 (by decide) (by decide)]
    exact sC u hu
  · rw [kk_ 5 (by decide), kk_ 8 (by decide), e61, e_ 27 (by decide) (by decide)]
    exact sB
  · unfold OkR
    rw [e2 28 (by decide), e2 29 (by decide), e2 30 (by decide), e2 31 (by decide), e2 32 (by decide), e2 33 (by decide), e2 34 (by decide), e61]
    rw [e_ 2 (by decide) (by decide), e_ 3 (by decide) (by decide), e_ 8 (by decide) (by decide), e_ 9 (by decide) (by decide), e_ 10 (by decide) (by decide), e_ 11 (by decide) (by decide), e_ 12 (by decide) (by decide), e_ 13 (by decide) (by decide), e_ 14 (by decide) (by decide), e_ 15 (by decide) (by decide), e_ 25 (by decide) (by decide), e_ 0 (by decide) (by decide), e_ 4 (by decide) (by decide), e_ 6 (by decide) (by decide), e_ 16 (by decide) (by decide), e_ 17 (by decide) (by decide), e_ 18 (by decide) (by decide), e_ 19 (by decide) (by decide), e_ 20 (by decide) (by decide), e_ 1 (by decide) (by decide), e_ 21 (by decide) (by decide), e_ 22 (by decide) (by decide), e_ 23 (by decide) (by decide), e_ 24 (by decide) (by decide)]
    refine ⟨oU, oP, oJ, oTc, oY, o8, o9, o10, o11, o12, o13, o14, o15, oX, oQ, oB, fun i => ?_, oS, oJk, oM, oCo, oSh, oLg, oPo, oLl, oL2, oL3, oL4, oLle, oE1, oE2, oE3, oE4⟩
    have := oK i
    rw [eI]
    split <;> omega
  · unfold LgOk
    rw [e61, e2 31 (by decide)]
    exact hG
  · unfold OkX
    rw [e_ 1 (by decide) (by decide), e_ 19 (by decide) (by decide), e_ 20 (by decide) (by decide), e2 31 (by decide), e2 30 (by decide)]
    exact hX
  · refine ⟨fun e he => ?_, fun u => ?_, fun j hk => ?_, fun u hu => ?_, fun j hk => ?_, fun r hr => ?_, fun u => ?_⟩
    · rw [e2 31 (by decide)] at he
      rw [e_ 21 (by decide) (by decide), e2 30 (by decide)]
      exact l1 e he
    · rw [hpg, e2 31 (by decide), e_ 1 (by decide) (by decide)]
      exact l2 u
    · rw [e2 30 (by decide)] at hk
      rw [hpj, e2 31 (by decide), e_ 13 (by decide) (by decide), e_ 17 (by decide) (by decide), e_ 19 (by decide) (by decide)]
      exact l3 j hk
    · rw [e2 28 (by decide)] at hu
      rw [e_ 7 (by decide) (by decide)]
      exact l4 u hu
    · rw [e2 30 (by decide)] at hk
      rw [e_ 19 (by decide) (by decide), e_ 20 (by decide) (by decide), e_ 14 (by decide) (by decide), e_ 15 (by decide) (by decide)]
      exact l5 j hk
    · rw [e2 29 (by decide)] at hr
      rw [e_ 2 (by decide) (by decide)]
      exact l6 r hr
    · rw [e_ 7 (by decide) (by decide), e2 31 (by decide)]
      exact l7 u
theorem keep_load {D D2 C : CF} (hS : Sm D C) (hM : OkM D) (hL : OkL D) {p i0 v t : Nat} (hv : v ≤ 500) (hD : D2 = up3 (up3 D 60 100 27 t) 60 3 (3 * p + i0) v) : Sm D2 (up3 C 12 (3 * p + i0) 1 v) ∧ OkM D2 ∧ OkL D2 := by
  have eI : ∀ j : Nat, D2 60 3 j = if j = (3 * p + i0) then v else D 60 3 j := by
    intro j
    rw [hD]
    by_cases h : j = (3 * p + i0)
    · subst h
      rw [if_pos rfl]
      simp [up3]
    · rw [if_neg h]
      simp [up3, h]
  have e_ : ∀ i : Nat, i ≠ 3 → i ≠ 100 → D2 60 i = D 60 i := by
    intro i h1 h100
    rw [hD]
    funext j
    simp [up3, h1, h100]
  have e2 : ∀ j : Nat, j ≠ 27 → D2 60 100 j = D 60 100 j := by
    intro j h1
    rw [hD]
    simp [up3, h1]
  have e61 : D2 61 = D 61 := by
    rw [hD]
    funext i j
    simp [up3]
  clear hD
  obtain ⟨⟨c3, c4, c5, c6, c7, c8⟩, sU, sP, sT, sJ, sl, sE, sC, sB⟩ := hS
  obtain ⟨hO, hG, hX⟩ := hM
  obtain ⟨oU, oP, oJ, oTc, oY, o8, o9, o10, o11, o12, o13, o14, o15, oX, oQ, oB, oK, oS, oJk, oM, oCo, oSh, oLg, oPo, oLl, oL2, oL3, oL4, oLle, oE1, oE2, oE3, oE4⟩ := hO
  obtain ⟨l1, l2, l3, l4, l5, l6, l7⟩ := hL
  have kk_ : ∀ kk : Nat, kk ≠ 12 → (up3 C 12 (3 * p + i0) 1 v) kk = C kk := fun kk h1 => up3_k h1
  have hpg : ∀ u n : Nat, pgU D2 u n = pgU D u n := by
    intro u n
    induction n with
    | zero => rfl
    | succ n ih =>
      show pgU D2 u n + (if D2 60 16 (D2 60 21 n) = u then D2 60 23 n else 0) = pgU D u n + _
      rw [ih, e_ 16 (by decide) (by decide), e_ 21 (by decide) (by decide), e_ 23 (by decide) (by decide)]
  have hpj : ∀ u n : Nat, pgJ D2 u n = pgJ D u n := by
    intro u n
    induction n with
    | zero => rfl
    | succ n ih =>
      show pgJ D2 u n + (if D2 60 21 n = u then D2 60 23 n else 0) = pgJ D u n + _
      rw [ih, e_ 21 (by decide) (by decide), e_ 23 (by decide) (by decide)]
  refine ⟨⟨?_, fun u hu => ?_, fun r hr => ?_, fun r i hr hi => ?_, fun r hr => ?_, ?_, fun e he => ?_, fun u hu => ?_, ?_⟩, ⟨?_, ?_, ?_⟩, ?_⟩
  · rw [kk_ 0 (by decide), e2 28 (by decide), e2 29 (by decide), e2 30 (by decide), e2 32 (by decide), e2 33 (by decide), e2 34 (by decide)]
    exact ⟨c3, c4, c5, c6, c7, c8⟩
  · rw [e2 28 (by decide)] at hu
    rw [kk_ 10 (by decide), e_ 0 (by decide) (by decide), e_ 1 (by decide) (by decide), e_ 7 (by decide) (by decide)]
    exact sU u hu
  · rw [e2 29 (by decide)] at hr
    rw [kk_ 9 (by decide), e_ 11 (by decide) (by decide), e_ 4 (by decide) (by decide), e_ 5 (by decide) (by decide), e_ 6 (by decide) (by decide), e_ 2 (by decide) (by decide)]
    exact sP r hr
  · rw [e2 29 (by decide)] at hr
    rw [e_ 2 (by decide) (by decide)] at hi
    have hh := sT r i hr hi
    rw [e_ 8 (by decide) (by decide), eI]
    by_cases h : 3 * r + i = (3 * p + i0)
    · rw [h] at hh ⊢
      rw [if_pos rfl, up3_f (show (0 : Nat) ≠ 1 by decide), up3_s]
      exact ⟨hh.1, rfl⟩
    · rw [if_neg h, up3_i h]
      exact hh
  · rw [e2 30 (by decide)] at hr
    rw [kk_ 11 (by decide), e_ 16 (by decide) (by decide), e_ 17 (by decide) (by decide), e_ 18 (by decide) (by decide), e_ 9 (by decide) (by decide), e_ 12 (by decide) (by decide), e_ 13 (by decide) (by decide), e_ 14 (by decide) (by decide), e_ 15 (by decide) (by decide), e_ 19 (by decide) (by decide), e_ 20 (by decide) (by decide), e_ 10 (by decide) (by decide)]
    exact sJ r hr
  · rw [kk_ 4 (by decide), kk_ 7 (by decide), e2 31 (by decide)]
    exact sl
  · rw [e2 31 (by decide)] at he
    rw [kk_ 13 (by decide), e_ 21 (by decide) (by decide), e_ 16 (by decide) (by decide), e_ 22 (by decide) (by decide), e_ 23 (by decide) (by decide), e_ 24 (by decide) (by decide)]
    exact sE e he
  · rw [e2 28 (by decide)] at hu
    rw [csU_13 (kk_ 13 (by decide)), e2 31 (by decide), e_ 7 (by decide) (by decide)]
    exact sC u hu
  · rw [kk_ 5 (by decide), kk_ 8 (by decide), e61, e_ 27 (by decide) (by decide)]
    exact sB
  · unfold OkR
    rw [e2 28 (by decide), e2 29 (by decide), e2 30 (by decide), e2 31 (by decide), e2 32 (by decide), e2 33 (by decide), e2 34 (by decide), e61]
    rw [e_ 2 (by decide) (by decide), e_ 8 (by decide) (by decide), e_ 9 (by decide) (by decide), e_ 10 (by decide) (by decide), e_ 11 (by decide) (by decide), e_ 12 (by decide) (by decide), e_ 13 (by decide) (by decide), e_ 14 (by decide) (by decide), e_ 15 (by decide) (by decide), e_ 25 (by decide) (by decide), e_ 0 (by decide) (by decide), e_ 4 (by decide) (by decide), e_ 5 (by decide) (by decide), e_ 6 (by decide) (by decide), e_ 16 (by decide) (by decide), e_ 17 (by decide) (by decide), e_ 18 (by decide) (by decide), e_ 19 (by decide) (by decide), e_ 20 (by decide) (by decide), e_ 1 (by decide) (by decide), e_ 21 (by decide) (by decide), e_ 22 (by decide) (by decide), e_ 23 (by decide) (by decide), e_ 24 (by decide) (by decide)]
    refine ⟨oU, oP, oJ, oTc, fun i => ?_, o8, o9, o10, o11, o12, o13, o14, o15, oX, oQ, oB, oK, oS, oJk, oM, oCo, oSh, oLg, oPo, oLl, oL2, oL3, oL4, oLle, oE1, oE2, oE3, oE4⟩
    have := oY i
    rw [eI]
    split <;> omega
  · unfold LgOk
    rw [e61, e2 31 (by decide)]
    exact hG
  · unfold OkX
    rw [e_ 1 (by decide) (by decide), e_ 19 (by decide) (by decide), e_ 20 (by decide) (by decide), e2 31 (by decide), e2 30 (by decide)]
    exact hX
  · refine ⟨fun e he => ?_, fun u => ?_, fun j hk => ?_, fun u hu => ?_, fun j hk => ?_, fun r hr => ?_, fun u => ?_⟩
    · rw [e2 31 (by decide)] at he
      rw [e_ 21 (by decide) (by decide), e2 30 (by decide)]
      exact l1 e he
    · rw [hpg, e2 31 (by decide), e_ 1 (by decide) (by decide)]
      exact l2 u
    · rw [e2 30 (by decide)] at hk
      rw [hpj, e2 31 (by decide), e_ 13 (by decide) (by decide), e_ 17 (by decide) (by decide), e_ 19 (by decide) (by decide)]
      exact l3 j hk
    · rw [e2 28 (by decide)] at hu
      rw [e_ 7 (by decide) (by decide)]
      exact l4 u hu
    · rw [e2 30 (by decide)] at hk
      rw [e_ 19 (by decide) (by decide), e_ 20 (by decide) (by decide), e_ 14 (by decide) (by decide), e_ 15 (by decide) (by decide)]
      exact l5 j hk
    · rw [e2 29 (by decide)] at hr
      rw [e_ 2 (by decide) (by decide)]
      exact l6 r hr
    · rw [e_ 7 (by decide) (by decide), e2 31 (by decide)]
      exact l7 u
theorem keep_changePaper {D D2 C : CF} (hS : Sm D C) (hM : OkM D) (hL : OkL D) {p i0 v t : Nat} (hv : v < 65536) (hD : D2 = up3 (up3 D 60 100 27 t) 60 8 (3 * p + i0) v) : Sm D2 (up3 C 12 (3 * p + i0) 0 v) ∧ OkM D2 ∧ OkL D2 := by
  have eI : ∀ j : Nat, D2 60 8 j = if j = (3 * p + i0) then v else D 60 8 j := by
    intro j
    rw [hD]
    by_cases h : j = (3 * p + i0)
    · subst h
      rw [if_pos rfl]
      simp [up3]
    · rw [if_neg h]
      simp [up3, h]
  have e_ : ∀ i : Nat, i ≠ 8 → i ≠ 100 → D2 60 i = D 60 i := by
    intro i h1 h100
    rw [hD]
    funext j
    simp [up3, h1, h100]
  have e2 : ∀ j : Nat, j ≠ 27 → D2 60 100 j = D 60 100 j := by
    intro j h1
    rw [hD]
    simp [up3, h1]
  have e61 : D2 61 = D 61 := by
    rw [hD]
    funext i j
    simp [up3]
  clear hD
  obtain ⟨⟨c3, c4, c5, c6, c7, c8⟩, sU, sP, sT, sJ, sl, sE, sC, sB⟩ := hS
  obtain ⟨hO, hG, hX⟩ := hM
  obtain ⟨oU, oP, oJ, oTc, oY, o8, o9, o10, o11, o12, o13, o14, o15, oX, oQ, oB, oK, oS, oJk, oM, oCo, oSh, oLg, oPo, oLl, oL2, oL3, oL4, oLle, oE1, oE2, oE3, oE4⟩ := hO
  obtain ⟨l1, l2, l3, l4, l5, l6, l7⟩ := hL
  have kk_ : ∀ kk : Nat, kk ≠ 12 → (up3 C 12 (3 * p + i0) 0 v) kk = C kk := fun kk h1 => up3_k h1
  have hpg : ∀ u n : Nat, pgU D2 u n = pgU D u n := by
    intro u n
    induction n with
    | zero => rfl
    | succ n ih =>
      show pgU D2 u n + (if D2 60 16 (D2 60 21 n) = u then D2 60 23 n else 0) = pgU D u n + _
      rw [ih, e_ 16 (by decide) (by decide), e_ 21 (by decide) (by decide), e_ 23 (by decide) (by decide)]
  have hpj : ∀ u n : Nat, pgJ D2 u n = pgJ D u n := by
    intro u n
    induction n with
    | zero => rfl
    | succ n ih =>
      show pgJ D2 u n + (if D2 60 21 n = u then D2 60 23 n else 0) = pgJ D u n + _
      rw [ih, e_ 21 (by decide) (by decide), e_ 23 (by decide) (by decide)]
  refine ⟨⟨?_, fun u hu => ?_, fun r hr => ?_, fun r i hr hi => ?_, fun r hr => ?_, ?_, fun e he => ?_, fun u hu => ?_, ?_⟩, ⟨?_, ?_, ?_⟩, ?_⟩
  · rw [kk_ 0 (by decide), e2 28 (by decide), e2 29 (by decide), e2 30 (by decide), e2 32 (by decide), e2 33 (by decide), e2 34 (by decide)]
    exact ⟨c3, c4, c5, c6, c7, c8⟩
  · rw [e2 28 (by decide)] at hu
    rw [kk_ 10 (by decide), e_ 0 (by decide) (by decide), e_ 1 (by decide) (by decide), e_ 7 (by decide) (by decide)]
    exact sU u hu
  · rw [e2 29 (by decide)] at hr
    rw [kk_ 9 (by decide), e_ 11 (by decide) (by decide), e_ 4 (by decide) (by decide), e_ 5 (by decide) (by decide), e_ 6 (by decide) (by decide), e_ 2 (by decide) (by decide)]
    exact sP r hr
  · rw [e2 29 (by decide)] at hr
    rw [e_ 2 (by decide) (by decide)] at hi
    have hh := sT r i hr hi
    rw [eI, e_ 3 (by decide) (by decide)]
    by_cases h : 3 * r + i = (3 * p + i0)
    · rw [h] at hh ⊢
      rw [if_pos rfl, up3_s, up3_f (show (1 : Nat) ≠ 0 by decide)]
      exact ⟨rfl, hh.2⟩
    · rw [if_neg h, up3_i h]
      exact hh
  · rw [e2 30 (by decide)] at hr
    rw [kk_ 11 (by decide), e_ 16 (by decide) (by decide), e_ 17 (by decide) (by decide), e_ 18 (by decide) (by decide), e_ 9 (by decide) (by decide), e_ 12 (by decide) (by decide), e_ 13 (by decide) (by decide), e_ 14 (by decide) (by decide), e_ 15 (by decide) (by decide), e_ 19 (by decide) (by decide), e_ 20 (by decide) (by decide), e_ 10 (by decide) (by decide)]
    exact sJ r hr
  · rw [kk_ 4 (by decide), kk_ 7 (by decide), e2 31 (by decide)]
    exact sl
  · rw [e2 31 (by decide)] at he
    rw [kk_ 13 (by decide), e_ 21 (by decide) (by decide), e_ 16 (by decide) (by decide), e_ 22 (by decide) (by decide), e_ 23 (by decide) (by decide), e_ 24 (by decide) (by decide)]
    exact sE e he
  · rw [e2 28 (by decide)] at hu
    rw [csU_13 (kk_ 13 (by decide)), e2 31 (by decide), e_ 7 (by decide) (by decide)]
    exact sC u hu
  · rw [kk_ 5 (by decide), kk_ 8 (by decide), e61, e_ 27 (by decide) (by decide)]
    exact sB
  · unfold OkR
    rw [e2 28 (by decide), e2 29 (by decide), e2 30 (by decide), e2 31 (by decide), e2 32 (by decide), e2 33 (by decide), e2 34 (by decide), e61]
    rw [e_ 2 (by decide) (by decide), e_ 3 (by decide) (by decide), e_ 9 (by decide) (by decide), e_ 10 (by decide) (by decide), e_ 11 (by decide) (by decide), e_ 12 (by decide) (by decide), e_ 13 (by decide) (by decide), e_ 14 (by decide) (by decide), e_ 15 (by decide) (by decide), e_ 25 (by decide) (by decide), e_ 0 (by decide) (by decide), e_ 4 (by decide) (by decide), e_ 5 (by decide) (by decide), e_ 6 (by decide) (by decide), e_ 16 (by decide) (by decide), e_ 17 (by decide) (by decide), e_ 18 (by decide) (by decide), e_ 19 (by decide) (by decide), e_ 20 (by decide) (by decide), e_ 1 (by decide) (by decide), e_ 21 (by decide) (by decide), e_ 22 (by decide) (by decide), e_ 23 (by decide) (by decide), e_ 24 (by decide) (by decide)]
    refine ⟨oU, oP, oJ, oTc, oY, fun i => ?_, o9, o10, o11, o12, o13, o14, o15, oX, oQ, oB, oK, oS, oJk, oM, oCo, oSh, oLg, oPo, oLl, oL2, oL3, oL4, oLle, oE1, oE2, oE3, oE4⟩
    have := o8 i
    rw [eI]
    split <;> omega
  · unfold LgOk
    rw [e61, e2 31 (by decide)]
    exact hG
  · unfold OkX
    rw [e_ 1 (by decide) (by decide), e_ 19 (by decide) (by decide), e_ 20 (by decide) (by decide), e2 31 (by decide), e2 30 (by decide)]
    exact hX
  · refine ⟨fun e he => ?_, fun u => ?_, fun j hk => ?_, fun u hu => ?_, fun j hk => ?_, fun r hr => ?_, fun u => ?_⟩
    · rw [e2 31 (by decide)] at he
      rw [e_ 21 (by decide) (by decide), e2 30 (by decide)]
      exact l1 e he
    · rw [hpg, e2 31 (by decide), e_ 1 (by decide) (by decide)]
      exact l2 u
    · rw [e2 30 (by decide)] at hk
      rw [hpj, e2 31 (by decide), e_ 13 (by decide) (by decide), e_ 17 (by decide) (by decide), e_ 19 (by decide) (by decide)]
      exact l3 j hk
    · rw [e2 28 (by decide)] at hu
      rw [e_ 7 (by decide) (by decide)]
      exact l4 u hu
    · rw [e2 30 (by decide)] at hk
      rw [e_ 19 (by decide) (by decide), e_ 20 (by decide) (by decide), e_ 14 (by decide) (by decide), e_ 15 (by decide) (by decide)]
      exact l5 j hk
    · rw [e2 29 (by decide)] at hr
      rw [e_ 2 (by decide) (by decide)]
      exact l6 r hr
    · rw [e_ 7 (by decide) (by decide), e2 31 (by decide)]
      exact l7 u
theorem keep_grant0 {D D2 C : CF} (hS : Sm D C) (hM : OkM D) (hL : OkL D) {u0 v t : Nat} (hv : v ≤ 9999) (hD : D2 = up3 (up3 D 60 100 27 t) 60 0 (2 * u0) v) : Sm D2 (up3 C 10 u0 0 v) ∧ OkM D2 ∧ OkL D2 := by
  have eI : ∀ j : Nat, D2 60 0 j = if j = (2 * u0) then v else D 60 0 j := by
    intro j
    rw [hD]
    by_cases h : j = (2 * u0)
    · subst h
      rw [if_pos rfl]
      simp [up3]
    · rw [if_neg h]
      simp [up3, h]
  have e_ : ∀ i : Nat, i ≠ 0 → i ≠ 100 → D2 60 i = D 60 i := by
    intro i h1 h100
    rw [hD]
    funext j
    simp [up3, h1, h100]
  have e2 : ∀ j : Nat, j ≠ 27 → D2 60 100 j = D 60 100 j := by
    intro j h1
    rw [hD]
    simp [up3, h1]
  have e61 : D2 61 = D 61 := by
    rw [hD]
    funext i j
    simp [up3]
  clear hD
  obtain ⟨⟨c3, c4, c5, c6, c7, c8⟩, sU, sP, sT, sJ, sl, sE, sC, sB⟩ := hS
  obtain ⟨hO, hG, hX⟩ := hM
  obtain ⟨oU, oP, oJ, oTc, oY, o8, o9, o10, o11, o12, o13, o14, o15, oX, oQ, oB, oK, oS, oJk, oM, oCo, oSh, oLg, oPo, oLl, oL2, oL3, oL4, oLle, oE1, oE2, oE3, oE4⟩ := hO
  obtain ⟨l1, l2, l3, l4, l5, l6, l7⟩ := hL
  have kk_ : ∀ kk : Nat, kk ≠ 10 → (up3 C 10 u0 0 v) kk = C kk := fun kk h1 => up3_k h1
  have hpg : ∀ u n : Nat, pgU D2 u n = pgU D u n := by
    intro u n
    induction n with
    | zero => rfl
    | succ n ih =>
      show pgU D2 u n + (if D2 60 16 (D2 60 21 n) = u then D2 60 23 n else 0) = pgU D u n + _
      rw [ih, e_ 16 (by decide) (by decide), e_ 21 (by decide) (by decide), e_ 23 (by decide) (by decide)]
  have hpj : ∀ u n : Nat, pgJ D2 u n = pgJ D u n := by
    intro u n
    induction n with
    | zero => rfl
    | succ n ih =>
      show pgJ D2 u n + (if D2 60 21 n = u then D2 60 23 n else 0) = pgJ D u n + _
      rw [ih, e_ 21 (by decide) (by decide), e_ 23 (by decide) (by decide)]
  refine ⟨⟨?_, fun u hu => ?_, fun r hr => ?_, fun r i hr hi => ?_, fun r hr => ?_, ?_, fun e he => ?_, fun u hu => ?_, ?_⟩, ⟨?_, ?_, ?_⟩, ?_⟩
  · rw [kk_ 0 (by decide), e2 28 (by decide), e2 29 (by decide), e2 30 (by decide), e2 32 (by decide), e2 33 (by decide), e2 34 (by decide)]
    exact ⟨c3, c4, c5, c6, c7, c8⟩
  · rw [e2 28 (by decide)] at hu
    rw [eI, eI, e_ 1 (by decide) (by decide), e_ 7 (by decide) (by decide)]
    obtain ⟨y0, y1, y2, y3⟩ := sU u hu
    by_cases h : u = u0
    · subst h
      rw [up3_s, up3_f (show (1 : Nat) ≠ 0 by decide), up3_f (show (2 : Nat) ≠ 0 by decide), up3_f (show (3 : Nat) ≠ 0 by decide)]
      rw [if_pos rfl, if_neg (by omega)]
      exact ⟨rfl, y1, y2, y3⟩
    · rw [if_neg (by omega), if_neg (by omega), up3_i h]
      exact ⟨y0, y1, y2, y3⟩
  · rw [e2 29 (by decide)] at hr
    rw [kk_ 9 (by decide), e_ 11 (by decide) (by decide), e_ 4 (by decide) (by decide), e_ 5 (by decide) (by decide), e_ 6 (by decide) (by decide), e_ 2 (by decide) (by decide)]
    exact sP r hr
  · rw [e2 29 (by decide)] at hr
    rw [e_ 2 (by decide) (by decide)] at hi
    rw [kk_ 12 (by decide), e_ 8 (by decide) (by decide), e_ 3 (by decide) (by decide)]
    exact sT r i hr hi
  · rw [e2 30 (by decide)] at hr
    rw [kk_ 11 (by decide), e_ 16 (by decide) (by decide), e_ 17 (by decide) (by decide), e_ 18 (by decide) (by decide), e_ 9 (by decide) (by decide), e_ 12 (by decide) (by decide), e_ 13 (by decide) (by decide), e_ 14 (by decide) (by decide), e_ 15 (by decide) (by decide), e_ 19 (by decide) (by decide), e_ 20 (by decide) (by decide), e_ 10 (by decide) (by decide)]
    exact sJ r hr
  · rw [kk_ 4 (by decide), kk_ 7 (by decide), e2 31 (by decide)]
    exact sl
  · rw [e2 31 (by decide)] at he
    rw [kk_ 13 (by decide), e_ 21 (by decide) (by decide), e_ 16 (by decide) (by decide), e_ 22 (by decide) (by decide), e_ 23 (by decide) (by decide), e_ 24 (by decide) (by decide)]
    exact sE e he
  · rw [e2 28 (by decide)] at hu
    rw [csU_13 (kk_ 13 (by decide)), e2 31 (by decide), e_ 7 (by decide) (by decide)]
    exact sC u hu
  · rw [kk_ 5 (by decide), kk_ 8 (by decide), e61, e_ 27 (by decide) (by decide)]
    exact sB
  · unfold OkR
    rw [e2 28 (by decide), e2 29 (by decide), e2 30 (by decide), e2 31 (by decide), e2 32 (by decide), e2 33 (by decide), e2 34 (by decide), e61]
    rw [e_ 2 (by decide) (by decide), e_ 3 (by decide) (by decide), e_ 8 (by decide) (by decide), e_ 9 (by decide) (by decide), e_ 10 (by decide) (by decide), e_ 11 (by decide) (by decide), e_ 12 (by decide) (by decide), e_ 13 (by decide) (by decide), e_ 14 (by decide) (by decide), e_ 15 (by decide) (by decide), e_ 25 (by decide) (by decide), e_ 4 (by decide) (by decide), e_ 5 (by decide) (by decide), e_ 6 (by decide) (by decide), e_ 16 (by decide) (by decide), e_ 17 (by decide) (by decide), e_ 18 (by decide) (by decide), e_ 19 (by decide) (by decide), e_ 20 (by decide) (by decide), e_ 1 (by decide) (by decide), e_ 21 (by decide) (by decide), e_ 22 (by decide) (by decide), e_ 23 (by decide) (by decide), e_ 24 (by decide) (by decide)]
    refine ⟨oU, oP, oJ, oTc, oY, o8, o9, o10, o11, o12, o13, o14, o15, oX, fun i => ?_, oB, oK, oS, oJk, oM, oCo, oSh, oLg, oPo, oLl, oL2, oL3, oL4, oLle, oE1, oE2, oE3, oE4⟩
    have := oQ i
    rw [eI]
    split <;> omega
  · unfold LgOk
    rw [e61, e2 31 (by decide)]
    exact hG
  · unfold OkX
    rw [e_ 1 (by decide) (by decide), e_ 19 (by decide) (by decide), e_ 20 (by decide) (by decide), e2 31 (by decide), e2 30 (by decide)]
    exact hX
  · refine ⟨fun e he => ?_, fun u => ?_, fun j hk => ?_, fun u hu => ?_, fun j hk => ?_, fun r hr => ?_, fun u => ?_⟩
    · rw [e2 31 (by decide)] at he
      rw [e_ 21 (by decide) (by decide), e2 30 (by decide)]
      exact l1 e he
    · rw [hpg, e2 31 (by decide), e_ 1 (by decide) (by decide)]
      exact l2 u
    · rw [e2 30 (by decide)] at hk
      rw [hpj, e2 31 (by decide), e_ 13 (by decide) (by decide), e_ 17 (by decide) (by decide), e_ 19 (by decide) (by decide)]
      exact l3 j hk
    · rw [e2 28 (by decide)] at hu
      rw [e_ 7 (by decide) (by decide)]
      exact l4 u hu
    · rw [e2 30 (by decide)] at hk
      rw [e_ 19 (by decide) (by decide), e_ 20 (by decide) (by decide), e_ 14 (by decide) (by decide), e_ 15 (by decide) (by decide)]
      exact l5 j hk
    · rw [e2 29 (by decide)] at hr
      rw [e_ 2 (by decide) (by decide)]
      exact l6 r hr
    · rw [e_ 7 (by decide) (by decide), e2 31 (by decide)]
      exact l7 u
theorem keep_grant1 {D D2 C : CF} (hS : Sm D C) (hM : OkM D) (hL : OkL D) {u0 v t : Nat} (hv : v ≤ 9999) (hD : D2 = up3 (up3 D 60 100 27 t) 60 0 (2 * u0 + 1) v) : Sm D2 (up3 C 10 u0 1 v) ∧ OkM D2 ∧ OkL D2 := by
  have eI : ∀ j : Nat, D2 60 0 j = if j = (2 * u0 + 1) then v else D 60 0 j := by
    intro j
    rw [hD]
    by_cases h : j = (2 * u0 + 1)
    · subst h
      rw [if_pos rfl]
      simp [up3]
    · rw [if_neg h]
      simp [up3, h]
  have e_ : ∀ i : Nat, i ≠ 0 → i ≠ 100 → D2 60 i = D 60 i := by
    intro i h1 h100
    rw [hD]
    funext j
    simp [up3, h1, h100]
  have e2 : ∀ j : Nat, j ≠ 27 → D2 60 100 j = D 60 100 j := by
    intro j h1
    rw [hD]
    simp [up3, h1]
  have e61 : D2 61 = D 61 := by
    rw [hD]
    funext i j
    simp [up3]
  clear hD
  obtain ⟨⟨c3, c4, c5, c6, c7, c8⟩, sU, sP, sT, sJ, sl, sE, sC, sB⟩ := hS
  obtain ⟨hO, hG, hX⟩ := hM
  obtain ⟨oU, oP, oJ, oTc, oY, o8, o9, o10, o11, o12, o13, o14, o15, oX, oQ, oB, oK, oS, oJk, oM, oCo, oSh, oLg, oPo, oLl, oL2, oL3, oL4, oLle, oE1, oE2, oE3, oE4⟩ := hO
  obtain ⟨l1, l2, l3, l4, l5, l6, l7⟩ := hL
  have kk_ : ∀ kk : Nat, kk ≠ 10 → (up3 C 10 u0 1 v) kk = C kk := fun kk h1 => up3_k h1
  have hpg : ∀ u n : Nat, pgU D2 u n = pgU D u n := by
    intro u n
    induction n with
    | zero => rfl
    | succ n ih =>
      show pgU D2 u n + (if D2 60 16 (D2 60 21 n) = u then D2 60 23 n else 0) = pgU D u n + _
      rw [ih, e_ 16 (by decide) (by decide), e_ 21 (by decide) (by decide), e_ 23 (by decide) (by decide)]
  have hpj : ∀ u n : Nat, pgJ D2 u n = pgJ D u n := by
    intro u n
    induction n with
    | zero => rfl
    | succ n ih =>
      show pgJ D2 u n + (if D2 60 21 n = u then D2 60 23 n else 0) = pgJ D u n + _
      rw [ih, e_ 21 (by decide) (by decide), e_ 23 (by decide) (by decide)]
  refine ⟨⟨?_, fun u hu => ?_, fun r hr => ?_, fun r i hr hi => ?_, fun r hr => ?_, ?_, fun e he => ?_, fun u hu => ?_, ?_⟩, ⟨?_, ?_, ?_⟩, ?_⟩
  · rw [kk_ 0 (by decide), e2 28 (by decide), e2 29 (by decide), e2 30 (by decide), e2 32 (by decide), e2 33 (by decide), e2 34 (by decide)]
    exact ⟨c3, c4, c5, c6, c7, c8⟩
  · rw [e2 28 (by decide)] at hu
    rw [eI, eI, e_ 1 (by decide) (by decide), e_ 7 (by decide) (by decide)]
    obtain ⟨y0, y1, y2, y3⟩ := sU u hu
    by_cases h : u = u0
    · subst h
      rw [up3_f (show (0 : Nat) ≠ 1 by decide), up3_s, up3_f (show (2 : Nat) ≠ 1 by decide), up3_f (show (3 : Nat) ≠ 1 by decide)]
      rw [if_neg (by omega), if_pos rfl]
      exact ⟨y0, rfl, y2, y3⟩
    · rw [if_neg (by omega), if_neg (by omega), up3_i h]
      exact ⟨y0, y1, y2, y3⟩
  · rw [e2 29 (by decide)] at hr
    rw [kk_ 9 (by decide), e_ 11 (by decide) (by decide), e_ 4 (by decide) (by decide), e_ 5 (by decide) (by decide), e_ 6 (by decide) (by decide), e_ 2 (by decide) (by decide)]
    exact sP r hr
  · rw [e2 29 (by decide)] at hr
    rw [e_ 2 (by decide) (by decide)] at hi
    rw [kk_ 12 (by decide), e_ 8 (by decide) (by decide), e_ 3 (by decide) (by decide)]
    exact sT r i hr hi
  · rw [e2 30 (by decide)] at hr
    rw [kk_ 11 (by decide), e_ 16 (by decide) (by decide), e_ 17 (by decide) (by decide), e_ 18 (by decide) (by decide), e_ 9 (by decide) (by decide), e_ 12 (by decide) (by decide), e_ 13 (by decide) (by decide), e_ 14 (by decide) (by decide), e_ 15 (by decide) (by decide), e_ 19 (by decide) (by decide), e_ 20 (by decide) (by decide), e_ 10 (by decide) (by decide)]
    exact sJ r hr
  · rw [kk_ 4 (by decide), kk_ 7 (by decide), e2 31 (by decide)]
    exact sl
  · rw [e2 31 (by decide)] at he
    rw [kk_ 13 (by decide), e_ 21 (by decide) (by decide), e_ 16 (by decide) (by decide), e_ 22 (by decide) (by decide), e_ 23 (by decide) (by decide), e_ 24 (by decide) (by decide)]
    exact sE e he
  · rw [e2 28 (by decide)] at hu
    rw [csU_13 (kk_ 13 (by decide)), e2 31 (by decide), e_ 7 (by decide) (by decide)]
    exact sC u hu
  · rw [kk_ 5 (by decide), kk_ 8 (by decide), e61, e_ 27 (by decide) (by decide)]
    exact sB
  · unfold OkR
    rw [e2 28 (by decide), e2 29 (by decide), e2 30 (by decide), e2 31 (by decide), e2 32 (by decide), e2 33 (by decide), e2 34 (by decide), e61]
    rw [e_ 2 (by decide) (by decide), e_ 3 (by decide) (by decide), e_ 8 (by decide) (by decide), e_ 9 (by decide) (by decide), e_ 10 (by decide) (by decide), e_ 11 (by decide) (by decide), e_ 12 (by decide) (by decide), e_ 13 (by decide) (by decide), e_ 14 (by decide) (by decide), e_ 15 (by decide) (by decide), e_ 25 (by decide) (by decide), e_ 4 (by decide) (by decide), e_ 5 (by decide) (by decide), e_ 6 (by decide) (by decide), e_ 16 (by decide) (by decide), e_ 17 (by decide) (by decide), e_ 18 (by decide) (by decide), e_ 19 (by decide) (by decide), e_ 20 (by decide) (by decide), e_ 1 (by decide) (by decide), e_ 21 (by decide) (by decide), e_ 22 (by decide) (by decide), e_ 23 (by decide) (by decide), e_ 24 (by decide) (by decide)]
    refine ⟨oU, oP, oJ, oTc, oY, o8, o9, o10, o11, o12, o13, o14, o15, oX, fun i => ?_, oB, oK, oS, oJk, oM, oCo, oSh, oLg, oPo, oLl, oL2, oL3, oL4, oLle, oE1, oE2, oE3, oE4⟩
    have := oQ i
    rw [eI]
    split <;> omega
  · unfold LgOk
    rw [e61, e2 31 (by decide)]
    exact hG
  · unfold OkX
    rw [e_ 1 (by decide) (by decide), e_ 19 (by decide) (by decide), e_ 20 (by decide) (by decide), e2 31 (by decide), e2 30 (by decide)]
    exact hX
  · refine ⟨fun e he => ?_, fun u => ?_, fun j hk => ?_, fun u hu => ?_, fun j hk => ?_, fun r hr => ?_, fun u => ?_⟩
    · rw [e2 31 (by decide)] at he
      rw [e_ 21 (by decide) (by decide), e2 30 (by decide)]
      exact l1 e he
    · rw [hpg, e2 31 (by decide), e_ 1 (by decide) (by decide)]
      exact l2 u
    · rw [e2 30 (by decide)] at hk
      rw [hpj, e2 31 (by decide), e_ 13 (by decide) (by decide), e_ 17 (by decide) (by decide), e_ 19 (by decide) (by decide)]
      exact l3 j hk
    · rw [e2 28 (by decide)] at hu
      rw [e_ 7 (by decide) (by decide)]
      exact l4 u hu
    · rw [e2 30 (by decide)] at hk
      rw [e_ 19 (by decide) (by decide), e_ 20 (by decide) (by decide), e_ 14 (by decide) (by decide), e_ 15 (by decide) (by decide)]
      exact l5 j hk
    · rw [e2 29 (by decide)] at hr
      rw [e_ 2 (by decide) (by decide)]
      exact l6 r hr
    · rw [e_ 7 (by decide) (by decide), e2 31 (by decide)]
      exact l7 u
end KEEP1
