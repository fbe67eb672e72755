section KEEPT
theorem keep_addTray {D D2 C : CF} (hS : Sm D C) (hM : OkM D) (hL : OkL D) {p q s t : Nat} (hp : p < D 60 100 29) (hq : q < 65536) (hs : s ≤ 500) (hn : D 60 2 p < 3) (hD : D2 = up3 (up3 (up3 (up3 D 60 100 27 t) 60 8 (3 * p + D 60 2 p) q) 60 3 (3 * p + D 60 2 p) s) 60 2 p (D 60 2 p + 1)) : Sm D2 (adT C p q s) ∧ OkM D2 ∧ OkL D2 := by
  have e8 : ∀ j : Nat, D2 60 8 j = if j = (3 * p + D 60 2 p) then q else D 60 8 j := by
    intro j
    rw [hD]
    by_cases h : j = (3 * p + D 60 2 p)
    · subst h
      rw [if_pos rfl]
      simp [up3]
    · rw [if_neg h]
      simp [up3, h]
  have e3 : ∀ j : Nat, D2 60 3 j = if j = (3 * p + D 60 2 p) then s else D 60 3 j := by
    intro j
    rw [hD]
    by_cases h : j = (3 * p + D 60 2 p)
    · subst h
      rw [if_pos rfl]
      simp [up3]
    · rw [if_neg h]
      simp [up3, h]
  have et : ∀ j : Nat, D2 60 2 j = if j = p then D 60 2 p + 1 else D 60 2 j := by
    intro j
    rw [hD]
    by_cases h : j = p
    · subst h
      rw [if_pos rfl]
      simp [up3]
    · rw [if_neg h]
      simp [up3, h]
  have e_ : ∀ i : Nat, i ≠ 8 → i ≠ 3 → i ≠ 2 → i ≠ 100 → D2 60 i = D 60 i := by
    intro i h8 h3 h2 h100
    rw [hD]
    funext j
    simp [up3, h8, h3, h2, h100]
  have e2 : ∀ j : Nat, j ≠ 27 → D2 60 100 j = D 60 100 j := by
    intro j h1
    rw [hD]
    simp [up3, h1]
  have e61 : D2 61 = D 61 := by
    rw [hD]
    funext i j
    simp [up3]
  clear hD
  obtain ⟨⟨c3, c4, c5, c6, c7, c8⟩, sU, sP, sT, sJ, sl, sE, sC, sB⟩ := hS
  obtain ⟨hO, hG, hX⟩ := hM
  obtain ⟨oU, oP, oJ, oTc, oY, o8, o9, o10, o11, o12, o13, o14, o15, oX, oQ, oB, oK, oS, oJk, oM, oCo, oSh, oLg, oPo, oLl, oL2, oL3, oL4, oLle, oE1, oE2, oE3, oE4⟩ := hO
  obtain ⟨l1, l2, l3, l4, l5, l6, l7⟩ := hL
  have q5 := (sP p hp).2.2.2.2
  have kk_ : ∀ kk : Nat, kk ≠ 12 → kk ≠ 9 → adT C p q s kk = C kk := fun kk h1 h2 => adT_k h1 h2
  have hpg : ∀ u n : Nat, pgU D2 u n = pgU D u n := by
    intro u n
    induction n with
    | zero => rfl
    | succ n ih =>
      show pgU D2 u n + (if D2 60 16 (D2 60 21 n) = u then D2 60 23 n else 0) = pgU D u n + _
      rw [ih, e_ 16 (by decide) (by decide) (by decide) (by decide), e_ 21 (by decide) (by decide) (by decide) (by decide), e_ 23 (by decide) (by decide) (by decide) (by decide)]
  have hpj : ∀ u n : Nat, pgJ D2 u n = pgJ D u n := by
    intro u n
    induction n with
    | zero => rfl
    | succ n ih =>
      show pgJ D2 u n + (if D2 60 21 n = u then D2 60 23 n else 0) = pgJ D u n + _
      rw [ih, e_ 21 (by decide) (by decide) (by decide) (by decide), e_ 23 (by decide) (by decide) (by decide) (by decide)]
  refine ⟨⟨?_, fun u hu => ?_, fun r hr => ?_, fun r i hr hi => ?_, fun k hk => ?_, ?_, fun e he => ?_, fun u hu => ?_, ?_⟩, ⟨?_, ?_, ?_⟩, ?_⟩
  · rw [kk_ 0 (by decide) (by decide), e2 28 (by decide), e2 29 (by decide), e2 30 (by decide), e2 32 (by decide), e2 33 (by decide), e2 34 (by decide)]
    exact ⟨c3, c4, c5, c6, c7, c8⟩
  · rw [e2 28 (by decide)] at hu
    rw [kk_ 10 (by decide) (by decide), e_ 0 (by decide) (by decide) (by decide) (by decide), e_ 1 (by decide) (by decide) (by decide) (by decide), e_ 7 (by decide) (by decide) (by decide) (by decide)]
    exact sU u hu
  · rw [e2 29 (by decide)] at hr
    rw [e_ 11 (by decide) (by decide) (by decide) (by decide), e_ 4 (by decide) (by decide) (by decide) (by decide), e_ 5 (by decide) (by decide) (by decide) (by decide), e_ 6 (by decide) (by decide) (by decide) (by decide), et, adT_9 (by omega), adT_9 (by omega), adT_9 (by omega), adT_9 (by omega)]
    obtain ⟨y0, y1, y2, y3, y5⟩ := sP r hr
    refine ⟨y0, y1, y2, y3, ?_⟩
    by_cases h : r = p
    · subst h
      rw [adT_9s, if_pos rfl, q5]
    · rw [adT_9 (fun z => h z.1), if_neg h]
      exact y5
  · rw [e2 29 (by decide)] at hr
    rw [et] at hi
    have hT := oTc r
    have hT2 := oTc p
    rw [e8, e3]
    by_cases h : 3 * r + i = (3 * p + D 60 2 p)
    · rw [if_pos h, if_pos h, h, ← q5, adT_12s]
      exact ⟨rfl, rfl⟩
    · rw [if_neg h, if_neg h, adT_12 (by rw [q5]; exact h)]
      refine sT r i hr ?_
      by_cases h2 : r = p
      · rw [if_pos h2] at hi
        subst h2
        omega
      · rw [if_neg h2] at hi
        exact hi
  · rw [e2 30 (by decide)] at hk
    rw [kk_ 11 (by decide) (by decide), e_ 16 (by decide) (by decide) (by decide) (by decide), e_ 17 (by decide) (by decide) (by decide) (by decide), e_ 18 (by decide) (by decide) (by decide) (by decide), e_ 9 (by decide) (by decide) (by decide) (by decide), e_ 12 (by decide) (by decide) (by decide) (by decide), e_ 13 (by decide) (by decide) (by decide) (by decide), e_ 14 (by decide) (by decide) (by decide) (by decide), e_ 15 (by decide) (by decide) (by decide) (by decide), e_ 19 (by decide) (by decide) (by decide) (by decide), e_ 20 (by decide) (by decide) (by decide) (by decide), e_ 10 (by decide) (by decide) (by decide) (by decide)]
    exact sJ k hk
  · rw [kk_ 4 (by decide) (by decide), kk_ 7 (by decide) (by decide), e2 31 (by decide)]
    exact sl
  · rw [e2 31 (by decide)] at he
    rw [kk_ 13 (by decide) (by decide), e_ 21 (by decide) (by decide) (by decide) (by decide), e_ 16 (by decide) (by decide) (by decide) (by decide), e_ 22 (by decide) (by decide) (by decide) (by decide), e_ 23 (by decide) (by decide) (by decide) (by decide), e_ 24 (by decide) (by decide) (by decide) (by decide)]
    exact sE e he
  · rw [e2 28 (by decide)] at hu
    rw [csU_13 (kk_ 13 (by decide) (by decide)), e2 31 (by decide), e_ 7 (by decide) (by decide) (by decide) (by decide)]
    exact sC u hu
  · rw [kk_ 5 (by decide) (by decide), kk_ 8 (by decide) (by decide), e61, e_ 27 (by decide) (by decide) (by decide) (by decide)]
    exact sB
  · unfold OkR
    rw [e2 28 (by decide), e2 29 (by decide), e2 30 (by decide), e2 31 (by decide), e2 32 (by decide), e2 33 (by decide), e2 34 (by decide), e61]
    rw [e_ 9 (by decide) (by decide) (by decide) (by decide), e_ 10 (by decide) (by decide) (by decide) (by decide), e_ 11 (by decide) (by decide) (by decide) (by decide), e_ 12 (by decide) (by decide) (by decide) (by decide), e_ 13 (by decide) (by decide) (by decide) (by decide), e_ 14 (by decide) (by decide) (by decide) (by decide), e_ 15 (by decide) (by decide) (by decide) (by decide), e_ 25 (by decide) (by decide) (by decide) (by decide), e_ 0 (by decide) (by decide) (by decide) (by decide), e_ 4 (by decide) (by decide) (by decide) (by decide), e_ 5 (by decide) (by decide) (by decide) (by decide), e_ 6 (by decide) (by decide) (by decide) (by decide), e_ 16 (by decide) (by decide) (by decide) (by decide), e_ 17 (by decide) (by decide) (by decide) (by decide), e_ 18 (by decide) (by decide) (by decide) (by decide), e_ 19 (by decide) (by decide) (by decide) (by decide), e_ 20 (by decide) (by decide) (by decide) (by decide), e_ 1 (by decide) (by decide) (by decide) (by decide), e_ 21 (by decide) (by decide) (by decide) (by decide), e_ 22 (by decide) (by decide) (by decide) (by decide), e_ 23 (by decide) (by decide) (by decide) (by decide), e_ 24 (by decide) (by decide) (by decide) (by decide)]
    refine ⟨oU, oP, oJ, fun i => ?_, fun i => ?_, fun i => ?_, o9, o10, o11, o12, o13, o14, o15, oX, oQ, oB, oK, oS, oJk, oM, oCo, oSh, oLg, oPo, oLl, oL2, oL3, oL4, oLle, oE1, oE2, oE3, oE4⟩
    · have := oTc i
      rw [et]
      split <;> omega
    · have := oY i
      rw [e3]
      split <;> omega
    · have := o8 i
      rw [e8]
      split <;> omega
  · unfold LgOk
    rw [e61, e2 31 (by decide)]
    exact hG
  · unfold OkX
    rw [e_ 1 (by decide) (by decide) (by decide) (by decide), e_ 19 (by decide) (by decide) (by decide) (by decide), e_ 20 (by decide) (by decide) (by decide) (by decide), e2 31 (by decide), e2 30 (by decide)]
    exact hX
  · refine ⟨fun e he => ?_, fun u => ?_, fun k hk => ?_, fun u hu => ?_, fun k hk => ?_, fun r hr => ?_, fun u => ?_⟩
    · rw [e2 31 (by decide)] at he
      rw [e_ 21 (by decide) (by decide) (by decide) (by decide), e2 30 (by decide)]
      exact l1 e he
    · rw [hpg, e2 31 (by decide), e_ 1 (by decide) (by decide) (by decide) (by decide)]
      exact l2 u
    · rw [e2 30 (by decide)] at hk
      rw [hpj, e2 31 (by decide), e_ 13 (by decide) (by decide) (by decide) (by decide), e_ 17 (by decide) (by decide) (by decide) (by decide), e_ 19 (by decide) (by decide) (by decide) (by decide)]
      exact l3 k hk
    · rw [e2 28 (by decide)] at hu
      rw [e_ 7 (by decide) (by decide) (by decide) (by decide)]
      exact l4 u hu
    · rw [e2 30 (by decide)] at hk
      rw [e_ 19 (by decide) (by decide) (by decide) (by decide), e_ 20 (by decide) (by decide) (by decide) (by decide), e_ 14 (by decide) (by decide) (by decide) (by decide), e_ 15 (by decide) (by decide) (by decide) (by decide)]
      exact l5 k hk
    · rw [e2 29 (by decide)] at hr
      rw [et, if_neg (by omega)]
      exact l6 r hr
    · rw [e_ 7 (by decide) (by decide) (by decide) (by decide), e2 31 (by decide)]
      exact l7 u
end KEEPT
