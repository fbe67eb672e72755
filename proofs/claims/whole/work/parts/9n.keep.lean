section KEEPW
theorem keep_writeJob {D D2 C : CF} (hS : Sm D C) (hM : OkM D) (hL : OkL D) {x n cap t : Nat} {g g2 : Nat → Nat} (h1 : n ≤ 60) (h2 : n ≤ cap) (h3 : cpO cap) (h4 : ∀ j : Nat, j < cap → g2 j < 128) (h5 : ∀ j : Nat, j < n → g2 j = g j) (hD : D2 = lnR (up3 D 60 100 27 t) n g) : Sm D2 (lnC C x n cap g2) ∧ OkM D2 ∧ OkL D2 := by
  have e_ : ∀ i : Nat, i ≠ 27 → i ≠ 100 → D2 60 i = D 60 i := by
    intro i h h100
    rw [hD, lnR_60 h, up3_i h100]
  have e2 : ∀ j : Nat, j ≠ 27 → D2 60 100 j = D 60 100 j := by
    intro j h
    rw [hD, lnR_60 (by decide), up3_f h]
  have e61 : ∀ i : Nat, i ≠ 27 → D2 61 i = D 61 i := by
    intro i h
    rw [hD, lnR_61 h, up3_k (by decide)]
  have en : D2 61 27 0 = n := by rw [hD]; rfl
  have eg : ∀ j : Nat, D2 60 27 j = g j := by
    intro j
    rw [hD]
    rfl
  clear hD
  obtain ⟨⟨c3, c4, c5, c6, c7, c8⟩, sU, sP, sT, sJ, sl, sE, sC, sB⟩ := hS
  obtain ⟨hO, hG, hX⟩ := hM
  obtain ⟨oU, oP, oJ, oTc, oY, o8, o9, o10, o11, o12, o13, o14, o15, oX, oQ, oB, oK, oS, oJk, oM, oCo, oSh, oLg, oPo, oLl, oL2, oL3, oL4, oLle, oE1, oE2, oE3, oE4⟩ := hO
  obtain ⟨l1, l2, l3, l4, l5, l6, l7⟩ := hL
  have kk_ : ∀ kk : Nat, kk ≠ 5 → kk ≠ 8 → (lnC C x n cap g2) kk = C kk := fun kk h h2 => lnC_k h h2
  have hpg : ∀ u n : Nat, pgU D2 u n = pgU D u n := by
    intro u n
    induction n with
    | zero => rfl
    | succ n ih =>
      show pgU D2 u n + (if D2 60 16 (D2 60 21 n) = u then D2 60 23 n else 0) = pgU D u n + _
      rw [ih, e_ 16 (by decide) (by decide), e_ 21 (by decide) (by decide), e_ 23 (by decide) (by decide)]
  have hpj : ∀ u n : Nat, pgJ D2 u n = pgJ D u n := by
    intro u n
    induction n with
    | zero => rfl
    | succ n ih =>
      show pgJ D2 u n + (if D2 60 21 n = u then D2 60 23 n else 0) = pgJ D u n + _
      rw [ih, e_ 21 (by decide) (by decide), e_ 23 (by decide) (by decide)]
  refine ⟨⟨?_, fun u hu => ?_, fun r hr => ?_, fun r i hr hi => ?_, fun r hr => ?_, ?_, fun e he => ?_, fun u hu => ?_, ?_⟩, ⟨?_, ?_, ?_⟩, ?_⟩
  · rw [kk_ 0 (by decide) (by decide), e2 28 (by decide), e2 29 (by decide), e2 30 (by decide), e2 32 (by decide), e2 33 (by decide), e2 34 (by decide)]
    exact ⟨c3, c4, c5, c6, c7, c8⟩
  · rw [e2 28 (by decide)] at hu
    rw [kk_ 10 (by decide) (by decide), e_ 0 (by decide) (by decide), e_ 1 (by decide) (by decide), e_ 7 (by decide) (by decide)]
    exact sU u hu
  · rw [e2 29 (by decide)] at hr
    rw [kk_ 9 (by decide) (by decide), e_ 11 (by decide) (by decide), e_ 4 (by decide) (by decide), e_ 5 (by decide) (by decide), e_ 6 (by decide) (by decide), e_ 2 (by decide) (by decide)]
    exact sP r hr
  · rw [e2 29 (by decide)] at hr
    rw [e_ 2 (by decide) (by decide)] at hi
    rw [kk_ 12 (by decide) (by decide), e_ 8 (by decide) (by decide), e_ 3 (by decide) (by decide)]
    exact sT r i hr hi
  · rw [e2 30 (by decide)] at hr
    rw [kk_ 11 (by decide) (by decide), e_ 16 (by decide) (by decide), e_ 17 (by decide) (by decide), e_ 18 (by decide) (by decide), e_ 9 (by decide) (by decide), e_ 12 (by decide) (by decide), e_ 13 (by decide) (by decide), e_ 14 (by decide) (by decide), e_ 15 (by decide) (by decide), e_ 19 (by decide) (by decide), e_ 20 (by decide) (by decide), e_ 10 (by decide) (by decide)]
    exact sJ r hr
  · rw [kk_ 4 (by decide) (by decide), kk_ 7 (by decide) (by decide), e2 31 (by decide)]
    exact sl
  · rw [e2 31 (by decide)] at he
    rw [kk_ 13 (by decide) (by decide), e_ 21 (by decide) (by decide), e_ 16 (by decide) (by decide), e_ 22 (by decide) (by decide), e_ 23 (by decide) (by decide), e_ 24 (by decide) (by decide)]
    exact sE e he
  · rw [e2 28 (by decide)] at hu
    rw [csU_13 (kk_ 13 (by decide) (by decide)), e2 31 (by decide), e_ 7 (by decide) (by decide)]
    exact sC u hu
  · rw [en]
    exact ⟨rfl, h1, h2, h3, h4, fun j hj => (h5 j hj).trans (eg j).symm⟩
  · unfold OkR
    rw [e2 28 (by decide), e2 29 (by decide), e2 30 (by decide), e2 31 (by decide), e2 32 (by decide), e2 33 (by decide), e2 34 (by decide), e61 21 (by decide), e61 22 (by decide), e61 23 (by decide), e61 24 (by decide)]
    rw [e_ 2 (by decide) (by decide), e_ 3 (by decide) (by decide), e_ 8 (by decide) (by decide), e_ 9 (by decide) (by decide), e_ 10 (by decide) (by decide), e_ 11 (by decide) (by decide), e_ 12 (by decide) (by decide), e_ 13 (by decide) (by decide), e_ 14 (by decide) (by decide), e_ 15 (by decide) (by decide), e_ 25 (by decide) (by decide), e_ 0 (by decide) (by decide), e_ 4 (by decide) (by decide), e_ 5 (by decide) (by decide), e_ 6 (by decide) (by decide), e_ 16 (by decide) (by decide), e_ 17 (by decide) (by decide), e_ 18 (by decide) (by decide), e_ 19 (by decide) (by decide), e_ 20 (by decide) (by decide), e_ 1 (by decide) (by decide), e_ 21 (by decide) (by decide), e_ 22 (by decide) (by decide), e_ 23 (by decide) (by decide), e_ 24 (by decide) (by decide)]
    exact ⟨oU, oP, oJ, oTc, oY, o8, o9, o10, o11, o12, o13, o14, o15, oX, oQ, oB, oK, oS, oJk, oM, oCo, oSh, oLg, oPo, oLl, oL2, oL3, oL4, oLle, oE1, oE2, oE3, oE4⟩
  · unfold LgOk
    rw [e61 21 (by decide), e61 22 (by decide), e61 23 (by decide), e61 24 (by decide), e2 31 (by decide)]
    exact hG
  · unfold OkX
    rw [e_ 1 (by decide) (by decide), e_ 19 (by decide) (by decide), e_ 20 (by decide) (by decide), e2 31 (by decide), e2 30 (by decide)]
    exact hX
  · refine ⟨fun e he => ?_, fun u => ?_, fun j hk => ?_, fun u hu => ?_, fun j hk => ?_, fun r hr => ?_, fun u => ?_⟩
    · rw [e2 31 (by decide)] at he
      rw [e_ 21 (by decide) (by decide), e2 30 (by decide)]
      exact l1 e he
    · rw [hpg, e2 31 (by decide), e_ 1 (by decide) (by decide)]
      exact l2 u
    · rw [e2 30 (by decide)] at hk
      rw [hpj, e2 31 (by decide), e_ 13 (by decide) (by decide), e_ 17 (by decide) (by decide), e_ 19 (by decide) (by decide)]
      exact l3 j hk
    · rw [e2 28 (by decide)] at hu
      rw [e_ 7 (by decide) (by decide)]
      exact l4 u hu
    · rw [e2 30 (by decide)] at hk
      rw [e_ 19 (by decide) (by decide), e_ 20 (by decide) (by decide), e_ 14 (by decide) (by decide), e_ 15 (by decide) (by decide)]
      exact l5 j hk
    · rw [e2 29 (by decide)] at hr
      rw [e_ 2 (by decide) (by decide)]
      exact l6 r hr
    · rw [e_ 7 (by decide) (by decide), e2 31 (by decide)]
      exact l7 u
end KEEPW
