section KEEPS
theorem keep_setPrices {D D2 C : CF} (hS : Sm D C) (hM : OkM D) (hL : OkL D) {a b s t : Nat} (ha : a ≤ 99) (hb : b ≤ 99) (hs : s ≤ 99) (hD : D2 = up3 (up3 (up3 (up3 D 60 100 27 t) 60 100 32 a) 60 100 33 b) 60 100 34 s) : Sm D2 (up3 (up3 (up3 C 0 0 6 a) 0 0 7 b) 0 0 8 s) ∧ OkM D2 ∧ OkL D2 := by
  have e_ : ∀ i : Nat, i ≠ 100 → D2 60 i = D 60 i := by
    intro i h
    rw [hD, up3_i h, up3_i h, up3_i h, up3_i h]
  have e2 : ∀ j : Nat, j ≠ 27 → j ≠ 32 → j ≠ 33 → j ≠ 34 → D2 60 100 j = D 60 100 j := by
    intro j h1 h2 h3 h4
    rw [hD, up3_f h4, up3_f h3, up3_f h2, up3_f h1]
  have e32 : D2 60 100 32 = a := by rw [hD, up3_f (by decide), up3_f (by decide), up3_s]
  have e33 : D2 60 100 33 = b := by rw [hD, up3_f (by decide), up3_s]
  have e34 : D2 60 100 34 = s := by rw [hD, up3_s]
  have e61 : D2 61 = D 61 := by rw [hD, up3_k (by decide), up3_k (by decide), up3_k (by decide), up3_k (by decide)]
  clear hD
  obtain ⟨⟨c3, c4, c5, c6, c7, c8⟩, sU, sP, sT, sJ, sl, sE, sC, sB⟩ := hS
  obtain ⟨hO, hG, hX⟩ := hM
  obtain ⟨oU, oP, oJ, oTc, oY, o8, o9, o10, o11, o12, o13, o14, o15, oX, oQ, oB, oK, oS, oJk, oM, oCo, oSh, oLg, oPo, oLl, oL2, oL3, oL4, oLle, oE1, oE2, oE3, oE4⟩ := hO
  obtain ⟨l1, l2, l3, l4, l5, l6, l7⟩ := hL
  have kk_ : ∀ kk : Nat, kk ≠ 0 → (up3 (up3 (up3 C 0 0 6 a) 0 0 7 b) 0 0 8 s) kk = C kk := fun kk h => by rw [up3_k h, up3_k h, up3_k h]
  have hpg : ∀ u n : Nat, pgU D2 u n = pgU D u n := by
    intro u n
    induction n with
    | zero => rfl
    | succ n ih =>
      show pgU D2 u n + (if D2 60 16 (D2 60 21 n) = u then D2 60 23 n else 0) = pgU D u n + _
      rw [ih, e_ 16 (by decide), e_ 21 (by decide), e_ 23 (by decide)]
  have hpj : ∀ u n : Nat, pgJ D2 u n = pgJ D u n := by
    intro u n
    induction n with
    | zero => rfl
    | succ n ih =>
      show pgJ D2 u n + (if D2 60 21 n = u then D2 60 23 n else 0) = pgJ D u n + _
      rw [ih, e_ 21 (by decide), e_ 23 (by decide)]
  refine ⟨⟨⟨?_, ?_, ?_, ?_, ?_, ?_⟩, fun u hu => ?_, fun r hr => ?_, fun r i hr hi => ?_, fun r hr => ?_, ?_, fun e he => ?_, fun u hu => ?_, ?_⟩, ⟨?_, ?_, ?_⟩, ?_⟩
  · rw [up3_f (by decide), up3_f (by decide), up3_f (by decide), e2 28 (by decide) (by decide) (by decide) (by decide), c3]
  · rw [up3_f (by decide), up3_f (by decide), up3_f (by decide), e2 29 (by decide) (by decide) (by decide) (by decide), c4]
  · rw [up3_f (by decide), up3_f (by decide), up3_f (by decide), e2 30 (by decide) (by decide) (by decide) (by decide), c5]
  · rw [up3_f (by decide), up3_f (by decide), up3_s, e32]
  · rw [up3_f (by decide), up3_s, e33]
  · rw [up3_s, e34]
  · rw [e2 28 (by decide) (by decide) (by decide) (by decide)] at hu
    rw [kk_ 10 (by decide), e_ 0 (by decide), e_ 1 (by decide), e_ 7 (by decide)]
    exact sU u hu
  · rw [e2 29 (by decide) (by decide) (by decide) (by decide)] at hr
    rw [kk_ 9 (by decide), e_ 11 (by decide), e_ 4 (by decide), e_ 5 (by decide), e_ 6 (by decide), e_ 2 (by decide)]
    exact sP r hr
  · rw [e2 29 (by decide) (by decide) (by decide) (by decide)] at hr
    rw [e_ 2 (by decide)] at hi
    rw [kk_ 12 (by decide), e_ 8 (by decide), e_ 3 (by decide)]
    exact sT r i hr hi
  · rw [e2 30 (by decide) (by decide) (by decide) (by decide)] at hr
    rw [kk_ 11 (by decide), e_ 16 (by decide), e_ 17 (by decide), e_ 18 (by decide), e_ 9 (by decide), e_ 12 (by decide), e_ 13 (by decide), e_ 14 (by decide), e_ 15 (by decide), e_ 19 (by decide), e_ 20 (by decide), e_ 10 (by decide)]
    exact sJ r hr
  · rw [kk_ 4 (by decide), kk_ 7 (by decide), e2 31 (by decide) (by decide) (by decide) (by decide)]
    exact sl
  · rw [e2 31 (by decide) (by decide) (by decide) (by decide)] at he
    rw [kk_ 13 (by decide), e_ 21 (by decide), e_ 16 (by decide), e_ 22 (by decide), e_ 23 (by decide), e_ 24 (by decide)]
    exact sE e he
  · rw [e2 28 (by decide) (by decide) (by decide) (by decide)] at hu
    rw [csU_13 (kk_ 13 (by decide)), e2 31 (by decide) (by decide) (by decide) (by decide), e_ 7 (by decide)]
    exact sC u hu
  · rw [kk_ 5 (by decide), kk_ 8 (by decide), e61, e_ 27 (by decide)]
    exact sB
  · unfold OkR
    rw [e2 28 (by decide) (by decide) (by decide) (by decide), e2 29 (by decide) (by decide) (by decide) (by decide), e2 30 (by decide) (by decide) (by decide) (by decide), e2 31 (by decide) (by decide) (by decide) (by decide), e32, e33, e34, e61]
    rw [e_ 2 (by decide), e_ 3 (by decide), e_ 8 (by decide), e_ 9 (by decide), e_ 10 (by decide), e_ 11 (by decide), e_ 12 (by decide), e_ 13 (by decide), e_ 14 (by decide), e_ 15 (by decide), e_ 25 (by decide), e_ 0 (by decide), e_ 4 (by decide), e_ 5 (by decide), e_ 6 (by decide), e_ 16 (by decide), e_ 17 (by decide), e_ 18 (by decide), e_ 19 (by decide), e_ 20 (by decide), e_ 1 (by decide), e_ 21 (by decide), e_ 22 (by decide), e_ 23 (by decide), e_ 24 (by decide)]
    exact ⟨oU, oP, oJ, oTc, oY, o8, o9, o10, o11, o12, o13, o14, o15, oX, oQ, oB, oK, oS, oJk, ha, hb, hs, oLg, oPo, oLl, oL2, oL3, oL4, oLle, oE1, oE2, oE3, oE4⟩
  · unfold LgOk
    rw [e61, e2 31 (by decide) (by decide) (by decide) (by decide)]
    exact hG
  · unfold OkX
    rw [e_ 1 (by decide), e_ 19 (by decide), e_ 20 (by decide), e2 31 (by decide) (by decide) (by decide) (by decide), e2 30 (by decide) (by decide) (by decide) (by decide)]
    exact hX
  · refine ⟨fun e he => ?_, fun u => ?_, fun j hk => ?_, fun u hu => ?_, fun j hk => ?_, fun r hr => ?_, fun u => ?_⟩
    · rw [e2 31 (by decide) (by decide) (by decide) (by decide)] at he
      rw [e_ 21 (by decide), e2 30 (by decide) (by decide) (by decide) (by decide)]
      exact l1 e he
    · rw [hpg, e2 31 (by decide) (by decide) (by decide) (by decide), e_ 1 (by decide)]
      exact l2 u
    · rw [e2 30 (by decide) (by decide) (by decide) (by decide)] at hk
      rw [hpj, e2 31 (by decide) (by decide) (by decide) (by decide), e_ 13 (by decide), e_ 17 (by decide), e_ 19 (by decide)]
      exact l3 j hk
    · rw [e2 28 (by decide) (by decide) (by decide) (by decide)] at hu
      rw [e_ 7 (by decide)]
      exact l4 u hu
    · rw [e2 30 (by decide) (by decide) (by decide) (by decide)] at hk
      rw [e_ 19 (by decide), e_ 20 (by decide), e_ 14 (by decide), e_ 15 (by decide)]
      exact l5 j hk
    · rw [e2 29 (by decide) (by decide) (by decide) (by decide)] at hr
      rw [e_ 2 (by decide)]
      exact l6 r hr
    · rw [e_ 7 (by decide), e2 31 (by decide) (by decide) (by decide) (by decide)]
      exact l7 u
end KEEPS
