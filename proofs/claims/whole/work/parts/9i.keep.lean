section KEEPP
theorem keep_addPrinter {D D2 C : CF} (hS : Sm D C) (hM : OkM D) (hL : OkL D) {cb b s t : Nat} (hcb : cb < 2) (hb : b ≤ 1000) (hs : s ≤ 100) (hn : D 60 100 29 < 4) (hD : D2 = up3 (up3 (up3 (up3 (up3 (up3 D 60 100 27 t) 60 11 (D 60 100 29) cb) 60 4 (D 60 100 29) b) 60 5 (D 60 100 29) b) 60 6 (D 60 100 29) s) 60 100 29 (D 60 100 29 + 1)) : Sm D2 (adO C 9 (C 0 0 4) (prF cb b s) 4) ∧ OkM D2 ∧ OkL D2 := by
  have e11 : ∀ j : Nat, D2 60 11 j = if j = (D 60 100 29) then cb else D 60 11 j := by
    intro j
    rw [hD]
    by_cases h : j = (D 60 100 29)
    · subst h
      rw [if_pos rfl]
      simp [up3]
    · rw [if_neg h]
      simp [up3, h]
  have e4 : ∀ j : Nat, D2 60 4 j = if j = (D 60 100 29) then b else D 60 4 j := by
    intro j
    rw [hD]
    by_cases h : j = (D 60 100 29)
    · subst h
      rw [if_pos rfl]
      simp [up3]
    · rw [if_neg h]
      simp [up3, h]
  have e5 : ∀ j : Nat, D2 60 5 j = if j = (D 60 100 29) then b else D 60 5 j := by
    intro j
    rw [hD]
    by_cases h : j = (D 60 100 29)
    · subst h
      rw [if_pos rfl]
      simp [up3]
    · rw [if_neg h]
      simp [up3, h]
  have e6 : ∀ j : Nat, D2 60 6 j = if j = (D 60 100 29) then s else D 60 6 j := by
    intro j
    rw [hD]
    by_cases h : j = (D 60 100 29)
    · subst h
      rw [if_pos rfl]
      simp [up3]
    · rw [if_neg h]
      simp [up3, h]
  have e_ : ∀ i : Nat, i ≠ 11 → i ≠ 4 → i ≠ 5 → i ≠ 6 → i ≠ 100 →  D2 60 i = D 60 i := by
    intro i h11 h4 h5 h6 h100
    rw [hD]
    funext j
    simp [up3, h11, h4, h5, h6, h100]
  have e2 : ∀ j : Nat, j ≠ 27 → j ≠ 29 → D2 60 100 j = D 60 100 j := by
    intro j h1 h2
    rw [hD]
    simp [up3, h1, h2]
  have en : D2 60 100 29 = D 60 100 29 + 1 := by rw [hD, up3_s]
  have e61 : D2 61 = D 61 := by
    rw [hD]
    funext i j
    simp [up3]
  clear hD
  have hlu := log_us hM hL
  obtain ⟨⟨c3, c4, c5, c6, c7, c8⟩, sU, sP, sT, sJ, sl, sE, sC, sB⟩ := hS
  obtain ⟨hO, hG, hX⟩ := hM
  obtain ⟨oU, oP, oJ, oTc, oY, o8, o9, o10, o11, o12, o13, o14, o15, oX, oQ, oB, oK, oS, oJk, oM, oCo, oSh, oLg, oPo, oLl, oL2, oL3, oL4, oLle, oE1, oE2, oE3, oE4⟩ := hO
  obtain ⟨l1, l2, l3, l4, l5, l6, l7⟩ := hL
  have kk_ : ∀ kk : Nat, kk ≠ 9 → kk ≠ 0 → (adO C 9 (C 0 0 4) (prF cb b s) 4) kk = C kk := fun kk h1 h2 => adO_k h1 h2
  have k0 : ∀ f : Nat, f ≠ 4 → (adO C 9 (C 0 0 4) (prF cb b s) 4) 0 0 f = C 0 0 f := fun f h => adO_0 (by decide) h
  have hpg : ∀ u n : Nat, pgU D2 u n = pgU D u n := by
    intro u n
    induction n with
    | zero => rfl
    | succ n ih =>
      show pgU D2 u n + (if D2 60 16 (D2 60 21 n) = u then D2 60 23 n else 0) = pgU D u n + _
      rw [ih, e_ 16 (by decide) (by decide) (by decide) (by decide) (by decide), e_ 21 (by decide) (by decide) (by decide) (by decide) (by decide), e_ 23 (by decide) (by decide) (by decide) (by decide) (by decide)]
  have hpj : ∀ u n : Nat, pgJ D2 u n = pgJ D u n := by
    intro u n
    induction n with
    | zero => rfl
    | succ n ih =>
      show pgJ D2 u n + (if D2 60 21 n = u then D2 60 23 n else 0) = pgJ D u n + _
      rw [ih, e_ 21 (by decide) (by decide) (by decide) (by decide) (by decide), e_ 23 (by decide) (by decide) (by decide) (by decide) (by decide)]
  refine ⟨⟨⟨?_, ?_, ?_, ?_, ?_, ?_⟩, fun u hu => ?_, fun p hp => ?_, fun p t hp ht => ?_, fun k hk => ?_, ?_, fun e he => ?_, fun u hu => ?_, ?_⟩, ⟨?_, ?_, ?_⟩, ?_⟩
  · rw [k0 3 (by decide), e2 28 (by decide) (by decide), c3]
  · rw [adO_0s (by decide), en, c4]
  · rw [k0 5 (by decide), e2 30 (by decide) (by decide), c5]
  · rw [k0 6 (by decide), e2 32 (by decide) (by decide), c6]
  · rw [k0 7 (by decide), e2 33 (by decide) (by decide), c7]
  · rw [k0 8 (by decide), e2 34 (by decide) (by decide), c8]
  · rw [e2 28 (by decide) (by decide)] at hu
    rw [kk_ 10 (by decide) (by decide), e_ 0 (by decide) (by decide) (by decide) (by decide) (by decide), e_ 1 (by decide) (by decide) (by decide) (by decide) (by decide), e_ 7 (by decide) (by decide) (by decide) (by decide) (by decide)]
    exact sU u hu
  · rw [en] at hp
    rw [c4, e11, e4, e5, e6, e_ 2 (by decide) (by decide) (by decide) (by decide) (by decide)]
    by_cases h : p = D 60 100 29
    · subst h
      rw [adO_s, if_pos rfl, if_pos rfl, if_pos rfl, if_pos rfl, l6 _ (Nat.le_refl _)]
      exact ⟨rfl, rfl, rfl, rfl, rfl⟩
    · rw [adO_i h (by decide), if_neg h, if_neg h, if_neg h, if_neg h]
      exact sP p (by omega)
  · rw [en] at hp
    rw [e_ 2 (by decide) (by decide) (by decide) (by decide) (by decide)] at ht
    rw [kk_ 12 (by decide) (by decide), e_ 8 (by decide) (by decide) (by decide) (by decide) (by decide), e_ 3 (by decide) (by decide) (by decide) (by decide) (by decide)]
    by_cases h : p = D 60 100 29
    · rw [h, l6 _ (Nat.le_refl _)] at ht
      exact absurd ht (Nat.not_lt_zero _)
    · exact sT p t (by omega) ht
  · rw [e2 30 (by decide) (by decide)] at hk
    rw [kk_ 11 (by decide) (by decide), e_ 16 (by decide) (by decide) (by decide) (by decide) (by decide), e_ 17 (by decide) (by decide) (by decide) (by decide) (by decide), e_ 18 (by decide) (by decide) (by decide) (by decide) (by decide), e_ 9 (by decide) (by decide) (by decide) (by decide) (by decide), e_ 12 (by decide) (by decide) (by decide) (by decide) (by decide), e_ 13 (by decide) (by decide) (by decide) (by decide) (by decide), e_ 14 (by decide) (by decide) (by decide) (by decide) (by decide), e_ 15 (by decide) (by decide) (by decide) (by decide) (by decide), e_ 19 (by decide) (by decide) (by decide) (by decide) (by decide), e_ 20 (by decide) (by decide) (by decide) (by decide) (by decide), e_ 10 (by decide) (by decide) (by decide) (by decide) (by decide)]
    exact sJ k hk
  · rw [kk_ 4 (by decide) (by decide), kk_ 7 (by decide) (by decide), e2 31 (by decide) (by decide)]
    exact sl
  · rw [e2 31 (by decide) (by decide)] at he
    rw [kk_ 13 (by decide) (by decide), e_ 21 (by decide) (by decide) (by decide) (by decide) (by decide), e_ 16 (by decide) (by decide) (by decide) (by decide) (by decide), e_ 22 (by decide) (by decide) (by decide) (by decide) (by decide), e_ 23 (by decide) (by decide) (by decide) (by decide) (by decide), e_ 24 (by decide) (by decide) (by decide) (by decide) (by decide)]
    exact sE e he
  · rw [e2 28 (by decide) (by decide)] at hu
    rw [csU_13 (kk_ 13 (by decide) (by decide)), e2 31 (by decide) (by decide), e_ 7 (by decide) (by decide) (by decide) (by decide) (by decide)]
    exact sC u hu
  · rw [kk_ 5 (by decide) (by decide), kk_ 8 (by decide) (by decide), e61, e_ 27 (by decide) (by decide) (by decide) (by decide) (by decide)]
    exact sB
  · unfold OkR
    rw [e2 28 (by decide) (by decide), en, e2 30 (by decide) (by decide), e2 31 (by decide) (by decide), e2 32 (by decide) (by decide), e2 33 (by decide) (by decide), e2 34 (by decide) (by decide), e61]
    rw [e_ 2 (by decide) (by decide) (by decide) (by decide) (by decide), e_ 3 (by decide) (by decide) (by decide) (by decide) (by decide), e_ 8 (by decide) (by decide) (by decide) (by decide) (by decide), e_ 9 (by decide) (by decide) (by decide) (by decide) (by decide), e_ 10 (by decide) (by decide) (by decide) (by decide) (by decide), e_ 12 (by decide) (by decide) (by decide) (by decide) (by decide), e_ 13 (by decide) (by decide) (by decide) (by decide) (by decide), e_ 14 (by decide) (by decide) (by decide) (by decide) (by decide), e_ 15 (by decide) (by decide) (by decide) (by decide) (by decide), e_ 25 (by decide) (by decide) (by decide) (by decide) (by decide), e_ 0 (by decide) (by decide) (by decide) (by decide) (by decide), e_ 16 (by decide) (by decide) (by decide) (by decide) (by decide), e_ 17 (by decide) (by decide) (by decide) (by decide) (by decide), e_ 18 (by decide) (by decide) (by decide) (by decide) (by decide), e_ 19 (by decide) (by decide) (by decide) (by decide) (by decide), e_ 20 (by decide) (by decide) (by decide) (by decide) (by decide), e_ 1 (by decide) (by decide) (by decide) (by decide) (by decide), e_ 21 (by decide) (by decide) (by decide) (by decide) (by decide), e_ 22 (by decide) (by decide) (by decide) (by decide) (by decide), e_ 23 (by decide) (by decide) (by decide) (by decide) (by decide), e_ 24 (by decide) (by decide) (by decide) (by decide) (by decide)]
    refine ⟨oU, by omega, oJ, oTc, oY, o8, o9, o10, fun i => ?_, o12, o13, o14, o15, oX, oQ, fun i => ?_, fun i => ?_, fun i => ?_, oJk, oM, oCo, oSh, oLg, oPo, oLl, oL2, oL3, oL4, oLle, oE1, oE2, oE3, oE4⟩
    · have := o11 i
      rw [e11]
      split <;> omega
    · have := oB i
      rw [e4]
      split <;> omega
    · have := oK i
      rw [e5]
      split <;> omega
    · have := oS i
      rw [e6]
      split <;> omega
  · unfold LgOk
    rw [e61, e2 31 (by decide) (by decide)]
    exact hG
  · unfold OkX
    rw [e_ 1 (by decide) (by decide) (by decide) (by decide) (by decide), e_ 19 (by decide) (by decide) (by decide) (by decide) (by decide), e_ 20 (by decide) (by decide) (by decide) (by decide) (by decide), e2 31 (by decide) (by decide), e2 30 (by decide) (by decide)]
    exact hX
  · refine ⟨fun e he => ?_, fun u => ?_, fun k hk => ?_, fun u hu => ?_, fun k hk => ?_, fun p hp => ?_, fun u => ?_⟩
    · rw [e2 31 (by decide) (by decide)] at he
      rw [e_ 21 (by decide) (by decide) (by decide) (by decide) (by decide), e2 30 (by decide) (by decide)]
      exact l1 e he
    · rw [hpg, e2 31 (by decide) (by decide), e_ 1 (by decide) (by decide) (by decide) (by decide) (by decide)]
      exact l2 u
    · rw [e2 30 (by decide) (by decide)] at hk
      rw [hpj, e2 31 (by decide) (by decide), e_ 13 (by decide) (by decide) (by decide) (by decide) (by decide), e_ 17 (by decide) (by decide) (by decide) (by decide) (by decide), e_ 19 (by decide) (by decide) (by decide) (by decide) (by decide)]
      exact l3 k hk
    · rw [e2 28 (by decide) (by decide)] at hu
      rw [e_ 7 (by decide) (by decide) (by decide) (by decide) (by decide)]
      exact l4 u hu
    · rw [e2 30 (by decide) (by decide)] at hk
      rw [e_ 19 (by decide) (by decide) (by decide) (by decide) (by decide), e_ 20 (by decide) (by decide) (by decide) (by decide) (by decide), e_ 14 (by decide) (by decide) (by decide) (by decide) (by decide), e_ 15 (by decide) (by decide) (by decide) (by decide) (by decide)]
      exact l5 k hk
    · rw [en] at hp
      rw [e_ 2 (by decide) (by decide) (by decide) (by decide) (by decide)]
      exact l6 p (by omega)
    · rw [e_ 7 (by decide) (by decide) (by decide) (by decide) (by decide), e2 31 (by decide) (by decide)]
      exact l7 u
end KEEPP
