section KEEPJ
theorem pgJ_z {D : CF} {k : Nat} : ∀ m : Nat, (∀ e : Nat, e < m → D 60 21 e ≠ k) → pgJ D k m = 0
  | 0, _ => rfl
  | m + 1, h => by
    show pgJ D k m + (if D 60 21 m = k then D 60 23 m else 0) = 0
    rw [pgJ_z m (fun e he => h e (by omega)), if_neg (h m (Nat.lt_succ_self m))]
theorem ptp_0 (d g : Nat) : ptoN d g 0 = 0 ∧ pcN d g 0 = 0 := by
  unfold ptoN pcN
  rw [Nat.zero_div, Nat.zero_mod]
  constructor
  · split <;> omega
  · split <;> rfl
theorem keep_submit {D D2 C : CF} (hS : Sm D C) (hM : OkM D) (hL : OkL D) {u c w q cb db t : Nat} (hu0 : u < D 60 100 28) (hc1 : 1 ≤ c) (hc2 : c ≤ 100) (hw1 : 1 ≤ w) (hw2 : w ≤ 9) (hq : q < 65536) (hcb : cb < 2) (hdb : db < 2) (hn : D 60 100 30 < 40) (hD : D2 = up3 (up3 (up3 (up3 (up3 (up3 (up3 (up3 (up3 D 60 100 27 t) 60 16 (D 60 100 30) u) 60 17 (D 60 100 30) c) 60 18 (D 60 100 30) w) 60 9 (D 60 100 30) q) 60 12 (D 60 100 30) cb) 60 13 (D 60 100 30) db) 60 10 (D 60 100 30) 45) 60 100 30 (D 60 100 30 + 1)) : Sm D2 (adO C 11 (C 0 0 5) (joF (C 0 0 5) u c w q cb db) 5) ∧ OkM D2 ∧ OkL D2 := by
  have e16 : ∀ j : Nat, D2 60 16 j = if j = (D 60 100 30) then u else D 60 16 j := by
    intro j
    rw [hD]
    by_cases h : j = (D 60 100 30)
    · subst h
      rw [if_pos rfl]
      simp [up3]
    · rw [if_neg h]
      simp [up3, h]
  have e17 : ∀ j : Nat, D2 60 17 j = if j = (D 60 100 30) then c else D 60 17 j := by
    intro j
    rw [hD]
    by_cases h : j = (D 60 100 30)
    · subst h
      rw [if_pos rfl]
      simp [up3]
    · rw [if_neg h]
      simp [up3, h]
  have e18 : ∀ j : Nat, D2 60 18 j = if j = (D 60 100 30) then w else D 60 18 j := by
    intro j
    rw [hD]
    by_cases h : j = (D 60 100 30)
    · subst h
      rw [if_pos rfl]
      simp [up3]
    · rw [if_neg h]
      simp [up3, h]
  have e9 : ∀ j : Nat, D2 60 9 j = if j = (D 60 100 30) then q else D 60 9 j := by
    intro j
    rw [hD]
    by_cases h : j = (D 60 100 30)
    · subst h
      rw [if_pos rfl]
      simp [up3]
    · rw [if_neg h]
      simp [up3, h]
  have e12 : ∀ j : Nat, D2 60 12 j = if j = (D 60 100 30) then cb else D 60 12 j := by
    intro j
    rw [hD]
    by_cases h : j = (D 60 100 30)
    · subst h
      rw [if_pos rfl]
      simp [up3]
    · rw [if_neg h]
      simp [up3, h]
  have e13 : ∀ j : Nat, D2 60 13 j = if j = (D 60 100 30) then db else D 60 13 j := by
    intro j
    rw [hD]
    by_cases h : j = (D 60 100 30)
    · subst h
      rw [if_pos rfl]
      simp [up3]
    · rw [if_neg h]
      simp [up3, h]
  have e10 : ∀ j : Nat, D2 60 10 j = if j = (D 60 100 30) then 45 else D 60 10 j := by
    intro j
    rw [hD]
    by_cases h : j = (D 60 100 30)
    · subst h
      rw [if_pos rfl]
      simp [up3]
    · rw [if_neg h]
      simp [up3, h]
  have e_ : ∀ i : Nat, i ≠ 16 → i ≠ 17 → i ≠ 18 → i ≠ 9 → i ≠ 12 → i ≠ 13 → i ≠ 10 → i ≠ 100 →  D2 60 i = D 60 i := by
    intro i h16 h17 h18 h9 h12 h13 h10 h100
    rw [hD]
    funext j
    simp [up3, h16, h17, h18, h9, h12, h13, h10, h100]
  have e2 : ∀ j : Nat, j ≠ 27 → j ≠ 30 → D2 60 100 j = D 60 100 j := by
    intro j h1 h2
    rw [hD]
    simp [up3, h1, h2]
  have en : D2 60 100 30 = D 60 100 30 + 1 := by rw [hD, up3_s]
  have e61 : D2 61 = D 61 := by
    rw [hD]
    funext i j
    simp [up3]
  clear hD
  have hlu := log_us hM hL
  obtain ⟨⟨c3, c4, c5, c6, c7, c8⟩, sU, sP, sT, sJ, sl, sE, sC, sB⟩ := hS
  obtain ⟨hO, hG, hX⟩ := hM
  obtain ⟨oU, oP, oJ, oTc, oY, o8, o9, o10, o11, o12, o13, o14, o15, oX, oQ, oB, oK, oS, oJk, oM, oCo, oSh, oLg, oPo, oLl, oL2, oL3, oL4, oLle, oE1, oE2, oE3, oE4⟩ := hO
  obtain ⟨l1, l2, l3, l4, l5, l6, l7⟩ := hL
  have kk_ : ∀ kk : Nat, kk ≠ 11 → kk ≠ 0 → (adO C 11 (C 0 0 5) (joF (C 0 0 5) u c w q cb db) 5) kk = C kk := fun kk h1 h2 => adO_k h1 h2
  have k0 : ∀ f : Nat, f ≠ 5 → (adO C 11 (C 0 0 5) (joF (C 0 0 5) u c w q cb db) 5) 0 0 f = C 0 0 f := fun f h => adO_0 (by decide) h
  have hpg : ∀ u n : Nat, n ≤ D 60 100 31 → pgU D2 u n = pgU D u n := by
    intro u n
    induction n with
    | zero => intro _; rfl
    | succ n ih =>
      intro hm
      have h1 := l1 n (by omega)
      show pgU D2 u n + (if D2 60 16 (D2 60 21 n) = u then D2 60 23 n else 0) = pgU D u n + _
      rw [ih (by omega), e_ 21 (by decide) (by decide) (by decide) (by decide) (by decide) (by decide) (by decide) (by decide), e_ 23 (by decide) (by decide) (by decide) (by decide) (by decide) (by decide) (by decide) (by decide), e16, if_neg (show ¬ D 60 21 n = D 60 100 30 by omega)]
  have hpj : ∀ u n : Nat, pgJ D2 u n = pgJ D u n := by
    intro u n
    induction n with
    | zero => rfl
    | succ n ih =>
      show pgJ D2 u n + (if D2 60 21 n = u then D2 60 23 n else 0) = pgJ D u n + _
      rw [ih, e_ 21 (by decide) (by decide) (by decide) (by decide) (by decide) (by decide) (by decide) (by decide), e_ 23 (by decide) (by decide) (by decide) (by decide) (by decide) (by decide) (by decide) (by decide)]
  have z5 := l5 _ (Nat.le_refl (D 60 100 30))
  refine ⟨⟨⟨?_, ?_, ?_, ?_, ?_, ?_⟩, fun u hu => ?_, fun p hp => ?_, fun p t hp ht => ?_, fun k hk => ?_, ?_, fun e he => ?_, fun u hu => ?_, ?_⟩, ⟨?_, ?_, ?_⟩, ?_⟩
  · rw [k0 3 (by decide), e2 28 (by decide) (by decide), c3]
  · rw [k0 4 (by decide), e2 29 (by decide) (by decide), c4]
  · rw [adO_0s (by decide), en, c5]
  · rw [k0 6 (by decide), e2 32 (by decide) (by decide), c6]
  · rw [k0 7 (by decide), e2 33 (by decide) (by decide), c7]
  · rw [k0 8 (by decide), e2 34 (by decide) (by decide), c8]
  · rw [e2 28 (by decide) (by decide)] at hu
    rw [kk_ 10 (by decide) (by decide), e_ 0 (by decide) (by decide) (by decide) (by decide) (by decide) (by decide) (by decide) (by decide), e_ 1 (by decide) (by decide) (by decide) (by decide) (by decide) (by decide) (by decide) (by decide), e_ 7 (by decide) (by decide) (by decide) (by decide) (by decide) (by decide) (by decide) (by decide)]
    exact sU u hu
  · rw [e2 29 (by decide) (by decide)] at hp
    rw [kk_ 9 (by decide) (by decide), e_ 11 (by decide) (by decide) (by decide) (by decide) (by decide) (by decide) (by decide) (by decide), e_ 4 (by decide) (by decide) (by decide) (by decide) (by decide) (by decide) (by decide) (by decide), e_ 5 (by decide) (by decide) (by decide) (by decide) (by decide) (by decide) (by decide) (by decide), e_ 6 (by decide) (by decide) (by decide) (by decide) (by decide) (by decide) (by decide) (by decide), e_ 2 (by decide) (by decide) (by decide) (by decide) (by decide) (by decide) (by decide) (by decide)]
    exact sP p hp
  · rw [e2 29 (by decide) (by decide)] at hp
    rw [e_ 2 (by decide) (by decide) (by decide) (by decide) (by decide) (by decide) (by decide) (by decide)] at ht
    rw [kk_ 12 (by decide) (by decide), e_ 8 (by decide) (by decide) (by decide) (by decide) (by decide) (by decide) (by decide) (by decide), e_ 3 (by decide) (by decide) (by decide) (by decide) (by decide) (by decide) (by decide) (by decide)]
    exact sT p t hp ht
  · rw [en] at hk
    rw [c5, e16, e17, e18, e9, e12, e13, e10, e_ 14 (by decide) (by decide) (by decide) (by decide) (by decide) (by decide) (by decide) (by decide), e_ 15 (by decide) (by decide) (by decide) (by decide) (by decide) (by decide) (by decide) (by decide), e_ 19 (by decide) (by decide) (by decide) (by decide) (by decide) (by decide) (by decide) (by decide), e_ 20 (by decide) (by decide) (by decide) (by decide) (by decide) (by decide) (by decide) (by decide)]
    by_cases h : k = D 60 100 30
    · subst h
      rw [adO_s]
      simp only [if_true]
      rw [z5.1, z5.2.1, z5.2.2.1, z5.2.2.2, (ptp_0 _ _).1, (ptp_0 _ _).2]
      exact ⟨rfl, rfl, rfl, rfl, rfl, rfl, rfl, rfl, rfl, rfl, rfl, rfl, rfl, rfl⟩
    · rw [adO_i h (by decide)]
      simp only [if_neg h]
      exact sJ k (by omega)
  · rw [kk_ 4 (by decide) (by decide), kk_ 7 (by decide) (by decide), e2 31 (by decide) (by decide)]
    exact sl
  · rw [e2 31 (by decide) (by decide)] at he
    have h1 := l1 e he
    rw [kk_ 13 (by decide) (by decide), e_ 21 (by decide) (by decide) (by decide) (by decide) (by decide) (by decide) (by decide) (by decide), e16, e_ 22 (by decide) (by decide) (by decide) (by decide) (by decide) (by decide) (by decide) (by decide), e_ 23 (by decide) (by decide) (by decide) (by decide) (by decide) (by decide) (by decide) (by decide), e_ 24 (by decide) (by decide) (by decide) (by decide) (by decide) (by decide) (by decide) (by decide), if_neg (show ¬ D 60 21 e = D 60 100 30 by omega)]
    exact sE e he
  · rw [e2 28 (by decide) (by decide)] at hu
    rw [csU_13 (kk_ 13 (by decide) (by decide)), e2 31 (by decide) (by decide), e_ 7 (by decide) (by decide) (by decide) (by decide) (by decide) (by decide) (by decide) (by decide)]
    exact sC u hu
  · rw [kk_ 5 (by decide) (by decide), kk_ 8 (by decide) (by decide), e61, e_ 27 (by decide) (by decide) (by decide) (by decide) (by decide) (by decide) (by decide) (by decide)]
    exact sB
  · unfold OkR
    rw [e2 28 (by decide) (by decide), en, e2 29 (by decide) (by decide), e2 31 (by decide) (by decide), e2 32 (by decide) (by decide), e2 33 (by decide) (by decide), e2 34 (by decide) (by decide), e61]
    rw [e_ 2 (by decide) (by decide) (by decide) (by decide) (by decide) (by decide) (by decide) (by decide), e_ 3 (by decide) (by decide) (by decide) (by decide) (by decide) (by decide) (by decide) (by decide), e_ 8 (by decide) (by decide) (by decide) (by decide) (by decide) (by decide) (by decide) (by decide), e_ 11 (by decide) (by decide) (by decide) (by decide) (by decide) (by decide) (by decide) (by decide), e_ 14 (by decide) (by decide) (by decide) (by decide) (by decide) (by decide) (by decide) (by decide), e_ 15 (by decide) (by decide) (by decide) (by decide) (by decide) (by decide) (by decide) (by decide), e_ 25 (by decide) (by decide) (by decide) (by decide) (by decide) (by decide) (by decide) (by decide), e_ 0 (by decide) (by decide) (by decide) (by decide) (by decide) (by decide) (by decide) (by decide), e_ 4 (by decide) (by decide) (by decide) (by decide) (by decide) (by decide) (by decide) (by decide), e_ 5 (by decide) (by decide) (by decide) (by decide) (by decide) (by decide) (by decide) (by decide), e_ 6 (by decide) (by decide) (by decide) (by decide) (by decide) (by decide) (by decide) (by decide), e_ 19 (by decide) (by decide) (by decide) (by decide) (by decide) (by decide) (by decide) (by decide), e_ 20 (by decide) (by decide) (by decide) (by decide) (by decide) (by decide) (by decide) (by decide), e_ 1 (by decide) (by decide) (by decide) (by decide) (by decide) (by decide) (by decide) (by decide), e_ 21 (by decide) (by decide) (by decide) (by decide) (by decide) (by decide) (by decide) (by decide), e_ 22 (by decide) (by decide) (by decide) (by decide) (by decide) (by decide) (by decide) (by decide), e_ 23 (by decide) (by decide) (by decide) (by decide) (by decide) (by decide) (by decide) (by decide), e_ 24 (by decide) (by decide) (by decide) (by decide) (by decide) (by decide) (by decide) (by decide)]
    refine ⟨oU, oP, by omega, oTc, oY, o8, fun i => ?_, fun i => ?_, o11, fun i => ?_, fun i => ?_, o14, o15, oX, oQ, oB, oK, oS, fun k hk => ?_, oM, oCo, oSh, oLg, oPo, oLl, oL2, oL3, oL4, oLle, oE1, oE2, oE3, oE4⟩
    · have := o9 i
      rw [e9]
      split <;> omega
    · have := o10 i
      rw [e10]
      split <;> omega
    · have := o12 i
      rw [e12]
      split <;> omega
    · have := o13 i
      rw [e13]
      split <;> omega
    · rw [e16, e17, e18, e13]
      by_cases h : k = D 60 100 30
      · rw [if_pos h, if_pos h, if_pos h, if_pos h, h, z5.1, z5.2.1]
        exact ⟨hu0, hc1, hc2, hw1, hw2, Nat.zero_le _, Nat.zero_le _⟩
      · rw [if_neg h, if_neg h, if_neg h, if_neg h]
        exact oJk k (by omega)
  · unfold LgOk
    rw [e61, e2 31 (by decide) (by decide)]
    exact hG
  · refine ⟨fun i => ?_, fun k hk => ?_⟩
    · rw [e_ 1 (by decide) (by decide) (by decide) (by decide) (by decide) (by decide) (by decide) (by decide), e2 31 (by decide) (by decide)]
      exact hX.1 i
    · rw [en] at hk
      rw [e_ 19 (by decide) (by decide) (by decide) (by decide) (by decide) (by decide) (by decide) (by decide), e_ 20 (by decide) (by decide) (by decide) (by decide) (by decide) (by decide) (by decide) (by decide)]
      by_cases h : k = D 60 100 30
      · rw [h, z5.1, z5.2.1]
        exact Nat.le_refl _
      · exact hX.2 k (by omega)
  · refine ⟨fun e he => ?_, fun u => ?_, fun k hk => ?_, fun u hu => ?_, fun k hk => ?_, fun p hp => ?_, fun u => ?_⟩
    · rw [e2 31 (by decide) (by decide)] at he
      have h1 := l1 e he
      rw [e_ 21 (by decide) (by decide) (by decide) (by decide) (by decide) (by decide) (by decide) (by decide), en]
      omega
    · rw [e2 31 (by decide) (by decide), hpg _ _ (Nat.le_refl _), e_ 1 (by decide) (by decide) (by decide) (by decide) (by decide) (by decide) (by decide) (by decide)]
      exact l2 u
    · rw [en] at hk
      rw [hpj, e2 31 (by decide) (by decide), e13, e17, e_ 19 (by decide) (by decide) (by decide) (by decide) (by decide) (by decide) (by decide) (by decide)]
      by_cases h : k = D 60 100 30
      · rw [if_pos h, if_pos h, h, z5.1, (ptp_0 _ _).1]
        exact pgJ_z _ (fun e he => Nat.ne_of_lt (l1 e he))
      · rw [if_neg h, if_neg h]
        exact l3 k (by omega)
    · rw [e2 28 (by decide) (by decide)] at hu
      rw [e_ 7 (by decide) (by decide) (by decide) (by decide) (by decide) (by decide) (by decide) (by decide)]
      exact l4 u hu
    · rw [en] at hk
      rw [e_ 19 (by decide) (by decide) (by decide) (by decide) (by decide) (by decide) (by decide) (by decide), e_ 20 (by decide) (by decide) (by decide) (by decide) (by decide) (by decide) (by decide) (by decide), e_ 14 (by decide) (by decide) (by decide) (by decide) (by decide) (by decide) (by decide) (by decide), e_ 15 (by decide) (by decide) (by decide) (by decide) (by decide) (by decide) (by decide) (by decide)]
      exact l5 k (by omega)
    · rw [e2 29 (by decide) (by decide)] at hp
      rw [e_ 2 (by decide) (by decide) (by decide) (by decide) (by decide) (by decide) (by decide) (by decide)]
      exact l6 p hp
    · rw [e_ 7 (by decide) (by decide) (by decide) (by decide) (by decide) (by decide) (by decide) (by decide), e2 31 (by decide) (by decide)]
      exact l7 u
end KEEPJ
