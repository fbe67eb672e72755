section KEEP
theorem pgU_z {D : CF} {u : Nat} : ∀ m : Nat, (∀ e : Nat, e < m → D 60 16 (D 60 21 e) ≠ u) → pgU D u m = 0
  | 0, _ => rfl
  | m + 1, h => by
    show pgU D u m + (if D 60 16 (D 60 21 m) = u then D 60 23 m else 0) = 0
    rw [pgU_z m (fun e he => h e (by omega)), if_neg (h m (Nat.lt_succ_self m))]
theorem csU_z {C : CF} {u : Nat} : ∀ m : Nat, (∀ e : Nat, e < m → C 13 e 1 ≠ u) → csU C u m = 0
  | 0, _ => rfl
  | m + 1, h => by
    show csU C u m + (if C 13 m 1 = u then C 13 m 5 else 0) = 0
    rw [csU_z m (fun e he => h e (by omega)), if_neg (h m (Nat.lt_succ_self m))]
/-- whose entries the log has -/
theorem log_us {D : CF} (hM : OkM D) (hL : OkL D) : ∀ e : Nat, e < D 60 100 31 → D 60 16 (D 60 21 e) < D 60 100 28 := by
  intro e he
  obtain ⟨oU, oP, oJ, oTc, oY, o8, o9, o10, o11, o12, o13, o14, o15, oX, oQ, oB, oK, oS, oJk, -⟩ := hM.1
  exact (oJk _ (hL.1 e he)).1
theorem keep_addUser {D D2 C : CF} (hS : Sm D C) (hM : OkM D) (hL : OkL D) {a b t : Nat} (ha : a ≤ 999) (hb : b ≤ 999) (hn : D 60 100 28 < 6) (hD : D2 = up3 (up3 (up3 (up3 D 60 100 27 t) 60 0 (2 * D 60 100 28) a) 60 0 (2 * D 60 100 28 + 1) b) 60 100 28 (D 60 100 28 + 1)) : Sm D2 (adO C 10 (C 0 0 3) (usF a b) 3) ∧ OkM D2 ∧ OkL D2 := by
  have e0 : ∀ j : Nat, D2 60 0 j = if j = 2 * D 60 100 28 + 1 then b else if j = 2 * D 60 100 28 then a else D 60 0 j := by
    intro j
    rw [hD, up3_i (by decide)]
    by_cases h1 : j = 2 * D 60 100 28 + 1
    · rw [if_pos h1, h1, up3_s]
    · rw [if_neg h1, up3_f h1]
      by_cases h2 : j = 2 * D 60 100 28
      · rw [if_pos h2, h2, up3_s]
      · rw [if_neg h2, up3_f h2, up3_i (by decide)]
  have e1 : ∀ i : Nat, i ≠ 0 → i ≠ 100 → D2 60 i = D 60 i := by
    intro i h1 h2
    rw [hD, up3_i h2, up3_i h1, up3_i h1, up3_i h2]
  have e2 : ∀ j : Nat, j ≠ 27 → j ≠ 28 → D2 60 100 j = D 60 100 j := by
    intro j h1 h2
    rw [hD, up3_f h2, up3_i (by decide), up3_i (by decide), up3_f h1]
  have e28 : D2 60 100 28 = D 60 100 28 + 1 := by rw [hD, up3_s]
  have e61 : D2 61 = D 61 := by rw [hD, up3_k (by decide), up3_k (by decide), up3_k (by decide), up3_k (by decide)]
  clear hD
  have hlu := log_us hM hL
  obtain ⟨⟨c3, c4, c5, c6, c7, c8⟩, sU, sP, sT, sJ, sl, sE, sC, sB⟩ := hS
  obtain ⟨hO, hG, hX⟩ := hM
  obtain ⟨oU, oP, oJ, oTc, oY, o8, o9, o10, o11, o12, o13, o14, o15, oX, oQ, oB, oK, oS, oJk, oM, oCo, oSh, oLg, oPo, oLl, oL2, oL3, oL4, oLle, oE1, oE2, oE3, oE4⟩ := hO
  obtain ⟨l1, l2, l3, l4, l5, l6, l7⟩ := hL
  have k10 : ∀ kk : Nat, kk ≠ 10 → kk ≠ 0 → adO C 10 (C 0 0 3) (usF a b) 3 kk = C kk := fun kk h1 h2 => adO_k h1 h2
  have k0 : ∀ f : Nat, f ≠ 3 → adO C 10 (C 0 0 3) (usF a b) 3 0 0 f = C 0 0 f := fun f h => adO_0 (by decide) h
  have hpg : ∀ u n : Nat, pgU D2 u n = pgU D u n := by
    intro u n
    induction n with
    | zero => rfl
    | succ n ih =>
      show pgU D2 u n + (if D2 60 16 (D2 60 21 n) = u then D2 60 23 n else 0) = pgU D u n + _
      rw [ih, e1 16 (by decide) (by decide), e1 21 (by decide) (by decide), e1 23 (by decide) (by decide)]
  have hpj : ∀ u n : Nat, pgJ D2 u n = pgJ D u n := by
    intro u n
    induction n with
    | zero => rfl
    | succ n ih =>
      show pgJ D2 u n + (if D2 60 21 n = u then D2 60 23 n else 0) = pgJ D u n + _
      rw [ih, e1 21 (by decide) (by decide), e1 23 (by decide) (by decide)]
  have z1 : D 60 1 (D 60 100 28) = 0 := by
    rw [← l2, pgU_z _ (fun e he => Nat.ne_of_lt (hlu e he))]
  refine ⟨⟨⟨?_, ?_, ?_, ?_, ?_, ?_⟩, fun u hu => ?_, fun p hp => ?_, fun p t hp ht => ?_, fun k hk => ?_, ?_, fun e he => ?_, fun u hu => ?_, ?_⟩, ⟨?_, ?_, ?_⟩, ?_⟩
  · rw [adO_0s (by decide), e28, c3]
  · rw [k0 4 (by decide), e2 29 (by decide) (by decide), c4]
  · rw [k0 5 (by decide), e2 30 (by decide) (by decide), c5]
  · rw [k0 6 (by decide), e2 32 (by decide) (by decide), c6]
  · rw [k0 7 (by decide), e2 33 (by decide) (by decide), c7]
  · rw [k0 8 (by decide), e2 34 (by decide) (by decide), c8]
  · rw [e28] at hu
    rw [e0, e0, e1 1 (by decide) (by decide), e1 7 (by decide) (by decide), c3]
    by_cases h : u = D 60 100 28
    · subst h
      rw [adO_s, if_neg (by omega), if_pos rfl, if_pos rfl, z1, l4 _ (Nat.le_refl _)]
      exact ⟨rfl, rfl, rfl, rfl⟩
    · rw [adO_i h (by decide), if_neg (by omega), if_neg (by omega), if_neg (by omega), if_neg (by omega)]
      exact sU u (by omega)
  · rw [e2 29 (by decide) (by decide)] at hp
    rw [k10 9 (by decide) (by decide), e1 11 (by decide) (by decide), e1 4 (by decide) (by decide), e1 5 (by decide) (by decide), e1 6 (by decide) (by decide), e1 2 (by decide) (by decide)]
    exact sP p hp
  · rw [e2 29 (by decide) (by decide)] at hp
    rw [e1 2 (by decide) (by decide)] at ht
    rw [k10 12 (by decide) (by decide), e1 8 (by decide) (by decide), e1 3 (by decide) (by decide)]
    exact sT p t hp ht
  · rw [e2 30 (by decide) (by decide)] at hk
    rw [k10 11 (by decide) (by decide), e1 16 (by decide) (by decide), e1 17 (by decide) (by decide), e1 18 (by decide) (by decide), e1 9 (by decide) (by decide), e1 12 (by decide) (by decide), e1 13 (by decide) (by decide), e1 14 (by decide) (by decide), e1 15 (by decide) (by decide), e1 19 (by decide) (by decide), e1 20 (by decide) (by decide), e1 10 (by decide) (by decide)]
    exact sJ k hk
  · rw [k10 4 (by decide) (by decide), k10 7 (by decide) (by decide), e2 31 (by decide) (by decide)]
    exact sl
  · rw [e2 31 (by decide) (by decide)] at he
    rw [k10 13 (by decide) (by decide), e1 21 (by decide) (by decide), e1 16 (by decide) (by decide), e1 22 (by decide) (by decide), e1 23 (by decide) (by decide), e1 24 (by decide) (by decide)]
    exact sE e he
  · rw [e28] at hu
    rw [csU_13 (k10 13 (by decide) (by decide)), e2 31 (by decide) (by decide), e1 7 (by decide) (by decide)]
    by_cases h : u = D 60 100 28
    · rw [h, l4 _ (Nat.le_refl _)]
      exact csU_z _ (fun e he => by rw [(sE e he).2.1]; exact Nat.ne_of_lt (hlu e he))
    · exact sC u (by omega)
  · rw [k10 5 (by decide) (by decide), k10 8 (by decide) (by decide), e61, e1 27 (by decide) (by decide)]
    exact sB
  · unfold OkR
    rw [e28, e2 29 (by decide) (by decide), e2 30 (by decide) (by decide), e2 31 (by decide) (by decide), e2 32 (by decide) (by decide), e2 33 (by decide) (by decide), e2 34 (by decide) (by decide), e61]
    rw [e1 2 (by decide) (by decide), e1 3 (by decide) (by decide), e1 8 (by decide) (by decide), e1 9 (by decide) (by decide), e1 10 (by decide) (by decide), e1 11 (by decide) (by decide), e1 12 (by decide) (by decide), e1 13 (by decide) (by decide), e1 14 (by decide) (by decide), e1 15 (by decide) (by decide), e1 25 (by decide) (by decide), e1 4 (by decide) (by decide), e1 5 (by decide) (by decide), e1 6 (by decide) (by decide), e1 16 (by decide) (by decide), e1 17 (by decide) (by decide), e1 18 (by decide) (by decide), e1 19 (by decide) (by decide), e1 20 (by decide) (by decide), e1 1 (by decide) (by decide), e1 21 (by decide) (by decide), e1 22 (by decide) (by decide), e1 23 (by decide) (by decide), e1 24 (by decide) (by decide)]
    refine ⟨by omega, oP, oJ, oTc, oY, o8, o9, o10, o11, o12, o13, o14, o15, oX, fun i => ?_, oB, oK, oS, fun k hk => ?_, oM, oCo, oSh, oLg, oPo, oLl, oL2, oL3, oL4, oLle, oE1, oE2, oE3, oE4⟩
    · have := oQ i
      rw [e0]
      split
      · omega
      · split <;> omega
    · obtain ⟨b1, b2⟩ := oJk k hk
      exact ⟨by omega, b2⟩
  · unfold LgOk
    rw [e61, e2 31 (by decide) (by decide)]
    exact hG
  · unfold OkX
    rw [e1 1 (by decide) (by decide), e1 19 (by decide) (by decide), e1 20 (by decide) (by decide), e2 31 (by decide) (by decide), e2 30 (by decide) (by decide)]
    exact hX
  · refine ⟨fun e he => ?_, fun u => ?_, fun k hk => ?_, fun u hu => ?_, fun k hk => ?_, fun p hp => ?_, fun u => ?_⟩
    · rw [e2 31 (by decide) (by decide)] at he
      rw [e1 21 (by decide) (by decide), e2 30 (by decide) (by decide)]
      exact l1 e he
    · rw [hpg, e2 31 (by decide) (by decide), e1 1 (by decide) (by decide)]
      exact l2 u
    · rw [e2 30 (by decide) (by decide)] at hk
      rw [hpj, e2 31 (by decide) (by decide), e1 13 (by decide) (by decide), e1 17 (by decide) (by decide), e1 19 (by decide) (by decide)]
      exact l3 k hk
    · rw [e28] at hu
      rw [e1 7 (by decide) (by decide)]
      exact l4 u (by omega)
    · rw [e2 30 (by decide) (by decide)] at hk
      rw [e1 19 (by decide) (by decide), e1 20 (by decide) (by decide), e1 14 (by decide) (by decide), e1 15 (by decide) (by decide)]
      exact l5 k hk
    · rw [e2 29 (by decide) (by decide)] at hp
      rw [e1 2 (by decide) (by decide)]
      exact l6 p hp
    · rw [e1 7 (by decide) (by decide), e2 31 (by decide) (by decide)]
      exact l7 u
end KEEP
