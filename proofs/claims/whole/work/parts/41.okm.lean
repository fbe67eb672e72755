section OKM
/-- what holds besides: pages go out by entries; no copy is stapled that isn't out -/
def OkX (C : CF) : Prop := (∀ i : Nat, C 60 1 i ≤ 900 * C 60 100 31) ∧ ∀ k : Nat, k < C 60 100 30 → C 60 20 k ≤ C 60 19 k
def OkM (C : CF) : Prop := OkR C ∧ LgOk C ∧ OkX C
theorem bnd_n {ts m f e st : Nat} (h : f ≤ e) : bndN ts m f e st ≤ e - f := by
  unfold bndN
  split
  · omega
  · rename_i hh
    have hm : 2 ≤ m := by omega
    have h1 : e / m - (f + m - 1) / m ≤ e - f := by
      have e1 := Nat.div_add_mod e m
      have e2 := Nat.div_add_mod (f + m - 1) m
      have e3 := Nat.mod_lt (f + m - 1) (show 0 < m by omega)
      generalize e / m = a at *
      generalize (f + m - 1) / m = b at *
      rcases Nat.lt_or_ge b a with z | z
      rotate_left
      · omega
      · obtain ⟨d, rfl⟩ : ∃ d, a = b + d := ⟨a - b, by omega⟩
        rw [Nat.mul_add] at e1
        have h4 : d ≤ m * d := Nat.le_mul_of_pos_left d (by omega)
        omega
    omega
theorem Sc.okx {C C2 : CF} (h : Sc C C2) (hX : OkX C) : OkX C2 := by
  obtain ⟨x0, x1, x2, b, c, q, rfl, -⟩ := h
  exact hX
theorem OkM.sc {C C2 : CF} (h : OkM C) (hs : Sc C C2) : OkM C2 := ⟨h.1.sc hs, h.2.1.sc hs, hs.okx h.2.2⟩
theorem wb_le {C : CF} {k p n : Nat} : wbN C k p n ≤ n ∧ wbN C k p n ≤ C 60 6 p := by
  unfold wbN
  have h1 := bnd_n (ts := C 60 14 k) (m := csN (C 60 13 k) (C 60 17 k)) (st := C 60 6 p) (show C 60 19 k ≤ C 60 19 k + n by omega)
  refine ⟨by omega, ?_⟩
  unfold bndN
  split <;> omega
theorem rlB_ok {C : CF} {k p n : Nat} (hM : OkM C) (hk : k < C 60 100 30) (hp : p < C 60 100 29) (hF : FR C k p n) (hlg : C 60 100 31 + 1 ≤ 40000) : OkR (rlB C k p n) ∧ (∀ i : Nat, rlB C k p n 60 1 i ≤ 900 * (C 60 100 31 + 1)) ∧ ∀ k' : Nat, k' < C 60 100 30 → rlB C k p n 60 20 k' ≤ rlB C k p n 60 19 k' := by
  obtain ⟨hO, hG, hX1, hX2⟩ := hM
  have hR := hO.rk hk hp
  have hpt := PT_le hR hF.1.2.2.2.2
  have hnl := hF.1.2.2.2.2
  have hw := wb_le (C := C) (k := k) (p := p) (n := n)
  have hco := co_le C k p n
  have hOT := hO.sc (TrS_Sc (C := C) (k := k) (p := p) (n := n) hO.2.2.2.2.1)
  obtain ⟨oU, oP, oJ, oTc, oY, o8, o9, o10, o11, o12, o13, o14, o15, oX, oQ, oB, oK, oS, oJk, oM, oCo, oSh, oLg, oPo, oLl, oL2, oL3, oL4, oLle, oE1, oE2, oE3, oE4⟩ := hO
  have hx := hOT.2.2.2.2.2.2.2.2.2.2.2.2.2.1
  have h20 : ∀ k' : Nat, k' < C 60 100 30 → rlB C k p n 60 20 k' ≤ rlB C k p n 60 19 k' := by
    intro k' hk'
    have h1 := hX2 k' hk'
    have h2 := hX2 k hk
    show (if 60 = 60 ∧ 20 = 20 ∧ k' = k then C 60 20 k + wbN C k p n else C 60 20 k') ≤ (if 60 = 60 ∧ 19 = 19 ∧ k' = k then C 60 19 k + n else C 60 19 k')
    by_cases e : k' = k
    · simp [e]; omega
    · simp [e]; omega
  have h1p : ∀ i : Nat, rlB C k p n 60 1 i ≤ 900 * (C 60 100 31 + 1) := by
    intro i
    have h1 := hX1 i
    have h2 := hX1 (C 60 16 k)
    show (if 60 = 60 ∧ 1 = 1 ∧ i = C 60 16 k then C 60 1 (C 60 16 k) + PT C k n else C 60 1 i) ≤ _
    by_cases e : i = C 60 16 k
    · simp only [e, and_self, if_true]; omega
    · simp only [e, and_false, if_false]; omega
  refine ⟨⟨oU, oP, oJ, oTc, fun t => ?_, o8, o9, fun t => ?_, o11, o12, o13, o14, o15, hx, fun t => ?_, fun t => ?_, fun t => ?_, fun t => ?_, fun k' hk' => ?_, oM, oCo, oSh, oLg, fun i => ?_, oLl, oL2, oL3, oL4, oLle, oE1, oE2, oE3, oE4⟩, h1p, h20⟩
  · show (if 60 = 60 ∧ 3 = 3 ∧ t = 3 * p + 2 then C 60 3 (3 * p + 2) - dT C k p n 2 else if 60 = 60 ∧ 3 = 3 ∧ t = 3 * p + 1 then C 60 3 (3 * p + 1) - dT C k p n 1 else if 60 = 60 ∧ 3 = 3 ∧ t = 3 * p + 0 then C 60 3 (3 * p + 0) - dT C k p n 0 else C 60 3 t) ≤ 500
    have h0 := oY (3 * p + 0)
    have h1 := oY (3 * p + 1)
    have h2 := oY (3 * p + 2)
    have h3 := oY t
    repeat' split
    all_goals omega
  · show (if 60 = 60 ∧ 10 = 10 ∧ t = k then coR C k p n else C 60 10 t) < 65536
    have h3 := o10 t
    repeat' split
    all_goals omega
  · show (if 60 = 60 ∧ 0 = 0 ∧ t = (2 * C 60 16 k + if C 60 12 k = 0 then 0 else 1) then C 60 0 (qiC C k) - PT C k n else C 60 0 t) ≤ 9999
    have h3 := oQ t
    have h4 := oQ (qiC C k)
    by_cases e : t = (2 * C 60 16 k + if C 60 12 k = 0 then 0 else 1)
    · simp only [e, and_self, if_true]; omega
    · simp only [e, and_false, if_false]; omega
  · show (if 60 = 60 ∧ 4 = 4 ∧ t = p then C 60 4 p - bkN (C 60 12 k) (PT C k n) else C 60 4 t) ≤ 1000
    have h3 := oB t
    have h4 := oB p
    repeat' split
    all_goals omega
  · show (if 60 = 60 ∧ 5 = 5 ∧ t = p then C 60 5 p - ckN (C 60 12 k) (PT C k n) else C 60 5 t) ≤ 1000
    have h3 := oK t
    have h4 := oK p
    repeat' split
    all_goals omega
  · show (if 60 = 60 ∧ 6 = 6 ∧ t = p then C 60 6 p - wbN C k p n else C 60 6 t) ≤ 100
    have h3 := oS t
    have h4 := oS p
    repeat' split
    all_goals omega
  · obtain ⟨b1, b2, b3, b4, b5, b6, b7⟩ := oJk k' hk'
    have b8 := h20 k' hk'
    have b9 : rlB C k p n 60 19 k' ≤ csN (C 60 13 k') (C 60 17 k') * C 60 18 k' := by
      show (if 60 = 60 ∧ 19 = 19 ∧ k' = k then C 60 19 k + n else C 60 19 k') ≤ _
      by_cases e : k' = k
      · simp [e]; omega
      · simp [e]; omega
    have e1 := csN_le (d := C 60 13 k') b2
    have e2 : csN (C 60 13 k') (C 60 17 k') * C 60 18 k' ≤ 100 * 9 := Nat.mul_le_mul (by omega) b5
    exact ⟨b1, b2, b3, b4, b5, b9, by omega⟩
  · have := h1p i
    show rlB C k p n 60 1 i ≤ 36000000
    omega
theorem noC_ok {C : CF} {k p a b : Nat} (hO : OkR C) (hG : LgOk C) (h1 : ∀ i : Nat, C 60 1 i ≤ 900 * (C 60 100 31 + 1)) (h20 : ∀ k : Nat, k < C 60 100 30 → C 60 20 k ≤ C 60 19 k) (hlg : C 60 100 31 + 1 ≤ 40000) (hk : k < 40) (hp : p < 4) (ha : a ≤ 900) (hb : b ≤ 900) : OkM (noC C k p a b) ∧ noC C k p a b 60 100 31 = C 60 100 31 + 1 := by
  have hg := gwN_ok hG
  have hgw : gwN C = grw (grw (grw (grw C 21) 22) 23) 24 ∨ gwN C = C := by
    unfold gwN
    split
    · exact Or.inl rfl
    · exact Or.inr rfl
  obtain ⟨oU, oP, oJ, oTc, oY, o8, o9, o10, o11, o12, o13, o14, o15, oX, oQ, oB, oK, oS, oJk, oM, oCo, oSh, oLg, oPo, oLl, oL2, oL3, oL4, oLle, oE1, oE2, oE3, oE4⟩ := hO
  have e1 : ∀ e : Nat, gwN C 60 21 e < 40 ∧ gwN C 60 22 e < 4 ∧ gwN C 60 23 e ≤ 900 ∧ gwN C 60 24 e ≤ 900 := by
    intro e
    have q1 := oE1 e
    have q2 := oE2 e
    have q3 := oE3 e
    have q4 := oE4 e
    rcases hgw with h | h
    · rw [h]
      show lgr (C 61 21 0) (C 60 21) e < 40 ∧ lgr (C 61 22 0) (C 60 22) e < 4 ∧ lgr (C 61 23 0) (C 60 23) e ≤ 900 ∧ lgr (C 61 24 0) (C 60 24) e ≤ 900
      unfold lgr
      refine ⟨?_, ?_, ?_, ?_⟩ <;> split <;> omega
    · rw [h]
      exact ⟨q1, q2, q3, q4⟩
  have e0 : ∀ (i j : Nat), i ≠ 21 → i ≠ 22 → i ≠ 23 → i ≠ 24 → gwN C 60 i j = C 60 i j := by
    intro i j z1 z2 z3 z4
    rcases hgw with h | h
    · rw [h, grw_60 z4, grw_60 z3, grw_60 z2, grw_60 z1]
    · rw [h]
  have hn : ∀ (i j : Nat), i ≠ 21 → i ≠ 22 → i ≠ 23 → i ≠ 24 → i ≠ 100 → noC C k p a b 60 i j = C 60 i j := by
    intro i j z1 z2 z3 z4 z5
    unfold noC
    rw [up3_i z5, up3_i z4, up3_i z3, up3_i z2, up3_i z1, e0 i j z1 z2 z3 z4]
  have hn1 : ∀ j : Nat, j ≠ 31 → noC C k p a b 60 100 j = C 60 100 j := by
    intro j z
    unfold noC
    rw [up3_f z, up3_i (by decide), up3_i (by decide), up3_i (by decide), up3_i (by decide), e0 100 j (by decide) (by decide) (by decide) (by decide)]
  have hl : noC C k p a b 60 100 31 = C 60 100 31 + 1 := by
    show gwN C 60 100 31 + 1 = _
    rw [hg.1]
  have h6 : ∀ i : Nat, noC C k p a b 61 i 0 = gwN C 61 i 0 := fun i => rfl
  have f1 : ∀ e : Nat, noC C k p a b 60 21 e < 40 ∧ noC C k p a b 60 22 e < 4 ∧ noC C k p a b 60 23 e ≤ 900 ∧ noC C k p a b 60 24 e ≤ 900 := by
    intro e
    obtain ⟨q1, q2, q3, q4⟩ := e1 e
    show (if 60 = 60 ∧ 21 = 21 ∧ e = gwN C 60 100 31 then k else gwN C 60 21 e) < 40 ∧ (if 60 = 60 ∧ 22 = 22 ∧ e = gwN C 60 100 31 then p else gwN C 60 22 e) < 4 ∧ (if 60 = 60 ∧ 23 = 23 ∧ e = gwN C 60 100 31 then a else gwN C 60 23 e) ≤ 900 ∧ (if 60 = 60 ∧ 24 = 24 ∧ e = gwN C 60 100 31 then b else gwN C 60 24 e) ≤ 900
    refine ⟨?_, ?_, ?_, ?_⟩ <;> split <;> omega
  refine ⟨⟨?_, ?_, ?_⟩, hl⟩
  · unfold OkR
    simp only [hn 0 _ (by decide) (by decide) (by decide) (by decide) (by decide), hn 1 _ (by decide) (by decide) (by decide) (by decide) (by decide), hn 2 _ (by decide) (by decide) (by decide) (by decide) (by decide), hn 3 _ (by decide) (by decide) (by decide) (by decide) (by decide), hn 4 _ (by decide) (by decide) (by decide) (by decide) (by decide), hn 5 _ (by decide) (by decide) (by decide) (by decide) (by decide), hn 6 _ (by decide) (by decide) (by decide) (by decide) (by decide), hn 8 _ (by decide) (by decide) (by decide) (by decide) (by decide), hn 9 _ (by decide) (by decide) (by decide) (by decide) (by decide), hn 10 _ (by decide) (by decide) (by decide) (by decide) (by decide), hn 11 _ (by decide) (by decide) (by decide) (by decide) (by decide), hn 12 _ (by decide) (by decide) (by decide) (by decide) (by decide), hn 13 _ (by decide) (by decide) (by decide) (by decide) (by decide), hn 14 _ (by decide) (by decide) (by decide) (by decide) (by decide), hn 15 _ (by decide) (by decide) (by decide) (by decide) (by decide), hn 16 _ (by decide) (by decide) (by decide) (by decide) (by decide), hn 17 _ (by decide) (by decide) (by decide) (by decide) (by decide), hn 18 _ (by decide) (by decide) (by decide) (by decide) (by decide), hn 19 _ (by decide) (by decide) (by decide) (by decide) (by decide), hn 20 _ (by decide) (by decide) (by decide) (by decide) (by decide), hn 25 _ (by decide) (by decide) (by decide) (by decide) (by decide), hn1 28 (by decide), hn1 29 (by decide), hn1 30 (by decide), hn1 32 (by decide), hn1 33 (by decide), hn1 34 (by decide), hl, h6]
    exact ⟨oU, oP, oJ, oTc, oY, o8, o9, o10, o11, o12, o13, o14, o15, oX, oQ, oB, oK, oS, oJk, oM, oCo, oSh, hlg, oPo, hg.2.2.2.2.2, hg.2.2.1, hg.2.2.2.1, hg.2.2.2.2.1, by have := hg.1; have := hg.2.1; omega, fun e => (f1 e).1, fun e => (f1 e).2.1, fun e => (f1 e).2.2.1, fun e => (f1 e).2.2.2⟩
  · unfold LgOk
    rw [hl, h6, h6, h6, h6]
    have q1 := hg.1
    have q2 := hg.2.1
    exact ⟨by omega, hg.2.2.2.2.2, hg.2.2.1, hg.2.2.2.1, hg.2.2.2.2.1, by omega, hlg⟩
  · unfold OkX
    simp only [hn 1 _ (by decide) (by decide) (by decide) (by decide) (by decide), hn 19 _ (by decide) (by decide) (by decide) (by decide) (by decide), hn 20 _ (by decide) (by decide) (by decide) (by decide) (by decide), hn1 30 (by decide), hl]
    exact ⟨h1, h20⟩
theorem OkM.rl {C : CF} {k p : Nat} (hM : OkM C) (hk : k < C 60 100 30) (hp : p < C 60 100 29) (hlg : C 60 100 31 + 1 ≤ 40000) : OkM (rlR C k p) ∧ rlR C k p 60 100 31 ≤ C 60 100 31 + 1 := by
  have hR := hM.1.rk hk hp
  obtain ⟨n, hF⟩ := FR_ex hR
  have hn := hF.eq hR
  unfold rlR
  rw [hn]
  split
  · exact ⟨hM.sc (TrS_Sc hM.1.2.2.2.2.1), Nat.le_succ _⟩
  · obtain ⟨q1, q2, q3⟩ := rlB_ok hM hk hp hF hlg
    have := noC_ok (k := k) (p := p) (a := PT C k n) (b := n) q1 (show LgOk (rlB C k p n) from hM.2.1) q2 q3 hlg (by have := hM.1.2.2.1; omega) (by have := hM.1.2.1; omega) (PT_le hR hF.1.2.2.2.2) (hF.le hR)
    exact ⟨this.1, Nat.le_of_eq this.2⟩
/-- what a release leaves alone -/
theorem rl_k {C : CF} {k p : Nat} : (∀ j : Nat, j = 28 ∨ j = 29 ∨ j = 30 ∨ j = 27 ∨ j = 32 ∨ j = 33 ∨ j = 34 → rlR C k p 60 100 j = C 60 100 j) := by
  intro j hj
  have hgw : ∀ C : CF, gwN C = grw (grw (grw (grw C 21) 22) 23) 24 ∨ gwN C = C := by
    intro C
    unfold gwN
    split
    · exact Or.inl rfl
    · exact Or.inr rfl
  unfold rlR
  split
  · rcases hj with rfl | rfl | rfl | rfl | rfl | rfl | rfl <;> rfl
  · unfold noC
    rcases hgw (rlB C k p (nR C k p)) with h | h <;> rw [h] <;> rcases hj with rfl | rfl | rfl | rfl | rfl | rfl | rfl <;> rfl
end OKM
