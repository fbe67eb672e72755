section SMRL
theorem noC_tab {C : CF} (hG : LgOk C) (k p a b : Nat) : (∀ i j : Nat, i ≠ 21 → i ≠ 22 → i ≠ 23 → i ≠ 24 → i ≠ 100 → noC C k p a b 60 i j = C 60 i j) ∧ (∀ j : Nat, j ≠ 31 → noC C k p a b 60 100 j = C 60 100 j) ∧ noC C k p a b 60 100 31 = C 60 100 31 + 1
    ∧ (∀ e : Nat, e < C 60 100 31 → noC C k p a b 60 21 e = C 60 21 e ∧ noC C k p a b 60 22 e = C 60 22 e ∧ noC C k p a b 60 23 e = C 60 23 e ∧ noC C k p a b 60 24 e = C 60 24 e)
    ∧ noC C k p a b 60 21 (C 60 100 31) = k ∧ noC C k p a b 60 22 (C 60 100 31) = p ∧ noC C k p a b 60 23 (C 60 100 31) = a ∧ noC C k p a b 60 24 (C 60 100 31) = b ∧ noC C k p a b 61 27 0 = C 61 27 0 := by
  have hg := gwN_ok hG
  have hgw : gwN C = grw (grw (grw (grw C 21) 22) 23) 24 ∨ gwN C = C := by
    unfold gwN
    split
    · exact Or.inl rfl
    · exact Or.inr rfl
  have e0 : ∀ (i j : Nat), i ≠ 21 → i ≠ 22 → i ≠ 23 → i ≠ 24 → gwN C 60 i j = C 60 i j := by
    intro i j z1 z2 z3 z4
    rcases hgw with h | h
    · rw [h, grw_60 z4, grw_60 z3, grw_60 z2, grw_60 z1]
    · rw [h]
  have e1 : ∀ e : Nat, e < C 60 100 31 → gwN C 60 21 e = C 60 21 e ∧ gwN C 60 22 e = C 60 22 e ∧ gwN C 60 23 e = C 60 23 e ∧ gwN C 60 24 e = C 60 24 e := by
    intro e he
    obtain ⟨g1, g2, g3, g4, g5, g6, g7⟩ := hG
    rcases hgw with h | h
    · rw [h]
      show lgr (C 61 21 0) (C 60 21) e = _ ∧ lgr (C 61 22 0) (C 60 22) e = _ ∧ lgr (C 61 23 0) (C 60 23) e = _ ∧ lgr (C 61 24 0) (C 60 24) e = _
      unfold lgr
      rw [if_pos (by omega), if_pos (by omega), if_pos (by omega), if_pos (by omega)]
      exact ⟨rfl, rfl, rfl, rfl⟩
    · rw [h]
      exact ⟨rfl, rfl, rfl, rfl⟩
  have e6 : gwN C 61 27 0 = C 61 27 0 := by
    rcases hgw with h | h
    · rw [h]
      rfl
    · rw [h]
  have hl := hg.1
  refine ⟨fun i j z1 z2 z3 z4 z5 => ?_, fun j z => ?_, ?_, fun e he => ?_, ?_, ?_, ?_, ?_, e6⟩
  · unfold noC
    rw [up3_i z5, up3_i z4, up3_i z3, up3_i z2, up3_i z1, e0 i j z1 z2 z3 z4]
  · unfold noC
    rw [up3_f z, up3_i (by decide), up3_i (by decide), up3_i (by decide), up3_i (by decide), e0 100 j (by decide) (by decide) (by decide) (by decide)]
  · show gwN C 60 100 31 + 1 = _
    rw [hl]
  · obtain ⟨y1, y2, y3, y4⟩ := e1 e he
    have ne : e ≠ gwN C 60 100 31 := by omega
    show (if 60 = 60 ∧ 21 = 21 ∧ e = gwN C 60 100 31 then k else gwN C 60 21 e) = _ ∧ (if 60 = 60 ∧ 22 = 22 ∧ e = gwN C 60 100 31 then p else gwN C 60 22 e) = _ ∧ (if 60 = 60 ∧ 23 = 23 ∧ e = gwN C 60 100 31 then a else gwN C 60 23 e) = _ ∧ (if 60 = 60 ∧ 24 = 24 ∧ e = gwN C 60 100 31 then b else gwN C 60 24 e) = _
    rw [if_neg (fun z => ne z.2.2), if_neg (fun z => ne z.2.2), if_neg (fun z => ne z.2.2), if_neg (fun z => ne z.2.2)]
    exact ⟨y1, y2, y3, y4⟩
  · show (if 60 = 60 ∧ 21 = 21 ∧ C 60 100 31 = gwN C 60 100 31 then k else gwN C 60 21 _) = _
    rw [if_pos ⟨rfl, rfl, hl.symm⟩]
  · show (if 60 = 60 ∧ 22 = 22 ∧ C 60 100 31 = gwN C 60 100 31 then p else gwN C 60 22 _) = _
    rw [if_pos ⟨rfl, rfl, hl.symm⟩]
  · show (if 60 = 60 ∧ 23 = 23 ∧ C 60 100 31 = gwN C 60 100 31 then a else gwN C 60 23 _) = _
    rw [if_pos ⟨rfl, rfl, hl.symm⟩]
  · show (if 60 = 60 ∧ 24 = 24 ∧ C 60 100 31 = gwN C 60 100 31 then b else gwN C 60 24 _) = _
    rw [if_pos ⟨rfl, rfl, hl.symm⟩]
/-- the model behind a release, field by field -/
def RlT (D D2 : CF) (k p n : Nat) : Prop := (∀ j : Nat, D2 60 0 j = if j = qiC D k then D 60 0 (qiC D k) - PT D k n else D 60 0 j) ∧ (∀ j : Nat, D2 60 1 j = if j = D 60 16 k then D 60 1 j + PT D k n else D 60 1 j) ∧ (∀ j : Nat, D2 60 2 j = D 60 2 j)
  ∧ (∀ j : Nat, D2 60 3 j = if j = 3 * p + 0 then D 60 3 j - dT D k p n 0 else if j = 3 * p + 1 then D 60 3 j - dT D k p n 1 else if j = 3 * p + 2 then D 60 3 j - dT D k p n 2 else D 60 3 j)
  ∧ (∀ j : Nat, D2 60 4 j = if j = p then D 60 4 j - bkN (D 60 12 k) (PT D k n) else D 60 4 j) ∧ (∀ j : Nat, D2 60 5 j = if j = p then D 60 5 j - ckN (D 60 12 k) (PT D k n) else D 60 5 j) ∧ (∀ j : Nat, D2 60 6 j = if j = p then D 60 6 j - wbN D k p n else D 60 6 j)
  ∧ (∀ j : Nat, D2 60 7 j = if j = D 60 16 k then D 60 7 j + coN D k n else D 60 7 j) ∧ (∀ j : Nat, D2 60 8 j = D 60 8 j) ∧ (∀ j : Nat, D2 60 9 j = D 60 9 j) ∧ (∀ j : Nat, D2 60 10 j = if j = k then coR D k p n else D 60 10 j) ∧ (∀ j : Nat, D2 60 11 j = D 60 11 j) ∧ (∀ j : Nat, D2 60 12 j = D 60 12 j) ∧ (∀ j : Nat, D2 60 13 j = D 60 13 j) ∧ (∀ j : Nat, D2 60 14 j = D 60 14 j) ∧ (∀ j : Nat, D2 60 15 j = D 60 15 j) ∧ (∀ j : Nat, D2 60 16 j = D 60 16 j) ∧ (∀ j : Nat, D2 60 17 j = D 60 17 j) ∧ (∀ j : Nat, D2 60 18 j = D 60 18 j)
  ∧ (∀ j : Nat, D2 60 19 j = if j = k then D 60 19 j + n else D 60 19 j) ∧ (∀ j : Nat, D2 60 20 j = if j = k then D 60 20 j + wbN D k p n else D 60 20 j)
  ∧ (∀ e : Nat, e < D 60 100 31 → D2 60 21 e = D 60 21 e ∧ D2 60 22 e = D 60 22 e ∧ D2 60 23 e = D 60 23 e ∧ D2 60 24 e = D 60 24 e) ∧ (D2 60 21 (D 60 100 31) = k ∧ D2 60 22 (D 60 100 31) = p ∧ D2 60 23 (D 60 100 31) = PT D k n ∧ D2 60 24 (D 60 100 31) = n)
  ∧ (D2 60 100 28 = D 60 100 28 ∧ D2 60 100 29 = D 60 100 29 ∧ D2 60 100 30 = D 60 100 30 ∧ D2 60 100 31 = D 60 100 31 + 1 ∧ D2 60 100 32 = D 60 100 32 ∧ D2 60 100 33 = D 60 100 33 ∧ D2 60 100 34 = D 60 100 34) ∧ (D2 61 27 0 = D 61 27 0 ∧ ∀ j : Nat, D2 60 27 j = D 60 27 j)
theorem if_j {a b : Nat} {x y z : Nat} (h : a = b → x = y) : (if a = b then x else z) = if a = b then y else z := by
  by_cases c : a = b
  · rw [if_pos c, if_pos c, h c]
  · rw [if_neg c, if_neg c]
theorem rl_tab {D : CF} {k p n : Nat} (hM : OkM D) (hR : RK D k p) (hF : FR D k p n) (hn : 0 < n) : RlT D (rlR D k p) k p n := by
  have hG : LgOk (rlB D k p n) := hM.2.1
  obtain ⟨t0, t1, t2, t3, t4, t5, t6, t7, t8⟩ := noC_tab hG k p (PT D k n) n
  have e : rlR D k p = noC (rlB D k p n) k p (PT D k n) n := by
    unfold rlR
    rw [hF.eq hR, if_neg (by omega)]
  rw [e]
  have tt : ∀ i : Nat, i < 21 → ∀ j : Nat, noC (rlB D k p n) k p (PT D k n) n 60 i j = rlB D k p n 60 i j := fun i hi j => t0 i j (by omega) (by omega) (by omega) (by omega) (by omega)
  refine ⟨fun j => ?_, fun j => ?_, fun j => tt 2 (by decide) j, fun j => ?_, fun j => ?_, fun j => ?_, fun j => ?_, fun j => ?_, fun j => tt 8 (by decide) j, fun j => tt 9 (by decide) j, fun j => ?_, fun j => tt 11 (by decide) j, fun j => tt 12 (by decide) j, fun j => tt 13 (by decide) j, fun j => tt 14 (by decide) j, fun j => tt 15 (by decide) j, fun j => tt 16 (by decide) j, fun j => tt 17 (by decide) j, fun j => tt 18 (by decide) j, fun j => ?_, fun j => ?_, t3, ⟨t4, t5, t6, t7⟩, ⟨t1 28 (by decide), t1 29 (by decide), t1 30 (by decide), t2, t1 32 (by decide), t1 33 (by decide), t1 34 (by decide)⟩, t8, fun j => t0 27 j (by decide) (by decide) (by decide) (by decide) (by decide)⟩
  · rw [tt 0 (by decide) j]
    simp [rlB, TrS, S6, up3]
  · rw [tt 1 (by decide) j]
    simp [rlB, TrS, S6, up3]
    exact if_j (fun h => by rw [h])
  · rw [tt 3 (by decide) j]
    simp [rlB, TrS, S6, up3]
    by_cases h0 : j = 3 * p
    · subst h0
      simp [show 3 * p ≠ 3 * p + 2 by omega, show 3 * p ≠ 3 * p + 1 by omega]
    · by_cases h1 : j = 3 * p + 1
      · subst h1
        simp
      · by_cases h2 : j = 3 * p + 2
        · subst h2
          simp
        · simp [h0, h1, h2]
  · rw [tt 4 (by decide) j]
    simp [rlB, TrS, S6, up3]
    exact if_j (fun h => by rw [h])
  · rw [tt 5 (by decide) j]
    simp [rlB, TrS, S6, up3]
    exact if_j (fun h => by rw [h])
  · rw [tt 6 (by decide) j]
    simp [rlB, TrS, S6, up3]
    exact if_j (fun h => by rw [h])
  · rw [tt 7 (by decide) j]
    simp [rlB, TrS, S6, up3, coN]
    exact if_j (fun h => by rw [h])
  · rw [tt 10 (by decide) j]
    simp [rlB, TrS, S6, up3]
  · rw [tt 19 (by decide) j]
    simp [rlB, TrS, S6, up3]
    exact if_j (fun h => by rw [h])
  · rw [tt 20 (by decide) j]
    simp [rlB, TrS, S6, up3]
    exact if_j (fun h => by rw [h])
/-- the class behind a release: users, printers, jobs -/
theorem K_10 (D C : CF) (k p n u f : Nat) : rlK D C k p n 10 u f = if u = D 60 16 k then (if f = 3 then D 60 7 u + coN D k n else if f = 2 then D 60 1 u + PT D k n else if f = (if D 60 12 k = 0 then 0 else 1) then D 60 0 (qiC D k) - PT D k n else C 10 u f) else C 10 u f := by
  show adE (rlK0 D C k p n) k (D 60 16 k) p (PT D k n) n (coN D k n) 10 u f = _
  rw [adE_k (by decide) (by decide) (by decide)]
  unfold rlK0
  rw [up3_k (by decide), up3_k (by decide), up3_k (by decide), up3_k (by decide), up3_k (by decide)]
  by_cases h : u = D 60 16 k
  · subst h
    rw [if_pos rfl]
    by_cases h3 : f = 3
    · subst h3
      rw [up3_s, if_pos rfl]
    · rw [up3_f h3, if_neg h3]
      by_cases h2 : f = 2
      · subst h2
        rw [up3_s, if_pos rfl]
      · rw [up3_f h2, if_neg h2]
        by_cases h0 : f = (if D 60 12 k = 0 then 0 else 1)
        · rw [if_pos h0]
          subst h0
          rw [up3_s]
        · rw [if_neg h0, up3_f h0, up3_k (by decide), up3_k (by decide), up3_k (by decide), tkC_k (by decide)]
          rfl
  · rw [if_neg h, up3_i h, up3_i h, up3_i h, up3_k (by decide), up3_k (by decide), up3_k (by decide), tkC_k (by decide)]
    rfl
theorem K_9 (D C : CF) (k p n q f : Nat) : rlK D C k p n 9 q f = if q = p then (if f = 3 then D 60 6 p - wbN D k p n else if f = 2 then C 9 p 2 - ckN (D 60 12 k) (PT D k n) else if f = 1 then D 60 4 p - bkN (D 60 12 k) (PT D k n) else C 9 q f) else C 9 q f := by
  show adE (rlK0 D C k p n) k (D 60 16 k) p (PT D k n) n (coN D k n) 9 q f = _
  rw [adE_k (by decide) (by decide) (by decide)]
  unfold rlK0
  rw [up3_k (by decide), up3_k (by decide), up3_k (by decide), up3_k (by decide), up3_k (by decide), up3_k (by decide), up3_k (by decide), up3_k (by decide)]
  by_cases h : q = p
  · subst h
    rw [if_pos rfl]
    by_cases h3 : f = 3
    · subst h3
      rw [up3_s, if_pos rfl]
    · rw [up3_f h3, if_neg h3]
      by_cases h2 : f = 2
      · subst h2
        rw [up3_s, if_pos rfl]
      · rw [up3_f h2, if_neg h2]
        by_cases h0 : f = 1
        · subst h0
          rw [if_pos rfl, up3_s]
        · rw [if_neg h0, up3_f h0, tkC_k (by decide)]
          rfl
  · rw [if_neg h, up3_i h, up3_i h, up3_i h, tkC_k (by decide)]
    rfl
theorem K_11 (D C : CF) (k p n q f : Nat) : rlK D C k p n 11 q f = if q = k then (if f = 13 then coR D k p n else if f = 12 then D 60 20 k + wbN D k p n else if f = 11 then D 60 19 k + n else if f = 10 then pcN (D 60 13 k) (D 60 17 k) (D 60 19 k + n) else if f = 9 then ptoN (D 60 13 k) (D 60 17 k) (D 60 19 k) + PT D k n else C 11 q f) else C 11 q f := by
  show adE (rlK0 D C k p n) k (D 60 16 k) p (PT D k n) n (coN D k n) 11 q f = _
  rw [adE_k (by decide) (by decide) (by decide)]
  unfold rlK0
  by_cases h : q = k
  · subst h
    rw [if_pos rfl]
    by_cases h3 : f = 13
    · subst h3
      rw [up3_s, if_pos rfl]
    · rw [up3_f h3, if_neg h3]
      by_cases h2 : f = 12
      · subst h2
        rw [up3_s, if_pos rfl]
      · rw [up3_f h2, if_neg h2]
        by_cases h0 : f = 11
        · subst h0
          rw [if_pos rfl, up3_s]
        · rw [if_neg h0, up3_f h0]
          by_cases h1 : f = 10
          · subst h1
            rw [if_pos rfl, up3_s]
          · rw [if_neg h1, up3_f h1]
            by_cases h9 : f = 9
            · subst h9
              rw [if_pos rfl, up3_s]
            · rw [if_neg h9, up3_f h9, up3_k (by decide), up3_k (by decide), up3_k (by decide), up3_k (by decide), up3_k (by decide), up3_k (by decide), tkC_k (by decide)]
              rfl
  · rw [if_neg h, up3_i h, up3_i h, up3_i h, up3_i h, up3_i h, up3_k (by decide), up3_k (by decide), up3_k (by decide), up3_k (by decide), up3_k (by decide), up3_k (by decide), tkC_k (by decide)]
    rfl
theorem K_12 (D C : CF) (k p n i f : Nat) : rlK D C k p n 12 i f = tkC C p (D 60 9 k) n 12 i f := by
  show adE (rlK0 D C k p n) k (D 60 16 k) p (PT D k n) n (coN D k n) 12 i f = _
  rw [adE_k (by decide) (by decide) (by decide)]
  unfold rlK0
  rw [up3_k (by decide), up3_k (by decide), up3_k (by decide), up3_k (by decide), up3_k (by decide), up3_k (by decide), up3_k (by decide), up3_k (by decide), up3_k (by decide), up3_k (by decide), up3_k (by decide)]
  rfl
theorem K_o (D C : CF) (k p n kk : Nat) (h : kk ≠ 4) (h1 : kk ≠ 6) (h2 : kk ≠ 7) (h3 : kk ≠ 9) (h4 : kk ≠ 10) (h5 : kk ≠ 11) (h6 : kk ≠ 12) (h7 : kk ≠ 13) : rlK D C k p n kk = C kk := by
  show adE (rlK0 D C k p n) k (D 60 16 k) p (PT D k n) n (coN D k n) kk = _
  rw [adE_k h7 h h2]
  unfold rlK0
  rw [up3_k h5, up3_k h5, up3_k h5, up3_k h5, up3_k h5, up3_k h4, up3_k h4, up3_k h4, up3_k h3, up3_k h3, up3_k h3, tkC_k h6]
  funext ii ff
  unfold PlC
  rw [if_neg (fun z => h1 z.1)]
theorem K_13 (D C : CF) (k p n e : Nat) (h : e ≠ C 4 0 2) : rlK D C k p n 13 e = C 13 e := by
  show adE (rlK0 D C k p n) k (D 60 16 k) p (PT D k n) n (coN D k n) 13 e = _
  rw [adE_13 (show e ≠ rlK0 D C k p n 4 0 2 from h)]
  unfold rlK0
  rw [up3_k (by decide), up3_k (by decide), up3_k (by decide), up3_k (by decide), up3_k (by decide), up3_k (by decide), up3_k (by decide), up3_k (by decide), up3_k (by decide), up3_k (by decide), up3_k (by decide), tkC_k (by decide)]
  rfl
theorem K_13s (D C : CF) (k p n : Nat) : rlK D C k p n 13 (C 4 0 2) = enF k (D 60 16 k) p (PT D k n) n (coN D k n) := by
  show adE (rlK0 D C k p n) k (D 60 16 k) p (PT D k n) n (coN D k n) 13 (rlK0 D C k p n 4 0 2) = _
  exact adE_13s
theorem csU_c {C C2 : CF} {u : Nat} : ∀ n : Nat, (∀ e : Nat, e < n → C2 13 e = C 13 e) → csU C2 u n = csU C u n
  | 0, _ => rfl
  | n + 1, h => by
    have e1 := csU_c (u := u) n (fun e he => h e (by omega))
    show csU C2 u n + (if C2 13 n 1 = u then C2 13 n 5 else 0) = csU C u n + (if C 13 n 1 = u then C 13 n 5 else 0)
    rw [e1, h n (Nat.lt_succ_self n)]
theorem tk_12 {D C : CF} (hS : Sm D C) {k p n : Nat} (hk : k < D 60 100 30) (hp : p < D 60 100 29) (q t : Nat) (ht : t < 3) : tkC C p (D 60 9 k) n 12 (3 * q + t) 0 = C 12 (3 * q + t) 0 ∧ tkC C p (D 60 9 k) n 12 (3 * q + t) 1 = if q = p then C 12 (3 * q + t) 1 - dT D k p n t else C 12 (3 * q + t) 1 := by
  have hd : ∀ t : Nat, dK C p (D 60 9 k) n t = dT D k p n t := by
    intro t
    unfold dK dT
    rw [sm_av hS hk hp, sm_av hS hk hp, sm_av hS hk hp]
  unfold tkC
  rw [hd, hd, hd]
  constructor
  · rw [up3_f (by decide), up3_f (by decide), up3_f (by decide)]
  · by_cases h : q = p
    · subst h
      rw [if_pos rfl]
      match t, ht with
      | 0, _ => rw [up3_i (by omega), up3_i (by omega), up3_s]
      | 1, _ => rw [up3_i (by omega), up3_s]
      | 2, _ => rw [up3_s]
    · rw [if_neg h, up3_i (by omega), up3_i (by omega), up3_i (by omega)]
theorem Sm.rl {D C : CF} (hS : Sm D C) (hM : OkM D) (hL : OkL D) {k p n : Nat} (hk : k < D 60 100 30) (hp : p < D 60 100 29) (hF : FR D k p n) (hn : 0 < n) : Sm (rlR D k p) (rlK D C k p n) ∧ OkL (rlR D k p) := by
  have hR := hM.1.rk hk hp
  obtain ⟨r0, r1, r2, r3, r4, r5, r6, r7, r8, r9, r10, r11, r12, r13, r14, r15, r16, r17, r18, r19, r20, re, ⟨rn1, rn2, rn3, rn4⟩, ⟨c28, c29, c30, c31, c32, c33, c34⟩, r61, r27⟩ := rl_tab hM hR hF hn
  generalize rlR D k p = D2 at *
  obtain ⟨⟨c3, c4, c5, c6, c7, c8⟩, sU, sP, sT, sJ, ⟨sl, sc⟩, sE, sC, sB⟩ := id hS
  obtain ⟨hO, hG, hX⟩ := id hM
  obtain ⟨oU, oP, oJ, oTc, oY, o8, o9, o10, o11, o12, o13, o14, o15, oX, oQ, oB, oK, oS, oJk, oM, oCo, oSh, oLg, oPo, oLl, oL2, oL3, oL4, oLle, oE1, oE2, oE3, oE4⟩ := id hO
  obtain ⟨l1, l2, l3, l4, l5, l6, l7⟩ := hL
  obtain ⟨b1, b2, b3, b4, b5, b6, b7⟩ := oJk k hk
  have hpm := pto_mono (D 60 13 k) (D 60 17 k) (D 60 19 k) n b2
  have hPT : PT D k n = ptoN (D 60 13 k) (D 60 17 k) (D 60 19 k + n) - ptoN (D 60 13 k) (D 60 17 k) (D 60 19 k) := rfl
  have hn9 := hF.le hR
  have hpt := PT_le hR hF.1.2.2.2.2
  have hpr : prN D k ≤ 99 := by unfold prN; split <;> omega
  have hco := co_le2 hM hF hpr hpt hn9
  have hck2 := ck_p hS hk hp hF hn
  have hcs : ∀ u : Nat, csU (rlK D C k p n) u (D 60 100 31) = csU C u (D 60 100 31) := fun u => csU_c _ (fun e he => K_13 D C k p n e (by omega))
  have h13 := K_13s D C k p n
  rw [sl] at h13
  refine ⟨⟨?_, fun u hu => ?_, fun q hq => ?_, fun q t hq ht => ?_, fun j hj => ?_, ?_, fun e he => ?_, fun u hu => ?_, ?_⟩, fun e he => ?_, fun u => ?_, fun j hj => ?_, fun u hu => ?_, fun j hj => ?_, fun q hq => ?_, fun u => ?_⟩
  · rw [K_o D C k p n 0 (by decide) (by decide) (by decide) (by decide) (by decide) (by decide) (by decide) (by decide), c28, c29, c30, c32, c33, c34]
    exact ⟨c3, c4, c5, c6, c7, c8⟩
  · rw [c28] at hu
    obtain ⟨q0, q1, q2, q3⟩ := sU u hu
    rw [K_10, K_10, K_10, K_10, r0, r0, r1, r7, ← q0, ← q1]
    by_cases h : u = D 60 16 k
    · subst h
      simp only [if_true, qiC]
      by_cases hc : D 60 12 k = 0
      · simp [hc]
      · simp [hc]
    · rw [if_neg h, if_neg h, if_neg h, if_neg h, if_neg h, if_neg h, if_neg (show ¬ 2 * u = 2 * D 60 16 k + (if D 60 12 k = 0 then 0 else 1) by split <;> omega), if_neg (show ¬ 2 * u + 1 = 2 * D 60 16 k + (if D 60 12 k = 0 then 0 else 1) by split <;> omega)]
      exact ⟨rfl, rfl, q2, q3⟩
  · rw [c29] at hq
    obtain ⟨q0, q1, q2, q3, q5⟩ := sP q hq
    rw [K_9, K_9, K_9, K_9, K_9, r11, r4, r5, r6, r2]
    by_cases h : q = p
    · subst h
      simp only [if_true]
      refine ⟨q0, (by first | rfl | trivial), ?_, (by first | rfl | trivial), q5⟩
      show C 9 q 2 - ckN (D 60 12 k) (PT D k n) = _
      rw [q2] at hck2 ⊢
      by_cases h1 : D 60 11 q = 0
      · rw [if_pos h1] at hck2 ⊢
        rw [if_pos h1]
        omega
      · rw [if_neg h1, if_neg h1]
    · simp only [if_neg h]
      exact ⟨q0, q1, q2, q3, q5⟩
  · rw [c29] at hq
    rw [r2] at ht
    have h3 := oTc q
    obtain ⟨q0, q1⟩ := sT q t hq ht
    obtain ⟨w0, w1⟩ := tk_12 hS (n := n) hk hp q t (by omega)
    rw [K_12, K_12, w0, w1, r8, r3, q0, q1]
    refine ⟨rfl, ?_⟩
    by_cases h : q = p
    · subst h
      rw [if_pos rfl]
      match t, (show t < 3 by omega) with
      | 0, _ => rw [if_pos rfl]
      | 1, _ => rw [if_neg (by omega), if_pos rfl]
      | 2, _ => rw [if_neg (by omega), if_neg (by omega), if_pos rfl]
    · rw [if_neg h, if_neg (by omega), if_neg (by omega), if_neg (by omega)]
  · rw [c30] at hj
    obtain ⟨q0, q1, q2, q3, q4, q5, q6, q7, q8, q9, q10, q11, q12, q13⟩ := sJ j hj
    simp only [K_11, r16, r17, r18, r9, r12, r13, r14, r15, r19, r20, r10]
    by_cases h : j = k
    · subst h
      simp only [if_true]
      refine ⟨q0, q1, q2, q3, q4, q5, q6, q7, q8, ?_, (by first | rfl | trivial), (by first | rfl | trivial), (by first | rfl | trivial), (by first | rfl | trivial)⟩
      show ptoN (D 60 13 j) (D 60 17 j) (D 60 19 j) + PT D j n = _
      omega
    · simp only [if_neg h]
      exact ⟨q0, q1, q2, q3, q4, q5, q6, q7, q8, q9, q10, q11, q12, q13⟩
  · rw [c31]
    constructor
    · show adE (rlK0 D C k p n) k (D 60 16 k) p (PT D k n) n (coN D k n) 4 0 2 = _
      rw [adE_2]
      show C 4 0 2 + 1 = _
      rw [sl]
    · show adE (rlK0 D C k p n) k (D 60 16 k) p (PT D k n) n (coN D k n) 7 100 0 = _
      rw [adE_7]
      show capN (C 7 100 0) (C 4 0 2) = capN (capF (D 60 100 31)) (D 60 100 31)
      rw [sl, sc]
  · rw [c31] at he
    by_cases h : e = D 60 100 31
    · subst h
      rw [h13, rn1, rn2, rn3, rn4, r16]
      exact ⟨rfl, rfl, rfl, rfl, rfl, hco⟩
    · obtain ⟨y1, y2, y3, y4⟩ := re e (by omega)
      rw [K_13 D C k p n e (by omega), y1, y2, y3, y4, r16]
      exact sE e (by omega)
  · rw [c28] at hu
    rw [c31, r7]
    show csU (rlK D C k p n) u (D 60 100 31) + (if rlK D C k p n 13 (D 60 100 31) 1 = u then rlK D C k p n 13 (D 60 100 31) 5 else 0) = _
    rw [hcs, sC u hu, h13]
    show D 60 7 u + (if D 60 16 k = u then coN D k n else 0) = _
    by_cases h : u = D 60 16 k
    · rw [if_pos h, if_pos h.symm]
    · rw [if_neg h, if_neg (fun z => h z.symm), Nat.add_zero]
  · rw [K_o D C k p n 5 (by decide) (by decide) (by decide) (by decide) (by decide) (by decide) (by decide) (by decide), K_o D C k p n 8 (by decide) (by decide) (by decide) (by decide) (by decide) (by decide) (by decide) (by decide), r61]
    obtain ⟨z1, z2, z3, z4, z5, z6⟩ := sB
    exact ⟨z1, z2, z3, z4, z5, fun j hj => (z6 j hj).trans (r27 j).symm⟩
  · rw [c31] at he
    rw [c30]
    by_cases h : e = D 60 100 31
    · subst h
      rw [rn1]
      exact hk
    · rw [(re e (by omega)).1]
      exact l1 e (by omega)
  · have key : ∀ m : Nat, m ≤ D 60 100 31 → pgU D2 u m = pgU D u m := by
      intro m
      induction m with
      | zero => intro _; rfl
      | succ m ih =>
        intro hm
        obtain ⟨y1, y2, y3, y4⟩ := re m (by omega)
        show pgU D2 u m + (if D2 60 16 (D2 60 21 m) = u then D2 60 23 m else 0) = pgU D u m + (if D 60 16 (D 60 21 m) = u then D 60 23 m else 0)
        rw [ih (by omega), y1, y3, r16]
    rw [c31, r1]
    show pgU D2 u (D 60 100 31) + (if D2 60 16 (D2 60 21 (D 60 100 31)) = u then D2 60 23 (D 60 100 31) else 0) = _
    rw [key _ (Nat.le_refl _), l2, rn1, rn3, r16]
    by_cases h : u = D 60 16 k
    · rw [if_pos h, if_pos h.symm]
    · rw [if_neg h, if_neg (fun z => h z.symm), Nat.add_zero]
  · have key : ∀ m : Nat, m ≤ D 60 100 31 → pgJ D2 j m = pgJ D j m := by
      intro m
      induction m with
      | zero => intro _; rfl
      | succ m ih =>
        intro hm
        obtain ⟨y1, y2, y3, y4⟩ := re m (by omega)
        show pgJ D2 j m + (if D2 60 21 m = j then D2 60 23 m else 0) = pgJ D j m + (if D 60 21 m = j then D 60 23 m else 0)
        rw [ih (by omega), y1, y3]
    rw [c30] at hj
    rw [c31, r13, r17, r19]
    show pgJ D2 j (D 60 100 31) + (if D2 60 21 (D 60 100 31) = j then D2 60 23 (D 60 100 31) else 0) = _
    rw [key _ (Nat.le_refl _), l3 j hj, rn1, rn3]
    by_cases h : j = k
    · subst h
      rw [if_pos rfl, if_pos rfl]
      omega
    · rw [if_neg h, if_neg (fun z => h z.symm), Nat.add_zero]
  · rw [c28] at hu
    rw [r7, if_neg (by omega)]
    exact l4 u hu
  · rw [c30] at hj
    have ne : j ≠ k := by omega
    rw [r19, r20, r14, r15, if_neg ne, if_neg ne]
    exact l5 j hj
  · rw [c29] at hq
    rw [r2]
    exact l6 q hq
  · have := l7 u
    rw [r7, c31]
    split <;> omega
end SMRL
