section QCG
/-! what speaks of the model's rows alone -/
theorem coR_q {C D : CF} (h : C 60 = D 60) (k p i : Nat) : coR C k p i = coR D k p i := by
  unfold coR avT PT qiC
  rw [h]
theorem nR_q {C D : CF} (h : C 60 = D 60) (k p : Nat) : nR C k p = nR D k p := by
  unfold nR
  rw [show coR C k p = coR D k p from funext (coR_q h k p)]
theorem PT_q {C D : CF} (h : C 60 = D 60) (k i : Nat) : PT C k i = PT D k i := by
  simp only [PT, h]
theorem pgR_q {C D : CF} (h : C 60 = D 60) (k p : Nat) : pgR C k p = pgR D k p := by
  unfold pgR
  rw [nR_q h, PT_q h]
theorem rkR_q {C D : CF} (h : C 60 = D 60) (k p : Nat) : rkR C k p = rkR D k p := by
  simp only [rkR, nR_q h, h]
theorem qdR_q {C D : CF} (h : C 60 = D 60) (p n : Nat) : qdR C p n = qdR D p n := by
  simp only [qdR, rkR_q h]
theorem q2R_q {C D : CF} (h : C 60 = D 60) (p r n : Nat) : q2R C p r n = q2R D p r n := by
  simp only [q2R, rkR_q h]
theorem bsR_q {C D : CF} (h : C 60 = D 60) (k : Nat) : ∀ n : Nat, bsR C k n = bsR D k n
  | 0 => rfl
  | j + 1 => by
    show (if pgR C k j ≤ (bsR C k j).2 then bsR C k j else (j + 1, pgR C k j)) = (if pgR D k j ≤ (bsR D k j).2 then bsR D k j else (j + 1, pgR D k j))
    rw [bsR_q h k j, pgR_q h]
theorem ouN_q {C D : CF} (h : C 60 = D 60) (b : Nat) : ∀ n : Nat, ouN C b n = ouN D b n
  | 0 => rfl
  | j + 1 => by
    show ouN C b j + (if b = 0 ∨ C 60 12 (C 60 21 j) ≠ 0 then C 60 23 j else 0) = ouN D b j + (if b = 0 ∨ D 60 12 (D 60 21 j) ≠ 0 then D 60 23 j else 0)
    rw [ouN_q h b j, h]
theorem lnN_q {C D : CF} (h : C 60 = D 60) (k : Nat) : lnN C k = lnN D k := by
  simp only [lnN, paO, wdP, h]
theorem lnT_q {C D : CF} (h : C 60 = D 60) (k : Nat) : lnT C k = lnT D k := by
  simp only [lnT, paO, wdP, h]
/-- the same rows of the model -/
def E2 (C D : CF) : Prop := C 60 = D 60 ∧ C 61 = D 61
theorem e2_up {C D : CF} (h : E2 C D) {k i i2 f f2 v v2 : Nat} (hi : i = i2) (hf : f = f2) (hv : v = v2) : E2 (up3 C k i f v) (up3 D k i2 f2 v2) := by
  subst hi hf hv
  constructor
  · funext x y
    simp only [up3, h.1]
  · funext x y
    simp only [up3, h.2]
theorem e2_grw {C D : CF} (h : E2 C D) (i : Nat) : E2 (grw C i) (grw D i) := by
  constructor
  · funext x y
    simp only [grw, h.1, h.2]
  · funext x y
    simp only [grw, h.1, h.2]
theorem e2_gwN {C D : CF} (h : E2 C D) : E2 (gwN C) (gwN D) := by
  unfold gwN
  rw [h.1, h.2]
  split
  · exact e2_grw (e2_grw (e2_grw (e2_grw h 21) 22) 23) 24
  · exact h
theorem e2_noC {C D : CF} (h : E2 C D) (k p a b : Nat) : E2 (noC C k p a b) (noC D k p a b) := by
  have hg := e2_gwN h
  have e : gwN C 60 100 31 = gwN D 60 100 31 := by rw [hg.1]
  unfold noC
  exact e2_up (e2_up (e2_up (e2_up (e2_up hg rfl e rfl) rfl e rfl) rfl e rfl) rfl e rfl) rfl rfl (by rw [e])
theorem avT_q {C D : CF} (h : C 60 = D 60) (k p t : Nat) : avT C k p t = avT D k p t := by
  simp only [avT, h]
theorem dT_q {C D : CF} (h : C 60 = D 60) (k p n t : Nat) : dT C k p n t = dT D k p n t := by
  simp only [dT, avT_q h]
theorem e2_S6 {C D : CF} (h : E2 C D) {x0 x1 x2 b c q y0 y1 y2 d e f : Nat} (h0 : x0 = y0) (h1 : x1 = y1) (h2 : x2 = y2) (hb : b = d) (hc : c = e) (hq : q = f) : E2 (S6 C x0 x1 x2 b c q) (S6 D y0 y1 y2 d e f) := by
  subst h0 h1 h2 hb hc hq
  exact e2_up (e2_up (e2_up (e2_up (e2_up (e2_up h rfl rfl rfl) rfl rfl rfl) rfl rfl rfl) rfl rfl rfl) rfl rfl rfl) rfl rfl rfl
theorem e2_TrS {C D : CF} (h : E2 C D) (k p j : Nat) : E2 (TrS C k p j) (TrS D k p j) := by
  unfold TrS
  exact e2_S6 h (by rw [dT_q h.1, h.1]) (by rw [dT_q h.1, h.1]) (by rw [dT_q h.1, h.1]) (by rw [PT_q h.1, h.1]) (by rw [PT_q h.1, h.1]) (by simp only [qiC, PT_q h.1, h.1])
theorem prN_q {C D : CF} (h : C 60 = D 60) (k : Nat) : prN C k = prN D k := by
  simp only [prN, h]
theorem wbN_q {C D : CF} (h : C 60 = D 60) (k p n : Nat) : wbN C k p n = wbN D k p n := by
  simp only [wbN, h]
theorem e2_rlB {C D : CF} (h : E2 C D) (k p n : Nat) : E2 (rlB C k p n) (rlB D k p n) := by
  unfold rlB
  refine e2_up (e2_up (e2_up (e2_up (e2_up (e2_up (e2_up (e2_up (e2_up (e2_up (e2_up (e2_up (e2_TrS h k p n) ?_ ?_ ?_) ?_ ?_ ?_) ?_ ?_ ?_) ?_ ?_ ?_) ?_ ?_ ?_) ?_ ?_ ?_) ?_ ?_ ?_) ?_ ?_ ?_) ?_ ?_ ?_) ?_ ?_ ?_) ?_ ?_ ?_) ?_ ?_ ?_
  all_goals first | rfl | simp only [qiC, coR_q h.1, dT_q h.1, PT_q h.1, prN_q h.1, wbN_q h.1, h.1]
theorem e2_rlR {C D : CF} (h : E2 C D) (k p : Nat) : E2 (rlR C k p) (rlR D k p) := by
  unfold rlR
  rw [nR_q h.1, PT_q h.1]
  split
  · exact e2_TrS h k p 0
  · exact e2_noC (e2_rlB h k p _) k p _ _
theorem raG_q {C D : CF} (h : C 60 = D 60) (u j : Nat) : raG C u j ↔ raG D u j := by
  simp only [raG, dnR, h]
theorem e2_raS {C D : CF} (h : E2 C D) (u p : Nat) : ∀ j : Nat, E2 (raS C u p j) (raS D u p j)
  | 0 => h
  | j + 1 => by
    have ih := e2_raS h u p j
    show E2 (if raG (raS C u p j) u j then rlR (raS C u p j) j p else raS C u p j) (if raG (raS D u p j) u j then rlR (raS D u p j) j p else raS D u p j)
    by_cases g : raG (raS D u p j) u j
    · rw [if_pos g, if_pos ((raG_q ih.1 u j).mpr g)]
      exact e2_rlR ih j p
    · rw [if_neg g, if_neg (fun z => g ((raG_q ih.1 u j).mp z))]
      exact ih
theorem raN_q {C D : CF} (h : E2 C D) (u p : Nat) : ∀ j : Nat, raN C u p j = raN D u p j
  | 0 => rfl
  | j + 1 => by
    have ih := raN_q h u p j
    have e := e2_raS h u p j
    have e2 := (e2_rlR e j p).1
    show raN C u p j + (if raG (raS C u p j) u j ∧ pgR (raS C u p j) j p ≠ 0 ∧ dnR (rlR (raS C u p j) j p) j then 1 else 0) = raN D u p j + (if raG (raS D u p j) u j ∧ pgR (raS D u p j) j p ≠ 0 ∧ dnR (rlR (raS D u p j) j p) j then 1 else 0)
    rw [ih]
    simp only [raG, dnR, pgR_q e.1, e.1, e2]
end QCG
section IVX
/-- what stands between two calls -/
def Iv (C : CF) : Prop := Sm C C ∧ OkM C ∧ OkL C
def St4 (A A2 : AF) : Prop := A2 0 0 = A 0 0 ∧ A2 60 100 = A 60 100 ∧ A2 70 0 = A 70 0 ∧ A2 70 1 = A 70 1
def St5 (A A2 : AF) : Prop := St4 A A2 ∧ A2 7 0 = A 7 0
theorem St4.rf {A : AF} : St4 A A := ⟨rfl, rfl, rfl, rfl⟩
theorem St5.rf {A : AF} : St5 A A := ⟨St4.rf, rfl⟩
theorem St4.trans {A B D : AF} (h : St4 A B) (g : St4 B D) : St4 A D := ⟨g.1.trans h.1, g.2.1.trans h.2.1, g.2.2.1.trans h.2.2.1, g.2.2.2.trans h.2.2.2⟩
theorem St5.trans {A B D : AF} (h : St5 A B) (g : St5 B D) : St5 A D := ⟨h.1.trans g.1, g.2.trans h.2⟩
/-- a call that adds nothing to the log: what was thrown, and what stays -/
def AgB (A : AF) (C : CF) (k : Nat) (A2 : AF) (C2 : CF) : Prop := C2 60 100 27 = k ∧ Iv C2 ∧ St5 A A2 ∧ C2 60 100 31 = C 60 100 31 ∧ C2 61 21 0 = C 61 21 0
theorem iv_cl {X C2 D2 : CF} (h : Sm D2 X ∧ OkM D2 ∧ OkL D2) (e6 : C2 60 = D2 60) (e61 : C2 61 = D2 61) (h1 : ∀ kk : Nat, kk < 15 → C2 kk = X kk) : Iv C2 :=
  ⟨Sm.cg e6 e61 h1 h.1, h.2.1.cg e6 e61, h.2.2.cg e6⟩
theorem agb_k {A A2 : AF} {X C C2 D2 : CF} {t : Nat} (h : Sm D2 X ∧ OkM D2 ∧ OkL D2) (e6 : C2 60 = D2 60) (e61 : C2 61 = D2 61) (h1 : ∀ kk : Nat, kk < 15 → C2 kk = X kk) (ht : D2 60 100 27 = t) (h31 : D2 60 100 31 = C 60 100 31) (h21 : D2 61 21 0 = C 61 21 0) (hA : St5 A A2) : AgB A C t A2 C2 :=
  ⟨by rw [e6]; exact ht, iv_cl h e6 e61 h1, hA, by rw [e6]; exact h31, by rw [e61]; exact h21⟩
theorem keep_th {D C : CF} (hS : Sm D C) (hM : OkM D) (hL : OkL D) (t : Nat) : Sm (up3 D 60 100 27 t) C ∧ OkM (up3 D 60 100 27 t) ∧ OkL (up3 D 60 100 27 t) := by
  have eU : ∀ u n : Nat, pgU (up3 D 60 100 27 t) u n = pgU D u n := by
    intro u n
    induction n with
    | zero => rfl
    | succ n ih =>
      show pgU (up3 D 60 100 27 t) u n + (if D 60 16 (D 60 21 n) = u then D 60 23 n else 0) = pgU D u n + _
      rw [ih]
  have eJ : ∀ u n : Nat, pgJ (up3 D 60 100 27 t) u n = pgJ D u n := by
    intro u n
    induction n with
    | zero => rfl
    | succ n ih =>
      show pgJ (up3 D 60 100 27 t) u n + (if D 60 21 n = u then D 60 23 n else 0) = pgJ D u n + _
      rw [ih]
  refine ⟨hS, ⟨hM.1.th t, hM.2.1.th t, hM.2.2⟩, ?_⟩
  obtain ⟨l1, l2, l3, l4⟩ := hL
  exact ⟨l1, fun u => (eU u _).trans (l2 u), fun k hk => (eJ k _).trans (l3 k hk), l4⟩
theorem agb_th {A A2 : AF} {C C1 : CF} (hI : Iv C) (h1 : ∀ kk : Nat, kk < 15 → C1 kk = C kk) (e6 : C1 60 = C 60) (e61 : C1 61 = C 61) (t : Nat) (hA : St5 A A2) : AgB A C t A2 (up3 C1 60 100 27 t) := by
  refine agb_k (X := C) (D2 := up3 C 60 100 27 t) (keep_th hI.1 hI.2.1 hI.2.2 t) ?_ ?_ (fun kk h => (up3_k (by omega)).trans (h1 kk h)) rfl rfl rfl hA
  · funext i f
    simp only [up3, e6]
  · funext i f
    simp only [up3, e61]
theorem agb_sc {A A2 : AF} {C C1 C2 : CF} {w : Nat → Nat} (hI : Iv C) (h1 : ∀ kk : Nat, kk < 15 → C1 kk = P6 C w kk) (e6 : C1 60 = C 60) (e61 : C1 61 = C 61) {t : Nat} (hs : Sc (up3 C1 60 100 27 t) C2) (hA : St5 A A2) : AgB A C t A2 C2 ∧ C2 70 = C1 70 := by
  obtain ⟨x0, x1, x2, b, c, q, rfl, b0, b1, b2⟩ := hs
  have hk := keep_th hI.1 hI.2.1 hI.2.2 t
  have hsc : Sc (up3 C 60 100 27 t) (S6 (up3 C 60 100 27 t) x0 x1 x2 b c q) := ⟨x0, x1, x2, b, c, q, rfl, b0, b1, b2⟩
  have hE : E2 (S6 (up3 C1 60 100 27 t) x0 x1 x2 b c q) (S6 (up3 C 60 100 27 t) x0 x1 x2 b c q) := e2_S6 (e2_up ⟨e6, e61⟩ rfl rfl rfl) rfl rfl rfl rfl rfl rfl
  refine ⟨agb_k (X := P6 C w) (D2 := S6 (up3 C 60 100 27 t) x0 x1 x2 b c q) ⟨sm_P (Sm.sc hsc hk.1), hk.2.1.sc hsc, OkL.sc hsc hk.2.2⟩ hE.1 hE.2 (fun kk h => ?_) rfl rfl rfl hA, ?_⟩
  · rw [← h1 kk h]
    unfold S6
    rw [up3_k (by omega), up3_k (by omega), up3_k (by omega), up3_k (by omega), up3_k (by omega), up3_k (by omega), up3_k (by omega)]
  · unfold S6
    rw [up3_k (by omega), up3_k (by omega), up3_k (by omega), up3_k (by omega), up3_k (by omega), up3_k (by omega), up3_k (by omega)]
/-- a job of the class, in the model's words -/
theorem jb {C : CF} (hI : Iv C) {k : Nat} (hk : k < C 60 100 30) : (C 11 k 9 < C 11 k 3 ↔ C 60 19 k ≠ csN (C 60 13 k) (C 60 17 k) * C 60 18 k) ∧ C 11 k 9 ≤ C 11 k 3 ∧ (C 11 k 9 = 0 ↔ C 60 19 k = 0) := by
  obtain ⟨hS, hM, hL⟩ := hI
  obtain ⟨q0, q1, q2, q3, q4, q5, q6, q7, q8, q9, q10, q11, q12, q13⟩ := hS.2.2.2.2.1 k hk
  obtain ⟨d1, d2, d3, d4, d5, d6, d7, d8, d9, d10, d11⟩ := hM.1.jk hk
  have hall := pto_all (C 60 13 k) (C 60 17 k) (C 60 18 k) d3
  refine ⟨?_, by omega, ?_⟩
  · rw [q9, q3]
    constructor
    · intro h z
      rw [z, hall, Nat.mul_comm] at h
      exact Nat.lt_irrefl _ h
    · intro h
      rw [Nat.mul_comm]
      exact pto_lt d3 (by omega)
  · rw [q9]
    constructor
    · intro h
      rcases Nat.eq_zero_or_pos (C 60 19 k) with z | z
      · exact z
      · have := pto_pos (d := C 60 13 k) d3 z
        omega
    · intro h
      rw [h]
      exact (ptp_0 _ _).1
end IVX
