section OKR
theorem S6_S6 (C : CF) (x0 x1 x2 b c q y0 y1 y2 d e f : Nat) : S6 (S6 C x0 x1 x2 b c q) y0 y1 y2 d e f = S6 C y0 y1 y2 d e f := by
  rw [show S6 (S6 C x0 x1 x2 b c q) y0 y1 y2 d e f = up3 (up3 (up3 (up3 (up3 (up3 (S6 C x0 x1 x2 b c q) 60 25 0 y0) 60 25 1 y1) 60 25 2 y2) 60 100 35 d) 60 100 36 e) 60 100 37 f from rfl, S6_0, S6_1, S6_2, S6_b, S6_c, S6_q]
/-- the same but for the trial -/
def Sc (C C2 : CF) : Prop := ∃ x0 x1 x2 b c q : Nat, S6 C x0 x1 x2 b c q = C2 ∧ x0 ≤ 500 ∧ x1 ≤ 500 ∧ x2 ≤ 500
theorem Sc.trans {C C2 C3 : CF} (h : Sc C C2) (h2 : Sc C2 C3) : Sc C C3 := by
  obtain ⟨x0, x1, x2, b, c, q, rfl, h0, h1, h2'⟩ := h
  obtain ⟨y0, y1, y2, d, e, f, rfl, g0, g1, g2⟩ := h2
  exact ⟨y0, y1, y2, d, e, f, (S6_S6 ..).symm, g0, g1, g2⟩
theorem TrS_Sc {C : CF} {k p n : Nat} (hY : ∀ t : Nat, C 60 3 t ≤ 500) : Sc C (TrS C k p n) :=
  ⟨_, _, _, _, _, _, rfl, Nat.le_trans (Nat.sub_le _ _) (hY _), Nat.le_trans (Nat.sub_le _ _) (hY _), Nat.le_trans (Nat.sub_le _ _) (hY _)⟩
theorem Sc.x {C C2 : CF} (h : Sc C C2) (hx : ∀ t : Nat, C 60 25 t ≤ 500) : ∀ t : Nat, C2 60 25 t ≤ 500 := by
  obtain ⟨x0, x1, x2, b, c, q, rfl, h0, h1, h2⟩ := h
  intro t
  have h3 := hx t
  simp only [S6, up3]
  repeat' split
  all_goals omega
theorem Sc.refl {C : CF} (hx : ∀ t : Nat, C 60 25 t ≤ 500) : Sc C C := by
  refine ⟨C 60 25 0, C 60 25 1, C 60 25 2, C 60 100 35, C 60 100 36, C 60 100 37, ?_, hx 0, hx 1, hx 2⟩
  funext i j f
  simp only [S6, up3]
  repeat' split
  all_goals first | rfl | (rename_i z; obtain ⟨rfl, rfl, rfl⟩ := z; rfl)
/-- the first sheet that does not come out, for the reason coR tells -/
def FR (C : CF) (k p n : Nat) : Prop := TrI C k p n ∧ coR C k p n ≠ 45 ∧ ∀ i : Nat, i < n → coR C k p i = 45
theorem Sc.FR {C C2 : CF} (h : Sc C C2) {k p n : Nat} : FR C2 k p n ↔ FR C k p n := by
  obtain ⟨x0, x1, x2, b, c, q, rfl, -⟩ := h
  exact Iff.rfl
theorem Sc.PT {C C2 : CF} (h : Sc C C2) {k n : Nat} : PT C2 k n = PT C k n := by
  obtain ⟨x0, x1, x2, b, c, q, rfl, -⟩ := h
  rfl
theorem Sc.RK {C C2 : CF} (h : Sc C C2) {k p : Nat} (hR : RK C k p) : RK C2 k p := by
  have hx := h.x hR.2.2.2.2.2.2.1
  obtain ⟨x0, x1, x2, b, c, q, rfl, -⟩ := h
  obtain ⟨h1, h2, h3, h4, h5, h6, -, h8⟩ := hR
  exact ⟨h1, h2, h3, h4, h5, h6, hx, h8⟩
/-- what holds of the model's numbers -/
def OkR (C : CF) : Prop := C 60 100 28 ≤ 6 ∧ C 60 100 29 ≤ 4 ∧ C 60 100 30 ≤ 40 ∧ (∀ p : Nat, C 60 2 p ≤ 3) ∧ (∀ t : Nat, C 60 3 t ≤ 500) ∧ (∀ t : Nat, C 60 8 t < 65536) ∧ (∀ t : Nat, C 60 9 t < 65536) ∧ (∀ t : Nat, C 60 10 t < 65536)
  ∧ (∀ i : Nat, C 60 11 i < 2) ∧ (∀ i : Nat, C 60 12 i < 2) ∧ (∀ i : Nat, C 60 13 i < 2) ∧ (∀ i : Nat, C 60 14 i < 2) ∧ (∀ i : Nat, C 60 15 i < 2) ∧ (∀ t : Nat, C 60 25 t ≤ 500) ∧ (∀ i : Nat, C 60 0 i ≤ 9999) ∧ (∀ i : Nat, C 60 4 i ≤ 1000) ∧ (∀ i : Nat, C 60 5 i ≤ 1000) ∧ (∀ i : Nat, C 60 6 i ≤ 100)
  ∧ (∀ k : Nat, k < C 60 100 30 → C 60 16 k < C 60 100 28 ∧ 1 ≤ C 60 17 k ∧ C 60 17 k ≤ 100 ∧ 1 ≤ C 60 18 k ∧ C 60 18 k ≤ 9 ∧ C 60 19 k ≤ csN (C 60 13 k) (C 60 17 k) * C 60 18 k ∧ C 60 20 k ≤ 900) ∧ C 60 100 32 ≤ 99 ∧ C 60 100 33 ≤ 99 ∧ C 60 100 34 ≤ 99 ∧ C 60 100 31 ≤ 40000 ∧ (∀ i : Nat, C 60 1 i ≤ 36000000) ∧ C 61 21 0 ≤ 100000 ∧ C 61 22 0 = C 61 21 0 ∧ C 61 23 0 = C 61 21 0 ∧ C 61 24 0 = C 61 21 0 ∧ C 60 100 31 ≤ C 61 21 0 ∧ (∀ e : Nat, C 60 21 e < 40) ∧ (∀ e : Nat, C 60 22 e < 4) ∧ (∀ e : Nat, C 60 23 e ≤ 900) ∧ (∀ e : Nat, C 60 24 e ≤ 900)
theorem OkR.rk {C : CF} (h : OkR C) {k p : Nat} (hk : k < C 60 100 30) (hp : p < C 60 100 29) : RK C k p := by
  obtain ⟨a1, a2, a3, a4, a5, a6, a7, a8, a9, a10, a11, a12, a13, a14, a15, a16, a17, a18, a19, a20, a21, a22, a23⟩ := h
  obtain ⟨b1, b2, b3, b4, b5, b6, b7⟩ := a19 k hk
  exact ⟨by omega, by omega, a4 p, a7 k, a6, a5, a14, a11 k, b2, b3, b5, a13 k, a10 k, a9 p, by omega, a16 p, a17 p, a15, b6⟩
theorem OkR.jk {C : CF} (h : OkR C) {k : Nat} (hk : k < C 60 100 30) : k < 40 ∧ C 60 13 k < 2 ∧ 1 ≤ C 60 17 k ∧ C 60 17 k ≤ 100 ∧ C 60 18 k ≤ 9 ∧ C 60 19 k ≤ csN (C 60 13 k) (C 60 17 k) * C 60 18 k ∧ csN (C 60 13 k) (C 60 17 k) * C 60 18 k < 2 ^ 30 ∧ ptoN (C 60 13 k) (C 60 17 k) (C 60 19 k) ≤ C 60 17 k * C 60 18 k ∧ C 60 16 k < C 60 100 28 ∧ C 60 17 k * C 60 18 k ≤ 900 ∧ 1 ≤ C 60 18 k := by
  obtain ⟨a1, a2, a3, a4, a5, a6, a7, a8, a9, a10, a11, a12, a13, a14, a15, a16, a17, a18, a19, a20, a21, a22, a23⟩ := h
  obtain ⟨b1, b2, b3, b4, b5, b6, b7⟩ := a19 k hk
  have e := pto_mono (C 60 13 k) (C 60 17 k) (C 60 19 k) (csN (C 60 13 k) (C 60 17 k) * C 60 18 k - C 60 19 k) b2
  rw [show C 60 19 k + (csN (C 60 13 k) (C 60 17 k) * C 60 18 k - C 60 19 k) = csN (C 60 13 k) (C 60 17 k) * C 60 18 k by omega, pto_all _ _ _ b2] at e
  have e2 : C 60 17 k * C 60 18 k ≤ 100 * 9 := Nat.mul_le_mul b3 b5
  exact ⟨by omega, a11 k, b2, b3, b5, b6, al_lt30 b2 b3 b5, by rw [Nat.mul_comm]; exact e, b1, e2, b4⟩
theorem OkR.sc {C C2 : CF} (h : OkR C) (hs : Sc C C2) : OkR C2 := by
  have hx := hs.x h.2.2.2.2.2.2.2.2.2.2.2.2.2.1
  obtain ⟨x0, x1, x2, b, c, q, rfl, -⟩ := hs
  obtain ⟨a1, a2, a3, a4, a5, a6, a7, a8, a9, a10, a11, a12, a13, -, a15⟩ := h
  exact ⟨a1, a2, a3, a4, a5, a6, a7, a8, a9, a10, a11, a12, a13, hx, a15⟩
end OKR
