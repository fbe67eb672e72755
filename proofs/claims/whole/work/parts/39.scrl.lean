section SCRL
theorem TrS_S6 (C : CF) (x0 x1 x2 b c q : Nat) (k p j : Nat) : TrS (S6 C x0 x1 x2 b c q) k p j = TrS C k p j := by
  show S6 (S6 C x0 x1 x2 b c q) _ _ _ _ _ _ = S6 C _ _ _ _ _ _
  rw [S6_S6]
  rfl
theorem rlB_S6 (C : CF) (x0 x1 x2 b c q : Nat) (k p n : Nat) : rlB (S6 C x0 x1 x2 b c q) k p n = rlB C k p n := by
  unfold rlB
  rw [TrS_S6]
  rfl
theorem Sc.rl {C C2 : CF} (h : Sc C C2) {k p : Nat} : rlR C2 k p = rlR C k p := by
  obtain ⟨x0, x1, x2, b, c, q, rfl, -⟩ := h
  unfold rlR
  rw [show nR (S6 C x0 x1 x2 b c q) k p = nR C k p from rfl, TrS_S6, rlB_S6]
  rfl
theorem OkR.th {C : CF} (h : OkR C) (v : Nat) : OkR (up3 C 60 100 27 v) := h
theorem LgOk.th {C : CF} (h : LgOk C) (v : Nat) : LgOk (up3 C 60 100 27 v) := h
theorem LgOk.sc {C C2 : CF} (h : LgOk C) (hs : Sc C C2) : LgOk C2 := by
  obtain ⟨x0, x1, x2, b, c, q, rfl, -⟩ := hs
  exact h
end SCRL
