section SCG
theorem csU_13 {C C2 : CF} (h : C2 13 = C 13) (u n : Nat) : csU C2 u n = csU C u n := csU_c n (fun e _ => by rw [h])
/-- Sm looks at the model's rows alone, and at the class's kinds below 15 -/
theorem Sm.cg {D D2 C C2 : CF} (h6 : D2 60 = D 60) (h7 : D2 61 = D 61) (hc : ∀ kk : Nat, kk < 15 → C2 kk = C kk) (hS : Sm D C) : Sm D2 C2 := by
  have e := fun u n => csU_13 (hc 13 (by decide)) u n
  unfold Sm
  simp only [h6, h7, hc 0 (by decide), hc 4 (by decide), hc 5 (by decide), hc 7 (by decide), hc 8 (by decide), hc 9 (by decide), hc 10 (by decide), hc 11 (by decide), hc 12 (by decide), hc 13 (by decide), e]
  exact hS
theorem pgU_6 {D D2 : CF} (h6 : D2 60 = D 60) (u : Nat) : ∀ n : Nat, pgU D2 u n = pgU D u n
  | 0 => rfl
  | n + 1 => by
    show pgU D2 u n + (if D2 60 16 (D2 60 21 n) = u then D2 60 23 n else 0) = pgU D u n + _
    rw [pgU_6 h6 u n, h6]
theorem pgJ_6 {D D2 : CF} (h6 : D2 60 = D 60) (u : Nat) : ∀ n : Nat, pgJ D2 u n = pgJ D u n
  | 0 => rfl
  | n + 1 => by
    show pgJ D2 u n + (if D2 60 21 n = u then D2 60 23 n else 0) = pgJ D u n + _
    rw [pgJ_6 h6 u n, h6]
theorem OkL.cg {D D2 : CF} (h6 : D2 60 = D 60) (hL : OkL D) : OkL D2 := by
  unfold OkL
  simp only [pgU_6 h6, pgJ_6 h6, h6]
  exact hL
theorem OkM.cg {D D2 : CF} (h6 : D2 60 = D 60) (h7 : D2 61 = D 61) (hM : OkM D) : OkM D2 := by
  unfold OkM OkR LgOk OkX
  simp only [h6, h7]
  exact hM
end SCG
