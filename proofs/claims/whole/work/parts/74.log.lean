section LOGC
variable {Z : Zp} {l : Launch}
theorem CtS.pure {y : MethodName} {ws : List Cond} {rm : Room} {av : List Value} {A : AF} {C : CF} {mc ms : Nat} {P : Option Value → Prop} (h : ∀ M : Wd, Rep A C M → Ct Z l y ws rm av M mc ms (fun v M2 => M = M2 ∧ P v) (fun _ _ => False)) : CtS Z l y ws rm av A C mc ms (fun v A2 C2 => A = A2 ∧ C = C2 ∧ P v) (fun _ _ _ => False) :=
  fun M hM => (h M hM).imp (fun v M' hh => by obtain ⟨rfl, hp⟩ := hh; exact ⟨A, C, hM, fun _ _ => rfl, rfl, rfl, hp⟩) (fun _ _ hh => hh.elim)
theorem k_logSize (Z : Zp) (l : Launch) (A : AF) (C : CF) : CtS Z l yJx4a65c_size_8abf5 wsJx4a65c_size_8abf5 ({ frames := 0, cells := 0, slots := 0, locals := 0 }) [.ref (A 4 0)] A C 0 0 (fun v A2 C2 => A = A2 ∧ C = C2 ∧ some (.int (nI (C 4 0 2))) = v) (fun _ _ _ => False) :=
  CtS.pure (fun M hM => k_listSize Z l M (4, 0) (A 4 0) (A 7 0) (C 4 0 0) (C 4 0 2) (hM 4 0 _ cc_list))
theorem k_logGet (Z : Zp) (l : Launch) (A : AF) (C : CF) (e : Nat) (he : e < C 4 0 2) (h1 : C 4 0 2 ≤ C 7 100 0) (h2 : C 7 100 0 ≤ 100000) : CtS Z l yJx4a65c_get_915e3 wsJx4a65c_get_915e3 ({ frames := 2, cells := 0, slots := 0, locals := 43 }) [.ref (A 4 0), .int (nI e)] A C 0 0 (fun v A2 C2 => A = A2 ∧ C = C2 ∧ some (.ref (A 13 e)) = v) (fun _ _ _ => False) :=
  CtS.pure (fun M hM => k_listGet Z l M e (A 13 e) (4, 0) (A 4 0) (A 7 0) (C 4 0 0) (C 4 0 2) (hM 4 0 _ cc_list) (7, 0) (C 7 100 0) (fun j => if j < C 4 0 2 then some (A 13 j) else none) (hM 7 0 _ (cc_data (by omega))) he h1 (by omega) (if_pos he))
theorem k_lineLen (Z : Zp) (l : Launch) (A : AF) (C : CF) : CtS Z l yJ4_length_8abf5 wsJ4_length_8abf5 ({ frames := 1, cells := 0, slots := 0, locals := 20 }) [.ref (A 5 0)] A C 0 0 (fun v A2 C2 => A = A2 ∧ C = C2 ∧ some (.int (nI (C 5 0 3))) = v) (fun _ _ _ => False) :=
  CtS.pure (fun M hM => k_sbLen Z l M (5, 0) (A 5 0) (A 8 0) (C 5 0 2) (C 5 0 3) (hM 5 0 _ cc_line))
theorem k_lineChar (Z : Zp) (l : Launch) (A : AF) (C : CF) (i : Nat) (hi : i < C 5 0 3) (h1 : C 5 0 3 ≤ C 8 100 0) (h2 : C 8 100 0 ≤ 70) (h3 : C 8 0 i < 128) : CtS Z l yJ4_charAt_5068e wsJ4_charAt_5068e ({ frames := 3, cells := 0, slots := 0, locals := 67 }) [.ref (A 5 0), .int (nI i)] A C 0 0 (fun v A2 C2 => A = A2 ∧ C = C2 ∧ some (.int (nI (C 8 0 i))) = v) (fun _ _ _ => False) :=
  CtS.pure (fun M hM => k_sbChar Z l M i (5, 0) (A 5 0) (A 8 0) (C 5 0 2) (C 5 0 3) (hM 5 0 _ cc_line) (8, 0) (C 8 100 0) (C 8 0) (hM 8 0 _ cc_bytes) (by decide) hi h1 (by omega) h3)
end LOGC
