section TRIAL2
theorem if_cg {c d : Prop} [Decidable c] [Decidable d] {a x y : Nat} (h : c ↔ d) (hxy : ¬ c → x = y) : (if c then a else x) = (if d then a else y) := by
  by_cases hc : c
  · rw [if_pos hc, if_pos (h.mp hc)]
  · rw [if_neg hc, if_neg (fun z => hc (h.mpr z)), hxy hc]
/-- the reference's reason in the trial is the reason that stands behind j sheets -/
theorem rs_co {C : CF} {k p j : Nat} (hg : 1 ≤ C 60 17 k) (hI : TrI C k p j) : rsC (TrS C k p j) k p (C 60 19 k + j) = coR C k p j := by
  obtain ⟨i1, i2, i3, i4, i5⟩ := hI
  have hst := PT_step C k j hg
  have hpon := ponN_le (C 60 13 k) (C 60 17 k) (C 60 19 k + j)
  show (if C 60 19 k + j = csN (C 60 13 k) (C 60 17 k) * C 60 18 k then 100 else if C 60 15 k ≠ 0 then 120 else if C 60 12 k ≠ 0 ∧ C 60 11 p = 0 then 110
    else if tfN (C 60 2 p) (C 60 9 k) (C 60 8 (3 * p + 0)) (C 60 8 (3 * p + 1)) (C 60 8 (3 * p + 2)) (C 60 3 (3 * p + 0) - dT C k p j 0) (C 60 3 (3 * p + 1) - dT C k p j 1) (C 60 3 (3 * p + 2) - dT C k p j 2) = 0 then 107
    else if tfN (C 60 2 p) (C 60 9 k) (C 60 8 (3 * p + 0)) (C 60 8 (3 * p + 1)) (C 60 8 (3 * p + 2)) (C 60 3 (3 * p + 0) - dT C k p j 0) (C 60 3 (3 * p + 1) - dT C k p j 1) (C 60 3 (3 * p + 2) - dT C k p j 2) = 1 then 112
    else if C 60 4 p - bkN (C 60 12 k) (PT C k j) < (if C 60 12 k = 0 then 2 * ponN (C 60 13 k) (C 60 17 k) (C 60 19 k + j) else ponN (C 60 13 k) (C 60 17 k) (C 60 19 k + j)) then 116
    else if C 60 12 k ≠ 0 ∧ C 60 5 p - ckN (C 60 12 k) (PT C k j) < 3 * ponN (C 60 13 k) (C 60 17 k) (C 60 19 k + j) then 99
    else if C 60 0 (qiC C k) - PT C k j < ponN (C 60 13 k) (C 60 17 k) (C 60 19 k + j) then 113 else 45) = _
  have htf := tf_split i1
  unfold coR
  rw [hst]
  refine if_cg Iff.rfl (fun _ => if_cg Iff.rfl (fun _ => if_cg Iff.rfl (fun _ => if_cg htf.1 (fun n4 => if_cg ⟨fun h => (htf.2.mp h).2, fun h => htf.2.mpr ⟨Classical.byContradiction fun z => n4 (htf.1.mpr z), h⟩⟩ (fun _ => if_cg ?_ (fun _ => if_cg ?_ (fun _ => if_cg ?_ (fun _ => rfl))))))))
  · clear htf
    unfold bkN at *
    split <;> rename_i z <;> simp only [z, if_true, if_false] at i2 ⊢ <;> omega
  · clear htf
    unfold ckN at *
    by_cases z : C 60 12 k = 0
    · exact ⟨fun h => absurd z h.1, fun h => absurd z h.1⟩
    · simp only [z, if_false] at i3 ⊢
      omega
  · omega
theorem rs_le (C : CF) (k p s : Nat) : rsC C k p s ≤ 120 := by
  unfold rsC
  repeat' split
  all_goals omega
theorem co_le (C : CF) (k p s : Nat) : coR C k p s ≤ 120 := by
  unfold coR
  repeat' split
  all_goals omega
theorem al_lt30 {d g n : Nat} (h : 1 ≤ g) (h2 : g ≤ 100) (hn : n ≤ 9) : csN d g * n < 2 ^ 30 := by
  have e := csN_le (d := d) h
  have e2 : csN d g * n ≤ 100 * 9 := Nat.mul_le_mul (by omega) hn
  omega
end TRIAL2
