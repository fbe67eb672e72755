section RANK
/-- the first index at which f is not 45 -/
def fstF (f : Nat → Nat) : Nat → Nat → Nat
  | 0, i => i
  | n + 1, i => if f i ≠ 45 then i else fstF f n (i + 1)
theorem fstF_eq (f : Nat → Nat) (n : Nat) (h1 : f n ≠ 45) (h2 : ∀ i, i < n → f i = 45) : ∀ (fuel i : Nat), i ≤ n → n ≤ i + fuel → fstF f fuel i = n
  | 0, i, a, b => by
    unfold fstF
    omega
  | fuel + 1, i, a, b => by
    unfold fstF
    by_cases e : i = n
    · subst e
      rw [if_pos h1]
    · rw [if_neg (fun z => z (h2 i (by omega)))]
      exact fstF_eq f n h1 h2 fuel (i + 1) (by omega) (by omega)
/-- how many sheets of a job would come out -/
def nR (C : CF) (k p : Nat) : Nat := fstF (coR C k p) 1000 0
def rkR (C : CF) (k p : Nat) : Nat := if nR C k p = 0 then 0 else if C 60 19 k + nR C k p = csN (C 60 13 k) (C 60 17 k) * C 60 18 k then 2 else 1
def pgR (C : CF) (k p : Nat) : Nat := PT C k (nR C k p)
theorem FR.le {C : CF} {k p n : Nat} (h : FR C k p n) (hR : RK C k p) : n ≤ 900 := by
  have e := h.1.2.2.2.2
  obtain ⟨hk, hp, hnt, hq, hw, hY, hx, hd, hg, hg2, hcp, hr⟩ := hR
  have e1 := csN_le (d := C 60 13 k) hg
  have e2 : csN (C 60 13 k) (C 60 17 k) * C 60 18 k ≤ 100 * 9 := Nat.mul_le_mul (by omega) hcp
  omega
theorem FR.eq {C : CF} {k p n : Nat} (h : FR C k p n) (hR : RK C k p) : nR C k p = n := fstF_eq _ n h.2.1 h.2.2 1000 0 (Nat.zero_le _) (by have := h.le hR; omega)
theorem FR.rk {C : CF} {k p n : Nat} (h : FR C k p n) (hR : RK C k p) : rkR C k p = if n = 0 then 0 else if C 60 19 k + n = csN (C 60 13 k) (C 60 17 k) * C 60 18 k then 2 else 1 := by
  unfold rkR
  rw [h.eq hR]
theorem FR.pg {C : CF} {k p n : Nat} (h : FR C k p n) (hR : RK C k p) : pgR C k p = PT C k n := by
  unfold pgR
  rw [h.eq hR]
theorem Sc.rk {C C2 : CF} (h : Sc C C2) {k p : Nat} : rkR C2 k p = rkR C k p := by
  obtain ⟨x0, x1, x2, b, c, q, rfl, -⟩ := h
  rfl
theorem Sc.pg {C C2 : CF} (h : Sc C C2) {k p : Nat} : pgR C2 k p = pgR C k p := by
  obtain ⟨x0, x1, x2, b, c, q, rfl, -⟩ := h
  rfl
theorem pt_900 {d g n s : Nat} (hg : 1 ≤ g) (hg2 : g ≤ 100) (hn : n ≤ 9) (hs : s ≤ csN d g * n) : ptoN d g s ≤ 900 := by
  have e := pto_mono d g s (csN d g * n - s) hg
  rw [show s + (csN d g * n - s) = csN d g * n by omega, pto_all _ _ _ hg] at e
  have e2 : n * g ≤ 9 * 100 := Nat.mul_le_mul hn hg2
  omega
theorem PT_le {C : CF} {k p n : Nat} (hR : RK C k p) (h : C 60 19 k + n ≤ csN (C 60 13 k) (C 60 17 k) * C 60 18 k) : PT C k n ≤ 900 := by
  obtain ⟨hk, hp, hnt, hq, hw, hY, hx, hd, hg, hg2, hcp, hr⟩ := hR
  have e := pt_900 (d := C 60 13 k) hg hg2 hcp h
  unfold PT
  omega
theorem pg_le {C : CF} {k p : Nat} (hR : RK C k p) {n : Nat} (h : FR C k p n) : pgR C k p ≤ 900 := by
  rw [h.pg hR]
  exact PT_le hR h.1.2.2.2.2
theorem FR_ex {C : CF} {k p : Nat} (hR : RK C k p) : ∃ n, FR C k p n := by
  obtain ⟨hk, hp, hnt, hq, hw, hY, hx, hd, hg, hg2, hcp, hcn, hb, hac, hu, hbk, hck, hQ, ho⟩ := id hR
  have key : ∀ (f n : Nat), csN (C 60 13 k) (C 60 17 k) * C 60 18 k - (C 60 19 k + n) < f → TrI C k p n → (∀ i : Nat, i < n → coR C k p i = 45) → ∃ n, FR C k p n := by
    intro f
    induction f with
    | zero => intro n h; omega
    | succ f ih =>
      intro n h hT hJ
      by_cases e : coR C k p n = 45
      · have h2 := TrI_next hg e hT
        have h3 := h2.2.2.2.2
        refine ih (n + 1) (by omega) h2 (fun i hi => ?_)
        rcases Nat.lt_or_ge i n with z | z
        · exact hJ i z
        · rw [show i = n by omega]
          exact e
      · exact ⟨n, hT, e, hJ⟩
  exact key _ 0 (Nat.lt_succ_self _) (TrI_0 ho) (fun i h => absurd h (Nat.not_lt_zero i))
theorem pgR_le {C : CF} {k p : Nat} (hR : RK C k p) : pgR C k p ≤ 900 := by
  obtain ⟨n, h⟩ := FR_ex hR
  exact pg_le hR h
theorem rkR_le (C : CF) (k p : Nat) : rkR C k p ≤ 2 := by
  unfold rkR
  repeat' split
  all_goals omega
/-- how many of the first n -/
def cnt (f : Nat → Nat) : Nat → Nat
  | 0 => 0
  | n + 1 => cnt f n + f n
def qdR (C : CF) (p : Nat) : Nat → Nat := cnt (fun k => if 0 < rkR C k p then 1 else 0)
def q2R (C : CF) (p r : Nat) : Nat → Nat := cnt (fun k => if rkR C k p = r then 1 else 0)
theorem cnt_le {f : Nat → Nat} (h : ∀ k, f k ≤ 1) : ∀ n, cnt f n ≤ n
  | 0 => Nat.le_refl _
  | n + 1 => by
    have := cnt_le h n
    have := h n
    unfold cnt
    omega
theorem qdR_le (C : CF) (p n : Nat) : qdR C p n ≤ n := cnt_le (fun k => by split <;> omega) n
theorem q2R_le (C : CF) (p r n : Nat) : q2R C p r n ≤ n := cnt_le (fun k => by split <;> omega) n
/-- the printer at which most pages would come out: its number + 1, 0 if none; and the pages -/
def bsR (C : CF) (k : Nat) : Nat → Nat × Nat
  | 0 => (0, 0)
  | j + 1 => if pgR C k j ≤ (bsR C k j).2 then bsR C k j else (j + 1, pgR C k j)
theorem bsR_le (C : CF) (k : Nat) : ∀ n, (bsR C k n).1 ≤ n
  | 0 => Nat.le_refl _
  | n + 1 => by
    have := bsR_le C k n
    unfold bsR
    split <;> simp <;> omega
theorem S6_th (C : CF) (x0 x1 x2 b c q y : Nat) : S6 (up3 C 60 100 27 y) x0 x1 x2 b c q = up3 (S6 C x0 x1 x2 b c q) 60 100 27 y := by
  funext i j f
  simp only [S6, up3]
  repeat' split
  all_goals first | rfl | omega
end RANK
