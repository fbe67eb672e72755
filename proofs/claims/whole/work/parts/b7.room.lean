section LAWROOM
theorem rC_q {C D : CF} (h : C 60 = D 60) (h1 : C 61 = D 61) (k p : Nat) : rC C k p = rC D k p := by
  simp only [rC, gC, nR_q h, h, h1]
theorem rS_q {C D : CF} (h : C 60 = D 60) (h1 : C 61 = D 61) (k p : Nat) : rS C k p = rS D k p := by
  simp only [rS, gS, nR_q h, h, h1]
theorem ra_q {C D : CF} (h : E2 C D) (u p : Nat) : ∀ j : Nat, raC C u p j = raC D u p j ∧ raL C u p j = raL D u p j
  | 0 => ⟨rfl, rfl⟩
  | j + 1 => by
    obtain ⟨i1, i2⟩ := ra_q h u p j
    have e := e2_raS h u p j
    constructor
    · show raC C u p j + (if raG (raS C u p j) u j then rC (raS C u p j) j p else 0) = raC D u p j + (if raG (raS D u p j) u j then rC (raS D u p j) j p else 0)
      rw [i1, rC_q e.1 e.2]
      simp only [raG, dnR, e.1]
    · show raL C u p j + (if raG (raS C u p j) u j then rS (raS C u p j) j p else 0) = raL D u p j + (if raG (raS D u p j) u j then rS (raS D u p j) j p else 0)
      rw [i2, rS_q e.1 e.2]
      simp only [raG, dnR, e.1]
theorem ln_ok {C C1 : CF} (hI : Iv C) (e6 : C1 60 = C 60) (e61 : C1 61 = C 61) : C1 61 27 0 ≤ 60 ∧ ∀ j : Nat, j < C1 61 27 0 → C1 60 27 j < 128 := by
  obtain ⟨b1, b2, b3, b4, b5, b6⟩ := hI.1.2.2.2.2.2.2.2.2
  rw [e6, e61]
  refine ⟨by omega, fun j hj => ?_⟩
  rw [← b6 j (by omega)]
  exact b5 j (by omega)
/-- the room of a release -/
def RlM (C : CF) (x y : Int32) (mc ms mc7 ms7 : Nat) : Prop := (RlY C x y ∧ mc = 4 ∧ ms = 18 + lS (C 60 100 31) ∧ mc7 = 4 ∧ ms7 = gS C) ∨ (¬ RlY C x y ∧ mc = 3 ∧ ms = 18 ∧ mc7 = 0 ∧ ms7 = 0)
theorem rl_room {C : CF} (hI : Iv C) (x y : Int32) : ∃ mc ms mc7 ms7 : Nat, (3 ≤ mc ∧ 18 ≤ ms) ∧ (∀ k p : Nat, nI k = x → nI p = y → k < C 0 0 5 → p < C 0 0 4 → 0 < nR (up3 C 60 100 27 0) k p → 2 + lgC C ≤ mc ∧ 12 + lgS C ≤ ms) ∧ (∀ k p : Nat, nI k = x → nI p = y → k < C 60 100 30 → p < C 60 100 29 → rC C k p ≤ mc7 ∧ rS C k p ≤ ms7) ∧ RlM C x y mc ms mc7 ms7 := by
  have c4 : C 0 0 4 = C 60 100 29 := hI.1.1.2.1
  have c5 : C 0 0 5 = C 60 100 30 := hI.1.1.2.2.1
  have hlg := lg_eq hI.1
  have hp := lS_pot (C 60 100 31)
  by_cases h : RlY C x y
  · refine ⟨4, 18 + lS (C 60 100 31), 4, gS C, ⟨by omega, by omega⟩, fun k p _ _ _ _ _ => ?_, fun k p _ _ _ _ => ?_, Or.inl ⟨h, rfl, rfl, rfl, rfl⟩⟩
    · rw [hlg.1, hlg.2]
      omega
    · unfold rC rS gC
      constructor
      · split
        · omega
        · split <;> omega
      · split
        · omega
        · exact Nat.le_refl _
  · refine ⟨3, 18, 0, 0, ⟨by omega, by omega⟩, fun k p a b c d g => ?_, fun k p a b c d => ?_, Or.inr ⟨h, rfl, rfl, rfl, rfl⟩⟩
    · exact absurd ⟨k, p, a, b, by omega, by omega, g⟩ h
    · have g : nR C k p = 0 := by
        rcases Nat.eq_zero_or_pos (nR C k p) with z | z
        · exact z
        · exact absurd ⟨k, p, a, b, c, d, z⟩ h
      unfold rC rS
      rw [if_pos g, if_pos g]
      omega
theorem rl_room_b {C : CF} {x y : Int32} {n mc ms mc7 ms7 : Nat} (h31 : C 60 100 31 ≤ 40 * n) (hn : n ≤ 512) (h61 : C 61 21 0 ≤ 100000) (hcf : lC (C 60 100 31) ≤ 2 ∧ lS (C 60 100 31) + 4 * capF (C 60 100 31) ≤ 6 + 4 * capF (C 60 100 31 + 1) ∧ capF (C 60 100 31) ≤ capF (C 60 100 31 + 1)) (hcg : capF (C 60 100 31 + 1) ≤ 2 * (C 60 100 31 + 1) + 10) (h : RlM C x y mc ms mc7 ms7) : mc ≤ 4 ∧ ms ≤ 200000 ∧ mc7 ≤ 4 ∧ ms7 ≤ 800000 := by
  have hg : gS C ≤ 800000 := by
    unfold gS
    split <;> omega
  rcases h with ⟨-, h1, h2, h3, h4⟩ | ⟨-, h1, h2, h3, h4⟩ <;> omega
theorem rl_next {Z : Zp} {n k : Nat} {A A2 : AF} {C C2 : CF} {x y : Int32} {mc ms mc7 ms7 : Nat} (h : LI Z n A C) (hcf : lC (C 60 100 31) ≤ 2 ∧ lS (C 60 100 31) + 4 * capF (C 60 100 31) ≤ 6 + 4 * capF (C 60 100 31 + 1) ∧ capF (C 60 100 31) ≤ capF (C 60 100 31 + 1)) (hm : RlM C x y mc ms mc7 ms7) (hB : AgR Z A C x y k A2 C2) : LI Z (n + 1) A2 C2 ∧ bC n C + mc + mc7 + 10 ≤ bC (n + 1) C2 ∧ bS n C + ms + ms7 + 10 ≤ bS (n + 1) C2 := by
  obtain ⟨b1, b2, b3, b4, b5⟩ := hB
  have h31 := h.2.2
  rcases b5 with ⟨g1, g2⟩ | ⟨g1, g2, g3⟩
  · refine ⟨⟨b2, b4, by omega⟩, ?_, ?_⟩
    · unfold bC
      rcases hm with ⟨-, m1, m2, m3, m4⟩ | ⟨-, m1, m2, m3, m4⟩ <;> omega
    · unfold bS
      rw [g1, g2]
      rcases hm with ⟨-, m1, m2, m3, m4⟩ | ⟨-, m1, m2, m3, m4⟩
      · rw [m2, m4]
        unfold gS
        by_cases z : C 60 100 31 = C 61 21 0
        · rw [if_pos z, if_pos z]
          omega
        · rw [if_neg z, if_neg z]
          omega
      · by_cases z : C 60 100 31 = C 61 21 0
        · rw [if_pos z]
          omega
        · rw [if_neg z]
          omega
  · refine ⟨⟨b2, b4, by omega⟩, ?_, ?_⟩
    · unfold bC
      rcases hm with ⟨-, m1, m2, m3, m4⟩ | ⟨-, m1, m2, m3, m4⟩ <;> omega
    · unfold bS
      rw [g1, g2]
      rcases hm with ⟨m0, -⟩ | ⟨-, m1, m2, m3, m4⟩
      · exact absurd m0 g3
      · omega
/-- the room of a releaseAll -/
def RaV (C : CF) (x y : Int32) (u p : Nat) : Prop := u < C 60 100 28 ∧ nI u = x ∧ p < C 60 100 29 ∧ nI p = y
theorem RaV.eq {C : CF} (hI : Iv C) {x y : Int32} {u p u2 p2 : Nat} (h : RaV C x y u p) (h2 : RaV C x y u2 p2) : u = u2 ∧ p = p2 := by
  have oU : C 60 100 28 ≤ 6 := hI.2.1.1.1
  have oP : C 60 100 29 ≤ 4 := hI.2.1.1.2.1
  obtain ⟨a1, a2, a3, a4⟩ := h
  obtain ⟨b1, b2, b3, b4⟩ := h2
  exact ⟨nI_inj (by omega) (by omega) (a2.trans b2.symm), nI_inj (by omega) (by omega) (a4.trans b4.symm)⟩
def RaM (C : CF) (x y : Int32) (mc ms : Nat) : Prop := (∃ u p : Nat, RaV C x y u p ∧ mc = 3 + kaC (up3 C 60 100 27 0) u p (C 60 100 30) ∧ ms = 18 + kaL (up3 C 60 100 27 0) u p (C 60 100 30)) ∨ ((¬ ∃ u p : Nat, RaV C x y u p) ∧ mc = 3 ∧ ms = 18)
theorem ra_room {C : CF} (hI : Iv C) (_ : C 60 100 31 + 40 ≤ 40000) (x y : Int32) : ∃ mc ms : Nat, (3 ≤ mc ∧ 18 ≤ ms) ∧ (∀ u p : Nat, nI u = x → nI p = y → u < C 0 0 3 → p < C 0 0 4 → 2 + kaC (up3 C 60 100 27 0) u p ((up3 C 60 100 27 0) 60 100 30) ≤ mc ∧ 12 + kaL (up3 C 60 100 27 0) u p ((up3 C 60 100 27 0) 60 100 30) ≤ ms) ∧ RaM C x y mc ms := by
  have c3 : C 0 0 3 = C 60 100 28 := hI.1.1.1
  have c4 : C 0 0 4 = C 60 100 29 := hI.1.1.2.1
  rw [show (up3 C 60 100 27 0) 60 100 30 = C 60 100 30 from rfl]
  by_cases h : ∃ u p : Nat, RaV C x y u p
  · obtain ⟨u, p, h⟩ := h
    refine ⟨3 + kaC (up3 C 60 100 27 0) u p (C 60 100 30), 18 + kaL (up3 C 60 100 27 0) u p (C 60 100 30), ⟨by omega, by omega⟩, fun u2 p2 a1 a2 a3 a4 => ?_, Or.inl ⟨u, p, h, rfl, rfl⟩⟩
    obtain ⟨q1, q2⟩ := h.eq hI (u2 := u2) (p2 := p2) ⟨by omega, a1, by omega, a2⟩
    subst q1 q2
    omega
  · exact ⟨3, 18, ⟨by omega, by omega⟩, fun u2 p2 a1 a2 a3 a4 => absurd ⟨u2, p2, by omega, a1, by omega, a2⟩ h, Or.inr ⟨h, rfl, rfl⟩⟩
def RaM7 (C : CF) (x y : Int32) (mc7 ms7 : Nat) : Prop := (∃ u p : Nat, RaV C x y u p ∧ mc7 = raC (up3 C 60 100 27 0) u p (C 60 100 30) ∧ ms7 = raL (up3 C 60 100 27 0) u p (C 60 100 30)) ∨ ((¬ ∃ u p : Nat, RaV C x y u p) ∧ mc7 = 0 ∧ ms7 = 0)
theorem ra_room7 {C C1 : CF} (hI : Iv C) (e6 : C1 60 = C 60) (e61 : C1 61 = C 61) (_ : C 60 100 31 + 40 ≤ 40000) (x y : Int32) : ∃ mc7 ms7 : Nat, (∀ u p : Nat, nI u = x → nI p = y → u < C1 60 100 28 → p < C1 60 100 29 → raC (up3 C1 60 100 27 0) u p (C1 60 100 30) ≤ mc7 ∧ raL (up3 C1 60 100 27 0) u p (C1 60 100 30) ≤ ms7) ∧ RaM7 C x y mc7 ms7 := by
  have hE : E2 (up3 C1 60 100 27 0) (up3 C 60 100 27 0) := e2_up ⟨e6, e61⟩ rfl rfl rfl
  rw [e6]
  by_cases h : ∃ u p : Nat, RaV C x y u p
  · obtain ⟨u, p, h⟩ := h
    refine ⟨raC (up3 C 60 100 27 0) u p (C 60 100 30), raL (up3 C 60 100 27 0) u p (C 60 100 30), fun u2 p2 a1 a2 a3 a4 => ?_, Or.inl ⟨u, p, h, rfl, rfl⟩⟩
    obtain ⟨q1, q2⟩ := h.eq hI (u2 := u2) (p2 := p2) ⟨a3, a1, a4, a2⟩
    subst q1 q2
    rw [(ra_q hE u p _).1, (ra_q hE u p _).2]
    exact ⟨Nat.le_refl _, Nat.le_refl _⟩
  · exact ⟨0, 0, fun u2 p2 a1 a2 a3 a4 => absurd ⟨u2, p2, a3, a1, a4, a2⟩ h, Or.inr ⟨h, rfl, rfl⟩⟩
theorem ra_bound {C : CF} (hI : Iv C) (hlg : C 60 100 31 + 40 ≤ 40000) {x y : Int32} {u p : Nat} (h : RaV C x y u p) : raS (up3 C 60 100 27 0) u p (C 60 100 30) 61 21 0 ≤ 100000 ∧ C 60 100 30 ≤ 40 := by
  obtain ⟨kS, kM, kL⟩ := keep_th hI.1 hI.2.1 hI.2.2 0
  have hO := raS_ok (u := u) (p := p) kM (by show p < C 60 100 29; exact h.2.2.1) hlg (C 60 100 30) (Nat.le_refl _)
  exact ⟨hO.1.2.1.2.1, hI.2.1.1.2.2.1⟩
theorem ra_room_b0 {C : CF} (hI : Iv C) {x y : Int32} {n mc ms : Nat} (h31 : C 60 100 31 ≤ 40 * n) (hn : n ≤ 512) (h : RaM C x y mc ms) : mc ≤ 100 ∧ ms ≤ 400000 := by
  rcases h with ⟨u, p, hV, h1, h2⟩ | ⟨-, h1, h2⟩
  · have hb := ra_bound hI (by omega) hV
    have hp := ra_pot (D := up3 C 60 100 27 0) (u := u) (p := p) (C 60 100 30)
    rw [show (up3 C 60 100 27 0) 60 100 31 = C 60 100 31 from rfl] at hp
    have hc := (capF_ok (raS (up3 C 60 100 27 0) u p (C 60 100 30) 60 100 31)).2.1
    omega
  · omega
theorem ra_room_b {C : CF} (hI : Iv C) {x y : Int32} {n mc ms mc7 ms7 : Nat} (h31 : C 60 100 31 ≤ 40 * n) (hn : n ≤ 512) (h : RaM C x y mc ms) (h7 : RaM7 C x y mc7 ms7) : mc ≤ 100 ∧ ms ≤ 400000 ∧ mc7 ≤ 200 ∧ ms7 ≤ 800000 := by
  constructor
  · rcases h with ⟨u, p, hV, h1, h2⟩ | ⟨-, h1, h2⟩
    · have hb := ra_bound hI (by omega) hV
      have hp := ra_pot (D := up3 C 60 100 27 0) (u := u) (p := p) (C 60 100 30)
      rw [show (up3 C 60 100 27 0) 60 100 31 = C 60 100 31 from rfl] at hp
      omega
    · omega
  · constructor
    · rcases h with ⟨u, p, hV, h1, h2⟩ | ⟨-, h1, h2⟩
      · have hb := ra_bound hI (by omega) hV
        have hp := ra_pot (D := up3 C 60 100 27 0) (u := u) (p := p) (C 60 100 30)
        rw [show (up3 C 60 100 27 0) 60 100 31 = C 60 100 31 from rfl] at hp
        have hc := (capF_ok (raS (up3 C 60 100 27 0) u p (C 60 100 30) 60 100 31)).2.1
        omega
      · omega
    · rcases h7 with ⟨u, p, hV, h1, h2⟩ | ⟨-, h1, h2⟩
      · have hb := ra_bound hI (by omega) hV
        have hp := ra_pot (D := up3 C 60 100 27 0) (u := u) (p := p) (C 60 100 30)
        rw [show (up3 C 60 100 27 0) 60 100 31 = C 60 100 31 from rfl] at hp
        omega
      · omega
theorem ra_next {Z : Zp} {n k : Nat} {A A2 : AF} {C C1 C2 : CF} {x y : Int32} {mc ms mc7 ms7 : Nat} (h : LI Z n A C) (hn : n ≤ 512) (hm : RaM C x y mc ms) (hm7 : RaM7 C x y mc7 ms7) (hB : AgA Z A C x y k A2 C1 C2) : LI Z (n + 1) A2 C2 ∧ bC n C + mc + mc7 + 10 ≤ bC (n + 1) C2 ∧ bS n C + ms + ms7 + 10 ≤ bS (n + 1) C2 := by
  obtain ⟨b1, b2, b3, b4, b5⟩ := hB
  have h31 := h.2.2
  rcases b5 with ⟨u, p, g1, g2, g3, g4, g5, g6⟩ | ⟨g1, g2, g3⟩
  · have hV : RaV C x y u p := ⟨g1, g2, g3, g4⟩
    have hb := ra_bound h.1 (by omega) hV
    have hp := ra_pot (D := up3 C 60 100 27 0) (u := u) (p := p) (C 60 100 30)
    rw [show (up3 C 60 100 27 0) 60 100 31 = C 60 100 31 from rfl, show (up3 C 60 100 27 0) 61 21 0 = C 61 21 0 from rfl, ← g5, ← g6] at hp
    obtain ⟨m1, m2⟩ : mc = 3 + kaC (up3 C 60 100 27 0) u p (C 60 100 30) ∧ ms = 18 + kaL (up3 C 60 100 27 0) u p (C 60 100 30) := by
      rcases hm with ⟨u2, p2, t1, t2, t3⟩ | ⟨t1, -⟩
      · obtain ⟨q1, q2⟩ := hV.eq h.1 t1
        subst q1 q2
        exact ⟨t2, t3⟩
      · exact absurd ⟨u, p, hV⟩ t1
    obtain ⟨m3, m4⟩ : mc7 = raC (up3 C 60 100 27 0) u p (C 60 100 30) ∧ ms7 = raL (up3 C 60 100 27 0) u p (C 60 100 30) := by
      rcases hm7 with ⟨u2, p2, t1, t2, t3⟩ | ⟨t1, -⟩
      · obtain ⟨q1, q2⟩ := hV.eq h.1 t1
        subst q1 q2
        exact ⟨t2, t3⟩
      · exact absurd ⟨u, p, hV⟩ t1
    refine ⟨⟨b2, b4, by omega⟩, ?_, ?_⟩
    · unfold bC
      omega
    · unfold bS
      omega
  · obtain ⟨m1, m2⟩ : mc = 3 ∧ ms = 18 := by
      rcases hm with ⟨u2, p2, t1, t2, t3⟩ | ⟨-, t1, t2⟩
      · exact absurd ⟨u2, p2, t1⟩ g3
      · exact ⟨t1, t2⟩
    obtain ⟨m3, m4⟩ : mc7 = 0 ∧ ms7 = 0 := by
      rcases hm7 with ⟨u2, p2, t1, t2, t3⟩ | ⟨-, t1, t2⟩
      · exact absurd ⟨u2, p2, t1⟩ g3
      · exact ⟨t1, t2⟩
    refine ⟨⟨b2, b4, by omega⟩, ?_, ?_⟩
    · unfold bC
      omega
    · unfold bS
      rw [g1, g2]
      omega
end LAWROOM
