section RELX
def AO (A : AF) (a : Nat → Nat) (d : Nat) : AF := fun kk ii => if kk = 13 then a ii else if kk = 7 ∧ ii = 0 then d else A kk ii
theorem AO_self (A : AF) : AO A (A 13) (A 7 0) = A := by
  funext kk ii
  unfold AO
  split
  · rename_i h
    rw [h]
  · split
    · rename_i h
      rw [h.1, h.2]
    · rfl
theorem AL_AO (A : AF) (a : Nat → Nat) (d e y d2 : Nat) : AL (AO A a d) e y d2 = AO A (fun i => if i = e then y else a i) d2 := by
  funext kk ii
  unfold AL AO
  by_cases h1 : kk = 13
  · subst h1
    by_cases h2 : ii = e
    · rw [if_pos ⟨rfl, h2⟩, if_pos rfl]
      show y = if ii = e then y else a ii
      rw [if_pos h2]
    · rw [if_neg (fun z => h2 z.2), if_neg (fun z => absurd z.1 (by decide)), if_pos rfl, if_pos rfl]
      show a ii = if ii = e then y else a ii
      rw [if_neg h2]
  · rw [if_neg (fun z => h1 z.1), if_neg h1, if_neg h1]
    by_cases h3 : kk = 7 ∧ ii = 0
    · rw [if_pos h3, if_pos h3]
    · rw [if_neg h3, if_neg h3, if_neg h3]
theorem AL_A (A : AF) (e y d2 : Nat) : AL A e y d2 = AO A (fun i => if i = e then y else A 13 i) d2 := by
  have h := AL_AO A (A 13) (A 7 0) e y d2
  rw [AO_self] at h
  exact h
theorem AO_AO (A : AF) (a a2 : Nat → Nat) (d d2 : Nat) : AO (AO A a d) a2 d2 = AO A a2 d2 := by
  funext kk ii
  unfold AO
  split
  · rfl
  · split <;> rfl
def lC (n : Nat) : Nat := 1 + if n = capF n then 1 else 0
def lS (n : Nat) : Nat := 6 + if n = capF n then capN (capF n) n else 0
theorem lg_eq {D C : CF} (hS : Sm D C) : lgC C = lC (D 60 100 31) ∧ lgS C = lS (D 60 100 31) := by
  obtain ⟨sl, sc⟩ := hS.2.2.2.2.2.1
  unfold lgC lgS lC lS
  rw [sl, sc]
  exact ⟨rfl, rfl⟩
theorem lS_pot (n : Nat) : lC n ≤ 2 ∧ lS n + 4 * capF n ≤ 6 + 4 * capF (n + 1) ∧ capF n ≤ capF (n + 1) := by
  have h := capF_ok n
  have e : capF (n + 1) = capN (capF n) n := rfl
  unfold lC lS
  rw [e]
  unfold capN
  by_cases h1 : n = capF n
  · rw [if_pos h1, if_pos h1, if_pos h1]
    by_cases h2 : capF n = 0
    · rw [if_pos h2]
      omega
    · rw [if_neg h2]
      omega
  · rw [if_neg h1, if_neg h1, if_neg h1]
    omega
theorem Sm.sc {D D2 C : CF} (h : Sc D D2) (hS : Sm D C) : Sm D2 C := by
  obtain ⟨x0, x1, x2, b, c, q, rfl, -⟩ := h
  exact hS
theorem pgU_c {D D2 : CF} (h : Sc D D2) (u : Nat) : ∀ n : Nat, pgU D2 u n = pgU D u n
  | 0 => rfl
  | n + 1 => by
    have e := pgU_c h u n
    obtain ⟨x0, x1, x2, b, c, q, rfl, -⟩ := h
    show pgU _ u n + (if D 60 16 (D 60 21 n) = u then D 60 23 n else 0) = pgU D u n + _
    rw [e]
theorem pgJ_c {D D2 : CF} (h : Sc D D2) (u : Nat) : ∀ n : Nat, pgJ D2 u n = pgJ D u n
  | 0 => rfl
  | n + 1 => by
    have e := pgJ_c h u n
    obtain ⟨x0, x1, x2, b, c, q, rfl, -⟩ := h
    show pgJ _ u n + (if D 60 21 n = u then D 60 23 n else 0) = pgJ D u n + _
    rw [e]
theorem OkL.sc {D D2 : CF} (h : Sc D D2) (hL : OkL D) : OkL D2 := by
  obtain ⟨l1, l2, l3, l4, l5, l6, l7⟩ := hL
  have hu := pgU_c h
  have hj := pgJ_c h
  obtain ⟨x0, x1, x2, b, c, q, rfl, -⟩ := h
  exact ⟨l1, fun u => (hu u _).trans (l2 u), fun k hk => (hj k _).trans (l3 k hk), l4, l5, l6, l7⟩
theorem K_6 (D C : CF) (k p n : Nat) : rlK D C k p n 6 0 3 = PT D k n ∧ rlK D C k p n 6 0 9 = coR D k p n := ⟨rfl, rfl⟩
/-- behind a release of a job: the class shows what the model shows -/
theorem rl_all {D C : CF} (hS : Sm D C) (hM : OkM D) (hL : OkL D) {k p : Nat} (hk : k < D 60 100 30) (hp : p < D 60 100 29) (hlg : D 60 100 31 + 1 ≤ 40000) : OkM (rlR D k p) ∧ OkL (rlR D k p) ∧ (0 < nR D k p → Sm (rlR D k p) (rlK D C k p (nR D k p)) ∧ rlR D k p 60 100 31 = D 60 100 31 + 1) ∧ (nR D k p = 0 → ∀ w : Nat → Nat, Sm (rlR D k p) (P6 C w) ∧ rlR D k p 60 100 31 = D 60 100 31) := by
  have hR := hM.1.rk hk hp
  have hF := nR_FR hR
  refine ⟨(hM.rl hk hp hlg).1, ?_, fun h => ⟨(hS.rl hM hL hk hp hF h).1, (rl_tab hM hR hF h).2.2.2.2.2.2.2.2.2.2.2.2.2.2.2.2.2.2.2.2.2.2.2.1.2.2.2.1⟩, fun h w => ?_⟩
  · by_cases h : nR D k p = 0
    · unfold rlR
      rw [if_pos h]
      exact hL.sc (TrS_Sc hM.1.2.2.2.2.1)
    · exact (hS.rl hM hL hk hp hF (by omega)).2
  · unfold rlR
    rw [if_pos h]
    exact ⟨Sm.sc (TrS_Sc hM.1.2.2.2.2.1) (sm_P hS), rfl⟩
def kaC (D : CF) (u p : Nat) : Nat → Nat
  | 0 => 0
  | j + 1 => kaC D u p j + if raG (raS D u p j) u j ∧ 0 < nR (raS D u p j) j p then lC (raS D u p j 60 100 31) else 0
def kaL (D : CF) (u p : Nat) : Nat → Nat
  | 0 => 0
  | j + 1 => kaL D u p j + if raG (raS D u p j) u j ∧ 0 < nR (raS D u p j) j p then lS (raS D u p j 60 100 31) else 0
theorem ka_mono (D : CF) (u p i : Nat) : ∀ d : Nat, kaC D u p i ≤ kaC D u p (i + d) ∧ kaL D u p i ≤ kaL D u p (i + d)
  | 0 => ⟨Nat.le_refl _, Nat.le_refl _⟩
  | d + 1 => ⟨Nat.le_trans (ka_mono D u p i d).1 (Nat.le_add_right _ _), Nat.le_trans (ka_mono D u p i d).2 (Nat.le_add_right _ _)⟩
end RELX
