section START
theorem start_sm (g : Nat → Nat) : Sm (C01 g) (C01 g) := by
  refine ⟨⟨rfl, rfl, rfl, rfl, rfl, rfl⟩, fun u hu => absurd hu (Nat.not_lt_zero u), fun p hp => absurd hp (Nat.not_lt_zero p), fun p t hp _ => absurd hp (Nat.not_lt_zero p), fun k hk => absurd hk (Nat.not_lt_zero k), ⟨rfl, rfl⟩, fun e he => absurd he (Nat.not_lt_zero e), fun u hu => absurd hu (Nat.not_lt_zero u), ⟨rfl, Nat.zero_le _, Nat.zero_le _, Or.inl rfl, fun j _ => ?_, fun j hj => absurd hj (Nat.not_lt_zero j)⟩⟩
  show (0 : Nat) < 128
  decide
theorem start_okr (g : Nat → Nat) : OkR (C01 g) := by
  unfold OkR
  refine ⟨Nat.zero_le _, Nat.zero_le _, Nat.zero_le _, fun _ => Nat.zero_le _, fun _ => Nat.zero_le _, fun _ => ?_, fun _ => ?_, fun _ => ?_, fun _ => ?_, fun _ => ?_, fun _ => ?_, fun _ => ?_, fun _ => ?_, fun _ => Nat.zero_le _, fun _ => Nat.zero_le _, fun _ => Nat.zero_le _, fun _ => Nat.zero_le _, fun _ => Nat.zero_le _, fun k hk => absurd hk (Nat.not_lt_zero k), ?_, ?_, ?_, Nat.zero_le _, fun _ => Nat.zero_le _, ?_, rfl, rfl, rfl, Nat.zero_le _, fun _ => ?_, fun _ => ?_, fun _ => Nat.zero_le _, fun _ => Nat.zero_le _⟩
  · show (0 : Nat) < 65536
    decide
  · show (0 : Nat) < 65536
    decide
  · show (0 : Nat) < 65536
    decide
  · show (0 : Nat) < 2
    decide
  · show (0 : Nat) < 2
    decide
  · show (0 : Nat) < 2
    decide
  · show (0 : Nat) < 2
    decide
  · show (0 : Nat) < 2
    decide
  · show (2 : Nat) ≤ 99
    decide
  · show (9 : Nat) ≤ 99
    decide
  · show (1 : Nat) ≤ 99
    decide
  · show (64 : Nat) ≤ 100000
    decide
  · show (0 : Nat) < 40
    decide
  · show (0 : Nat) < 4
    decide
theorem start_okm (g : Nat → Nat) : OkM (C01 g) := by
  refine ⟨start_okr g, ⟨?_, ?_, rfl, rfl, rfl, Nat.zero_le _, Nat.zero_le _⟩, fun _ => Nat.zero_le _, fun k hk => absurd hk (Nat.not_lt_zero k)⟩
  · show (1 : Nat) ≤ 64
    decide
  · show (64 : Nat) ≤ 100000
    decide
theorem start_okl (g : Nat → Nat) : OkL (C01 g) :=
  ⟨fun e he => absurd he (Nat.not_lt_zero e), fun _ => rfl, fun k hk => absurd hk (Nat.not_lt_zero k), fun _ _ => rfl, fun _ _ => ⟨rfl, rfl, rfl, rfl⟩, fun _ _ => rfl, fun _ => Nat.zero_le _⟩
end START
