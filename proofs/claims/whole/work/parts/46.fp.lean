section FPX
theorem fp_n64 {r : UInt64} (h : Jvm.FP.Core.dIsNaN r = false) : vf_n64 r := by
  have h2 := (Jvm.FP.Core.ne_nan r).mp ((Jvm.FP.Core.notNaN_iff r).mp h)
  unfold vf_n64
  rw [UInt64.le_iff_toNat_le, UInt64.toNat_and]
  rw [show (9223372036854775807 : UInt64).toNat = 2 ^ 63 - 1 from rfl, Nat.and_two_pow_sub_one_eq_mod]
  exact h2
theorem fp_n32 {r : UInt32} (h : Jvm.FP.Core.fIsNaN r = false) : vf_n32 r := by
  have h2 := (Jvm.FP.Core.ne_nan32 r).mp ((Jvm.FP.Core.notNaN_iff32 r).mp h)
  unfold vf_n32
  rw [UInt32.le_iff_toNat_le, UInt32.toNat_and]
  rw [show (2147483647 : UInt32).toNat = 2 ^ 31 - 1 from rfl, Nat.and_two_pow_sub_one_eq_mod]
  exact h2
theorem fp_nz {b : Nat} (h : 0 < b) (h2 : b < 2 ^ 31) : nI b ≠ 0 := fun z => by have := (nI_z h2).mp z; omega
theorem fp_ddiv {a b : Nat} (h : 0 < b) (h2 : b < 2 ^ 31) : vf_n64 (FP.ddiv (FP.i2d (nI a)) (FP.i2d (nI b))) :=
  fp_n64 (Jvm.FP.Core.ddiv_out (Jvm.FP.Core.i2d_fin (nI a)).notNaN (Jvm.FP.Core.i2d_fin (nI b)) (fun z => Jvm.FP.Core.i2d_ne_zero (fp_nz h h2) ((Jvm.FP.Core.zero_bits2 _).mp z)))
theorem fp_fdiv {a b : Nat} (h : 0 < b) (h2 : b < 2 ^ 31) : vf_n32 (FP.fdiv (FP.i2f (nI a)) (FP.i2f (nI b))) :=
  fp_n32 (Jvm.FP.Core.fdiv_out (Jvm.FP.Core.i2f_fin (nI a)).notNaN (Jvm.FP.Core.i2f_fin (nI b)) (fun z => Jvm.FP.Core.i2f_ne_zero (fp_nz h h2) ((Jvm.FP.Core.zero_bits232 _).mp z)))
theorem ouN_th {C : CF} {b v : Nat} : ∀ n : Nat, ouN (up3 C 60 100 27 v) b n = ouN C b n
  | 0 => rfl
  | n + 1 => by
    unfold ouN
    rw [ouN_th n]
    rfl
end FPX
