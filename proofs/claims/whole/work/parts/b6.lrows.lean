section LAWNUM
/-- a flag, a letter of the script -/
def bz (x : Int32) : Nat := if x = 0 then 0 else 1
def cz (x : Int32) : Nat := (x.toUInt32 % 65536).toNat
theorem bz_lt (x : Int32) : bz x < 2 := by
  unfold bz
  split <;> omega
theorem cz_lt (x : Int32) : cz x < 65536 := by
  unfold cz
  rw [UInt32.toNat_mod]
  exact Nat.mod_lt _ (by decide)
theorem cz_nI (x : Int32) : (x.toUInt32 % 65536).toInt32 = nI (cz x) := by
  unfold cz nI
  generalize x.toUInt32 % 65536 = u
  exact (Int32.ofNat_bitVecToNat u.toBitVec).symm
theorem lg_self (x : Int64) : lg_cmp x x = nI 0 := (lg_cmp_eq x x).mpr rfl
theorem dc0 {x : UInt64} (h : Jvm.FP.Core.dIsNaN x = false) (op : CmpOp) : Op.cmpValue (FP.dcmp x x) op = nI 0 := by
  rw [show FP.dcmp x x = some .eq from Jvm.FP.Core.dcmp_self ((Jvm.FP.Core.notNaN_iff x).mp h)]
  cases op <;> rfl
/-- what stands at the law's loop: n calls are done -/
def LI (Z : Zp) (n : Nat) (A : AF) (C : CF) : Prop := Iv C ∧ (C 7 100 0 = 0 → A 7 0 = zD Z) ∧ C 60 100 31 ≤ 40 * n
def bC (n : Nat) (C : CF) : Nat := 100 + 60 * n + 6 * C 60 100 31
def bS (n : Nat) (C : CF) : Nat := 3000 + 2500 * n + 6 * C 60 100 31 + 4 * capF (C 60 100 31) + 8 * C 61 21 0
theorem LI.cap {Z : Zp} {n : Nat} {A : AF} {C : CF} (h : LI Z n A C) (hn : n ≤ 512) : bC n C + 200000 ≤ room_1.cells ∧ bS n C + 2000000 ≤ room_1.slots := by
  have h1 := h.2.2
  have h2 := (capF_ok (C 60 100 31)).2.1
  have h3 := h.1.2.1.2.1.2.1
  rw [show room_1.cells = 678332 from rfl, show room_1.slots = 6993525 from rfl]
  unfold bC bS
  omega
theorem LI.next {Z : Zp} {n k : Nat} {A A2 : AF} {C C2 : CF} (h : LI Z n A C) (hB : AgB A C k A2 C2) : LI Z (n + 1) A2 C2 ∧ bC n C + 60 ≤ bC (n + 1) C2 ∧ bS n C + 2500 ≤ bS (n + 1) C2 := by
  obtain ⟨b1, b2, b3, b4, b5⟩ := hB
  refine ⟨⟨b2, fun z => ?_, by have := h.2.2; omega⟩, ?_, ?_⟩
  · rw [b3.2]
    exact h.2.1 (by rw [h.1.c7, ← b4, ← b2.c7]; exact z)
  · unfold bC
    omega
  · unfold bS
    rw [b4, b5]
    omega
end LAWNUM
section LAWROWS
variable {Z : Zp} {p : Program} {l : Launch} {e : Env} {s : State} {m : MethodId} {args : Array Value} {below : List Frame} {meth : Method} {c : Code} {Q : State → Prop} {cells slots : Nat} {M0 : Wd} {A : AF} {C : CF} {pc : Nat} {L : List (Nat × Value)} {st : List Value} {b N n : Nat} {xs : Nat → Int32}
abbrev LGS (Z : Zp) (p : Program) (l : Launch) (e : Env) (s : State) (m : MethodId) (args : Array Value) (below : List Frame) (meth : Method) (c : Code) (Q : State → Prop) (cells slots : Nat) (M0 : Wd) (A : AF) (C : CF) (pc : Nat) (L : List (Nat × Value)) (st : List Value) : Prop := GS Z p l e room_1 s m args below meth c Q cells slots 9 M0 A C pc L st
/-- the law's locals -/
abbrev Ll (b n : Nat) (A : AF) : List (Nat × Value) := [(5, .int (nI (7 * n))), (0, .ref b), (1, .ref (A 0 0)), (2, .ref (A 60 100)), (3, .ref (A 70 0)), (4, .ref (A 70 1))]
theorem ll_st {b n : Nat} {A A2 : AF} (h : St4 A A2) : Ll b n A = Ll b n A2 := by
  unfold Ll
  rw [h.1, h.2.1, h.2.2.1, h.2.2.2]
theorem law_arg (S : CallFix p m c cL_law 9 s args wsL_law RL) (hX : Scr b N xs Z s) {j : Nat} {i : Int} (i0 i5 : Nat) (hj : 7 * n + j < N) (hN : N ≤ 3584) (hi : Int32.ofInt i = nI j) (h0 : L[i0]? = some (0, .ref b)) (h5 : L[i5]? = some (5, .int (nI (7 * n)))) (d0 : decode cL_law pc = .ok (.aload_n 0, 1)) (d1 : decode cL_law (pc + 1) = .ok (.iload 5, 2)) (d3 : decode cL_law (pc + 1 + 2) = .ok (.iconst i, 1)) (d4 : decode cL_law (pc + 1 + 2 + 1) = .ok (.iadd, 1)) (d5 : decode cL_law (pc + 1 + 2 + 1 + 1) = .ok (.iaload, 1))
    (k : LGS Z p l e s m args below meth c Q cells slots M0 A C (pc + 1 + 2 + 1 + 1 + 1) L (.int (xs (7 * n + j)) :: st)) : LGS Z p l e s m args below meth c Q cells slots M0 A C pc L st := by
  refine s_aload_n S i0 d0 rfl h0 ?_
  refine s_iload S i5 d1 h5 ?_
  refine s_iconst S d3 hi ?_
  refine s_iaddN S d4 ?_
  exact s_sld S hX hj (by omega) d5 k
theorem law_argB (S : CallFix p m c cL_law 9 s args wsL_law RL) (hX : Scr b N xs Z s) {j : Nat} {i : Int} (i0 i5 : Nat) (hj : 7 * n + j < N) (hN : N ≤ 3584) (hi : (Int8.ofInt i).toInt32 = nI j) (h0 : L[i0]? = some (0, .ref b)) (h5 : L[i5]? = some (5, .int (nI (7 * n)))) (d0 : decode cL_law pc = .ok (.aload_n 0, 1)) (d1 : decode cL_law (pc + 1) = .ok (.iload 5, 2)) (d3 : decode cL_law (pc + 1 + 2) = .ok (.bipush i, 2)) (d4 : decode cL_law (pc + 1 + 2 + 2) = .ok (.iadd, 1)) (d5 : decode cL_law (pc + 1 + 2 + 2 + 1) = .ok (.iaload, 1))
    (k : LGS Z p l e s m args below meth c Q cells slots M0 A C (pc + 1 + 2 + 2 + 1 + 1) L (.int (xs (7 * n + j)) :: st)) : LGS Z p l e s m args below meth c Q cells slots M0 A C pc L st := by
  refine s_aload_n S i0 d0 rfl h0 ?_
  refine s_iload S i5 d1 h5 ?_
  refine s_bipush S d3 hi ?_
  refine s_iaddN S d4 ?_
  exact s_sld S hX hj (by omega) d5 k
theorem law_bool (S : CallFix p m c cL_law 9 s args wsL_law RL) {x : Int32} (d0 : decode cL_law pc = .ok (.ifCond .eq 7, 3)) (d3 : decode cL_law (pc + 3) = .ok (.iconst 1, 1)) (d4 : decode cL_law (pc + 3 + 1) = .ok (.goto 4, 3)) (d7 : decode cL_law (pc + 7) = .ok (.iconst 0, 1))
    (k : LGS Z p l e s m args below meth c Q cells slots M0 A C (pc + 8) L (.int (nI (bz x)) :: st)) : LGS Z p l e s m args below meth c Q cells slots M0 A C pc L (.int x :: st) := by
  refine s_if_eq S (pc + 7) d0 (by omega) (fun h => ?_) (fun h => ?_)
  · refine s_iconst S (v := nI 0) d7 (by decide) ?_
    rw [show bz x = 0 from if_pos h] at k
    exact k
  · refine s_iconst S (v := nI 1) d3 (by decide) ?_
    refine s_goto S (pc + 8) d4 (by omega) ?_
    rw [show bz x = 1 from if_neg h] at k
    exact k
theorem law_char (S : CallFix p m c cL_law 9 s args wsL_law RL) {x : Int32} (d0 : decode cL_law pc = .ok (.i2c, 1)) (k : LGS Z p l e s m args below meth c Q cells slots M0 A C (pc + 1) L (.int (nI (cz x)) :: st)) : LGS Z p l e s m args below meth c Q cells slots M0 A C pc L (.int x :: st) :=
  s_i2c S d0 (cz_nI x) k
/-- behind both calls: what was thrown is compared -/
theorem law_thr (S : CallFix p m c cL_law 9 s args wsL_law RL) (hz : Stat Z s) (hml : c.maxLocals = 9) {k : Nat} {v7 : Value} (hk : C 60 100 27 = k) (hk3 : k ≤ 3) (hf : cells ≤ room_1.cells ∧ slots ≤ room_1.slots) (off : Int) (q t : Nat) (hq : pc + 16 = q) (ht : ((pc + 13 : Nat) : Int) + off = (t : Int)) (d0 : decode cL_law pc = .ok (.aload_n 2, 1)) (d1 : decode cL_law (pc + 1) = .ok (.invokevirtual 172, 3)) (d4 : decode cL_law (pc + 4) = .ok (.iload 6, 2)) (d6 : decode cL_law (pc + 6) = .ok (.if_icmp .eq 5, 3)) (d11 : decode cL_law (pc + 11) = .ok (.iload 6, 2)) (d13 : decode cL_law (pc + 13) = .ok (.ifCond .ne off, 3))
    (kt : ¬ k = 0 → LGS Z p l e s m args below meth c Q cells slots M0 A C t ((7, v7) :: (6, .int (nI k)) :: Ll b n A) []) (kf : k = 0 → LGS Z p l e s m args below meth c Q cells slots M0 A C q ((7, v7) :: (6, .int (nI k)) :: Ll b n A) []) : LGS Z p l e s m args below meth c Q cells slots M0 A C pc ((7, v7) :: (6, .int (nI k)) :: Ll b n A) [] := by
  subst hq
  refine s_aload_n S 5 d0 rfl rfl ?_
  refine s_callV S hz hml [] (k_X7_thrown Z l A C) (cwV 0 S.2.2.2.2 gL_law_X7_thrown rfl rfl rfl (by decide +kernel) ⟨Nat.le_of_ble_eq_true rfl, Nat.le_of_ble_eq_true rfl⟩) (cc_mod (A := A) (C := C)) rfl rfl rfl (Nat.le_of_ble_eq_true rfl) d1 hf (fun _ _ _ h => h.elim) (fun v A2 C2 h => ?_)
  obtain ⟨rfl, rfl, rfl⟩ := h
  refine s_iload S 1 d4 rfl ?_
  refine s_icmp_eqN S (pc + 11) d6 (by omega) (by omega) (by omega) (fun _ => ?_) (fun h => absurd hk h)
  refine s_iload S 1 d11 rfl ?_
  exact s_if_neN S t d13 ht (by omega) kt kf
/-- the end of a call whose answer is an int -/
theorem law_tl (S : CallFix p m c cL_law 9 s args wsL_law RL) (hz : Stat Z s) (hml : c.maxLocals = 9) {k : Nat} {v7 : Int32} (hk : C 60 100 27 = k) (hk3 : k ≤ 3) (hv : k = 0 → lN (C 70 0 0) = v7.toInt64) (hf : cells ≤ room_1.cells ∧ slots ≤ room_1.slots) (off : Int) (d0 : decode cL_law pc = .ok (.aload_n 2, 1)) (d1 : decode cL_law (pc + 1) = .ok (.invokevirtual 172, 3)) (d4 : decode cL_law (pc + 4) = .ok (.iload 6, 2)) (d6 : decode cL_law (pc + 6) = .ok (.if_icmp .eq 5, 3)) (d11 : decode cL_law (pc + 11) = .ok (.iload 6, 2)) (d13 : decode cL_law (pc + 13) = .ok (.ifCond .ne 15, 3)) (d16 : decode cL_law (pc + 16) = .ok (.aload_n 3, 1)) (d17 : decode cL_law (pc + 17) = .ok (.iconst 0, 1)) (d18 : decode cL_law (pc + 18) = .ok (.laload, 1)) (d19 : decode cL_law (pc + 19) = .ok (.iload 7, 2)) (d21 : decode cL_law (pc + 21) = .ok (.i2l, 1)) (d22 : decode cL_law (pc + 22) = .ok (.lcmp, 1)) (d23 : decode cL_law (pc + 23) = .ok (.ifCond .eq 5, 3)) (d28 : decode cL_law (pc + 28) = .ok (.goto off, 3)) (ht : ((pc + 28 : Nat) : Int) + off = ((3146 : Nat) : Int))
    (kk : LGS Z p l e s m args below meth c Q cells slots M0 A C 3146 (Ll b n A) []) : LGS Z p l e s m args below meth c Q cells slots M0 A C pc ((7, .int v7) :: (6, .int (nI k)) :: Ll b n A) [] := by
  have out : LGS Z p l e s m args below meth c Q cells slots M0 A C (pc + 28) ((7, .int v7) :: (6, .int (nI k)) :: Ll b n A) [] := by
    refine s_goto S 3146 d28 ht ?_
    exact s_perm [2, 3, 4, 5, 6, 7] (Ll b n A) rfl kk
  refine law_thr S hz hml hk hk3 hf 15 (pc + 16) (pc + 28) rfl (by omega) d0 d1 d4 d6 d11 d13 (fun _ => out) (fun h => ?_)
  refine s_aload_n S 6 d16 rfl rfl ?_
  refine s_iconst S (v := nI 0) d17 (by decide) ?_
  refine s_lald S hz (x := lN (C 70 0 0)) (cc_out (A := A) (C := C)) (by decide) (by decide) rfl d18 ?_
  refine s_iload S 0 d19 rfl ?_
  refine s_i2l S (v := v7.toInt64) d21 rfl ?_
  refine s_lcmp S d22 ?_
  refine s_top (u := .int (nI 0)) (by rw [hv h, lg_self]) ?_
  exact s_if_eqN S (pc + 28) d23 (by omega) (by omega) (fun _ => out) (fun h => absurd rfl h)
/-- the end of a call whose answer is a flag -/
theorem law_tlZ (S : CallFix p m c cL_law 9 s args wsL_law RL) (hz : Stat Z s) (hml : c.maxLocals = 9) {k : Nat} {v7 : Int32} (hk : C 60 100 27 = k) (hk3 : k ≤ 3) (hv : k = 0 → lN (C 70 0 0) = if v7 = 0 then lN 0 else lN 1) (hf : cells ≤ room_1.cells ∧ slots ≤ room_1.slots) (off : Int) (d0 : decode cL_law pc = .ok (.aload_n 2, 1)) (d1 : decode cL_law (pc + 1) = .ok (.invokevirtual 172, 3)) (d4 : decode cL_law (pc + 4) = .ok (.iload 6, 2)) (d6 : decode cL_law (pc + 6) = .ok (.if_icmp .eq 5, 3)) (d11 : decode cL_law (pc + 11) = .ok (.iload 6, 2)) (d13 : decode cL_law (pc + 13) = .ok (.ifCond .ne 22, 3)) (d16 : decode cL_law (pc + 16) = .ok (.aload_n 3, 1)) (d17 : decode cL_law (pc + 17) = .ok (.iconst 0, 1)) (d18 : decode cL_law (pc + 18) = .ok (.laload, 1)) (d19 : decode cL_law (pc + 19) = .ok (.iload 7, 2)) (d21 : decode cL_law (pc + 21) = .ok (.ifCond .eq 7, 3)) (d24 : decode cL_law (pc + 24) = .ok (.lconst 1, 1)) (d25 : decode cL_law (pc + 25) = .ok (.goto 4, 3)) (d28 : decode cL_law (pc + 28) = .ok (.lconst 0, 1)) (d29 : decode cL_law (pc + 29) = .ok (.lcmp, 1)) (d30 : decode cL_law (pc + 30) = .ok (.ifCond .eq 5, 3)) (d35 : decode cL_law (pc + 35) = .ok (.goto off, 3)) (ht : ((pc + 35 : Nat) : Int) + off = ((3146 : Nat) : Int))
    (kk : LGS Z p l e s m args below meth c Q cells slots M0 A C 3146 (Ll b n A) []) : LGS Z p l e s m args below meth c Q cells slots M0 A C pc ((7, .int v7) :: (6, .int (nI k)) :: Ll b n A) [] := by
  have out : LGS Z p l e s m args below meth c Q cells slots M0 A C (pc + 35) ((7, .int v7) :: (6, .int (nI k)) :: Ll b n A) [] := by
    refine s_goto S 3146 d35 ht ?_
    exact s_perm [2, 3, 4, 5, 6, 7] (Ll b n A) rfl kk
  refine law_thr S hz hml hk hk3 hf 22 (pc + 16) (pc + 35) rfl (by omega) d0 d1 d4 d6 d11 d13 (fun _ => out) (fun h => ?_)
  have tail : ∀ z : Int64, lN (C 70 0 0) = z → LGS Z p l e s m args below meth c Q cells slots M0 A C (pc + 29) ((7, .int v7) :: (6, .int (nI k)) :: Ll b n A) [.long z, .long (lN (C 70 0 0))] := by
    intro z hz2
    refine s_lcmp S d29 ?_
    refine s_top (u := .int (nI 0)) (by rw [hz2, lg_self]) ?_
    exact s_if_eqN S (pc + 35) d30 (by omega) (by omega) (fun _ => out) (fun h => absurd rfl h)
  refine s_aload_n S 6 d16 rfl rfl ?_
  refine s_iconst S (v := nI 0) d17 (by decide) ?_
  refine s_lald S hz (x := lN (C 70 0 0)) (cc_out (A := A) (C := C)) (by decide) (by decide) rfl d18 ?_
  refine s_iload S 0 d19 rfl ?_
  refine s_if_eq S (pc + 28) d21 (by omega) (fun g => ?_) (fun g => ?_)
  · refine s_lconst S (v := lN 0) d28 (by decide) ?_
    exact tail _ ((hv h).trans (if_pos g))
  · refine s_lconst S (v := lN 1) d24 (by decide) ?_
    refine s_goto S (pc + 29) d25 (by omega) ?_
    exact tail _ ((hv h).trans (if_neg g))
/-- the end of a call whose answer is a long -/
theorem law_tlL (S : CallFix p m c cL_law 9 s args wsL_law RL) (hz : Stat Z s) (hml : c.maxLocals = 9) {k : Nat} {v7 : Int64} (hk : C 60 100 27 = k) (hk3 : k ≤ 3) (hv : k = 0 → lN (C 70 0 0) = v7) (hf : cells ≤ room_1.cells ∧ slots ≤ room_1.slots) (off : Int) (d0 : decode cL_law pc = .ok (.aload_n 2, 1)) (d1 : decode cL_law (pc + 1) = .ok (.invokevirtual 172, 3)) (d4 : decode cL_law (pc + 4) = .ok (.iload 6, 2)) (d6 : decode cL_law (pc + 6) = .ok (.if_icmp .eq 5, 3)) (d11 : decode cL_law (pc + 11) = .ok (.iload 6, 2)) (d13 : decode cL_law (pc + 13) = .ok (.ifCond .ne 14, 3)) (d16 : decode cL_law (pc + 16) = .ok (.aload_n 3, 1)) (d17 : decode cL_law (pc + 17) = .ok (.iconst 0, 1)) (d18 : decode cL_law (pc + 18) = .ok (.laload, 1)) (d19 : decode cL_law (pc + 19) = .ok (.lload 7, 2)) (d21 : decode cL_law (pc + 21) = .ok (.lcmp, 1)) (d22 : decode cL_law (pc + 22) = .ok (.ifCond .eq 5, 3)) (d27 : decode cL_law (pc + 27) = .ok (.goto off, 3)) (ht : ((pc + 27 : Nat) : Int) + off = ((3146 : Nat) : Int))
    (kk : LGS Z p l e s m args below meth c Q cells slots M0 A C 3146 (Ll b n A) []) : LGS Z p l e s m args below meth c Q cells slots M0 A C pc ((7, .long v7) :: (6, .int (nI k)) :: Ll b n A) [] := by
  have out : LGS Z p l e s m args below meth c Q cells slots M0 A C (pc + 27) ((7, .long v7) :: (6, .int (nI k)) :: Ll b n A) [] := by
    refine s_goto S 3146 d27 ht ?_
    exact s_perm [2, 3, 4, 5, 6, 7] (Ll b n A) rfl kk
  refine law_thr S hz hml hk hk3 hf 14 (pc + 16) (pc + 27) rfl (by omega) d0 d1 d4 d6 d11 d13 (fun _ => out) (fun h => ?_)
  refine s_aload_n S 6 d16 rfl rfl ?_
  refine s_iconst S (v := nI 0) d17 (by decide) ?_
  refine s_lald S hz (x := lN (C 70 0 0)) (cc_out (A := A) (C := C)) (by decide) (by decide) rfl d18 ?_
  refine s_lload S 0 d19 rfl ?_
  refine s_lcmp S d21 ?_
  refine s_top (u := .int (nI 0)) (by rw [hv h, lg_self]) ?_
  exact s_if_eqN S (pc + 27) d22 (by omega) (by omega) (fun _ => out) (fun h => absurd rfl h)
/-- the end of a call whose answer is a double -/
theorem law_tlD (S : CallFix p m c cL_law 9 s args wsL_law RL) (hz : Stat Z s) (hml : c.maxLocals = 9) {k : Nat} {v7 : UInt64} (hk : C 60 100 27 = k) (hk3 : k ≤ 3) (hv : k = 0 → UInt64.ofNat (C 70 1 0) = v7 ∧ Jvm.FP.Core.dIsNaN v7 = false) (hf : cells ≤ room_1.cells ∧ slots ≤ room_1.slots) (off : Int) (d0 : decode cL_law pc = .ok (.aload_n 2, 1)) (d1 : decode cL_law (pc + 1) = .ok (.invokevirtual 172, 3)) (d4 : decode cL_law (pc + 4) = .ok (.iload 6, 2)) (d6 : decode cL_law (pc + 6) = .ok (.if_icmp .eq 5, 3)) (d11 : decode cL_law (pc + 11) = .ok (.iload 6, 2)) (d13 : decode cL_law (pc + 13) = .ok (.ifCond .ne 35, 3)) (d16 : decode cL_law (pc + 16) = .ok (.aload 4, 2)) (d18 : decode cL_law (pc + 18) = .ok (.iconst 0, 1)) (d19 : decode cL_law (pc + 19) = .ok (.daload, 1)) (d20 : decode cL_law (pc + 20) = .ok (.dload 7, 2)) (d22 : decode cL_law (pc + 22) = .ok (.dcmp .l, 1)) (d23 : decode cL_law (pc + 23) = .ok (.ifCond .eq 25, 3)) (d48 : decode cL_law (pc + 48) = .ok (.goto off, 3)) (ht : ((pc + 48 : Nat) : Int) + off = ((3146 : Nat) : Int))
    (kk : LGS Z p l e s m args below meth c Q cells slots M0 A C 3146 (Ll b n A) []) : LGS Z p l e s m args below meth c Q cells slots M0 A C pc ((7, .double v7) :: (6, .int (nI k)) :: Ll b n A) [] := by
  have out : LGS Z p l e s m args below meth c Q cells slots M0 A C (pc + 48) ((7, .double v7) :: (6, .int (nI k)) :: Ll b n A) [] := by
    refine s_goto S 3146 d48 ht ?_
    exact s_perm [2, 3, 4, 5, 6, 7] (Ll b n A) rfl kk
  refine law_thr S hz hml hk hk3 hf 35 (pc + 16) (pc + 48) rfl (by omega) d0 d1 d4 d6 d11 d13 (fun _ => out) (fun h => ?_)
  refine s_aload S 7 d16 rfl ?_
  refine s_iconst S (v := nI 0) d18 (by decide) ?_
  refine s_dald S hz (x := UInt64.ofNat (C 70 1 0)) (cc_outD (A := A) (C := C)) (by decide) (by decide) rfl d19 ?_
  refine s_dload S 0 d20 rfl ?_
  refine s_dcmp S d22 ?_
  refine s_top (u := .int (nI 0)) (by rw [(hv h).1, dc0 (hv h).2]) ?_
  exact s_if_eqN S (pc + 48) d23 (by omega) (by omega) (fun _ => out) (fun h => absurd rfl h)
/-- the end of a call whose answer is a float -/
theorem law_tlF (S : CallFix p m c cL_law 9 s args wsL_law RL) (hz : Stat Z s) (hml : c.maxLocals = 9) {k : Nat} {v7 : UInt32} (hk : C 60 100 27 = k) (hk3 : k ≤ 3) (hv : k = 0 → UInt64.ofNat (C 70 1 0) = FP.f2d v7 ∧ Jvm.FP.Core.fIsNaN v7 = false) (hf : cells ≤ room_1.cells ∧ slots ≤ room_1.slots) (off : Int) (d0 : decode cL_law pc = .ok (.aload_n 2, 1)) (d1 : decode cL_law (pc + 1) = .ok (.invokevirtual 172, 3)) (d4 : decode cL_law (pc + 4) = .ok (.iload 6, 2)) (d6 : decode cL_law (pc + 6) = .ok (.if_icmp .eq 5, 3)) (d11 : decode cL_law (pc + 11) = .ok (.iload 6, 2)) (d13 : decode cL_law (pc + 13) = .ok (.ifCond .ne 36, 3)) (d16 : decode cL_law (pc + 16) = .ok (.aload 4, 2)) (d18 : decode cL_law (pc + 18) = .ok (.iconst 0, 1)) (d19 : decode cL_law (pc + 19) = .ok (.daload, 1)) (d20 : decode cL_law (pc + 20) = .ok (.fload 7, 2)) (d22 : decode cL_law (pc + 22) = .ok (.f2d, 1)) (d23 : decode cL_law (pc + 23) = .ok (.dcmp .l, 1)) (d24 : decode cL_law (pc + 24) = .ok (.ifCond .eq 25, 3)) (d49 : decode cL_law (pc + 49) = .ok (.goto off, 3)) (ht : ((pc + 49 : Nat) : Int) + off = ((3146 : Nat) : Int))
    (kk : LGS Z p l e s m args below meth c Q cells slots M0 A C 3146 (Ll b n A) []) : LGS Z p l e s m args below meth c Q cells slots M0 A C pc ((7, .float v7) :: (6, .int (nI k)) :: Ll b n A) [] := by
  have out : LGS Z p l e s m args below meth c Q cells slots M0 A C (pc + 49) ((7, .float v7) :: (6, .int (nI k)) :: Ll b n A) [] := by
    refine s_goto S 3146 d49 ht ?_
    exact s_perm [2, 3, 4, 5, 6, 7] (Ll b n A) rfl kk
  refine law_thr S hz hml hk hk3 hf 36 (pc + 16) (pc + 49) rfl (by omega) d0 d1 d4 d6 d11 d13 (fun _ => out) (fun h => ?_)
  have hn : Jvm.FP.Core.dIsNaN (FP.f2d v7) = false := (Jvm.FP.f2d_nan v7).trans (hv h).2
  refine s_aload S 7 d16 rfl ?_
  refine s_iconst S (v := nI 0) d18 (by decide) ?_
  refine s_dald S hz (x := UInt64.ofNat (C 70 1 0)) (cc_outD (A := A) (C := C)) (by decide) (by decide) rfl d19 ?_
  refine s_fload S 0 d20 rfl ?_
  refine s_f2d S d22 (fp_n64 hn) ?_
  refine s_dcmp S d23 ?_
  refine s_top (u := .int (nI 0)) (by rw [(hv h).1, dc0 hn]) ?_
  exact s_if_eqN S (pc + 49) d24 (by omega) (by omega) (fun _ => out) (fun h => absurd rfl h)
end LAWROWS
