section STATE
/-! ===== the state: C kind number field, and the addresses A kind number. Kinds: 0 the farm, 1 2 3 its rows of users, printers, jobs, 4 its log's list, 5 its line, 6 its plan, 7 the list's row (7 100 0: its length, 0 while the list has none of its own), 8 the line's bytes (8 100 0: their number), 9 printers, 10 users, 11 jobs, 12 trays (3 * printer + tray), 13 entries, 14 a printer's row of trays; 60 the model's rows by their fields' numbers (60 100: its own fields; 61 k 0: a log row's length; 60 26 its line, 60 27 the line's bytes, 61 27 0 their number); 70 the law's own rows ===== -/
abbrev AF : Type := Nat → Nat → Nat
abbrev CF : Type := Nat → Nat → Nat → Nat
def up2 (A : AF) (k i v : Nat) : AF := fun k2 i2 => if k2 = k ∧ i2 = i then v else A k2 i2
def up3 (C : CF) (k i f v : Nat) : CF := fun k2 i2 f2 => if k2 = k ∧ i2 = i ∧ f2 = f then v else C k2 i2 f2
theorem up3_k {C : CF} {k i f v k2 : Nat} (h : k2 ≠ k) : up3 C k i f v k2 = C k2 := by
  funext i2 f2
  simp [up3, h]
theorem up3_i {C : CF} {k i f v k2 i2 : Nat} (h : i2 ≠ i) : up3 C k i f v k2 i2 = C k2 i2 := by
  funext f2
  simp [up3, h]
theorem up3_f {C : CF} {k i f v k2 i2 f2 : Nat} (h : f2 ≠ f) : up3 C k i f v k2 i2 f2 = C k2 i2 f2 := by simp [up3, h]
theorem up3_s {C : CF} {k i f v : Nat} : up3 C k i f v k i f = v := by simp [up3]
theorem up3_u {C : CF} {k i f v : Nat} : up3 C k i f v k i = upN (C k i) f v := by
  funext f2
  simp [up3, upN]
theorem up2_s {A : AF} {k i v : Nat} : up2 A k i v k i = v := by simp [up2]
theorem up2_k {A : AF} {k i v k2 i2 : Nat} (h : k2 ≠ k) : up2 A k i v k2 i2 = A k2 i2 := by simp [up2, h]
theorem up2_i {A : AF} {k i v k2 i2 : Nat} (h : i2 ≠ i) : up2 A k i v k2 i2 = A k2 i2 := by simp [up2, h]
def jobFs (j : Nat → Nat) : List Value := [.int (nI (j 0)), .int (nI (j 1)), .int (nI (j 2)), .int (nI (j 3)), .int (nI (j 4)), .int (nI (j 5)), .int (nI (j 6)), .int (nI (j 7)), .int (nI (j 8)), .int (nI (j 9)), .int (nI (j 10)), .int (nI (j 11)), .int (nI (j 12)), .int (nI (j 13))]
def planFs (j : Nat → Nat) : List Value := [.int (nI (j 0)), .int (nI (j 1)), .int (nI (j 2)), .int (nI (j 3)), .int (nI (j 4)), .int (nI (j 5)), .int (nI (j 6)), .int (nI (j 7)), .int (nI (j 8)), .int (nI (j 9))]
def userFs (j : Nat → Nat) : List Value := [.int (nI (j 0)), .int (nI (j 1)), .int (nI (j 2)), .long (lN (j 3))]
def entryFs (j : Nat → Nat) : List Value := [.int (nI (j 0)), .int (nI (j 1)), .int (nI (j 2)), .int (nI (j 3)), .int (nI (j 4)), .long (lN (j 5))]
def trayFs (j : Nat → Nat) : List Value := [.int (nI (j 0)), .int (nI (j 1))]
def prnFs (a : Nat) (j : Nat → Nat) : List Value := [.int (nI (j 0)), .int (nI (j 1)), .int (nI (j 2)), .int (nI (j 3)), .ref a, .int (nI (j 5))]
def farmFs (A : AF) (j : Nat → Nat) : List Value := [.ref (A 1 0), .ref (A 2 0), .ref (A 3 0), .int (nI (j 3)), .int (nI (j 4)), .int (nI (j 5)), .int (nI (j 6)), .int (nI (j 7)), .int (nI (j 8)), .ref (A 4 0), .ref (A 5 0), .ref (A 6 0)]
def listFs (A : AF) (j : Nat → Nat) : List Value := [.int (nI (j 0)), .ref (A 7 0), .int (nI (j 2))]
def sbFs (a : Nat) (j : Nat → Nat) : List Value := [.ref a, .int (nI 0), .int (nI (j 2)), .int (nI (j 3))]
def strFs (a : Nat) : List Value := [.ref a, .int (nI 0), .int (nI 0), .int (nI 0)]
def modFs (A : AF) (j : Nat → Nat) : List Value := [.ref (A 60 0), .ref (A 60 1), .ref (A 60 2), .ref (A 60 3), .ref (A 60 4), .ref (A 60 5), .ref (A 60 6), .ref (A 60 7), .ref (A 60 8), .ref (A 60 9), .ref (A 60 10), .ref (A 60 11), .ref (A 60 12), .ref (A 60 13), .ref (A 60 14), .ref (A 60 15), .ref (A 60 16), .ref (A 60 17), .ref (A 60 18), .ref (A 60 19), .ref (A 60 20), .ref (A 60 21), .ref (A 60 22), .ref (A 60 23), .ref (A 60 24), .ref (A 60 25), .ref (A 60 26), .int (nI (j 27)), .int (nI (j 28)), .int (nI (j 29)), .int (nI (j 30)), .int (nI (j 31)), .int (nI (j 32)), .int (nI (j 33)), .int (nI (j 34)), .int (nI (j 35)), .int (nI (j 36)), .int (nI (j 37))]
def rowTy (i : Nat) : FieldType := if 8 ≤ i ∧ i ≤ 10 then .char else if 11 ≤ i ∧ i ≤ 15 then .boolean else .int
def rowLen (C : CF) (i : Nat) : Nat := if 21 ≤ i ∧ i ≤ 24 then C 61 i 0 else [12, 6, 4, 12, 4, 4, 4, 6, 12, 40, 40, 4, 40, 40, 40, 40, 40, 40, 40, 40, 40, 0, 0, 0, 0, 3].getD i 0
def rowEv (C : CF) (i : Nat) : Ev := if i = 7 then aL 6 (fun j => lN (C 60 7 j)) else aN (rowTy i) (rowLen C i) (C 60 i)
/-- what lies at a role -/
def cc (A : AF) (C : CF) (k i : Nat) : Option (Nat × Ev) :=
  if k = 60 then (if i = 100 then some (A 60 100, .inr (12, modFs A (C 60 100))) else if i < 26 then some (A 60 i, rowEv C i) else if i = 26 then some (A 60 26, .inr (0, strFs (A 60 27))) else if i = 27 then some (A 60 27, aN .byte (C 61 27 0) (C 60 27)) else none)
  else if k = 11 then (if i < C 0 0 5 then some (A 11 i, .inr (6, jobFs (C 11 i))) else none)
  else if k = 6 then (if i = 0 then some (A 6 0, .inr (7, planFs (C 6 0))) else none)
  else if k = 0 then (if i = 0 then some (A 0 0, .inr (11, farmFs A (C 0 0))) else none)
  else if k = 9 then (if i < C 0 0 4 then some (A 9 i, .inr (8, prnFs (A 14 i) (C 9 i))) else none)
  else if k = 10 then (if i < C 0 0 3 then some (A 10 i, .inr (10, userFs (C 10 i))) else none)
  else if k = 12 then (if i / 3 < C 0 0 4 ∧ i % 3 < C 9 (i / 3) 5 then some (A 12 i, .inr (9, trayFs (C 12 i))) else none)
  else if k = 13 then (if i < C 4 0 2 then some (A 13 i, .inr (5, entryFs (C 13 i))) else none)
  else if k = 14 then (if i < C 0 0 4 then some (A 14 i, aR "SpoolFarm$Tray" 3 (fun j => if j < C 9 i 5 then some (A 12 (3 * i + j)) else none)) else none)
  else if k = 1 then (if i = 0 then some (A 1 0, aR "SpoolFarm$User" 6 (fun j => if j < C 0 0 3 then some (A 10 j) else none)) else none)
  else if k = 2 then (if i = 0 then some (A 2 0, aR "SpoolFarm$Printer" 4 (fun j => if j < C 0 0 4 then some (A 9 j) else none)) else none)
  else if k = 3 then (if i = 0 then some (A 3 0, aR "SpoolFarm$Job" 40 (fun j => if j < C 0 0 5 then some (A 11 j) else none)) else none)
  else if k = 4 then (if i = 0 then some (A 4 0, .inr (4, listFs A (C 4 0))) else none)
  else if k = 5 then (if i = 0 then some (A 5 0, .inr (1, sbFs (A 8 0) (C 5 0))) else none)
  else if k = 7 then (if i = 0 ∧ 0 < C 7 100 0 then some (A 7 0, aR "java/lang/Object" (C 7 100 0) (fun j => if j < C 4 0 2 then some (A 13 j) else none)) else none)
  else if k = 8 then (if i = 0 then some (A 8 0, aN .byte (C 8 100 0) (C 8 0)) else none)
  else if k = 70 then (if i = 0 then some (A 70 0, aL 1 (fun j => lN (C 70 0 j))) else if i = 1 then some (A 70 1, aD 1 (fun j => UInt64.ofNat (C 70 1 j))) else none)
  else none
def Rep (A : AF) (C : CF) (M : Wd) : Prop := ∀ (k i : Nat) (x : Nat × Ev), cc A C k i = some x → M (k, i) = some x
theorem Rep.put {A : AF} {C C2 : CF} {M M2 : Wd} {k i : Nat} {x : Nat × Ev} (h : Rep A C M) (hf : ∀ r2 : Role, r2 ≠ (k, i) → M2 r2 = M r2) (hs : M2 (k, i) = some x) (ho : ∀ k2 i2 : Nat, ¬ (k2 = k ∧ i2 = i) → cc A C2 k2 i2 = cc A C k2 i2) (h2 : cc A C2 k i = some x) : Rep A C2 M2 := by
  intro k2 i2 x2 hx
  by_cases hq : k2 = k ∧ i2 = i
  · obtain ⟨rfl, rfl⟩ := hq
    rw [h2] at hx
    rw [hs]
    exact hx
  · rw [ho k2 i2 hq] at hx
    rw [hf (k2, i2) (fun z => hq (by cases z; exact ⟨rfl, rfl⟩))]
    exact h k2 i2 x2 hx
theorem cc_job {A : AF} {C : CF} {i : Nat} (h : i < C 0 0 5) : cc A C 11 i = some (A 11 i, .inr (6, jobFs (C 11 i))) := by
  simp [cc, h]
theorem cc_prn {A : AF} {C : CF} {i : Nat} (h : i < C 0 0 4) : cc A C 9 i = some (A 9 i, .inr (8, prnFs (A 14 i) (C 9 i))) := by
  simp [cc, h]
theorem cc_user {A : AF} {C : CF} {i : Nat} (h : i < C 0 0 3) : cc A C 10 i = some (A 10 i, .inr (10, userFs (C 10 i))) := by
  simp [cc, h]
theorem cc_entry {A : AF} {C : CF} {i : Nat} (h : i < C 4 0 2) : cc A C 13 i = some (A 13 i, .inr (5, entryFs (C 13 i))) := by
  simp [cc, h]
theorem cc_trays {A : AF} {C : CF} {i : Nat} (h : i < C 0 0 4) : cc A C 14 i = some (A 14 i, aR "SpoolFarm$Tray" 3 (fun j => if j < C 9 i 5 then some (A 12 (3 * i + j)) else none)) := by
  simp [cc, h]
theorem cc_tray {A : AF} {C : CF} {i j : Nat} (h : i < C 0 0 4) (h2 : j < C 9 i 5) (h3 : j < 3) : cc A C 12 (3 * i + j) = some (A 12 (3 * i + j), .inr (9, trayFs (C 12 (3 * i + j)))) := by
  have e1 : (3 * i + j) / 3 = i := by omega
  have e2 : (3 * i + j) % 3 = j := by omega
  simp [cc, e1, e2, h, h2]
theorem cc_plan {A : AF} {C : CF}  : cc A C 6 0 = some (A 6 0, .inr (7, planFs (C 6 0))) := by
  simp [cc]
theorem cc_farm {A : AF} {C : CF}  : cc A C 0 0 = some (A 0 0, .inr (11, farmFs A (C 0 0))) := by
  simp [cc]
theorem cc_mod {A : AF} {C : CF}  : cc A C 60 100 = some (A 60 100, .inr (12, modFs A (C 60 100))) := by
  simp [cc]
theorem cc_list {A : AF} {C : CF}  : cc A C 4 0 = some (A 4 0, .inr (4, listFs A (C 4 0))) := by
  simp [cc]
theorem cc_line {A : AF} {C : CF}  : cc A C 5 0 = some (A 5 0, .inr (1, sbFs (A 8 0) (C 5 0))) := by
  simp [cc]
theorem cc_bytes {A : AF} {C : CF}  : cc A C 8 0 = some (A 8 0, aN .byte (C 8 100 0) (C 8 0)) := by
  simp [cc]
theorem cc_str {A : AF} {C : CF}  : cc A C 60 26 = some (A 60 26, .inr (0, strFs (A 60 27))) := by
  simp [cc]
theorem cc_strb {A : AF} {C : CF}  : cc A C 60 27 = some (A 60 27, aN .byte (C 61 27 0) (C 60 27)) := by
  simp [cc]
theorem cc_users {A : AF} {C : CF}  : cc A C 1 0 = some (A 1 0, aR "SpoolFarm$User" 6 (fun j => if j < C 0 0 3 then some (A 10 j) else none)) := by
  simp [cc]
theorem cc_prns {A : AF} {C : CF}  : cc A C 2 0 = some (A 2 0, aR "SpoolFarm$Printer" 4 (fun j => if j < C 0 0 4 then some (A 9 j) else none)) := by
  simp [cc]
theorem cc_jobs {A : AF} {C : CF}  : cc A C 3 0 = some (A 3 0, aR "SpoolFarm$Job" 40 (fun j => if j < C 0 0 5 then some (A 11 j) else none)) := by
  simp [cc]
theorem cc_data {A : AF} {C : CF} (h : 0 < C 7 100 0) : cc A C 7 0 = some (A 7 0, aR "java/lang/Object" (C 7 100 0) (fun j => if j < C 4 0 2 then some (A 13 j) else none)) := by
  simp [cc, h]
theorem cc_out {A : AF} {C : CF}  : cc A C 70 0 = some (A 70 0, aL 1 (fun j => lN (C 70 0 j))) := by
  simp [cc]
theorem cc_outD {A : AF} {C : CF}  : cc A C 70 1 = some (A 70 1, aD 1 (fun j => UInt64.ofNat (C 70 1 j))) := by
  simp [cc]
theorem cc_row {A : AF} {C : CF} (i : Nat) {x : Ev} (h : i < 26) (hx : rowEv C i = x) : cc A C 60 i = some (A 60 i, x) := by
  have h1 : ¬ i = 100 := by omega
  simp [cc, h, h1, hx]
theorem cu_job {A : AF} {C : CF} {v f : Nat} {i : Nat} : ∀ k2 i2 : Nat, ¬ (k2 = 11 ∧ i2 = i) → cc A (up3 C 11 i f v) k2 i2 = cc A C k2 i2 := by
  intro k2 i2 hq
  unfold cc
  simp only [rowEv, rowLen, up3_k (show (0 : Nat) ≠ 11 by decide), up3_k (show (4 : Nat) ≠ 11 by decide), up3_k (show (5 : Nat) ≠ 11 by decide), up3_k (show (6 : Nat) ≠ 11 by decide), up3_k (show (7 : Nat) ≠ 11 by decide), up3_k (show (8 : Nat) ≠ 11 by decide), up3_k (show (9 : Nat) ≠ 11 by decide), up3_k (show (10 : Nat) ≠ 11 by decide), up3_k (show (12 : Nat) ≠ 11 by decide), up3_k (show (13 : Nat) ≠ 11 by decide), up3_k (show (60 : Nat) ≠ 11 by decide), up3_k (show (61 : Nat) ≠ 11 by decide), up3_k (show (70 : Nat) ≠ 11 by decide)]
  by_cases hk : k2 = 11
  · subst hk
    have hi : i2 ≠ i := fun z => hq ⟨rfl, z⟩
    simp [up3_i hi]
  · simp [hk]
theorem cu_user {A : AF} {C : CF} {v f : Nat} {i : Nat} : ∀ k2 i2 : Nat, ¬ (k2 = 10 ∧ i2 = i) → cc A (up3 C 10 i f v) k2 i2 = cc A C k2 i2 := by
  intro k2 i2 hq
  unfold cc
  simp only [rowEv, rowLen, up3_k (show (0 : Nat) ≠ 10 by decide), up3_k (show (4 : Nat) ≠ 10 by decide), up3_k (show (5 : Nat) ≠ 10 by decide), up3_k (show (6 : Nat) ≠ 10 by decide), up3_k (show (7 : Nat) ≠ 10 by decide), up3_k (show (8 : Nat) ≠ 10 by decide), up3_k (show (9 : Nat) ≠ 10 by decide), up3_k (show (11 : Nat) ≠ 10 by decide), up3_k (show (12 : Nat) ≠ 10 by decide), up3_k (show (13 : Nat) ≠ 10 by decide), up3_k (show (60 : Nat) ≠ 10 by decide), up3_k (show (61 : Nat) ≠ 10 by decide), up3_k (show (70 : Nat) ≠ 10 by decide)]
  by_cases hk : k2 = 10
  · subst hk
    have hi : i2 ≠ i := fun z => hq ⟨rfl, z⟩
    simp [up3_i hi]
  · simp [hk]
theorem cu_tray {A : AF} {C : CF} {v f : Nat} {i : Nat} : ∀ k2 i2 : Nat, ¬ (k2 = 12 ∧ i2 = i) → cc A (up3 C 12 i f v) k2 i2 = cc A C k2 i2 := by
  intro k2 i2 hq
  unfold cc
  simp only [rowEv, rowLen, up3_k (show (0 : Nat) ≠ 12 by decide), up3_k (show (4 : Nat) ≠ 12 by decide), up3_k (show (5 : Nat) ≠ 12 by decide), up3_k (show (6 : Nat) ≠ 12 by decide), up3_k (show (7 : Nat) ≠ 12 by decide), up3_k (show (8 : Nat) ≠ 12 by decide), up3_k (show (9 : Nat) ≠ 12 by decide), up3_k (show (10 : Nat) ≠ 12 by decide), up3_k (show (11 : Nat) ≠ 12 by decide), up3_k (show (13 : Nat) ≠ 12 by decide), up3_k (show (60 : Nat) ≠ 12 by decide), up3_k (show (61 : Nat) ≠ 12 by decide), up3_k (show (70 : Nat) ≠ 12 by decide)]
  by_cases hk : k2 = 12
  · subst hk
    have hi : i2 ≠ i := fun z => hq ⟨rfl, z⟩
    simp [up3_i hi]
  · simp [hk]
theorem cu_plan {A : AF} {C : CF} {v f : Nat}  : ∀ k2 i2 : Nat, ¬ (k2 = 6 ∧ i2 = 0) → cc A (up3 C 6 0 f v) k2 i2 = cc A C k2 i2 := by
  intro k2 i2 hq
  unfold cc
  simp only [rowEv, rowLen, up3_k (show (0 : Nat) ≠ 6 by decide), up3_k (show (4 : Nat) ≠ 6 by decide), up3_k (show (5 : Nat) ≠ 6 by decide), up3_k (show (7 : Nat) ≠ 6 by decide), up3_k (show (8 : Nat) ≠ 6 by decide), up3_k (show (9 : Nat) ≠ 6 by decide), up3_k (show (10 : Nat) ≠ 6 by decide), up3_k (show (11 : Nat) ≠ 6 by decide), up3_k (show (12 : Nat) ≠ 6 by decide), up3_k (show (13 : Nat) ≠ 6 by decide), up3_k (show (60 : Nat) ≠ 6 by decide), up3_k (show (61 : Nat) ≠ 6 by decide), up3_k (show (70 : Nat) ≠ 6 by decide)]
  by_cases hk : k2 = 6
  · subst hk
    have hi : i2 ≠ 0 := fun z => hq ⟨rfl, z⟩
    simp [hi]
  · simp [hk]
theorem cu_prn {A : AF} {C : CF} {v f : Nat} {i : Nat} (h5 : f ≠ 5) : ∀ k2 i2 : Nat, ¬ (k2 = 9 ∧ i2 = i) → cc A (up3 C 9 i f v) k2 i2 = cc A C k2 i2 := by
  intro k2 i2 hq
  unfold cc
  have e5 : ∀ q : Nat, up3 C 9 i f v 9 q 5 = C 9 q 5 := fun q => up3_f (Ne.symm h5)
  simp only [rowEv, rowLen, e5, up3_k (show (0 : Nat) ≠ 9 by decide), up3_k (show (4 : Nat) ≠ 9 by decide), up3_k (show (5 : Nat) ≠ 9 by decide), up3_k (show (6 : Nat) ≠ 9 by decide), up3_k (show (7 : Nat) ≠ 9 by decide), up3_k (show (8 : Nat) ≠ 9 by decide), up3_k (show (10 : Nat) ≠ 9 by decide), up3_k (show (11 : Nat) ≠ 9 by decide), up3_k (show (12 : Nat) ≠ 9 by decide), up3_k (show (13 : Nat) ≠ 9 by decide), up3_k (show (60 : Nat) ≠ 9 by decide), up3_k (show (61 : Nat) ≠ 9 by decide), up3_k (show (70 : Nat) ≠ 9 by decide)]
  by_cases hk : k2 = 9
  · subst hk
    have hi : i2 ≠ i := fun z => hq ⟨rfl, z⟩
    simp [up3_i hi]
  · simp [hk]
theorem cu_farm {A : AF} {C : CF} {v f : Nat} (h5 : 5 < f) : ∀ k2 i2 : Nat, ¬ (k2 = 0 ∧ i2 = 0) → cc A (up3 C 0 0 f v) k2 i2 = cc A C k2 i2 := by
  intro k2 i2 hq
  unfold cc
  have e3 : up3 C 0 0 f v 0 0 3 = C 0 0 3 := up3_f (by omega)
  have e4 : up3 C 0 0 f v 0 0 4 = C 0 0 4 := up3_f (by omega)
  have e5 : up3 C 0 0 f v 0 0 5 = C 0 0 5 := up3_f (by omega)
  simp only [rowEv, rowLen, e3, e4, e5, up3_k (show (4 : Nat) ≠ 0 by decide), up3_k (show (5 : Nat) ≠ 0 by decide), up3_k (show (6 : Nat) ≠ 0 by decide), up3_k (show (7 : Nat) ≠ 0 by decide), up3_k (show (8 : Nat) ≠ 0 by decide), up3_k (show (9 : Nat) ≠ 0 by decide), up3_k (show (10 : Nat) ≠ 0 by decide), up3_k (show (11 : Nat) ≠ 0 by decide), up3_k (show (12 : Nat) ≠ 0 by decide), up3_k (show (13 : Nat) ≠ 0 by decide), up3_k (show (60 : Nat) ≠ 0 by decide), up3_k (show (61 : Nat) ≠ 0 by decide), up3_k (show (70 : Nat) ≠ 0 by decide)]
  by_cases hk : k2 = 0
  · subst hk
    have hi : i2 ≠ 0 := fun z => hq ⟨rfl, z⟩
    simp [hi]
  · simp [hk]
theorem cu_mod {A : AF} {C : CF} {v f : Nat} {i : Nat} : ∀ k2 i2 : Nat, ¬ (k2 = 60 ∧ i2 = i) → cc A (up3 C 60 i f v) k2 i2 = cc A C k2 i2 := by
  intro k2 i2 hq
  unfold cc
  simp only [up3_k (show (0 : Nat) ≠ 60 by decide), up3_k (show (4 : Nat) ≠ 60 by decide), up3_k (show (5 : Nat) ≠ 60 by decide), up3_k (show (6 : Nat) ≠ 60 by decide), up3_k (show (7 : Nat) ≠ 60 by decide), up3_k (show (8 : Nat) ≠ 60 by decide), up3_k (show (9 : Nat) ≠ 60 by decide), up3_k (show (10 : Nat) ≠ 60 by decide), up3_k (show (11 : Nat) ≠ 60 by decide), up3_k (show (12 : Nat) ≠ 60 by decide), up3_k (show (13 : Nat) ≠ 60 by decide), up3_k (show (61 : Nat) ≠ 60 by decide), up3_k (show (70 : Nat) ≠ 60 by decide)]
  by_cases hk : k2 = 60
  · subst hk
    have hi : i2 ≠ i := fun z => hq ⟨rfl, z⟩
    have e3 : rowEv (up3 C 60 i f v) i2 = rowEv C i2 := by
      unfold rowEv rowLen
      simp only [up3_k (show (61 : Nat) ≠ 60 by decide), up3_i hi]
      by_cases h7 : i2 = 7
      · subst h7
        simp [up3_i hi]
      · simp [h7]
    by_cases h100 : i2 = 100
    · subst h100
      simp [up3_i hi]
    · by_cases h27 : i2 = 27
      · subst h27
        simp [up3_i hi]
      · simp [h100, h27, e3]
  · simp [hk]
theorem cu_out {A : AF} {C : CF} {v f : Nat} {i : Nat} : ∀ k2 i2 : Nat, ¬ (k2 = 70 ∧ i2 = i) → cc A (up3 C 70 i f v) k2 i2 = cc A C k2 i2 := by
  intro k2 i2 hq
  unfold cc
  simp only [rowEv, rowLen, up3_k (show (0 : Nat) ≠ 70 by decide), up3_k (show (4 : Nat) ≠ 70 by decide), up3_k (show (5 : Nat) ≠ 70 by decide), up3_k (show (6 : Nat) ≠ 70 by decide), up3_k (show (7 : Nat) ≠ 70 by decide), up3_k (show (8 : Nat) ≠ 70 by decide), up3_k (show (9 : Nat) ≠ 70 by decide), up3_k (show (10 : Nat) ≠ 70 by decide), up3_k (show (11 : Nat) ≠ 70 by decide), up3_k (show (12 : Nat) ≠ 70 by decide), up3_k (show (13 : Nat) ≠ 70 by decide), up3_k (show (60 : Nat) ≠ 70 by decide), up3_k (show (61 : Nat) ≠ 70 by decide)]
  by_cases hk : k2 = 70
  · subst hk
    have hi : i2 ≠ i := fun z => hq ⟨rfl, z⟩
    by_cases h0 : i2 = 0
    · subst h0
      simp [up3_i hi]
    · by_cases h1 : i2 = 1
      · subst h1
        simp [up3_i hi]
      · simp [h0, h1]
  · simp [hk]
end STATE
