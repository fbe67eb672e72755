section PLN
/-- the state with another plan -/
def P6 (C : CF) (w : Nat → Nat) : CF := fun kk ii ff => if kk = 6 ∧ ii = 0 then w ff else C kk ii ff
theorem PlC_P6 (D C : CF) (k p j s : Nat) : PlC D C k p j s = P6 C (plF D C k p j s) := rfl
theorem P6_P6 (C : CF) (w w2 : Nat → Nat) : P6 (P6 C w) w2 = P6 C w2 := by
  funext kk ii ff
  unfold P6
  split <;> rfl
theorem PlC_P6b (D C : CF) (w : Nat → Nat) (k p j s : Nat) : PlC D (P6 C w) k p j s = P6 C (plF D (P6 C w) k p j s) := P6_P6 C w _
theorem sm_q {D C : CF} (hS : Sm D C) {k : Nat} (hu : D 60 16 k < D 60 100 28) : (if D 60 12 k = 0 then C 10 (D 60 16 k) 0 else C 10 (D 60 16 k) 1) = D 60 0 (qiC D k) := by
  obtain ⟨q0, q1, q2, q3⟩ := hS.2.1 _ hu
  show _ = D 60 0 (2 * D 60 16 k + (if D 60 12 k = 0 then 0 else 1))
  split
  · exact q0
  · exact q1
theorem sm_avs {D C : CF} (hS : Sm D C) {k p : Nat} (hk : k < D 60 100 30) (hp : p < D 60 100 29) : avK C p (D 60 9 k) 0 + avK C p (D 60 9 k) 1 + avK C p (D 60 9 k) 2 = avT D k p 0 + avT D k p 1 + avT D k p 2 := by
  rw [sm_av hS hk hp, sm_av hS hk hp, sm_av hS hk hp]
theorem ht_c (D : CF) (k p : Nat) : (htD D k p = 1 ∧ ((0 < D 60 2 p ∧ D 60 8 (3 * p + 0) = D 60 9 k) ∨ (1 < D 60 2 p ∧ D 60 8 (3 * p + 1) = D 60 9 k) ∨ (2 < D 60 2 p ∧ D 60 8 (3 * p + 2) = D 60 9 k))) ∨ (htD D k p = 0 ∧ ¬ ((0 < D 60 2 p ∧ D 60 8 (3 * p + 0) = D 60 9 k) ∨ (1 < D 60 2 p ∧ D 60 8 (3 * p + 1) = D 60 9 k) ∨ (2 < D 60 2 p ∧ D 60 8 (3 * p + 2) = D 60 9 k))) := by
  unfold htD
  split
  · rename_i h
    exact Or.inl ⟨rfl, h⟩
  · rename_i h
    exact Or.inr ⟨rfl, h⟩
theorem fs_0 {d g s : Nat} (hd : d < 2) : (pcN d g s = 0 → fsS (csN d g) s 0 = 1) ∧ (pcN d g s ≠ 0 → fsS (csN d g) s 0 = 0) := by
  unfold pcN fsS
  rw [Nat.add_zero]
  by_cases h0 : d = 0
  · rw [if_pos h0]
    exact ⟨fun h => if_pos (Or.inl h), fun h => if_neg (fun z => z.elim h (fun y => absurd y (Nat.lt_irrefl _)))⟩
  · rw [if_neg h0]
    exact ⟨fun h => if_pos (Or.inl (by omega)), fun h => if_neg (fun z => z.elim (fun y => h (by omega)) (fun y => absurd y (Nat.lt_irrefl _)))⟩
theorem ck_c (x n : Nat) : (x = 0 → ckN x n = 0) ∧ (x ≠ 0 → ckN x n = 3 * n) := by
  unfold ckN
  exact ⟨fun h => if_pos h, fun h => if_neg h⟩
theorem co_c (D : CF) (k p i : Nat) : ((D 60 19 k + i = csN (D 60 13 k) (D 60 17 k) * D 60 18 k ∧ coR D k p i = 100) ∨ (D 60 19 k + i ≠ csN (D 60 13 k) (D 60 17 k) * D 60 18 k ∧ ((D 60 15 k ≠ 0 ∧ coR D k p i = 120) ∨ (D 60 15 k = 0 ∧ (((D 60 12 k ≠ 0 ∧ D 60 11 p = 0) ∧ coR D k p i = 110) ∨ ((D 60 12 k = 0 ∨ D 60 11 p ≠ 0) ∧ ((htD D k p = 0 ∧ coR D k p i = 107) ∨ (htD D k p ≠ 0 ∧ ((avT D k p 0 + avT D k p 1 + avT D k p 2 ≤ i ∧ coR D k p i = 112) ∨ (i < avT D k p 0 + avT D k p 1 + avT D k p 2 ∧ ((D 60 4 p < bkN (D 60 12 k) (PT D k (i + 1)) ∧ coR D k p i = 116) ∨ (bkN (D 60 12 k) (PT D k (i + 1)) ≤ D 60 4 p ∧ (((D 60 12 k ≠ 0 ∧ D 60 5 p < 3 * PT D k (i + 1)) ∧ coR D k p i = 99) ∨ ((D 60 12 k = 0 ∨ 3 * PT D k (i + 1) ≤ D 60 5 p) ∧ ((D 60 0 (qiC D k) < PT D k (i + 1) ∧ coR D k p i = 113) ∨ (PT D k (i + 1) ≤ D 60 0 (qiC D k) ∧ coR D k p i = 45)))))))))))))))) := by
  have hh := ht_c D k p
  unfold coR
  by_cases h1 : D 60 19 k + i = csN (D 60 13 k) (D 60 17 k) * D 60 18 k
  · rw [if_pos h1]
    exact Or.inl ⟨h1, rfl⟩
  rw [if_neg h1]
  refine Or.inr ⟨h1, ?_⟩
  by_cases h2 : D 60 15 k ≠ 0
  · rw [if_pos h2]
    exact Or.inl ⟨h2, rfl⟩
  rw [if_neg h2]
  refine Or.inr ⟨by omega, ?_⟩
  by_cases h3 : D 60 12 k ≠ 0 ∧ D 60 11 p = 0
  · rw [if_pos h3]
    exact Or.inl ⟨h3, rfl⟩
  rw [if_neg h3]
  refine Or.inr ⟨by omega, ?_⟩
  rcases hh with ⟨e, hh⟩ | ⟨e, hh⟩
  rotate_left
  · rw [if_pos hh]
    exact Or.inl ⟨e, rfl⟩
  rw [if_neg (fun z => z hh)]
  refine Or.inr ⟨by omega, ?_⟩
  by_cases h5 : avT D k p 0 + avT D k p 1 + avT D k p 2 ≤ i
  · rw [if_pos h5]
    exact Or.inl ⟨h5, rfl⟩
  rw [if_neg h5]
  refine Or.inr ⟨by omega, ?_⟩
  by_cases h6 : D 60 4 p < bkN (D 60 12 k) (PT D k (i + 1))
  · rw [if_pos h6]
    exact Or.inl ⟨h6, rfl⟩
  rw [if_neg h6]
  refine Or.inr ⟨by omega, ?_⟩
  by_cases h7 : D 60 12 k ≠ 0 ∧ D 60 5 p < 3 * PT D k (i + 1)
  · rw [if_pos h7]
    exact Or.inl ⟨h7, rfl⟩
  rw [if_neg h7]
  refine Or.inr ⟨by omega, ?_⟩
  by_cases h8 : D 60 0 (qiC D k) < PT D k (i + 1)
  · rw [if_pos h8]
    exact Or.inl ⟨h8, rfl⟩
  rw [if_neg h8]
  exact Or.inr ⟨by omega, rfl⟩
theorem csU_P (C : CF) (w : Nat → Nat) (u : Nat) : ∀ n : Nat, csU (P6 C w) u n = csU C u n
  | 0 => rfl
  | n + 1 => by
    show csU (P6 C w) u n + (if C 13 n 1 = u then C 13 n 5 else 0) = csU C u n + (if C 13 n 1 = u then C 13 n 5 else 0)
    rw [csU_P C w u n]
theorem bk_le (x n : Nat) : bkN x n ≤ 2 * n ∧ ckN x n ≤ 3 * n := by
  unfold bkN ckN
  constructor <;> split <;> omega
end PLN
theorem okk_6 {C : CF} {f v : Nat} (hK : OkK C) : OkK (up3 C 6 0 f v) := hK
theorem okk_P {C : CF} {w : Nat → Nat} (hK : OkK C) : OkK (P6 C w) := hK
theorem sm_P {D C : CF} {w : Nat → Nat} (hS : Sm D C) : Sm D (P6 C w) := by
  obtain ⟨h1, h2, h3, h4, h5, h6, h7, h8, h9⟩ := hS
  exact ⟨h1, h2, h3, h4, h5, h6, h7, fun u hu => (csU_P C w u _).trans (h8 u hu), h9⟩
set_option maxHeartbeats 4000000 in
set_option maxRecDepth 100000 in
theorem k_X2_begin (Z : Zp) (l : Launch) (A : AF) (C : CF) (D : CF) (k p : Nat) (hS : Sm D C) (hM : OkM D) (hL : OkL D) (hk : k < D 60 100 30) (hp : p < D 60 100 29) : CtS Z l yX2_begin wsX2_begin ({ frames := 1, cells := 0, slots := 0, locals := 26 }) [.ref (A 6 0), .ref (A 11 k), .ref (A 9 p), .ref (A 10 (D 60 16 k))] A C 0 0 (fun v A2 C2 => A = A2 ∧ PlC D C k p 0 (C 6 0 9) = C2 ∧ none = v) (fun _ _ _ => False) := by
  refine CtS.of (cc0 := cX2_begin) (maxL := 4) (ret := none) (by decide) rfl (Nat.le_of_ble_eq_true rfl) ?_
  intro M0_ p_ e_ s_ m_ args_ below_ meth_ c_ S hz hml hex hlo hr hin
  refine s_loc (L2 := [(0, .ref (A 6 0)), (1, .ref (A 11 k)), (2, .ref (A 9 p)), (3, .ref (A 10 (D 60 16 k)))]) rfl ?_
  have i_RX1 : ∀ w ∈ u_ws RX1 TX1 14, w ∈ wsX2_begin := by decide +kernel
  have i_RX2 : ∀ w ∈ u_ws RX2 TX2 10, w ∈ wsX2_begin := by decide +kernel
  have hK := hS.okk hM hL
  obtain ⟨hO, hG, hX⟩ := id hM
  have hR := hO.rk hk hp
  obtain ⟨r1, r2, r3, r4, r5, r6, r7, r8, r9, r10, r11, r12, r13, r14, r15, r16, r17, r18, r19⟩ := id hR
  obtain ⟨-, -, -, -, -, -, -, jd, ju, jc, -⟩ := hO.jk hk
  obtain ⟨q0, q1, q2, q3, q4, q5, q6, q7, q8, q9, q10, q11, q12, q13⟩ := hS.2.2.2.2.1 k hk
  obtain ⟨p0, p1, p2, p3, p5⟩ := hS.2.2.1 p hp
  have hkC : k < C 0 0 5 := by rw [hS.1.2.2.1]; exact hk
  have hpC : p < C 0 0 4 := by rw [hS.1.2.1]; exact hp
  have huC : D 60 16 k < C 0 0 3 := by rw [hS.1.1]; exact ju
  have hpcl := pc_lt (d := D 60 13 k) (s := D 60 19 k) r9
  have hht : htD D k p < 2 := by unfold htD; split <;> omega
  refine s_aload_n (pc := 0) S 0 dX2_begin_0 rfl rfl ?_
  refine s_aload_n (pc := 1) S 2 dX2_begin_1 rfl rfl ?_
  refine s_aload_n (pc := 2) S 1 dX2_begin_2 rfl rfl ?_
  refine s_get (pc := 3) S hz (ref := "SpoolFarm$Job") (v := .int (nI (D 60 9 k))) (cc_job (A := A) (C := C) hkC) i_RX1 rfl 4 (Nat.le_of_ble_eq_true rfl) (by decide +kernel) (fun _ h => h) (congrArg (fun x => some (Value.int (nI x))) (show C 11 k 4 = D 60 9 k from q4)) dX2_begin_3 ?_
  refine s_callV (pc := 6) S hz hml [.int (nI (D 60 9 k))] (k_X3_hasTrayWith Z l A C p hpC (D 60 9 k) r4 (fun t ht => hK.2.2.2.1 p t hpC ht)) (cwV 1 S.2.2.2.2 gX2_begin_X3_hasTrayWith rfl rfl rfl (by decide +kernel) ⟨Nat.le_of_ble_eq_true rfl, Nat.le_of_ble_eq_true rfl⟩) (cc_prn (A := A) (C := C) hpC) rfl rfl rfl (Nat.le_of_ble_eq_true rfl) dX2_begin_6 ⟨Nat.le_of_ble_eq_true rfl, Nat.le_of_ble_eq_true rfl⟩ (fun _ _ _ h => h.elim) (fun v A2 C2 h_1 => ?_)
  obtain ⟨rfl, rfl, rfl⟩ := h_1
  refine s_top (u := .int (nI (htD D k p))) (congrArg (fun x => Value.int (nI x)) (sm_ht (C := C) hS hk hp)) ?_
  refine s_put (pc := 9) S hz (ref := "SpoolFarm$Plan") (ty := .boolean) (cc_plan (A := A) (C := C)) i_RX2 tyX2 tyX2_ok nmX2 rfl 0 (Nat.le_of_ble_eq_true rfl) (by decide +kernel) (fun _ h => h) rfl (by decide +kernel) (nar_z (by omega)) (fit_z (by omega)) (Nat.le_of_ble_eq_true rfl) (up3 C 6 0 0 (htD D k p)) cu_plan (by rw [(cc_plan (A := A) (C := (up3 C 6 0 0 (htD D k p)))), up3_u]; rfl) dX2_begin_9 ?_
  refine s_aload_n (pc := 12) S 0 dX2_begin_12 rfl rfl ?_
  refine s_aload_n (pc := 13) S 2 dX2_begin_13 rfl rfl ?_
  refine s_aload_n (pc := 14) S 1 dX2_begin_14 rfl rfl ?_
  refine s_get (pc := 15) S hz (ref := "SpoolFarm$Job") (v := .int (nI (D 60 9 k))) (cc_job (A := A) (C := (up3 C 6 0 0 (htD D k p))) hkC) i_RX1 rfl 4 (Nat.le_of_ble_eq_true rfl) (by decide +kernel) (fun _ h => h) (congrArg (fun x => some (Value.int (nI x))) (show C 11 k 4 = D 60 9 k from q4)) dX2_begin_15 ?_
  refine s_callV (pc := 18) S hz hml [.int (nI (D 60 9 k))] (k_X3_sheetsWith Z l A (up3 C 6 0 0 (htD D k p)) p hpC (D 60 9 k) r4 (fun t ht => (okk_6 hK).2.2.2.1 p t hpC ht)) (cwV 1 S.2.2.2.2 gX2_begin_X3_sheetsWith rfl rfl rfl (by decide +kernel) ⟨Nat.le_of_ble_eq_true rfl, Nat.le_of_ble_eq_true rfl⟩) (cc_prn (A := A) (C := (up3 C 6 0 0 (htD D k p))) hpC) rfl rfl rfl (Nat.le_of_ble_eq_true rfl) dX2_begin_18 ⟨Nat.le_of_ble_eq_true rfl, Nat.le_of_ble_eq_true rfl⟩ (fun _ _ _ h => h.elim) (fun v A2 C2 h_2 => ?_)
  obtain ⟨rfl, rfl, rfl⟩ := h_2
  refine s_top (u := .int (nI (avT D k p 0 + avT D k p 1 + avT D k p 2))) (congrArg (fun x => Value.int (nI x)) (sm_avs (C := C) hS hk hp)) ?_
  refine s_put (pc := 21) S hz (ref := "SpoolFarm$Plan") (ty := .int) (cc_plan (A := A) (C := (up3 C 6 0 0 (htD D k p)))) i_RX2 tyX2 tyX2_ok nmX2 rfl 1 (Nat.le_of_ble_eq_true rfl) (by decide +kernel) (fun _ h => h) rfl (by decide +kernel) rfl rfl (Nat.le_of_ble_eq_true rfl) (up3 (up3 C 6 0 0 (htD D k p)) 6 0 1 (avT D k p 0 + avT D k p 1 + avT D k p 2)) cu_plan (by rw [(cc_plan (A := A) (C := (up3 (up3 C 6 0 0 (htD D k p)) 6 0 1 (avT D k p 0 + avT D k p 1 + avT D k p 2)))), up3_u]; rfl) dX2_begin_21 ?_
  refine s_aload_n (pc := 24) S 0 dX2_begin_24 rfl rfl ?_
  refine s_aload_n (pc := 25) S 3 dX2_begin_25 rfl rfl ?_
  refine s_aload_n (pc := 26) S 1 dX2_begin_26 rfl rfl ?_
  refine s_get (pc := 27) S hz (ref := "SpoolFarm$Job") (v := .int (nI (D 60 12 k))) (cc_job (A := A) (C := (up3 (up3 C 6 0 0 (htD D k p)) 6 0 1 (avT D k p 0 + avT D k p 1 + avT D k p 2))) hkC) i_RX1 rfl 5 (Nat.le_of_ble_eq_true rfl) (by decide +kernel) (fun _ h => h) (congrArg (fun x => some (Value.int (nI x))) (show C 11 k 5 = D 60 12 k from q5)) dX2_begin_27 ?_
  refine s_callV (pc := 30) S hz hml [.int (nI (D 60 12 k))] (k_X5_quota Z l A (up3 (up3 C 6 0 0 (htD D k p)) 6 0 1 (avT D k p 0 + avT D k p 1 + avT D k p 2)) (D 60 16 k) huC (D 60 12 k) r13) (cwV 1 S.2.2.2.2 gX2_begin_X5_quota rfl rfl rfl (by decide +kernel) ⟨Nat.le_of_ble_eq_true rfl, Nat.le_of_ble_eq_true rfl⟩) (cc_user (A := A) (C := (up3 (up3 C 6 0 0 (htD D k p)) 6 0 1 (avT D k p 0 + avT D k p 1 + avT D k p 2))) huC) rfl rfl rfl (Nat.le_of_ble_eq_true rfl) dX2_begin_30 ⟨Nat.le_of_ble_eq_true rfl, Nat.le_of_ble_eq_true rfl⟩ (fun _ _ _ h => h.elim) (fun v A2 C2 h_3 => ?_)
  obtain ⟨rfl, rfl, rfl⟩ := h_3
  refine s_top (u := .int (nI (D 60 0 (qiC D k)))) (congrArg (fun x => Value.int (nI x)) (sm_q (C := C) hS ju)) ?_
  refine s_put (pc := 33) S hz (ref := "SpoolFarm$Plan") (ty := .int) (cc_plan (A := A) (C := (up3 (up3 C 6 0 0 (htD D k p)) 6 0 1 (avT D k p 0 + avT D k p 1 + avT D k p 2)))) i_RX2 tyX2 tyX2_ok nmX2 rfl 2 (Nat.le_of_ble_eq_true rfl) (by decide +kernel) (fun _ h => h) rfl (by decide +kernel) rfl rfl (Nat.le_of_ble_eq_true rfl) (up3 (up3 (up3 C 6 0 0 (htD D k p)) 6 0 1 (avT D k p 0 + avT D k p 1 + avT D k p 2)) 6 0 2 (D 60 0 (qiC D k))) cu_plan (by rw [(cc_plan (A := A) (C := (up3 (up3 (up3 C 6 0 0 (htD D k p)) 6 0 1 (avT D k p 0 + avT D k p 1 + avT D k p 2)) 6 0 2 (D 60 0 (qiC D k))))), up3_u]; rfl) dX2_begin_33 ?_
  refine s_aload_n (pc := 36) S 0 dX2_begin_36 rfl rfl ?_
  refine s_iconst (pc := 37) S (v := (nI 0)) dX2_begin_37 (by decide) ?_
  refine s_put (pc := 38) S hz (ref := "SpoolFarm$Plan") (ty := .int) (cc_plan (A := A) (C := (up3 (up3 (up3 C 6 0 0 (htD D k p)) 6 0 1 (avT D k p 0 + avT D k p 1 + avT D k p 2)) 6 0 2 (D 60 0 (qiC D k))))) i_RX2 tyX2 tyX2_ok nmX2 rfl 3 (Nat.le_of_ble_eq_true rfl) (by decide +kernel) (fun _ h => h) rfl (by decide +kernel) rfl rfl (Nat.le_of_ble_eq_true rfl) (up3 (up3 (up3 (up3 C 6 0 0 (htD D k p)) 6 0 1 (avT D k p 0 + avT D k p 1 + avT D k p 2)) 6 0 2 (D 60 0 (qiC D k))) 6 0 3 0) cu_plan (by rw [(cc_plan (A := A) (C := (up3 (up3 (up3 (up3 C 6 0 0 (htD D k p)) 6 0 1 (avT D k p 0 + avT D k p 1 + avT D k p 2)) 6 0 2 (D 60 0 (qiC D k))) 6 0 3 0))), up3_u]; rfl) dX2_begin_38 ?_
  refine s_aload_n (pc := 41) S 0 dX2_begin_41 rfl rfl ?_
  refine s_iconst (pc := 42) S (v := (nI 0)) dX2_begin_42 (by decide) ?_
  refine s_put (pc := 43) S hz (ref := "SpoolFarm$Plan") (ty := .int) (cc_plan (A := A) (C := (up3 (up3 (up3 (up3 C 6 0 0 (htD D k p)) 6 0 1 (avT D k p 0 + avT D k p 1 + avT D k p 2)) 6 0 2 (D 60 0 (qiC D k))) 6 0 3 0))) i_RX2 tyX2 tyX2_ok nmX2 rfl 4 (Nat.le_of_ble_eq_true rfl) (by decide +kernel) (fun _ h => h) rfl (by decide +kernel) rfl rfl (Nat.le_of_ble_eq_true rfl) (up3 (up3 (up3 (up3 (up3 C 6 0 0 (htD D k p)) 6 0 1 (avT D k p 0 + avT D k p 1 + avT D k p 2)) 6 0 2 (D 60 0 (qiC D k))) 6 0 3 0) 6 0 4 0) cu_plan (by rw [(cc_plan (A := A) (C := (up3 (up3 (up3 (up3 (up3 C 6 0 0 (htD D k p)) 6 0 1 (avT D k p 0 + avT D k p 1 + avT D k p 2)) 6 0 2 (D 60 0 (qiC D k))) 6 0 3 0) 6 0 4 0))), up3_u]; rfl) dX2_begin_43 ?_
  refine s_aload_n (pc := 46) S 0 dX2_begin_46 rfl rfl ?_
  refine s_aload_n (pc := 47) S 1 dX2_begin_47 rfl rfl ?_
  refine s_get (pc := 48) S hz (ref := "SpoolFarm$Job") (v := .int (nI (pcN (D 60 13 k) (D 60 17 k) (D 60 19 k)))) (cc_job (A := A) (C := (up3 (up3 (up3 (up3 (up3 C 6 0 0 (htD D k p)) 6 0 1 (avT D k p 0 + avT D k p 1 + avT D k p 2)) 6 0 2 (D 60 0 (qiC D k))) 6 0 3 0) 6 0 4 0)) hkC) i_RX1 rfl 10 (Nat.le_of_ble_eq_true rfl) (by decide +kernel) (fun _ h => h) (congrArg (fun x => some (Value.int (nI x))) (show C 11 k 10 = pcN (D 60 13 k) (D 60 17 k) (D 60 19 k) from q10)) dX2_begin_48 ?_
  refine s_put (pc := 51) S hz (ref := "SpoolFarm$Plan") (ty := .int) (cc_plan (A := A) (C := (up3 (up3 (up3 (up3 (up3 C 6 0 0 (htD D k p)) 6 0 1 (avT D k p 0 + avT D k p 1 + avT D k p 2)) 6 0 2 (D 60 0 (qiC D k))) 6 0 3 0) 6 0 4 0))) i_RX2 tyX2 tyX2_ok nmX2 rfl 5 (Nat.le_of_ble_eq_true rfl) (by decide +kernel) (fun _ h => h) rfl (by decide +kernel) rfl rfl (Nat.le_of_ble_eq_true rfl) (up3 (up3 (up3 (up3 (up3 (up3 C 6 0 0 (htD D k p)) 6 0 1 (avT D k p 0 + avT D k p 1 + avT D k p 2)) 6 0 2 (D 60 0 (qiC D k))) 6 0 3 0) 6 0 4 0) 6 0 5 (pcN (D 60 13 k) (D 60 17 k) (D 60 19 k))) cu_plan (by rw [(cc_plan (A := A) (C := (up3 (up3 (up3 (up3 (up3 (up3 C 6 0 0 (htD D k p)) 6 0 1 (avT D k p 0 + avT D k p 1 + avT D k p 2)) 6 0 2 (D 60 0 (qiC D k))) 6 0 3 0) 6 0 4 0) 6 0 5 (pcN (D 60 13 k) (D 60 17 k) (D 60 19 k))))), up3_u]; rfl) dX2_begin_51 ?_
  refine s_aload_n (pc := 54) S 0 dX2_begin_54 rfl rfl ?_
  refine s_iconst (pc := 55) S (v := (nI 0)) dX2_begin_55 (by decide) ?_
  refine s_put (pc := 56) S hz (ref := "SpoolFarm$Plan") (ty := .int) (cc_plan (A := A) (C := (up3 (up3 (up3 (up3 (up3 (up3 C 6 0 0 (htD D k p)) 6 0 1 (avT D k p 0 + avT D k p 1 + avT D k p 2)) 6 0 2 (D 60 0 (qiC D k))) 6 0 3 0) 6 0 4 0) 6 0 5 (pcN (D 60 13 k) (D 60 17 k) (D 60 19 k))))) i_RX2 tyX2 tyX2_ok nmX2 rfl 6 (Nat.le_of_ble_eq_true rfl) (by decide +kernel) (fun _ h => h) rfl (by decide +kernel) rfl rfl (Nat.le_of_ble_eq_true rfl) (up3 (up3 (up3 (up3 (up3 (up3 (up3 C 6 0 0 (htD D k p)) 6 0 1 (avT D k p 0 + avT D k p 1 + avT D k p 2)) 6 0 2 (D 60 0 (qiC D k))) 6 0 3 0) 6 0 4 0) 6 0 5 (pcN (D 60 13 k) (D 60 17 k) (D 60 19 k))) 6 0 6 0) cu_plan (by rw [(cc_plan (A := A) (C := (up3 (up3 (up3 (up3 (up3 (up3 (up3 C 6 0 0 (htD D k p)) 6 0 1 (avT D k p 0 + avT D k p 1 + avT D k p 2)) 6 0 2 (D 60 0 (qiC D k))) 6 0 3 0) 6 0 4 0) 6 0 5 (pcN (D 60 13 k) (D 60 17 k) (D 60 19 k))) 6 0 6 0))), up3_u]; rfl) dX2_begin_56 ?_
  refine s_aload_n (pc := 59) S 0 dX2_begin_59 rfl rfl ?_
  refine s_aload_n (pc := 60) S 0 dX2_begin_60 rfl rfl ?_
  refine s_get (pc := 61) S hz (ref := "SpoolFarm$Plan") (v := .int (nI (pcN (D 60 13 k) (D 60 17 k) (D 60 19 k)))) (cc_plan (A := A) (C := (up3 (up3 (up3 (up3 (up3 (up3 (up3 C 6 0 0 (htD D k p)) 6 0 1 (avT D k p 0 + avT D k p 1 + avT D k p 2)) 6 0 2 (D 60 0 (qiC D k))) 6 0 3 0) 6 0 4 0) 6 0 5 (pcN (D 60 13 k) (D 60 17 k) (D 60 19 k))) 6 0 6 0))) i_RX2 rfl 5 (Nat.le_of_ble_eq_true rfl) (by decide +kernel) (fun _ h => h) rfl dX2_begin_61 ?_
  refine s_if_neN (pc := 64) S 71 dX2_begin_64 (by decide) (by omega) (fun c_4 => ?_) (fun c_4 => ?_)
  · refine s_iconst (pc := 71) S (v := (nI 0)) dX2_begin_71 (by decide) ?_
    refine s_put (pc := 72) S hz (ref := "SpoolFarm$Plan") (ty := .boolean) (cc_plan (A := A) (C := (up3 (up3 (up3 (up3 (up3 (up3 (up3 C 6 0 0 (htD D k p)) 6 0 1 (avT D k p 0 + avT D k p 1 + avT D k p 2)) 6 0 2 (D 60 0 (qiC D k))) 6 0 3 0) 6 0 4 0) 6 0 5 (pcN (D 60 13 k) (D 60 17 k) (D 60 19 k))) 6 0 6 0))) i_RX2 tyX2 tyX2_ok nmX2 rfl 7 (Nat.le_of_ble_eq_true rfl) (by decide +kernel) (fun _ h => h) rfl (by decide +kernel) (nar_z (by omega)) (fit_z (by omega)) (Nat.le_of_ble_eq_true rfl) (up3 (up3 (up3 (up3 (up3 (up3 (up3 (up3 C 6 0 0 (htD D k p)) 6 0 1 (avT D k p 0 + avT D k p 1 + avT D k p 2)) 6 0 2 (D 60 0 (qiC D k))) 6 0 3 0) 6 0 4 0) 6 0 5 (pcN (D 60 13 k) (D 60 17 k) (D 60 19 k))) 6 0 6 0) 6 0 7 0) cu_plan (by rw [(cc_plan (A := A) (C := (up3 (up3 (up3 (up3 (up3 (up3 (up3 (up3 C 6 0 0 (htD D k p)) 6 0 1 (avT D k p 0 + avT D k p 1 + avT D k p 2)) 6 0 2 (D 60 0 (qiC D k))) 6 0 3 0) 6 0 4 0) 6 0 5 (pcN (D 60 13 k) (D 60 17 k) (D 60 19 k))) 6 0 6 0) 6 0 7 0))), up3_u]; rfl) dX2_begin_72 ?_
    refine s_aload_n (pc := 75) S 0 dX2_begin_75 rfl rfl ?_
    refine s_iconst (pc := 76) S (v := (nI 0)) dX2_begin_76 (by decide) ?_
    refine s_put (pc := 77) S hz (ref := "SpoolFarm$Plan") (ty := .int) (cc_plan (A := A) (C := (up3 (up3 (up3 (up3 (up3 (up3 (up3 (up3 C 6 0 0 (htD D k p)) 6 0 1 (avT D k p 0 + avT D k p 1 + avT D k p 2)) 6 0 2 (D 60 0 (qiC D k))) 6 0 3 0) 6 0 4 0) 6 0 5 (pcN (D 60 13 k) (D 60 17 k) (D 60 19 k))) 6 0 6 0) 6 0 7 0))) i_RX2 tyX2 tyX2_ok nmX2 rfl 8 (Nat.le_of_ble_eq_true rfl) (by decide +kernel) (fun _ h => h) rfl (by decide +kernel) rfl rfl (Nat.le_of_ble_eq_true rfl) (up3 (up3 (up3 (up3 (up3 (up3 (up3 (up3 (up3 C 6 0 0 (htD D k p)) 6 0 1 (avT D k p 0 + avT D k p 1 + avT D k p 2)) 6 0 2 (D 60 0 (qiC D k))) 6 0 3 0) 6 0 4 0) 6 0 5 (pcN (D 60 13 k) (D 60 17 k) (D 60 19 k))) 6 0 6 0) 6 0 7 0) 6 0 8 0) cu_plan (by rw [(cc_plan (A := A) (C := (up3 (up3 (up3 (up3 (up3 (up3 (up3 (up3 (up3 C 6 0 0 (htD D k p)) 6 0 1 (avT D k p 0 + avT D k p 1 + avT D k p 2)) 6 0 2 (D 60 0 (qiC D k))) 6 0 3 0) 6 0 4 0) 6 0 5 (pcN (D 60 13 k) (D 60 17 k) (D 60 19 k))) 6 0 6 0) 6 0 7 0) 6 0 8 0))), up3_u]; rfl) dX2_begin_77 ?_
    have hst : PlC D C k p 0 (C 6 0 9) = (up3 (up3 (up3 (up3 (up3 (up3 (up3 (up3 (up3 C 6 0 0 (htD D k p)) 6 0 1 (avT D k p 0 + avT D k p 1 + avT D k p 2)) 6 0 2 (D 60 0 (qiC D k))) 6 0 3 0) 6 0 4 0) 6 0 5 (pcN (D 60 13 k) (D 60 17 k) (D 60 19 k))) 6 0 6 0) 6 0 7 0) 6 0 8 0) := PlC_eq rfl rfl rfl (PT_0 D k) rfl rfl (cpS_0 _ _) ((fs_0 r8).2 (by omega)) ktS_0 rfl (fun _ => rfl) (fun kk ii ff hn => by simp only [up3]; (repeat rw [if_neg (fun z => hn ⟨z.1, z.2.1⟩)]))
    exact s_vret (pc := 80) S hz hlo hr ⟨rfl, hst, rfl⟩ (Nat.le_of_ble_eq_true rfl) (Nat.le_of_ble_eq_true rfl) dX2_begin_80
  · refine s_iconst (pc := 67) S (v := (nI 1)) dX2_begin_67 (by decide) ?_
    refine s_goto (pc := 68) S 72 dX2_begin_68 (by decide) ?_
    refine s_put (pc := 72) S hz (ref := "SpoolFarm$Plan") (ty := .boolean) (cc_plan (A := A) (C := (up3 (up3 (up3 (up3 (up3 (up3 (up3 C 6 0 0 (htD D k p)) 6 0 1 (avT D k p 0 + avT D k p 1 + avT D k p 2)) 6 0 2 (D 60 0 (qiC D k))) 6 0 3 0) 6 0 4 0) 6 0 5 (pcN (D 60 13 k) (D 60 17 k) (D 60 19 k))) 6 0 6 0))) i_RX2 tyX2 tyX2_ok nmX2 rfl 7 (Nat.le_of_ble_eq_true rfl) (by decide +kernel) (fun _ h => h) rfl (by decide +kernel) (nar_z (by omega)) (fit_z (by omega)) (Nat.le_of_ble_eq_true rfl) (up3 (up3 (up3 (up3 (up3 (up3 (up3 (up3 C 6 0 0 (htD D k p)) 6 0 1 (avT D k p 0 + avT D k p 1 + avT D k p 2)) 6 0 2 (D 60 0 (qiC D k))) 6 0 3 0) 6 0 4 0) 6 0 5 (pcN (D 60 13 k) (D 60 17 k) (D 60 19 k))) 6 0 6 0) 6 0 7 1) cu_plan (by rw [(cc_plan (A := A) (C := (up3 (up3 (up3 (up3 (up3 (up3 (up3 (up3 C 6 0 0 (htD D k p)) 6 0 1 (avT D k p 0 + avT D k p 1 + avT D k p 2)) 6 0 2 (D 60 0 (qiC D k))) 6 0 3 0) 6 0 4 0) 6 0 5 (pcN (D 60 13 k) (D 60 17 k) (D 60 19 k))) 6 0 6 0) 6 0 7 1))), up3_u]; rfl) dX2_begin_72 ?_
    refine s_aload_n (pc := 75) S 0 dX2_begin_75 rfl rfl ?_
    refine s_iconst (pc := 76) S (v := (nI 0)) dX2_begin_76 (by decide) ?_
    refine s_put (pc := 77) S hz (ref := "SpoolFarm$Plan") (ty := .int) (cc_plan (A := A) (C := (up3 (up3 (up3 (up3 (up3 (up3 (up3 (up3 C 6 0 0 (htD D k p)) 6 0 1 (avT D k p 0 + avT D k p 1 + avT D k p 2)) 6 0 2 (D 60 0 (qiC D k))) 6 0 3 0) 6 0 4 0) 6 0 5 (pcN (D 60 13 k) (D 60 17 k) (D 60 19 k))) 6 0 6 0) 6 0 7 1))) i_RX2 tyX2 tyX2_ok nmX2 rfl 8 (Nat.le_of_ble_eq_true rfl) (by decide +kernel) (fun _ h => h) rfl (by decide +kernel) rfl rfl (Nat.le_of_ble_eq_true rfl) (up3 (up3 (up3 (up3 (up3 (up3 (up3 (up3 (up3 C 6 0 0 (htD D k p)) 6 0 1 (avT D k p 0 + avT D k p 1 + avT D k p 2)) 6 0 2 (D 60 0 (qiC D k))) 6 0 3 0) 6 0 4 0) 6 0 5 (pcN (D 60 13 k) (D 60 17 k) (D 60 19 k))) 6 0 6 0) 6 0 7 1) 6 0 8 0) cu_plan (by rw [(cc_plan (A := A) (C := (up3 (up3 (up3 (up3 (up3 (up3 (up3 (up3 (up3 C 6 0 0 (htD D k p)) 6 0 1 (avT D k p 0 + avT D k p 1 + avT D k p 2)) 6 0 2 (D 60 0 (qiC D k))) 6 0 3 0) 6 0 4 0) 6 0 5 (pcN (D 60 13 k) (D 60 17 k) (D 60 19 k))) 6 0 6 0) 6 0 7 1) 6 0 8 0))), up3_u]; rfl) dX2_begin_77 ?_
    have hst : PlC D C k p 0 (C 6 0 9) = (up3 (up3 (up3 (up3 (up3 (up3 (up3 (up3 (up3 C 6 0 0 (htD D k p)) 6 0 1 (avT D k p 0 + avT D k p 1 + avT D k p 2)) 6 0 2 (D 60 0 (qiC D k))) 6 0 3 0) 6 0 4 0) 6 0 5 (pcN (D 60 13 k) (D 60 17 k) (D 60 19 k))) 6 0 6 0) 6 0 7 1) 6 0 8 0) := PlC_eq rfl rfl rfl (PT_0 D k) rfl rfl (cpS_0 _ _) ((fs_0 r8).1 (by omega)) ktS_0 rfl (fun _ => rfl) (fun kk ii ff hn => by simp only [up3]; (repeat rw [if_neg (fun z => hn ⟨z.1, z.2.1⟩)]))
    exact s_vret (pc := 80) S hz hlo hr ⟨rfl, hst, rfl⟩ (Nat.le_of_ble_eq_true rfl) (Nat.le_of_ble_eq_true rfl) dX2_begin_80
set_option maxHeartbeats 4000000 in
set_option maxRecDepth 100000 in
theorem k_X2_nextReason (Z : Zp) (l : Launch) (A : AF) (C : CF) (D : CF) (k p : Nat) (hS : Sm D C) (hM : OkM D) (hL : OkL D) (hk : k < D 60 100 30) (hp : p < D 60 100 29) (j s : Nat) (hT : TrI D k p j) : CtS Z l yX2_nextReason wsX2_nextReason ({ frames := 2, cells := 0, slots := 0, locals := 61 }) [.ref (A 6 0), .ref (A 11 k), .ref (A 9 p)] A (PlC D C k p j s) 0 0 (fun v A2 C2 => A = A2 ∧ PlC D C k p j s = C2 ∧ some (.int (nI (coR D k p j))) = v) (fun _ _ _ => False) := by
  refine CtS.of (cc0 := cX2_nextReason) (maxL := 4) (ret := (some .char)) (by decide) rfl (Nat.le_of_ble_eq_true rfl) ?_
  intro M0_ p_ e_ s_ m_ args_ below_ meth_ c_ S hz hml hex hlo hr hin
  refine s_loc (L2 := [(0, .ref (A 6 0)), (1, .ref (A 11 k)), (2, .ref (A 9 p))]) rfl ?_
  have i_RX1 : ∀ w ∈ u_ws RX1 TX1 14, w ∈ wsX2_nextReason := by decide +kernel
  have i_RX2 : ∀ w ∈ u_ws RX2 TX2 10, w ∈ wsX2_nextReason := by decide +kernel
  have i_RX3 : ∀ w ∈ u_ws RX3 TX3 6, w ∈ wsX2_nextReason := by decide +kernel
  have hK := hS.okk hM hL
  obtain ⟨hO, hG, hX⟩ := id hM
  have hR := hO.rk hk hp
  obtain ⟨r1, r2, r3, r4, r5, r6, r7, r8, r9, r10, r11, r12, r13, r14, r15, r16, r17, r18, r19⟩ := id hR
  obtain ⟨-, -, -, -, -, -, -, jd, ju, jc, -⟩ := hO.jk hk
  obtain ⟨q0, q1, q2, q3, q4, q5, q6, q7, q8, q9, q10, q11, q12, q13⟩ := hS.2.2.2.2.1 k hk
  obtain ⟨p0, p1, p2, p3, p5⟩ := hS.2.2.1 p hp
  have hkC : k < C 0 0 5 := by rw [hS.1.2.2.1]; exact hk
  have hpC : p < C 0 0 4 := by rw [hS.1.2.1]; exact hp
  have huC : D 60 16 k < C 0 0 3 := by rw [hS.1.1]; exact ju
  have hpcl := pc_lt (d := D 60 13 k) (s := D 60 19 k) r9
  have hht : htD D k p < 2 := by unfold htD; split <;> omega
  have hco := co_c D k p j
  have h100 := co_100 (D := D) (k := k) (j := j) r9 hT.2.2.2.2
  have hl100 := lt_100 (D := D) (k := k) (j := j) r9 hT.2.2.2.2
  obtain ⟨t1, t2, t3, t4, t5⟩ := id hT
  have hck := ck_c (D 60 12 k) (PT D k (j + 1))
  have hbl := bk_le (D 60 12 k) (PT D k (j + 1))
  have hps := PT_step D k j r9
  have hpl := ponN_le (D 60 13 k) (D 60 17 k) (D 60 19 k + j)
  have hct : (D 60 11 p = 0 → C 9 p 2 = 0) ∧ (D 60 11 p ≠ 0 → C 9 p 2 = D 60 5 p) := by rw [p2]; exact ⟨fun h => if_pos h, fun h => if_neg h⟩
  have hcl := csN_le (d := D 60 13 k) r9
  have h900 : csN (D 60 13 k) (D 60 17 k) * D 60 18 k ≤ 100 * 9 := Nat.mul_le_mul (by omega) r11
  have hqq := r18 (qiC D k)
  have hpcj := pc_lt (d := D 60 13 k) (s := D 60 19 k + j) r9
  have hav : ∀ t : Nat, avT D k p t ≤ 500 := fun t => by unfold avT; have := r6 (3 * p + t); split <;> omega
  have hav0 := hav 0
  have hav1 := hav 1
  have hav2 := hav 2
  refine s_aload_n (pc := 0) S 0 dX2_nextReason_0 rfl rfl ?_
  refine s_get (pc := 1) S hz (ref := "SpoolFarm$Plan") (v := .int (nI (PT D k j))) (cc_plan (A := A) (C := (PlC D C k p j s))) i_RX2 rfl 3 (Nat.le_of_ble_eq_true rfl) (by decide +kernel) (fun _ h => h) rfl dX2_nextReason_1 ?_
  refine s_aload_n (pc := 4) S 1 dX2_nextReason_4 rfl rfl ?_
  refine s_callV (pc := 5) S hz hml [] (k_X1_pagesToCome Z l A (PlC D C k p j s) k hkC (show OkK (PlC D C k p j s) from hK)) (cwV 0 S.2.2.2.2 gX2_nextReason_X1_pagesToCome rfl rfl rfl (by decide +kernel) ⟨Nat.le_of_ble_eq_true rfl, Nat.le_of_ble_eq_true rfl⟩) (cc_job (A := A) (C := (PlC D C k p j s)) hkC) rfl rfl rfl (Nat.le_of_ble_eq_true rfl) dX2_nextReason_5 ⟨Nat.le_of_ble_eq_true rfl, Nat.le_of_ble_eq_true rfl⟩ (fun _ _ _ h => h.elim) (fun v A2 C2 h_1 => ?_)
  obtain ⟨rfl, rfl, rfl⟩ := h_1
  refine s_top (u := .int (nI (D 60 17 k * D 60 18 k - ptoN (D 60 13 k) (D 60 17 k) (D 60 19 k)))) (congrArg (fun x => Value.int (nI x)) (show C 11 k 3 - C 11 k 9 = _ by rw [q3, q9])) ?_
  refine s_icmp_ltN (pc := 8) S 14 dX2_nextReason_8 (by decide) (by omega) (by omega) (fun c_2 => ?_) (fun c_2 => ?_)
  · refine s_aload_n (pc := 14) S 1 dX2_nextReason_14 rfl rfl ?_
    refine s_get (pc := 15) S hz (ref := "SpoolFarm$Job") (v := .int (nI (D 60 15 k))) (cc_job (A := A) (C := (PlC D C k p j s)) hkC) i_RX1 rfl 8 (Nat.le_of_ble_eq_true rfl) (by decide +kernel) (fun _ h => h) (congrArg (fun x => some (Value.int (nI x))) (show PlC D C k p j s 11 k 8 = D 60 15 k from q8)) dX2_nextReason_15 ?_
    refine s_if_eqN (pc := 18) S 24 dX2_nextReason_18 (by decide) (by omega) (fun c_3 => ?_) (fun c_3 => ?_)
    · refine s_aload_n (pc := 24) S 1 dX2_nextReason_24 rfl rfl ?_
      refine s_get (pc := 25) S hz (ref := "SpoolFarm$Job") (v := .int (nI (D 60 12 k))) (cc_job (A := A) (C := (PlC D C k p j s)) hkC) i_RX1 rfl 5 (Nat.le_of_ble_eq_true rfl) (by decide +kernel) (fun _ h => h) (congrArg (fun x => some (Value.int (nI x))) (show PlC D C k p j s 11 k 5 = D 60 12 k from q5)) dX2_nextReason_25 ?_
      refine s_if_eqN (pc := 28) S 41 dX2_nextReason_28 (by decide) (by omega) (fun c_4 => ?_) (fun c_4 => ?_)
      · refine s_aload_n (pc := 41) S 0 dX2_nextReason_41 rfl rfl ?_
        refine s_get (pc := 42) S hz (ref := "SpoolFarm$Plan") (v := .int (nI (htD D k p))) (cc_plan (A := A) (C := (PlC D C k p j s))) i_RX2 rfl 0 (Nat.le_of_ble_eq_true rfl) (by decide +kernel) (fun _ h => h) rfl dX2_nextReason_42 ?_
        refine s_if_neN (pc := 45) S 51 dX2_nextReason_45 (by decide) (by omega) (fun c_5 => ?_) (fun c_5 => ?_)
        · refine s_aload_n (pc := 51) S 0 dX2_nextReason_51 rfl rfl ?_
          refine s_get (pc := 52) S hz (ref := "SpoolFarm$Plan") (v := .int (nI j)) (cc_plan (A := A) (C := (PlC D C k p j s))) i_RX2 rfl 4 (Nat.le_of_ble_eq_true rfl) (by decide +kernel) (fun _ h => h) rfl dX2_nextReason_52 ?_
          refine s_aload_n (pc := 55) S 0 dX2_nextReason_55 rfl rfl ?_
          refine s_get (pc := 56) S hz (ref := "SpoolFarm$Plan") (v := .int (nI (avT D k p 0 + avT D k p 1 + avT D k p 2))) (cc_plan (A := A) (C := (PlC D C k p j s))) i_RX2 rfl 1 (Nat.le_of_ble_eq_true rfl) (by decide +kernel) (fun _ h => h) rfl dX2_nextReason_56 ?_
          refine s_icmp_ltN (pc := 59) S 65 dX2_nextReason_59 (by decide) (by omega) (by omega) (fun c_6 => ?_) (fun c_6 => ?_)
          · refine s_aload_n (pc := 65) S 0 dX2_nextReason_65 rfl rfl ?_
            refine s_get (pc := 66) S hz (ref := "SpoolFarm$Plan") (v := .int (nI (PT D k j))) (cc_plan (A := A) (C := (PlC D C k p j s))) i_RX2 rfl 3 (Nat.le_of_ble_eq_true rfl) (by decide +kernel) (fun _ h => h) rfl dX2_nextReason_66 ?_
            refine s_aload_n (pc := 69) S 1 dX2_nextReason_69 rfl rfl ?_
            refine s_aload_n (pc := 70) S 0 dX2_nextReason_70 rfl rfl ?_
            refine s_get (pc := 71) S hz (ref := "SpoolFarm$Plan") (v := .int (nI (pcN (D 60 13 k) (D 60 17 k) (D 60 19 k + j)))) (cc_plan (A := A) (C := (PlC D C k p j s))) i_RX2 rfl 5 (Nat.le_of_ble_eq_true rfl) (by decide +kernel) (fun _ h => h) rfl dX2_nextReason_71 ?_
            refine s_callV (pc := 74) S hz hml [.int (nI (pcN (D 60 13 k) (D 60 17 k) (D 60 19 k + j)))] (k_X1_sheetPages Z l A (PlC D C k p j s) k hkC (pcN (D 60 13 k) (D 60 17 k) (D 60 19 k + j)) (Nat.le_of_lt (Nat.lt_of_lt_of_eq (pc_lt r9) q2.symm)) (show OkK (PlC D C k p j s) from hK)) (cwV 1 S.2.2.2.2 gX2_nextReason_X1_sheetPages rfl rfl rfl (by decide +kernel) ⟨Nat.le_of_ble_eq_true rfl, Nat.le_of_ble_eq_true rfl⟩) (cc_job (A := A) (C := (PlC D C k p j s)) hkC) rfl rfl rfl (Nat.le_of_ble_eq_true rfl) dX2_nextReason_74 ⟨Nat.le_of_ble_eq_true rfl, Nat.le_of_ble_eq_true rfl⟩ (fun _ _ _ h => h.elim) (fun v A2 C2 h_7 => ?_)
            obtain ⟨rfl, rfl, rfl⟩ := h_7
            refine s_top (u := .int (nI (ponN (D 60 13 k) (D 60 17 k) (D 60 19 k + j)))) (congrArg (fun x => Value.int (nI x)) (show shN (C 11 k 6) (C 11 k 2) _ = _ by rw [q6, q2, sh_pon r9])) ?_
            refine s_iaddN (pc := 77) S dX2_nextReason_77 ?_
            refine s_top (u := .int (nI (PT D k (j + 1)))) (congrArg (fun x => Value.int (nI x)) ((PT_step D k j r9).symm)) ?_
            refine s_istore_n (pc := 78) S [(3, .int (nI (PT D k (j + 1)))), (0, .ref (A 6 0)), (1, .ref (A 11 k)), (2, .ref (A 9 p))] dX2_nextReason_78 rfl (by decide) rfl ?_
            refine s_aload_n (pc := 79) S 2 dX2_nextReason_79 rfl rfl ?_
            refine s_iload_n (pc := 80) S 0 dX2_nextReason_80 rfl rfl ?_
            refine s_callV (pc := 81) S hz hml [.int (nI (PT D k (j + 1)))] (k_X1_blackTonerFor Z l A (PlC D C k p j s) k hkC (PT D k (j + 1)) (show OkK (PlC D C k p j s) from hK)) (cwV 1 S.2.2.2.2 gX2_nextReason_X1_blackTonerFor rfl rfl rfl (by decide +kernel) ⟨Nat.le_of_ble_eq_true rfl, Nat.le_of_ble_eq_true rfl⟩) (cc_job (A := A) (C := (PlC D C k p j s)) hkC) rfl rfl rfl (Nat.le_of_ble_eq_true rfl) dX2_nextReason_81 ⟨Nat.le_of_ble_eq_true rfl, Nat.le_of_ble_eq_true rfl⟩ (fun _ _ _ h => h.elim) (fun v A2 C2 h_8 => ?_)
            obtain ⟨rfl, rfl, rfl⟩ := h_8
            refine s_top (u := .int (nI (bkN (D 60 12 k) (PT D k (j + 1))))) (congrArg (fun x => Value.int (nI x)) (show bkN (C 11 k 5) _ = _ by rw [q5])) ?_
            refine s_aload_n (pc := 84) S 3 dX2_nextReason_84 rfl rfl ?_
            refine s_get (pc := 85) S hz (ref := "SpoolFarm$Printer") (v := .int (nI (D 60 4 p))) (cc_prn (A := A) (C := (PlC D C k p j s)) hpC) i_RX3 rfl 1 (Nat.le_of_ble_eq_true rfl) (by decide +kernel) (fun _ h => h) (congrArg (fun x => some (Value.int (nI x))) (show PlC D C k p j s 9 p 1 = D 60 4 p from p1)) dX2_nextReason_85 ?_
            refine s_icmp_leN (pc := 88) S 94 dX2_nextReason_88 (by decide) (by omega) (by omega) (fun c_9 => ?_) (fun c_9 => ?_)
            · refine s_aload_n (pc := 94) S 2 dX2_nextReason_94 rfl rfl ?_
              refine s_iload_n (pc := 95) S 0 dX2_nextReason_95 rfl rfl ?_
              refine s_callV (pc := 96) S hz hml [.int (nI (PT D k (j + 1)))] (k_X1_colourTonerFor Z l A (PlC D C k p j s) k hkC (PT D k (j + 1)) (show OkK (PlC D C k p j s) from hK)) (cwV 1 S.2.2.2.2 gX2_nextReason_X1_colourTonerFor rfl rfl rfl (by decide +kernel) ⟨Nat.le_of_ble_eq_true rfl, Nat.le_of_ble_eq_true rfl⟩) (cc_job (A := A) (C := (PlC D C k p j s)) hkC) rfl rfl rfl (Nat.le_of_ble_eq_true rfl) dX2_nextReason_96 ⟨Nat.le_of_ble_eq_true rfl, Nat.le_of_ble_eq_true rfl⟩ (fun _ _ _ h => h.elim) (fun v A2 C2 h_10 => ?_)
              obtain ⟨rfl, rfl, rfl⟩ := h_10
              refine s_top (u := .int (nI (ckN (D 60 12 k) (PT D k (j + 1))))) (congrArg (fun x => Value.int (nI x)) (show ckN (C 11 k 5) _ = _ by rw [q5])) ?_
              refine s_aload_n (pc := 99) S 3 dX2_nextReason_99 rfl rfl ?_
              refine s_get (pc := 100) S hz (ref := "SpoolFarm$Printer") (v := .int (nI (C 9 p 2))) (cc_prn (A := A) (C := (PlC D C k p j s)) hpC) i_RX3 rfl 2 (Nat.le_of_ble_eq_true rfl) (by decide +kernel) (fun _ h => h) rfl dX2_nextReason_100 ?_
              refine s_icmp_leN (pc := 103) S 109 dX2_nextReason_103 (by decide) (by omega) (by omega) (fun c_11 => ?_) (fun c_11 => ?_)
              · refine s_iload_n (pc := 109) S 0 dX2_nextReason_109 rfl rfl ?_
                refine s_aload_n (pc := 110) S 1 dX2_nextReason_110 rfl rfl ?_
                refine s_get (pc := 111) S hz (ref := "SpoolFarm$Plan") (v := .int (nI (D 60 0 (qiC D k)))) (cc_plan (A := A) (C := (PlC D C k p j s))) i_RX2 rfl 2 (Nat.le_of_ble_eq_true rfl) (by decide +kernel) (fun _ h => h) rfl dX2_nextReason_111 ?_
                refine s_icmp_leN (pc := 114) S 122 dX2_nextReason_114 (by decide) (by omega) (by omega) (fun c_12 => ?_) (fun c_12 => ?_)
                · refine s_bipush (pc := 122) S (v := (nI 45)) dX2_nextReason_122 (by decide) ?_
                  exact s_zret (pc := 124) S hz hlo (nar_c (by omega)) hr ⟨rfl, rfl, congrArg (fun x => some (Value.int (nI x))) (show coR D k p j = 45 by omega)⟩ (Nat.le_of_ble_eq_true rfl) (Nat.le_of_ble_eq_true rfl) dX2_nextReason_124
                · refine s_bipush (pc := 117) S (v := (nI 113)) dX2_nextReason_117 (by decide) ?_
                  refine s_goto (pc := 119) S 124 dX2_nextReason_119 (by decide) ?_
                  exact s_zret (pc := 124) S hz hlo (nar_c (by omega)) hr ⟨rfl, rfl, congrArg (fun x => some (Value.int (nI x))) (show coR D k p j = 113 by omega)⟩ (Nat.le_of_ble_eq_true rfl) (Nat.le_of_ble_eq_true rfl) dX2_nextReason_124
              · refine s_bipush (pc := 106) S (v := (nI 99)) dX2_nextReason_106 (by decide) ?_
                exact s_zret (pc := 108) S hz hlo (nar_c (by omega)) hr ⟨rfl, rfl, congrArg (fun x => some (Value.int (nI x))) (show coR D k p j = 99 by omega)⟩ (Nat.le_of_ble_eq_true rfl) (Nat.le_of_ble_eq_true rfl) dX2_nextReason_108
            · refine s_bipush (pc := 91) S (v := (nI 116)) dX2_nextReason_91 (by decide) ?_
              exact s_zret (pc := 93) S hz hlo (nar_c (by omega)) hr ⟨rfl, rfl, congrArg (fun x => some (Value.int (nI x))) (show coR D k p j = 116 by omega)⟩ (Nat.le_of_ble_eq_true rfl) (Nat.le_of_ble_eq_true rfl) dX2_nextReason_93
          · refine s_bipush (pc := 62) S (v := (nI 112)) dX2_nextReason_62 (by decide) ?_
            exact s_zret (pc := 64) S hz hlo (nar_c (by omega)) hr ⟨rfl, rfl, congrArg (fun x => some (Value.int (nI x))) (show coR D k p j = 112 by omega)⟩ (Nat.le_of_ble_eq_true rfl) (Nat.le_of_ble_eq_true rfl) dX2_nextReason_64
        · refine s_bipush (pc := 48) S (v := (nI 107)) dX2_nextReason_48 (by decide) ?_
          exact s_zret (pc := 50) S hz hlo (nar_c (by omega)) hr ⟨rfl, rfl, congrArg (fun x => some (Value.int (nI x))) (show coR D k p j = 107 by omega)⟩ (Nat.le_of_ble_eq_true rfl) (Nat.le_of_ble_eq_true rfl) dX2_nextReason_50
      · refine s_aload_n (pc := 31) S 2 dX2_nextReason_31 rfl rfl ?_
        refine s_get (pc := 32) S hz (ref := "SpoolFarm$Printer") (v := .int (nI (D 60 11 p))) (cc_prn (A := A) (C := (PlC D C k p j s)) hpC) i_RX3 rfl 0 (Nat.le_of_ble_eq_true rfl) (by decide +kernel) (fun _ h => h) (congrArg (fun x => some (Value.int (nI x))) (show PlC D C k p j s 9 p 0 = D 60 11 p from p0)) dX2_nextReason_32 ?_
        refine s_if_neN (pc := 35) S 41 dX2_nextReason_35 (by decide) (by omega) (fun c_13 => ?_) (fun c_13 => ?_)
        · refine s_aload_n (pc := 41) S 0 dX2_nextReason_41 rfl rfl ?_
          refine s_get (pc := 42) S hz (ref := "SpoolFarm$Plan") (v := .int (nI (htD D k p))) (cc_plan (A := A) (C := (PlC D C k p j s))) i_RX2 rfl 0 (Nat.le_of_ble_eq_true rfl) (by decide +kernel) (fun _ h => h) rfl dX2_nextReason_42 ?_
          refine s_if_neN (pc := 45) S 51 dX2_nextReason_45 (by decide) (by omega) (fun c_14 => ?_) (fun c_14 => ?_)
          · refine s_aload_n (pc := 51) S 0 dX2_nextReason_51 rfl rfl ?_
            refine s_get (pc := 52) S hz (ref := "SpoolFarm$Plan") (v := .int (nI j)) (cc_plan (A := A) (C := (PlC D C k p j s))) i_RX2 rfl 4 (Nat.le_of_ble_eq_true rfl) (by decide +kernel) (fun _ h => h) rfl dX2_nextReason_52 ?_
            refine s_aload_n (pc := 55) S 0 dX2_nextReason_55 rfl rfl ?_
            refine s_get (pc := 56) S hz (ref := "SpoolFarm$Plan") (v := .int (nI (avT D k p 0 + avT D k p 1 + avT D k p 2))) (cc_plan (A := A) (C := (PlC D C k p j s))) i_RX2 rfl 1 (Nat.le_of_ble_eq_true rfl) (by decide +kernel) (fun _ h => h) rfl dX2_nextReason_56 ?_
            refine s_icmp_ltN (pc := 59) S 65 dX2_nextReason_59 (by decide) (by omega) (by omega) (fun c_15 => ?_) (fun c_15 => ?_)
            · refine s_aload_n (pc := 65) S 0 dX2_nextReason_65 rfl rfl ?_
              refine s_get (pc := 66) S hz (ref := "SpoolFarm$Plan") (v := .int (nI (PT D k j))) (cc_plan (A := A) (C := (PlC D C k p j s))) i_RX2 rfl 3 (Nat.le_of_ble_eq_true rfl) (by decide +kernel) (fun _ h => h) rfl dX2_nextReason_66 ?_
              refine s_aload_n (pc := 69) S 1 dX2_nextReason_69 rfl rfl ?_
              refine s_aload_n (pc := 70) S 0 dX2_nextReason_70 rfl rfl ?_
              refine s_get (pc := 71) S hz (ref := "SpoolFarm$Plan") (v := .int (nI (pcN (D 60 13 k) (D 60 17 k) (D 60 19 k + j)))) (cc_plan (A := A) (C := (PlC D C k p j s))) i_RX2 rfl 5 (Nat.le_of_ble_eq_true rfl) (by decide +kernel) (fun _ h => h) rfl dX2_nextReason_71 ?_
              refine s_callV (pc := 74) S hz hml [.int (nI (pcN (D 60 13 k) (D 60 17 k) (D 60 19 k + j)))] (k_X1_sheetPages Z l A (PlC D C k p j s) k hkC (pcN (D 60 13 k) (D 60 17 k) (D 60 19 k + j)) (Nat.le_of_lt (Nat.lt_of_lt_of_eq (pc_lt r9) q2.symm)) (show OkK (PlC D C k p j s) from hK)) (cwV 1 S.2.2.2.2 gX2_nextReason_X1_sheetPages rfl rfl rfl (by decide +kernel) ⟨Nat.le_of_ble_eq_true rfl, Nat.le_of_ble_eq_true rfl⟩) (cc_job (A := A) (C := (PlC D C k p j s)) hkC) rfl rfl rfl (Nat.le_of_ble_eq_true rfl) dX2_nextReason_74 ⟨Nat.le_of_ble_eq_true rfl, Nat.le_of_ble_eq_true rfl⟩ (fun _ _ _ h => h.elim) (fun v A2 C2 h_16 => ?_)
              obtain ⟨rfl, rfl, rfl⟩ := h_16
              refine s_top (u := .int (nI (ponN (D 60 13 k) (D 60 17 k) (D 60 19 k + j)))) (congrArg (fun x => Value.int (nI x)) (show shN (C 11 k 6) (C 11 k 2) _ = _ by rw [q6, q2, sh_pon r9])) ?_
              refine s_iaddN (pc := 77) S dX2_nextReason_77 ?_
              refine s_top (u := .int (nI (PT D k (j + 1)))) (congrArg (fun x => Value.int (nI x)) ((PT_step D k j r9).symm)) ?_
              refine s_istore_n (pc := 78) S [(3, .int (nI (PT D k (j + 1)))), (0, .ref (A 6 0)), (1, .ref (A 11 k)), (2, .ref (A 9 p))] dX2_nextReason_78 rfl (by decide) rfl ?_
              refine s_aload_n (pc := 79) S 2 dX2_nextReason_79 rfl rfl ?_
              refine s_iload_n (pc := 80) S 0 dX2_nextReason_80 rfl rfl ?_
              refine s_callV (pc := 81) S hz hml [.int (nI (PT D k (j + 1)))] (k_X1_blackTonerFor Z l A (PlC D C k p j s) k hkC (PT D k (j + 1)) (show OkK (PlC D C k p j s) from hK)) (cwV 1 S.2.2.2.2 gX2_nextReason_X1_blackTonerFor rfl rfl rfl (by decide +kernel) ⟨Nat.le_of_ble_eq_true rfl, Nat.le_of_ble_eq_true rfl⟩) (cc_job (A := A) (C := (PlC D C k p j s)) hkC) rfl rfl rfl (Nat.le_of_ble_eq_true rfl) dX2_nextReason_81 ⟨Nat.le_of_ble_eq_true rfl, Nat.le_of_ble_eq_true rfl⟩ (fun _ _ _ h => h.elim) (fun v A2 C2 h_17 => ?_)
              obtain ⟨rfl, rfl, rfl⟩ := h_17
              refine s_top (u := .int (nI (bkN (D 60 12 k) (PT D k (j + 1))))) (congrArg (fun x => Value.int (nI x)) (show bkN (C 11 k 5) _ = _ by rw [q5])) ?_
              refine s_aload_n (pc := 84) S 3 dX2_nextReason_84 rfl rfl ?_
              refine s_get (pc := 85) S hz (ref := "SpoolFarm$Printer") (v := .int (nI (D 60 4 p))) (cc_prn (A := A) (C := (PlC D C k p j s)) hpC) i_RX3 rfl 1 (Nat.le_of_ble_eq_true rfl) (by decide +kernel) (fun _ h => h) (congrArg (fun x => some (Value.int (nI x))) (show PlC D C k p j s 9 p 1 = D 60 4 p from p1)) dX2_nextReason_85 ?_
              refine s_icmp_leN (pc := 88) S 94 dX2_nextReason_88 (by decide) (by omega) (by omega) (fun c_18 => ?_) (fun c_18 => ?_)
              · refine s_aload_n (pc := 94) S 2 dX2_nextReason_94 rfl rfl ?_
                refine s_iload_n (pc := 95) S 0 dX2_nextReason_95 rfl rfl ?_
                refine s_callV (pc := 96) S hz hml [.int (nI (PT D k (j + 1)))] (k_X1_colourTonerFor Z l A (PlC D C k p j s) k hkC (PT D k (j + 1)) (show OkK (PlC D C k p j s) from hK)) (cwV 1 S.2.2.2.2 gX2_nextReason_X1_colourTonerFor rfl rfl rfl (by decide +kernel) ⟨Nat.le_of_ble_eq_true rfl, Nat.le_of_ble_eq_true rfl⟩) (cc_job (A := A) (C := (PlC D C k p j s)) hkC) rfl rfl rfl (Nat.le_of_ble_eq_true rfl) dX2_nextReason_96 ⟨Nat.le_of_ble_eq_true rfl, Nat.le_of_ble_eq_true rfl⟩ (fun _ _ _ h => h.elim) (fun v A2 C2 h_19 => ?_)
                obtain ⟨rfl, rfl, rfl⟩ := h_19
                refine s_top (u := .int (nI (ckN (D 60 12 k) (PT D k (j + 1))))) (congrArg (fun x => Value.int (nI x)) (show ckN (C 11 k 5) _ = _ by rw [q5])) ?_
                refine s_aload_n (pc := 99) S 3 dX2_nextReason_99 rfl rfl ?_
                refine s_get (pc := 100) S hz (ref := "SpoolFarm$Printer") (v := .int (nI (C 9 p 2))) (cc_prn (A := A) (C := (PlC D C k p j s)) hpC) i_RX3 rfl 2 (Nat.le_of_ble_eq_true rfl) (by decide +kernel) (fun _ h => h) rfl dX2_nextReason_100 ?_
                refine s_icmp_leN (pc := 103) S 109 dX2_nextReason_103 (by decide) (by omega) (by omega) (fun c_20 => ?_) (fun c_20 => ?_)
                · refine s_iload_n (pc := 109) S 0 dX2_nextReason_109 rfl rfl ?_
                  refine s_aload_n (pc := 110) S 1 dX2_nextReason_110 rfl rfl ?_
                  refine s_get (pc := 111) S hz (ref := "SpoolFarm$Plan") (v := .int (nI (D 60 0 (qiC D k)))) (cc_plan (A := A) (C := (PlC D C k p j s))) i_RX2 rfl 2 (Nat.le_of_ble_eq_true rfl) (by decide +kernel) (fun _ h => h) rfl dX2_nextReason_111 ?_
                  refine s_icmp_leN (pc := 114) S 122 dX2_nextReason_114 (by decide) (by omega) (by omega) (fun c_21 => ?_) (fun c_21 => ?_)
                  · refine s_bipush (pc := 122) S (v := (nI 45)) dX2_nextReason_122 (by decide) ?_
                    exact s_zret (pc := 124) S hz hlo (nar_c (by omega)) hr ⟨rfl, rfl, congrArg (fun x => some (Value.int (nI x))) (show coR D k p j = 45 by omega)⟩ (Nat.le_of_ble_eq_true rfl) (Nat.le_of_ble_eq_true rfl) dX2_nextReason_124
                  · refine s_bipush (pc := 117) S (v := (nI 113)) dX2_nextReason_117 (by decide) ?_
                    refine s_goto (pc := 119) S 124 dX2_nextReason_119 (by decide) ?_
                    exact s_zret (pc := 124) S hz hlo (nar_c (by omega)) hr ⟨rfl, rfl, congrArg (fun x => some (Value.int (nI x))) (show coR D k p j = 113 by omega)⟩ (Nat.le_of_ble_eq_true rfl) (Nat.le_of_ble_eq_true rfl) dX2_nextReason_124
                · refine s_bipush (pc := 106) S (v := (nI 99)) dX2_nextReason_106 (by decide) ?_
                  exact s_zret (pc := 108) S hz hlo (nar_c (by omega)) hr ⟨rfl, rfl, congrArg (fun x => some (Value.int (nI x))) (show coR D k p j = 99 by omega)⟩ (Nat.le_of_ble_eq_true rfl) (Nat.le_of_ble_eq_true rfl) dX2_nextReason_108
              · refine s_bipush (pc := 91) S (v := (nI 116)) dX2_nextReason_91 (by decide) ?_
                exact s_zret (pc := 93) S hz hlo (nar_c (by omega)) hr ⟨rfl, rfl, congrArg (fun x => some (Value.int (nI x))) (show coR D k p j = 116 by omega)⟩ (Nat.le_of_ble_eq_true rfl) (Nat.le_of_ble_eq_true rfl) dX2_nextReason_93
            · refine s_bipush (pc := 62) S (v := (nI 112)) dX2_nextReason_62 (by decide) ?_
              exact s_zret (pc := 64) S hz hlo (nar_c (by omega)) hr ⟨rfl, rfl, congrArg (fun x => some (Value.int (nI x))) (show coR D k p j = 112 by omega)⟩ (Nat.le_of_ble_eq_true rfl) (Nat.le_of_ble_eq_true rfl) dX2_nextReason_64
          · refine s_bipush (pc := 48) S (v := (nI 107)) dX2_nextReason_48 (by decide) ?_
            exact s_zret (pc := 50) S hz hlo (nar_c (by omega)) hr ⟨rfl, rfl, congrArg (fun x => some (Value.int (nI x))) (show coR D k p j = 107 by omega)⟩ (Nat.le_of_ble_eq_true rfl) (Nat.le_of_ble_eq_true rfl) dX2_nextReason_50
        · refine s_bipush (pc := 38) S (v := (nI 110)) dX2_nextReason_38 (by decide) ?_
          exact s_zret (pc := 40) S hz hlo (nar_c (by omega)) hr ⟨rfl, rfl, congrArg (fun x => some (Value.int (nI x))) (show coR D k p j = 110 by omega)⟩ (Nat.le_of_ble_eq_true rfl) (Nat.le_of_ble_eq_true rfl) dX2_nextReason_40
    · refine s_bipush (pc := 21) S (v := (nI 120)) dX2_nextReason_21 (by decide) ?_
      exact s_zret (pc := 23) S hz hlo (nar_c (by omega)) hr ⟨rfl, rfl, congrArg (fun x => some (Value.int (nI x))) (show coR D k p j = 120 by omega)⟩ (Nat.le_of_ble_eq_true rfl) (Nat.le_of_ble_eq_true rfl) dX2_nextReason_23
  · refine s_bipush (pc := 11) S (v := (nI 100)) dX2_nextReason_11 (by decide) ?_
    exact s_zret (pc := 13) S hz hlo (nar_c (by omega)) hr ⟨rfl, rfl, congrArg (fun x => some (Value.int (nI x))) (show coR D k p j = 100 by omega)⟩ (Nat.le_of_ble_eq_true rfl) (Nat.le_of_ble_eq_true rfl) dX2_nextReason_13
set_option maxHeartbeats 4000000 in
set_option maxRecDepth 100000 in
theorem k_X2_addSheet (Z : Zp) (l : Launch) (A : AF) (C : CF) (D : CF) (k p : Nat) (hS : Sm D C) (hM : OkM D) (hL : OkL D) (hk : k < D 60 100 30) (hp : p < D 60 100 29) (j s : Nat) (hT : TrI D k p j) (hj : D 60 19 k + j < csN (D 60 13 k) (D 60 17 k) * D 60 18 k) : CtS Z l yX2_addSheet wsX2_addSheet ({ frames := 2, cells := 0, slots := 0, locals := 61 }) [.ref (A 6 0), .ref (A 11 k)] A (PlC D C k p j s) 0 0 (fun v A2 C2 => A = A2 ∧ PlC D C k p (j + 1) s = C2 ∧ none = v) (fun _ _ _ => False) := by
  refine CtS.of (cc0 := cX2_addSheet) (maxL := 3) (ret := none) (by decide) rfl (Nat.le_of_ble_eq_true rfl) ?_
  intro M0_ p_ e_ s_ m_ args_ below_ meth_ c_ S hz hml hex hlo hr hin
  refine s_loc (L2 := [(0, .ref (A 6 0)), (1, .ref (A 11 k))]) rfl ?_
  have i_RX1 : ∀ w ∈ u_ws RX1 TX1 14, w ∈ wsX2_addSheet := by decide +kernel
  have i_RX2 : ∀ w ∈ u_ws RX2 TX2 10, w ∈ wsX2_addSheet := by decide +kernel
  have hK := hS.okk hM hL
  obtain ⟨hO, hG, hX⟩ := id hM
  have hR := hO.rk hk hp
  obtain ⟨r1, r2, r3, r4, r5, r6, r7, r8, r9, r10, r11, r12, r13, r14, r15, r16, r17, r18, r19⟩ := id hR
  obtain ⟨-, -, -, -, -, -, -, jd, ju, jc, -⟩ := hO.jk hk
  obtain ⟨q0, q1, q2, q3, q4, q5, q6, q7, q8, q9, q10, q11, q12, q13⟩ := hS.2.2.2.2.1 k hk
  obtain ⟨p0, p1, p2, p3, p5⟩ := hS.2.2.1 p hp
  have hkC : k < C 0 0 5 := by rw [hS.1.2.2.1]; exact hk
  have hpC : p < C 0 0 4 := by rw [hS.1.2.1]; exact hp
  have huC : D 60 16 k < C 0 0 3 := by rw [hS.1.1]; exact ju
  have hpcl := pc_lt (d := D 60 13 k) (s := D 60 19 k) r9
  have hht : htD D k p < 2 := by unfold htD; split <;> omega
  have hco := co_c D k p j
  have h100 := co_100 (D := D) (k := k) (j := j) r9 hT.2.2.2.2
  have hl100 := lt_100 (D := D) (k := k) (j := j) r9 hT.2.2.2.2
  obtain ⟨t1, t2, t3, t4, t5⟩ := id hT
  have hck := ck_c (D 60 12 k) (PT D k (j + 1))
  have hbl := bk_le (D 60 12 k) (PT D k (j + 1))
  have hps := PT_step D k j r9
  have hpl := ponN_le (D 60 13 k) (D 60 17 k) (D 60 19 k + j)
  have hct : (D 60 11 p = 0 → C 9 p 2 = 0) ∧ (D 60 11 p ≠ 0 → C 9 p 2 = D 60 5 p) := by rw [p2]; exact ⟨fun h => if_pos h, fun h => if_neg h⟩
  have hcl := csN_le (d := D 60 13 k) r9
  have h900 : csN (D 60 13 k) (D 60 17 k) * D 60 18 k ≤ 100 * 9 := Nat.mul_le_mul (by omega) r11
  have hqq := r18 (qiC D k)
  have hpcj := pc_lt (d := D 60 13 k) (s := D 60 19 k + j) r9
  have hav : ∀ t : Nat, avT D k p t ≤ 500 := fun t => by unfold avT; have := r6 (3 * p + t); split <;> omega
  have hav0 := hav 0
  have hav1 := hav 1
  have hav2 := hav 2
  have hcp := csN_pos (d := D 60 13 k) r9
  have hfs : fsS (csD D k) (D 60 19 k) j < 2 := by unfold fsS; split <;> omega
  have hkt := ktS_le (csD D k) (D 60 19 k) j
  have hcs : cpS (csD D k) (D 60 19 k) j ≤ j := by unfold cpS; omega
  refine s_aload_n (pc := 0) S 1 dX2_addSheet_0 rfl rfl ?_
  refine s_aload_n (pc := 1) S 0 dX2_addSheet_1 rfl rfl ?_
  refine s_get (pc := 2) S hz (ref := "SpoolFarm$Plan") (v := .int (nI (pcN (D 60 13 k) (D 60 17 k) (D 60 19 k + j)))) (cc_plan (A := A) (C := (PlC D C k p j s))) i_RX2 rfl 5 (Nat.le_of_ble_eq_true rfl) (by decide +kernel) (fun _ h => h) rfl dX2_addSheet_2 ?_
  refine s_callV (pc := 5) S hz hml [.int (nI (pcN (D 60 13 k) (D 60 17 k) (D 60 19 k + j)))] (k_X1_sheetPages Z l A (PlC D C k p j s) k hkC (pcN (D 60 13 k) (D 60 17 k) (D 60 19 k + j)) (Nat.le_of_lt (Nat.lt_of_lt_of_eq (pc_lt r9) q2.symm)) (show OkK (PlC D C k p j s) from hK)) (cwV 1 S.2.2.2.2 gX2_addSheet_X1_sheetPages rfl rfl rfl (by decide +kernel) ⟨Nat.le_of_ble_eq_true rfl, Nat.le_of_ble_eq_true rfl⟩) (cc_job (A := A) (C := (PlC D C k p j s)) hkC) rfl rfl rfl (Nat.le_of_ble_eq_true rfl) dX2_addSheet_5 ⟨Nat.le_of_ble_eq_true rfl, Nat.le_of_ble_eq_true rfl⟩ (fun _ _ _ h => h.elim) (fun v A2 C2 h_1 => ?_)
  obtain ⟨rfl, rfl, rfl⟩ := h_1
  refine s_top (u := .int (nI (ponN (D 60 13 k) (D 60 17 k) (D 60 19 k + j)))) (congrArg (fun x => Value.int (nI x)) (show shN (C 11 k 6) (C 11 k 2) _ = _ by rw [q6, q2, sh_pon r9])) ?_
  refine s_istore_n (pc := 8) S [(2, .int (nI (ponN (D 60 13 k) (D 60 17 k) (D 60 19 k + j)))), (0, .ref (A 6 0)), (1, .ref (A 11 k))] dX2_addSheet_8 rfl (by decide) rfl ?_
  refine s_aload_n (pc := 9) S 1 dX2_addSheet_9 rfl rfl ?_
  refine s_dup (pc := 10) S dX2_addSheet_10 rfl ?_
  refine s_get (pc := 11) S hz (ref := "SpoolFarm$Plan") (v := .int (nI (PT D k j))) (cc_plan (A := A) (C := (PlC D C k p j s))) i_RX2 rfl 3 (Nat.le_of_ble_eq_true rfl) (by decide +kernel) (fun _ h => h) rfl dX2_addSheet_11 ?_
  refine s_iload_n (pc := 14) S 0 dX2_addSheet_14 rfl rfl ?_
  refine s_iaddN (pc := 15) S dX2_addSheet_15 ?_
  refine s_put (pc := 16) S hz (ref := "SpoolFarm$Plan") (ty := .int) (cc_plan (A := A) (C := (PlC D C k p j s))) i_RX2 tyX2 tyX2_ok nmX2 rfl 3 (Nat.le_of_ble_eq_true rfl) (by decide +kernel) (fun _ h => h) rfl (by decide +kernel) rfl rfl (Nat.le_of_ble_eq_true rfl) (up3 (PlC D C k p j s) 6 0 3 ((PT D k j) + (ponN (D 60 13 k) (D 60 17 k) (D 60 19 k + j)))) cu_plan (by rw [(cc_plan (A := A) (C := (up3 (PlC D C k p j s) 6 0 3 ((PT D k j) + (ponN (D 60 13 k) (D 60 17 k) (D 60 19 k + j)))))), up3_u]; rfl) dX2_addSheet_16 ?_
  refine s_aload_n (pc := 19) S 1 dX2_addSheet_19 rfl rfl ?_
  refine s_dup (pc := 20) S dX2_addSheet_20 rfl ?_
  refine s_get (pc := 21) S hz (ref := "SpoolFarm$Plan") (v := .int (nI j)) (cc_plan (A := A) (C := (up3 (PlC D C k p j s) 6 0 3 ((PT D k j) + (ponN (D 60 13 k) (D 60 17 k) (D 60 19 k + j)))))) i_RX2 rfl 4 (Nat.le_of_ble_eq_true rfl) (by decide +kernel) (fun _ h => h) rfl dX2_addSheet_21 ?_
  refine s_iconst (pc := 24) S (v := (nI 1)) dX2_addSheet_24 (by decide) ?_
  refine s_iaddN (pc := 25) S dX2_addSheet_25 ?_
  refine s_put (pc := 26) S hz (ref := "SpoolFarm$Plan") (ty := .int) (cc_plan (A := A) (C := (up3 (PlC D C k p j s) 6 0 3 ((PT D k j) + (ponN (D 60 13 k) (D 60 17 k) (D 60 19 k + j)))))) i_RX2 tyX2 tyX2_ok nmX2 rfl 4 (Nat.le_of_ble_eq_true rfl) (by decide +kernel) (fun _ h => h) rfl (by decide +kernel) rfl rfl (Nat.le_of_ble_eq_true rfl) (up3 (up3 (PlC D C k p j s) 6 0 3 ((PT D k j) + (ponN (D 60 13 k) (D 60 17 k) (D 60 19 k + j)))) 6 0 4 (j + 1)) cu_plan (by rw [(cc_plan (A := A) (C := (up3 (up3 (PlC D C k p j s) 6 0 3 ((PT D k j) + (ponN (D 60 13 k) (D 60 17 k) (D 60 19 k + j)))) 6 0 4 (j + 1)))), up3_u]; rfl) dX2_addSheet_26 ?_
  refine s_aload_n (pc := 29) S 1 dX2_addSheet_29 rfl rfl ?_
  refine s_dup (pc := 30) S dX2_addSheet_30 rfl ?_
  refine s_get (pc := 31) S hz (ref := "SpoolFarm$Plan") (v := .int (nI (pcN (D 60 13 k) (D 60 17 k) (D 60 19 k + j)))) (cc_plan (A := A) (C := (up3 (up3 (PlC D C k p j s) 6 0 3 ((PT D k j) + (ponN (D 60 13 k) (D 60 17 k) (D 60 19 k + j)))) 6 0 4 (j + 1)))) i_RX2 rfl 5 (Nat.le_of_ble_eq_true rfl) (by decide +kernel) (fun _ h => h) rfl dX2_addSheet_31 ?_
  refine s_iload_n (pc := 34) S 0 dX2_addSheet_34 rfl rfl ?_
  refine s_iaddN (pc := 35) S dX2_addSheet_35 ?_
  refine s_put (pc := 36) S hz (ref := "SpoolFarm$Plan") (ty := .int) (cc_plan (A := A) (C := (up3 (up3 (PlC D C k p j s) 6 0 3 ((PT D k j) + (ponN (D 60 13 k) (D 60 17 k) (D 60 19 k + j)))) 6 0 4 (j + 1)))) i_RX2 tyX2 tyX2_ok nmX2 rfl 5 (Nat.le_of_ble_eq_true rfl) (by decide +kernel) (fun _ h => h) rfl (by decide +kernel) rfl rfl (Nat.le_of_ble_eq_true rfl) (up3 (up3 (up3 (PlC D C k p j s) 6 0 3 ((PT D k j) + (ponN (D 60 13 k) (D 60 17 k) (D 60 19 k + j)))) 6 0 4 (j + 1)) 6 0 5 ((pcN (D 60 13 k) (D 60 17 k) (D 60 19 k + j)) + (ponN (D 60 13 k) (D 60 17 k) (D 60 19 k + j)))) cu_plan (by rw [(cc_plan (A := A) (C := (up3 (up3 (up3 (PlC D C k p j s) 6 0 3 ((PT D k j) + (ponN (D 60 13 k) (D 60 17 k) (D 60 19 k + j)))) 6 0 4 (j + 1)) 6 0 5 ((pcN (D 60 13 k) (D 60 17 k) (D 60 19 k + j)) + (ponN (D 60 13 k) (D 60 17 k) (D 60 19 k + j)))))), up3_u]; rfl) dX2_addSheet_36 ?_
  refine s_aload_n (pc := 39) S 1 dX2_addSheet_39 rfl rfl ?_
  refine s_dup (pc := 40) S dX2_addSheet_40 rfl ?_
  refine s_get (pc := 41) S hz (ref := "SpoolFarm$Plan") (v := .int (nI (cpS (csD D k) (D 60 19 k) j))) (cc_plan (A := A) (C := (up3 (up3 (up3 (PlC D C k p j s) 6 0 3 ((PT D k j) + (ponN (D 60 13 k) (D 60 17 k) (D 60 19 k + j)))) 6 0 4 (j + 1)) 6 0 5 ((pcN (D 60 13 k) (D 60 17 k) (D 60 19 k + j)) + (ponN (D 60 13 k) (D 60 17 k) (D 60 19 k + j)))))) i_RX2 rfl 6 (Nat.le_of_ble_eq_true rfl) (by decide +kernel) (fun _ h => h) rfl dX2_addSheet_41 ?_
  refine s_iconst (pc := 44) S (v := (nI 1)) dX2_addSheet_44 (by decide) ?_
  refine s_iaddN (pc := 45) S dX2_addSheet_45 ?_
  refine s_put (pc := 46) S hz (ref := "SpoolFarm$Plan") (ty := .int) (cc_plan (A := A) (C := (up3 (up3 (up3 (PlC D C k p j s) 6 0 3 ((PT D k j) + (ponN (D 60 13 k) (D 60 17 k) (D 60 19 k + j)))) 6 0 4 (j + 1)) 6 0 5 ((pcN (D 60 13 k) (D 60 17 k) (D 60 19 k + j)) + (ponN (D 60 13 k) (D 60 17 k) (D 60 19 k + j)))))) i_RX2 tyX2 tyX2_ok nmX2 rfl 6 (Nat.le_of_ble_eq_true rfl) (by decide +kernel) (fun _ h => h) rfl (by decide +kernel) rfl rfl (Nat.le_of_ble_eq_true rfl) (up3 (up3 (up3 (up3 (PlC D C k p j s) 6 0 3 ((PT D k j) + (ponN (D 60 13 k) (D 60 17 k) (D 60 19 k + j)))) 6 0 4 (j + 1)) 6 0 5 ((pcN (D 60 13 k) (D 60 17 k) (D 60 19 k + j)) + (ponN (D 60 13 k) (D 60 17 k) (D 60 19 k + j)))) 6 0 6 ((cpS (csD D k) (D 60 19 k) j) + 1)) cu_plan (by rw [(cc_plan (A := A) (C := (up3 (up3 (up3 (up3 (PlC D C k p j s) 6 0 3 ((PT D k j) + (ponN (D 60 13 k) (D 60 17 k) (D 60 19 k + j)))) 6 0 4 (j + 1)) 6 0 5 ((pcN (D 60 13 k) (D 60 17 k) (D 60 19 k + j)) + (ponN (D 60 13 k) (D 60 17 k) (D 60 19 k + j)))) 6 0 6 ((cpS (csD D k) (D 60 19 k) j) + 1)))), up3_u]; rfl) dX2_addSheet_46 ?_
  refine s_aload_n (pc := 49) S 1 dX2_addSheet_49 rfl rfl ?_
  refine s_get (pc := 50) S hz (ref := "SpoolFarm$Plan") (v := .int (nI ((pcN (D 60 13 k) (D 60 17 k) (D 60 19 k + j)) + (ponN (D 60 13 k) (D 60 17 k) (D 60 19 k + j))))) (cc_plan (A := A) (C := (up3 (up3 (up3 (up3 (PlC D C k p j s) 6 0 3 ((PT D k j) + (ponN (D 60 13 k) (D 60 17 k) (D 60 19 k + j)))) 6 0 4 (j + 1)) 6 0 5 ((pcN (D 60 13 k) (D 60 17 k) (D 60 19 k + j)) + (ponN (D 60 13 k) (D 60 17 k) (D 60 19 k + j)))) 6 0 6 ((cpS (csD D k) (D 60 19 k) j) + 1)))) i_RX2 rfl 5 (Nat.le_of_ble_eq_true rfl) (by decide +kernel) (fun _ h => h) rfl dX2_addSheet_50 ?_
  refine s_aload_n (pc := 53) S 2 dX2_addSheet_53 rfl rfl ?_
  refine s_get (pc := 54) S hz (ref := "SpoolFarm$Job") (v := .int (nI (D 60 17 k))) (cc_job (A := A) (C := (up3 (up3 (up3 (up3 (PlC D C k p j s) 6 0 3 ((PT D k j) + (ponN (D 60 13 k) (D 60 17 k) (D 60 19 k + j)))) 6 0 4 (j + 1)) 6 0 5 ((pcN (D 60 13 k) (D 60 17 k) (D 60 19 k + j)) + (ponN (D 60 13 k) (D 60 17 k) (D 60 19 k + j)))) 6 0 6 ((cpS (csD D k) (D 60 19 k) j) + 1))) hkC) i_RX1 rfl 2 (Nat.le_of_ble_eq_true rfl) (by decide +kernel) (fun _ h => h) (congrArg (fun x => some (Value.int (nI x))) (show PlC D C k p j s 11 k 2 = D 60 17 k from q2)) dX2_addSheet_54 ?_
  refine s_icmp_ltN (pc := 57) S 100 dX2_addSheet_57 (by decide) (by omega) (by omega) (fun c_2 => ?_) (fun c_2 => ?_)
  · have he : (D 60 19 k + j) % csD D k + 1 ≠ csD D k := fun z => absurd ((pc_end (d := D 60 13 k) (g := D 60 17 k) (s := D 60 19 k + j) r9).mpr z) (by omega)
    have hst3 := st_go (m := csD D k) (s0 := D 60 19 k) (j := j) hcp he
    have hst : PlC D C k p (j + 1) s = (up3 (up3 (up3 (up3 (PlC D C k p j s) 6 0 3 ((PT D k j) + (ponN (D 60 13 k) (D 60 17 k) (D 60 19 k + j)))) 6 0 4 (j + 1)) 6 0 5 ((pcN (D 60 13 k) (D 60 17 k) (D 60 19 k + j)) + (ponN (D 60 13 k) (D 60 17 k) (D 60 19 k + j)))) 6 0 6 ((cpS (csD D k) (D 60 19 k) j) + 1)) := PlC_eq rfl rfl rfl (PT_step D k j r9) rfl ((pc_next (d := D 60 13 k) (g := D 60 17 k) (s := D 60 19 k + j) r9).trans (if_neg (by omega))) hst3.1 hst3.2.1 hst3.2.2 rfl (fun _ => rfl) (fun kk ii ff hn => by simp only [up3]; (repeat rw [if_neg (fun z => hn ⟨z.1, z.2.1⟩)]); exact if_neg hn)
    exact s_vret (pc := 100) S hz hlo hr ⟨rfl, hst, rfl⟩ (Nat.le_of_ble_eq_true rfl) (Nat.le_of_ble_eq_true rfl) dX2_addSheet_100
  · refine s_aload_n (pc := 60) S 1 dX2_addSheet_60 rfl rfl ?_
    refine s_get (pc := 61) S hz (ref := "SpoolFarm$Plan") (v := .int (nI (fsS (csD D k) (D 60 19 k) j))) (cc_plan (A := A) (C := (up3 (up3 (up3 (up3 (PlC D C k p j s) 6 0 3 ((PT D k j) + (ponN (D 60 13 k) (D 60 17 k) (D 60 19 k + j)))) 6 0 4 (j + 1)) 6 0 5 ((pcN (D 60 13 k) (D 60 17 k) (D 60 19 k + j)) + (ponN (D 60 13 k) (D 60 17 k) (D 60 19 k + j)))) 6 0 6 ((cpS (csD D k) (D 60 19 k) j) + 1)))) i_RX2 rfl 7 (Nat.le_of_ble_eq_true rfl) (by decide +kernel) (fun _ h => h) rfl dX2_addSheet_61 ?_
    refine s_if_eqN (pc := 64) S 85 dX2_addSheet_64 (by decide) (by omega) (fun c_3 => ?_) (fun c_3 => ?_)
    · refine s_aload_n (pc := 85) S 1 dX2_addSheet_85 rfl rfl ?_
      refine s_iconst (pc := 86) S (v := (nI 0)) dX2_addSheet_86 (by decide) ?_
      refine s_put (pc := 87) S hz (ref := "SpoolFarm$Plan") (ty := .int) (cc_plan (A := A) (C := (up3 (up3 (up3 (up3 (PlC D C k p j s) 6 0 3 ((PT D k j) + (ponN (D 60 13 k) (D 60 17 k) (D 60 19 k + j)))) 6 0 4 (j + 1)) 6 0 5 ((pcN (D 60 13 k) (D 60 17 k) (D 60 19 k + j)) + (ponN (D 60 13 k) (D 60 17 k) (D 60 19 k + j)))) 6 0 6 ((cpS (csD D k) (D 60 19 k) j) + 1)))) i_RX2 tyX2 tyX2_ok nmX2 rfl 5 (Nat.le_of_ble_eq_true rfl) (by decide +kernel) (fun _ h => h) rfl (by decide +kernel) rfl rfl (Nat.le_of_ble_eq_true rfl) (up3 (up3 (up3 (up3 (up3 (PlC D C k p j s) 6 0 3 ((PT D k j) + (ponN (D 60 13 k) (D 60 17 k) (D 60 19 k + j)))) 6 0 4 (j + 1)) 6 0 5 ((pcN (D 60 13 k) (D 60 17 k) (D 60 19 k + j)) + (ponN (D 60 13 k) (D 60 17 k) (D 60 19 k + j)))) 6 0 6 ((cpS (csD D k) (D 60 19 k) j) + 1)) 6 0 5 0) cu_plan (by rw [(cc_plan (A := A) (C := (up3 (up3 (up3 (up3 (up3 (PlC D C k p j s) 6 0 3 ((PT D k j) + (ponN (D 60 13 k) (D 60 17 k) (D 60 19 k + j)))) 6 0 4 (j + 1)) 6 0 5 ((pcN (D 60 13 k) (D 60 17 k) (D 60 19 k + j)) + (ponN (D 60 13 k) (D 60 17 k) (D 60 19 k + j)))) 6 0 6 ((cpS (csD D k) (D 60 19 k) j) + 1)) 6 0 5 0))), up3_u]; rfl) dX2_addSheet_87 ?_
      refine s_aload_n (pc := 90) S 1 dX2_addSheet_90 rfl rfl ?_
      refine s_iconst (pc := 91) S (v := (nI 0)) dX2_addSheet_91 (by decide) ?_
      refine s_put (pc := 92) S hz (ref := "SpoolFarm$Plan") (ty := .int) (cc_plan (A := A) (C := (up3 (up3 (up3 (up3 (up3 (PlC D C k p j s) 6 0 3 ((PT D k j) + (ponN (D 60 13 k) (D 60 17 k) (D 60 19 k + j)))) 6 0 4 (j + 1)) 6 0 5 ((pcN (D 60 13 k) (D 60 17 k) (D 60 19 k + j)) + (ponN (D 60 13 k) (D 60 17 k) (D 60 19 k + j)))) 6 0 6 ((cpS (csD D k) (D 60 19 k) j) + 1)) 6 0 5 0))) i_RX2 tyX2 tyX2_ok nmX2 rfl 6 (Nat.le_of_ble_eq_true rfl) (by decide +kernel) (fun _ h => h) rfl (by decide +kernel) rfl rfl (Nat.le_of_ble_eq_true rfl) (up3 (up3 (up3 (up3 (up3 (up3 (PlC D C k p j s) 6 0 3 ((PT D k j) + (ponN (D 60 13 k) (D 60 17 k) (D 60 19 k + j)))) 6 0 4 (j + 1)) 6 0 5 ((pcN (D 60 13 k) (D 60 17 k) (D 60 19 k + j)) + (ponN (D 60 13 k) (D 60 17 k) (D 60 19 k + j)))) 6 0 6 ((cpS (csD D k) (D 60 19 k) j) + 1)) 6 0 5 0) 6 0 6 0) cu_plan (by rw [(cc_plan (A := A) (C := (up3 (up3 (up3 (up3 (up3 (up3 (PlC D C k p j s) 6 0 3 ((PT D k j) + (ponN (D 60 13 k) (D 60 17 k) (D 60 19 k + j)))) 6 0 4 (j + 1)) 6 0 5 ((pcN (D 60 13 k) (D 60 17 k) (D 60 19 k + j)) + (ponN (D 60 13 k) (D 60 17 k) (D 60 19 k + j)))) 6 0 6 ((cpS (csD D k) (D 60 19 k) j) + 1)) 6 0 5 0) 6 0 6 0))), up3_u]; rfl) dX2_addSheet_92 ?_
      refine s_aload_n (pc := 95) S 1 dX2_addSheet_95 rfl rfl ?_
      refine s_iconst (pc := 96) S (v := (nI 1)) dX2_addSheet_96 (by decide) ?_
      refine s_put (pc := 97) S hz (ref := "SpoolFarm$Plan") (ty := .boolean) (cc_plan (A := A) (C := (up3 (up3 (up3 (up3 (up3 (up3 (PlC D C k p j s) 6 0 3 ((PT D k j) + (ponN (D 60 13 k) (D 60 17 k) (D 60 19 k + j)))) 6 0 4 (j + 1)) 6 0 5 ((pcN (D 60 13 k) (D 60 17 k) (D 60 19 k + j)) + (ponN (D 60 13 k) (D 60 17 k) (D 60 19 k + j)))) 6 0 6 ((cpS (csD D k) (D 60 19 k) j) + 1)) 6 0 5 0) 6 0 6 0))) i_RX2 tyX2 tyX2_ok nmX2 rfl 7 (Nat.le_of_ble_eq_true rfl) (by decide +kernel) (fun _ h => h) rfl (by decide +kernel) (nar_z (by omega)) (fit_z (by omega)) (Nat.le_of_ble_eq_true rfl) (up3 (up3 (up3 (up3 (up3 (up3 (up3 (PlC D C k p j s) 6 0 3 ((PT D k j) + (ponN (D 60 13 k) (D 60 17 k) (D 60 19 k + j)))) 6 0 4 (j + 1)) 6 0 5 ((pcN (D 60 13 k) (D 60 17 k) (D 60 19 k + j)) + (ponN (D 60 13 k) (D 60 17 k) (D 60 19 k + j)))) 6 0 6 ((cpS (csD D k) (D 60 19 k) j) + 1)) 6 0 5 0) 6 0 6 0) 6 0 7 1) cu_plan (by rw [(cc_plan (A := A) (C := (up3 (up3 (up3 (up3 (up3 (up3 (up3 (PlC D C k p j s) 6 0 3 ((PT D k j) + (ponN (D 60 13 k) (D 60 17 k) (D 60 19 k + j)))) 6 0 4 (j + 1)) 6 0 5 ((pcN (D 60 13 k) (D 60 17 k) (D 60 19 k + j)) + (ponN (D 60 13 k) (D 60 17 k) (D 60 19 k + j)))) 6 0 6 ((cpS (csD D k) (D 60 19 k) j) + 1)) 6 0 5 0) 6 0 6 0) 6 0 7 1))), up3_u]; rfl) dX2_addSheet_97 ?_
      have he : (D 60 19 k + j) % csD D k + 1 = csD D k := (pc_end (d := D 60 13 k) (g := D 60 17 k) (s := D 60 19 k + j) r9).mp (by omega)
      have hst3 := st_end (m := csD D k) (s0 := D 60 19 k) (j := j) hcp he
      have hst : PlC D C k p (j + 1) s = (up3 (up3 (up3 (up3 (up3 (up3 (up3 (PlC D C k p j s) 6 0 3 ((PT D k j) + (ponN (D 60 13 k) (D 60 17 k) (D 60 19 k + j)))) 6 0 4 (j + 1)) 6 0 5 ((pcN (D 60 13 k) (D 60 17 k) (D 60 19 k + j)) + (ponN (D 60 13 k) (D 60 17 k) (D 60 19 k + j)))) 6 0 6 ((cpS (csD D k) (D 60 19 k) j) + 1)) 6 0 5 0) 6 0 6 0) 6 0 7 1) := PlC_eq rfl rfl rfl (PT_step D k j r9) rfl ((pc_next (d := D 60 13 k) (g := D 60 17 k) (s := D 60 19 k + j) r9).trans (if_pos (by omega))) hst3.1 hst3.2.1 (hst3.2.2.trans (by rw [if_neg (by omega)]; rfl)) rfl (fun _ => rfl) (fun kk ii ff hn => by simp only [up3]; (repeat rw [if_neg (fun z => hn ⟨z.1, z.2.1⟩)]); exact if_neg hn)
      exact s_vret (pc := 100) S hz hlo hr ⟨rfl, hst, rfl⟩ (Nat.le_of_ble_eq_true rfl) (Nat.le_of_ble_eq_true rfl) dX2_addSheet_100
    · refine s_aload_n (pc := 67) S 1 dX2_addSheet_67 rfl rfl ?_
      refine s_get (pc := 68) S hz (ref := "SpoolFarm$Plan") (v := .int (nI ((cpS (csD D k) (D 60 19 k) j) + 1))) (cc_plan (A := A) (C := (up3 (up3 (up3 (up3 (PlC D C k p j s) 6 0 3 ((PT D k j) + (ponN (D 60 13 k) (D 60 17 k) (D 60 19 k + j)))) 6 0 4 (j + 1)) 6 0 5 ((pcN (D 60 13 k) (D 60 17 k) (D 60 19 k + j)) + (ponN (D 60 13 k) (D 60 17 k) (D 60 19 k + j)))) 6 0 6 ((cpS (csD D k) (D 60 19 k) j) + 1)))) i_RX2 rfl 6 (Nat.le_of_ble_eq_true rfl) (by decide +kernel) (fun _ h => h) rfl dX2_addSheet_68 ?_
      refine s_iconst (pc := 71) S (v := (nI 2)) dX2_addSheet_71 (by decide) ?_
      refine s_icmp_ltN (pc := 72) S 85 dX2_addSheet_72 (by decide) (by omega) (by omega) (fun c_4 => ?_) (fun c_4 => ?_)
      · refine s_aload_n (pc := 85) S 1 dX2_addSheet_85 rfl rfl ?_
        refine s_iconst (pc := 86) S (v := (nI 0)) dX2_addSheet_86 (by decide) ?_
        refine s_put (pc := 87) S hz (ref := "SpoolFarm$Plan") (ty := .int) (cc_plan (A := A) (C := (up3 (up3 (up3 (up3 (PlC D C k p j s) 6 0 3 ((PT D k j) + (ponN (D 60 13 k) (D 60 17 k) (D 60 19 k + j)))) 6 0 4 (j + 1)) 6 0 5 ((pcN (D 60 13 k) (D 60 17 k) (D 60 19 k + j)) + (ponN (D 60 13 k) (D 60 17 k) (D 60 19 k + j)))) 6 0 6 ((cpS (csD D k) (D 60 19 k) j) + 1)))) i_RX2 tyX2 tyX2_ok nmX2 rfl 5 (Nat.le_of_ble_eq_true rfl) (by decide +kernel) (fun _ h => h) rfl (by decide +kernel) rfl rfl (Nat.le_of_ble_eq_true rfl) (up3 (up3 (up3 (up3 (up3 (PlC D C k p j s) 6 0 3 ((PT D k j) + (ponN (D 60 13 k) (D 60 17 k) (D 60 19 k + j)))) 6 0 4 (j + 1)) 6 0 5 ((pcN (D 60 13 k) (D 60 17 k) (D 60 19 k + j)) + (ponN (D 60 13 k) (D 60 17 k) (D 60 19 k + j)))) 6 0 6 ((cpS (csD D k) (D 60 19 k) j) + 1)) 6 0 5 0) cu_plan (by rw [(cc_plan (A := A) (C := (up3 (up3 (up3 (up3 (up3 (PlC D C k p j s) 6 0 3 ((PT D k j) + (ponN (D 60 13 k) (D 60 17 k) (D 60 19 k + j)))) 6 0 4 (j + 1)) 6 0 5 ((pcN (D 60 13 k) (D 60 17 k) (D 60 19 k + j)) + (ponN (D 60 13 k) (D 60 17 k) (D 60 19 k + j)))) 6 0 6 ((cpS (csD D k) (D 60 19 k) j) + 1)) 6 0 5 0))), up3_u]; rfl) dX2_addSheet_87 ?_
        refine s_aload_n (pc := 90) S 1 dX2_addSheet_90 rfl rfl ?_
        refine s_iconst (pc := 91) S (v := (nI 0)) dX2_addSheet_91 (by decide) ?_
        refine s_put (pc := 92) S hz (ref := "SpoolFarm$Plan") (ty := .int) (cc_plan (A := A) (C := (up3 (up3 (up3 (up3 (up3 (PlC D C k p j s) 6 0 3 ((PT D k j) + (ponN (D 60 13 k) (D 60 17 k) (D 60 19 k + j)))) 6 0 4 (j + 1)) 6 0 5 ((pcN (D 60 13 k) (D 60 17 k) (D 60 19 k + j)) + (ponN (D 60 13 k) (D 60 17 k) (D 60 19 k + j)))) 6 0 6 ((cpS (csD D k) (D 60 19 k) j) + 1)) 6 0 5 0))) i_RX2 tyX2 tyX2_ok nmX2 rfl 6 (Nat.le_of_ble_eq_true rfl) (by decide +kernel) (fun _ h => h) rfl (by decide +kernel) rfl rfl (Nat.le_of_ble_eq_true rfl) (up3 (up3 (up3 (up3 (up3 (up3 (PlC D C k p j s) 6 0 3 ((PT D k j) + (ponN (D 60 13 k) (D 60 17 k) (D 60 19 k + j)))) 6 0 4 (j + 1)) 6 0 5 ((pcN (D 60 13 k) (D 60 17 k) (D 60 19 k + j)) + (ponN (D 60 13 k) (D 60 17 k) (D 60 19 k + j)))) 6 0 6 ((cpS (csD D k) (D 60 19 k) j) + 1)) 6 0 5 0) 6 0 6 0) cu_plan (by rw [(cc_plan (A := A) (C := (up3 (up3 (up3 (up3 (up3 (up3 (PlC D C k p j s) 6 0 3 ((PT D k j) + (ponN (D 60 13 k) (D 60 17 k) (D 60 19 k + j)))) 6 0 4 (j + 1)) 6 0 5 ((pcN (D 60 13 k) (D 60 17 k) (D 60 19 k + j)) + (ponN (D 60 13 k) (D 60 17 k) (D 60 19 k + j)))) 6 0 6 ((cpS (csD D k) (D 60 19 k) j) + 1)) 6 0 5 0) 6 0 6 0))), up3_u]; rfl) dX2_addSheet_92 ?_
        refine s_aload_n (pc := 95) S 1 dX2_addSheet_95 rfl rfl ?_
        refine s_iconst (pc := 96) S (v := (nI 1)) dX2_addSheet_96 (by decide) ?_
        refine s_put (pc := 97) S hz (ref := "SpoolFarm$Plan") (ty := .boolean) (cc_plan (A := A) (C := (up3 (up3 (up3 (up3 (up3 (up3 (PlC D C k p j s) 6 0 3 ((PT D k j) + (ponN (D 60 13 k) (D 60 17 k) (D 60 19 k + j)))) 6 0 4 (j + 1)) 6 0 5 ((pcN (D 60 13 k) (D 60 17 k) (D 60 19 k + j)) + (ponN (D 60 13 k) (D 60 17 k) (D 60 19 k + j)))) 6 0 6 ((cpS (csD D k) (D 60 19 k) j) + 1)) 6 0 5 0) 6 0 6 0))) i_RX2 tyX2 tyX2_ok nmX2 rfl 7 (Nat.le_of_ble_eq_true rfl) (by decide +kernel) (fun _ h => h) rfl (by decide +kernel) (nar_z (by omega)) (fit_z (by omega)) (Nat.le_of_ble_eq_true rfl) (up3 (up3 (up3 (up3 (up3 (up3 (up3 (PlC D C k p j s) 6 0 3 ((PT D k j) + (ponN (D 60 13 k) (D 60 17 k) (D 60 19 k + j)))) 6 0 4 (j + 1)) 6 0 5 ((pcN (D 60 13 k) (D 60 17 k) (D 60 19 k + j)) + (ponN (D 60 13 k) (D 60 17 k) (D 60 19 k + j)))) 6 0 6 ((cpS (csD D k) (D 60 19 k) j) + 1)) 6 0 5 0) 6 0 6 0) 6 0 7 1) cu_plan (by rw [(cc_plan (A := A) (C := (up3 (up3 (up3 (up3 (up3 (up3 (up3 (PlC D C k p j s) 6 0 3 ((PT D k j) + (ponN (D 60 13 k) (D 60 17 k) (D 60 19 k + j)))) 6 0 4 (j + 1)) 6 0 5 ((pcN (D 60 13 k) (D 60 17 k) (D 60 19 k + j)) + (ponN (D 60 13 k) (D 60 17 k) (D 60 19 k + j)))) 6 0 6 ((cpS (csD D k) (D 60 19 k) j) + 1)) 6 0 5 0) 6 0 6 0) 6 0 7 1))), up3_u]; rfl) dX2_addSheet_97 ?_
        have he : (D 60 19 k + j) % csD D k + 1 = csD D k := (pc_end (d := D 60 13 k) (g := D 60 17 k) (s := D 60 19 k + j) r9).mp (by omega)
        have hst3 := st_end (m := csD D k) (s0 := D 60 19 k) (j := j) hcp he
        have hst : PlC D C k p (j + 1) s = (up3 (up3 (up3 (up3 (up3 (up3 (up3 (PlC D C k p j s) 6 0 3 ((PT D k j) + (ponN (D 60 13 k) (D 60 17 k) (D 60 19 k + j)))) 6 0 4 (j + 1)) 6 0 5 ((pcN (D 60 13 k) (D 60 17 k) (D 60 19 k + j)) + (ponN (D 60 13 k) (D 60 17 k) (D 60 19 k + j)))) 6 0 6 ((cpS (csD D k) (D 60 19 k) j) + 1)) 6 0 5 0) 6 0 6 0) 6 0 7 1) := PlC_eq rfl rfl rfl (PT_step D k j r9) rfl ((pc_next (d := D 60 13 k) (g := D 60 17 k) (s := D 60 19 k + j) r9).trans (if_pos (by omega))) hst3.1 hst3.2.1 (hst3.2.2.trans (by rw [if_neg (by omega)]; rfl)) rfl (fun _ => rfl) (fun kk ii ff hn => by simp only [up3]; (repeat rw [if_neg (fun z => hn ⟨z.1, z.2.1⟩)]); exact if_neg hn)
        exact s_vret (pc := 100) S hz hlo hr ⟨rfl, hst, rfl⟩ (Nat.le_of_ble_eq_true rfl) (Nat.le_of_ble_eq_true rfl) dX2_addSheet_100
      · refine s_aload_n (pc := 75) S 1 dX2_addSheet_75 rfl rfl ?_
        refine s_dup (pc := 76) S dX2_addSheet_76 rfl ?_
        refine s_get (pc := 77) S hz (ref := "SpoolFarm$Plan") (v := .int (nI (ktS (csD D k) (D 60 19 k) j))) (cc_plan (A := A) (C := (up3 (up3 (up3 (up3 (PlC D C k p j s) 6 0 3 ((PT D k j) + (ponN (D 60 13 k) (D 60 17 k) (D 60 19 k + j)))) 6 0 4 (j + 1)) 6 0 5 ((pcN (D 60 13 k) (D 60 17 k) (D 60 19 k + j)) + (ponN (D 60 13 k) (D 60 17 k) (D 60 19 k + j)))) 6 0 6 ((cpS (csD D k) (D 60 19 k) j) + 1)))) i_RX2 rfl 8 (Nat.le_of_ble_eq_true rfl) (by decide +kernel) (fun _ h => h) rfl dX2_addSheet_77 ?_
        refine s_iconst (pc := 80) S (v := (nI 1)) dX2_addSheet_80 (by decide) ?_
        refine s_iaddN (pc := 81) S dX2_addSheet_81 ?_
        refine s_put (pc := 82) S hz (ref := "SpoolFarm$Plan") (ty := .int) (cc_plan (A := A) (C := (up3 (up3 (up3 (up3 (PlC D C k p j s) 6 0 3 ((PT D k j) + (ponN (D 60 13 k) (D 60 17 k) (D 60 19 k + j)))) 6 0 4 (j + 1)) 6 0 5 ((pcN (D 60 13 k) (D 60 17 k) (D 60 19 k + j)) + (ponN (D 60 13 k) (D 60 17 k) (D 60 19 k + j)))) 6 0 6 ((cpS (csD D k) (D 60 19 k) j) + 1)))) i_RX2 tyX2 tyX2_ok nmX2 rfl 8 (Nat.le_of_ble_eq_true rfl) (by decide +kernel) (fun _ h => h) rfl (by decide +kernel) rfl rfl (Nat.le_of_ble_eq_true rfl) (up3 (up3 (up3 (up3 (up3 (PlC D C k p j s) 6 0 3 ((PT D k j) + (ponN (D 60 13 k) (D 60 17 k) (D 60 19 k + j)))) 6 0 4 (j + 1)) 6 0 5 ((pcN (D 60 13 k) (D 60 17 k) (D 60 19 k + j)) + (ponN (D 60 13 k) (D 60 17 k) (D 60 19 k + j)))) 6 0 6 ((cpS (csD D k) (D 60 19 k) j) + 1)) 6 0 8 ((ktS (csD D k) (D 60 19 k) j) + 1)) cu_plan (by rw [(cc_plan (A := A) (C := (up3 (up3 (up3 (up3 (up3 (PlC D C k p j s) 6 0 3 ((PT D k j) + (ponN (D 60 13 k) (D 60 17 k) (D 60 19 k + j)))) 6 0 4 (j + 1)) 6 0 5 ((pcN (D 60 13 k) (D 60 17 k) (D 60 19 k + j)) + (ponN (D 60 13 k) (D 60 17 k) (D 60 19 k + j)))) 6 0 6 ((cpS (csD D k) (D 60 19 k) j) + 1)) 6 0 8 ((ktS (csD D k) (D 60 19 k) j) + 1)))), up3_u]; rfl) dX2_addSheet_82 ?_
        refine s_aload_n (pc := 85) S 1 dX2_addSheet_85 rfl rfl ?_
        refine s_iconst (pc := 86) S (v := (nI 0)) dX2_addSheet_86 (by decide) ?_
        refine s_put (pc := 87) S hz (ref := "SpoolFarm$Plan") (ty := .int) (cc_plan (A := A) (C := (up3 (up3 (up3 (up3 (up3 (PlC D C k p j s) 6 0 3 ((PT D k j) + (ponN (D 60 13 k) (D 60 17 k) (D 60 19 k + j)))) 6 0 4 (j + 1)) 6 0 5 ((pcN (D 60 13 k) (D 60 17 k) (D 60 19 k + j)) + (ponN (D 60 13 k) (D 60 17 k) (D 60 19 k + j)))) 6 0 6 ((cpS (csD D k) (D 60 19 k) j) + 1)) 6 0 8 ((ktS (csD D k) (D 60 19 k) j) + 1)))) i_RX2 tyX2 tyX2_ok nmX2 rfl 5 (Nat.le_of_ble_eq_true rfl) (by decide +kernel) (fun _ h => h) rfl (by decide +kernel) rfl rfl (Nat.le_of_ble_eq_true rfl) (up3 (up3 (up3 (up3 (up3 (up3 (PlC D C k p j s) 6 0 3 ((PT D k j) + (ponN (D 60 13 k) (D 60 17 k) (D 60 19 k + j)))) 6 0 4 (j + 1)) 6 0 5 ((pcN (D 60 13 k) (D 60 17 k) (D 60 19 k + j)) + (ponN (D 60 13 k) (D 60 17 k) (D 60 19 k + j)))) 6 0 6 ((cpS (csD D k) (D 60 19 k) j) + 1)) 6 0 8 ((ktS (csD D k) (D 60 19 k) j) + 1)) 6 0 5 0) cu_plan (by rw [(cc_plan (A := A) (C := (up3 (up3 (up3 (up3 (up3 (up3 (PlC D C k p j s) 6 0 3 ((PT D k j) + (ponN (D 60 13 k) (D 60 17 k) (D 60 19 k + j)))) 6 0 4 (j + 1)) 6 0 5 ((pcN (D 60 13 k) (D 60 17 k) (D 60 19 k + j)) + (ponN (D 60 13 k) (D 60 17 k) (D 60 19 k + j)))) 6 0 6 ((cpS (csD D k) (D 60 19 k) j) + 1)) 6 0 8 ((ktS (csD D k) (D 60 19 k) j) + 1)) 6 0 5 0))), up3_u]; rfl) dX2_addSheet_87 ?_
        refine s_aload_n (pc := 90) S 1 dX2_addSheet_90 rfl rfl ?_
        refine s_iconst (pc := 91) S (v := (nI 0)) dX2_addSheet_91 (by decide) ?_
        refine s_put (pc := 92) S hz (ref := "SpoolFarm$Plan") (ty := .int) (cc_plan (A := A) (C := (up3 (up3 (up3 (up3 (up3 (up3 (PlC D C k p j s) 6 0 3 ((PT D k j) + (ponN (D 60 13 k) (D 60 17 k) (D 60 19 k + j)))) 6 0 4 (j + 1)) 6 0 5 ((pcN (D 60 13 k) (D 60 17 k) (D 60 19 k + j)) + (ponN (D 60 13 k) (D 60 17 k) (D 60 19 k + j)))) 6 0 6 ((cpS (csD D k) (D 60 19 k) j) + 1)) 6 0 8 ((ktS (csD D k) (D 60 19 k) j) + 1)) 6 0 5 0))) i_RX2 tyX2 tyX2_ok nmX2 rfl 6 (Nat.le_of_ble_eq_true rfl) (by decide +kernel) (fun _ h => h) rfl (by decide +kernel) rfl rfl (Nat.le_of_ble_eq_true rfl) (up3 (up3 (up3 (up3 (up3 (up3 (up3 (PlC D C k p j s) 6 0 3 ((PT D k j) + (ponN (D 60 13 k) (D 60 17 k) (D 60 19 k + j)))) 6 0 4 (j + 1)) 6 0 5 ((pcN (D 60 13 k) (D 60 17 k) (D 60 19 k + j)) + (ponN (D 60 13 k) (D 60 17 k) (D 60 19 k + j)))) 6 0 6 ((cpS (csD D k) (D 60 19 k) j) + 1)) 6 0 8 ((ktS (csD D k) (D 60 19 k) j) + 1)) 6 0 5 0) 6 0 6 0) cu_plan (by rw [(cc_plan (A := A) (C := (up3 (up3 (up3 (up3 (up3 (up3 (up3 (PlC D C k p j s) 6 0 3 ((PT D k j) + (ponN (D 60 13 k) (D 60 17 k) (D 60 19 k + j)))) 6 0 4 (j + 1)) 6 0 5 ((pcN (D 60 13 k) (D 60 17 k) (D 60 19 k + j)) + (ponN (D 60 13 k) (D 60 17 k) (D 60 19 k + j)))) 6 0 6 ((cpS (csD D k) (D 60 19 k) j) + 1)) 6 0 8 ((ktS (csD D k) (D 60 19 k) j) + 1)) 6 0 5 0) 6 0 6 0))), up3_u]; rfl) dX2_addSheet_92 ?_
        refine s_aload_n (pc := 95) S 1 dX2_addSheet_95 rfl rfl ?_
        refine s_iconst (pc := 96) S (v := (nI 1)) dX2_addSheet_96 (by decide) ?_
        refine s_put (pc := 97) S hz (ref := "SpoolFarm$Plan") (ty := .boolean) (cc_plan (A := A) (C := (up3 (up3 (up3 (up3 (up3 (up3 (up3 (PlC D C k p j s) 6 0 3 ((PT D k j) + (ponN (D 60 13 k) (D 60 17 k) (D 60 19 k + j)))) 6 0 4 (j + 1)) 6 0 5 ((pcN (D 60 13 k) (D 60 17 k) (D 60 19 k + j)) + (ponN (D 60 13 k) (D 60 17 k) (D 60 19 k + j)))) 6 0 6 ((cpS (csD D k) (D 60 19 k) j) + 1)) 6 0 8 ((ktS (csD D k) (D 60 19 k) j) + 1)) 6 0 5 0) 6 0 6 0))) i_RX2 tyX2 tyX2_ok nmX2 rfl 7 (Nat.le_of_ble_eq_true rfl) (by decide +kernel) (fun _ h => h) rfl (by decide +kernel) (nar_z (by omega)) (fit_z (by omega)) (Nat.le_of_ble_eq_true rfl) (up3 (up3 (up3 (up3 (up3 (up3 (up3 (up3 (PlC D C k p j s) 6 0 3 ((PT D k j) + (ponN (D 60 13 k) (D 60 17 k) (D 60 19 k + j)))) 6 0 4 (j + 1)) 6 0 5 ((pcN (D 60 13 k) (D 60 17 k) (D 60 19 k + j)) + (ponN (D 60 13 k) (D 60 17 k) (D 60 19 k + j)))) 6 0 6 ((cpS (csD D k) (D 60 19 k) j) + 1)) 6 0 8 ((ktS (csD D k) (D 60 19 k) j) + 1)) 6 0 5 0) 6 0 6 0) 6 0 7 1) cu_plan (by rw [(cc_plan (A := A) (C := (up3 (up3 (up3 (up3 (up3 (up3 (up3 (up3 (PlC D C k p j s) 6 0 3 ((PT D k j) + (ponN (D 60 13 k) (D 60 17 k) (D 60 19 k + j)))) 6 0 4 (j + 1)) 6 0 5 ((pcN (D 60 13 k) (D 60 17 k) (D 60 19 k + j)) + (ponN (D 60 13 k) (D 60 17 k) (D 60 19 k + j)))) 6 0 6 ((cpS (csD D k) (D 60 19 k) j) + 1)) 6 0 8 ((ktS (csD D k) (D 60 19 k) j) + 1)) 6 0 5 0) 6 0 6 0) 6 0 7 1))), up3_u]; rfl) dX2_addSheet_97 ?_
        have he : (D 60 19 k + j) % csD D k + 1 = csD D k := (pc_end (d := D 60 13 k) (g := D 60 17 k) (s := D 60 19 k + j) r9).mp (by omega)
        have hst3 := st_end (m := csD D k) (s0 := D 60 19 k) (j := j) hcp he
        have hst : PlC D C k p (j + 1) s = (up3 (up3 (up3 (up3 (up3 (up3 (up3 (up3 (PlC D C k p j s) 6 0 3 ((PT D k j) + (ponN (D 60 13 k) (D 60 17 k) (D 60 19 k + j)))) 6 0 4 (j + 1)) 6 0 5 ((pcN (D 60 13 k) (D 60 17 k) (D 60 19 k + j)) + (ponN (D 60 13 k) (D 60 17 k) (D 60 19 k + j)))) 6 0 6 ((cpS (csD D k) (D 60 19 k) j) + 1)) 6 0 8 ((ktS (csD D k) (D 60 19 k) j) + 1)) 6 0 5 0) 6 0 6 0) 6 0 7 1) := PlC_eq rfl rfl rfl (PT_step D k j r9) rfl ((pc_next (d := D 60 13 k) (g := D 60 17 k) (s := D 60 19 k + j) r9).trans (if_pos (by omega))) hst3.1 hst3.2.1 (hst3.2.2.trans (by rw [if_pos ⟨by omega, by omega⟩]; rfl)) rfl (fun _ => rfl) (fun kk ii ff hn => by simp only [up3]; (repeat rw [if_neg (fun z => hn ⟨z.1, z.2.1⟩)]); exact if_neg hn)
        exact s_vret (pc := 100) S hz hlo hr ⟨rfl, hst, rfl⟩ (Nat.le_of_ble_eq_true rfl) (Nat.le_of_ble_eq_true rfl) dX2_addSheet_100
