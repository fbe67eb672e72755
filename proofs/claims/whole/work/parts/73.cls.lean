set_option maxHeartbeats 4000000 in
set_option maxRecDepth 100000 in
theorem k_X6_checkRange (Z : Zp) (l : Launch) (A : AF) (C : CF) (x a b : Int32) (hfl : l.stackTraces = false) : CtS Z l yX6_checkRange wsX6_checkRange ({ frames := 6, cells := 1, slots := 6, locals := 90 }) [.int x, .int a, .int b] A C 1 6 (fun v A2 C2 => A = A2 ∧ C = C2 ∧ none = v ∧ a ≤ x ∧ x ≤ b) (fun E A2 C2 => A = A2 ∧ (E = "java/lang/IllegalArgumentException" ∧ ¬ (a ≤ x ∧ x ≤ b) ∧ C = C2)) := by
  refine CtS.of (cc0 := cX6_checkRange) (maxL := 3) (ret := none) (by decide) rfl (Nat.le_of_ble_eq_true rfl) ?_
  intro M0_ p_ e_ s_ m_ args_ below_ meth_ c_ S hz hml hex hlo hr hin
  refine s_loc (L2 := [(0, .int x), (1, .int a), (2, .int b)]) rfl ?_
  refine s_iload_n (pc := 0) S 0 dX6_checkRange_0 rfl rfl ?_
  refine s_iload_n (pc := 1) S 1 dX6_checkRange_1 rfl rfl ?_
  refine s_icmp_lt (pc := 2) S 10 dX6_checkRange_2 (by decide) (fun c_1 => ?_) (fun c_1 => ?_)
  · exact s_thrW (pc := 10) (text := "out of range") S hz hfl hml hex hlo thr_IAE (by decide +kernel) (by decide +kernel) (by decide +kernel) (by decide +kernel) dX6_checkRange_10 dX6_checkRange_13 dX6_checkRange_14 dX6_checkRange_17 dX6_checkRange_20 (Nat.le_of_ble_eq_true rfl) (Nat.le_of_ble_eq_true rfl) (Nat.le_of_ble_eq_true rfl) (Nat.le_of_ble_eq_true rfl) ⟨rfl, rfl, fun z => i_nle c_1 z.1, rfl⟩ (Nat.le_of_ble_eq_true rfl) (Nat.le_of_ble_eq_true rfl)
  · refine s_iload_n (pc := 5) S 0 dX6_checkRange_5 rfl rfl ?_
    refine s_iload_n (pc := 6) S 2 dX6_checkRange_6 rfl rfl ?_
    refine s_icmp_le (pc := 7) S 21 dX6_checkRange_7 (by decide) (fun c_2 => ?_) (fun c_2 => ?_)
    · exact s_vret (pc := 21) S hz hlo hr ⟨rfl, rfl, rfl, i_le c_1, c_2⟩ (Nat.le_of_ble_eq_true rfl) (Nat.le_of_ble_eq_true rfl) dX6_checkRange_21
    · exact s_thrW (pc := 10) (text := "out of range") S hz hfl hml hex hlo thr_IAE (by decide +kernel) (by decide +kernel) (by decide +kernel) (by decide +kernel) dX6_checkRange_10 dX6_checkRange_13 dX6_checkRange_14 dX6_checkRange_17 dX6_checkRange_20 (Nat.le_of_ble_eq_true rfl) (Nat.le_of_ble_eq_true rfl) (Nat.le_of_ble_eq_true rfl) (Nat.le_of_ble_eq_true rfl) ⟨rfl, rfl, fun z => c_2 z.2, rfl⟩ (Nat.le_of_ble_eq_true rfl) (Nat.le_of_ble_eq_true rfl)
set_option maxHeartbeats 4000000 in
set_option maxRecDepth 100000 in
theorem k_X6_checkPaper (Z : Zp) (l : Launch) (A : AF) (C : CF) (q : Nat) (hq : q < 65536) (hfl : l.stackTraces = false) : CtS Z l yX6_checkPaper wsX6_checkPaper ({ frames := 6, cells := 1, slots := 6, locals := 90 }) [.int (nI q)] A C 1 6 (fun v A2 C2 => A = A2 ∧ C = C2 ∧ none = v ∧ isPap q) (fun E A2 C2 => A = A2 ∧ (E = "java/lang/IllegalArgumentException" ∧ ¬ isPap q ∧ C = C2)) := by
  refine CtS.of (cc0 := cX6_checkPaper) (maxL := 1) (ret := none) (by decide) rfl (Nat.le_of_ble_eq_true rfl) ?_
  intro M0_ p_ e_ s_ m_ args_ below_ meth_ c_ S hz hml hex hlo hr hin
  refine s_loc (L2 := [(0, .int (nI q))]) rfl ?_
  refine s_iload_n (pc := 0) S 0 dX6_checkPaper_0 rfl rfl ?_
  refine s_bipush (pc := 1) S (v := (nI 97)) dX6_checkPaper_1 (by decide) ?_
  refine s_icmp_eqN (pc := 3) S 29 dX6_checkPaper_3 (by decide) (by omega) (by omega) (fun c_1 => ?_) (fun c_1 => ?_)
  · exact s_vret (pc := 29) S hz hlo hr ⟨rfl, rfl, rfl, by omega⟩ (Nat.le_of_ble_eq_true rfl) (Nat.le_of_ble_eq_true rfl) dX6_checkPaper_29
  · refine s_iload_n (pc := 6) S 0 dX6_checkPaper_6 rfl rfl ?_
    refine s_bipush (pc := 7) S (v := (nI 98)) dX6_checkPaper_7 (by decide) ?_
    refine s_icmp_eqN (pc := 9) S 29 dX6_checkPaper_9 (by decide) (by omega) (by omega) (fun c_2 => ?_) (fun c_2 => ?_)
    · exact s_vret (pc := 29) S hz hlo hr ⟨rfl, rfl, rfl, by omega⟩ (Nat.le_of_ble_eq_true rfl) (Nat.le_of_ble_eq_true rfl) dX6_checkPaper_29
    · refine s_iload_n (pc := 12) S 0 dX6_checkPaper_12 rfl rfl ?_
      refine s_bipush (pc := 13) S (v := (nI 108)) dX6_checkPaper_13 (by decide) ?_
      refine s_icmp_eqN (pc := 15) S 29 dX6_checkPaper_15 (by decide) (by omega) (by omega) (fun c_3 => ?_) (fun c_3 => ?_)
      · exact s_vret (pc := 29) S hz hlo hr ⟨rfl, rfl, rfl, by omega⟩ (Nat.le_of_ble_eq_true rfl) (Nat.le_of_ble_eq_true rfl) dX6_checkPaper_29
      · exact s_thrW (pc := 18) (text := "no such paper") S hz hfl hml hex hlo thr_IAE (by decide +kernel) (by decide +kernel) (by decide +kernel) (by decide +kernel) dX6_checkPaper_18 dX6_checkPaper_21 dX6_checkPaper_22 dX6_checkPaper_25 dX6_checkPaper_28 (Nat.le_of_ble_eq_true rfl) (Nat.le_of_ble_eq_true rfl) (Nat.le_of_ble_eq_true rfl) (Nat.le_of_ble_eq_true rfl) ⟨rfl, rfl, by omega, rfl⟩ (Nat.le_of_ble_eq_true rfl) (Nat.le_of_ble_eq_true rfl)
set_option maxHeartbeats 4000000 in
set_option maxRecDepth 100000 in
theorem k_X6_userAt_ok (Z : Zp) (l : Launch) (A : AF) (C : CF) (k : Nat) (hk : k < C 0 0 3) (hc : C 0 0 3 ≤ 6) : CtS Z l yX6_userAt wsX6_userAt ({ frames := 0, cells := 0, slots := 0, locals := 0 }) [.ref (A 0 0), .int (nI k)] A C 0 0 (fun v A2 C2 => A = A2 ∧ C = C2 ∧ some (.ref (A 10 k)) = v) (fun _ _ _ => False) := by
  refine CtS.of (cc0 := cX6_userAt) (maxL := 3) (ret := (some (.object "SpoolFarm$User"))) (by decide) rfl (Nat.le_of_ble_eq_true rfl) ?_
  intro M0_ p_ e_ s_ m_ args_ below_ meth_ c_ S hz hml hex hlo hr hin
  refine s_loc (L2 := [(0, .ref (A 0 0)), (1, .int (nI k))]) rfl ?_
  have i_RX6 : ∀ w ∈ u_ws RX6 TX6 12, w ∈ wsX6_userAt := by decide +kernel
  refine s_iload_n (pc := 0) S 1 dX6_userAt_0 rfl rfl ?_
  refine s_if_ltN (pc := 1) S 22 dX6_userAt_1 (by decide) (by omega) (fun c_1 => absurd c_1 (by omega)) (fun c_1 => ?_)
  refine s_iload_n (pc := 4) S 1 dX6_userAt_4 rfl rfl ?_
  refine s_aload_n (pc := 5) S 0 dX6_userAt_5 rfl rfl ?_
  refine s_get (pc := 6) S hz (ref := "SpoolFarm") (v := .ref (A 1 0)) (cc_farm (A := A) (C := C)) i_RX6 rfl 0 (Nat.le_of_ble_eq_true rfl) (by decide +kernel) (fun _ h => h) rfl dX6_userAt_6 ?_
  refine s_alen (pc := 9) S hz (n := 6) (cc_users (A := A) (C := C)) dX6_userAt_9 ?_
  refine s_icmp_geN (pc := 10) S 22 dX6_userAt_10 (by decide) (by omega) (by decide) (fun h => absurd h (by omega)) (fun _ => ?_)
  refine s_aload_n (pc := 13) S 0 dX6_userAt_13 rfl rfl ?_
  refine s_get (pc := 14) S hz (ref := "SpoolFarm") (v := .ref (A 1 0)) (cc_farm (A := A) (C := C)) i_RX6 rfl 0 (Nat.le_of_ble_eq_true rfl) (by decide +kernel) (fun _ h => h) rfl dX6_userAt_14 ?_
  refine s_iload_n (pc := 17) S 1 dX6_userAt_17 rfl rfl ?_
  refine s_aald (pc := 18) S hz (v := .ref (A 10 k)) (cc_users (A := A) (C := C)) (by omega) (by decide) (by rw [if_pos hk]; rfl) dX6_userAt_18 ?_
  refine s_goto (pc := 19) S 23 dX6_userAt_19 (by decide) ?_
  refine s_astore_n (pc := 23) S [(2, .ref (A 10 k)), (0, .ref (A 0 0)), (1, .int (nI k))] dX6_userAt_23 rfl (by decide) rfl ?_
  refine s_aload_n (pc := 24) S 0 dX6_userAt_24 rfl rfl ?_
  refine s_ifnonnull (pc := 25) S 39 dX6_userAt_25 (by decide) ?_
  refine s_aload_n (pc := 39) S 0 dX6_userAt_39 rfl rfl ?_
  exact s_aret (pc := 40) S hz hlo hr ⟨rfl, rfl, rfl⟩ (Nat.le_of_ble_eq_true rfl) (Nat.le_of_ble_eq_true rfl) dX6_userAt_40
set_option maxHeartbeats 4000000 in
set_option maxRecDepth 100000 in
theorem k_X6_userAt (Z : Zp) (l : Launch) (A : AF) (C : CF) (x : Int32) (hc : C 0 0 3 ≤ 6) (hfl : l.stackTraces = false) : CtS Z l yX6_userAt wsX6_userAt ({ frames := 6, cells := 1, slots := 6, locals := 90 }) [.ref (A 0 0), .int x] A C 1 6 (fun v A2 C2 => A = A2 ∧ C = C2 ∧ ∃ k : Nat, k < C 0 0 3 ∧ nI k = x ∧ some (.ref (A 10 k)) = v) (fun E A2 C2 => A = A2 ∧ (E = "java/lang/IndexOutOfBoundsException" ∧ (∀ k : Nat, k < C 0 0 3 → nI k ≠ x) ∧ C = C2)) := by
  refine CtS.of (cc0 := cX6_userAt) (maxL := 3) (ret := (some (.object "SpoolFarm$User"))) (by decide) rfl (Nat.le_of_ble_eq_true rfl) ?_
  intro M0_ p_ e_ s_ m_ args_ below_ meth_ c_ S hz hml hex hlo hr hin
  refine s_loc (L2 := [(0, .ref (A 0 0)), (1, .int x)]) rfl ?_
  have i_RX6 : ∀ w ∈ u_ws RX6 TX6 12, w ∈ wsX6_userAt := by decide +kernel
  rcases ix3 x (n := 6) (by decide) with ⟨k, hk, rfl⟩ | hx
  · refine s_iload_n (pc := 0) S 1 dX6_userAt_0 rfl rfl ?_
    refine s_if_ltN (pc := 1) S 22 dX6_userAt_1 (by decide) (by omega) (fun c_1 => absurd c_1 (by omega)) (fun c_1 => ?_)
    refine s_iload_n (pc := 4) S 1 dX6_userAt_4 rfl rfl ?_
    refine s_aload_n (pc := 5) S 0 dX6_userAt_5 rfl rfl ?_
    refine s_get (pc := 6) S hz (ref := "SpoolFarm") (v := .ref (A 1 0)) (cc_farm (A := A) (C := C)) i_RX6 rfl 0 (Nat.le_of_ble_eq_true rfl) (by decide +kernel) (fun _ h => h) rfl dX6_userAt_6 ?_
    refine s_alen (pc := 9) S hz (n := 6) (cc_users (A := A) (C := C)) dX6_userAt_9 ?_
    refine s_icmp_geN (pc := 10) S 22 dX6_userAt_10 (by decide) (by omega) (by decide) (fun h => absurd h (by omega)) (fun _ => ?_)
    refine s_aload_n (pc := 13) S 0 dX6_userAt_13 rfl rfl ?_
    refine s_get (pc := 14) S hz (ref := "SpoolFarm") (v := .ref (A 1 0)) (cc_farm (A := A) (C := C)) i_RX6 rfl 0 (Nat.le_of_ble_eq_true rfl) (by decide +kernel) (fun _ h => h) rfl dX6_userAt_14 ?_
    refine s_iload_n (pc := 17) S 1 dX6_userAt_17 rfl rfl ?_
    by_cases lv_2 : k < C 0 0 3
    · refine s_aald (pc := 18) S hz (v := .ref (A 10 k)) (cc_users (A := A) (C := C)) (by omega) (by decide) (by rw [if_pos lv_2]; rfl) dX6_userAt_18 ?_
      refine s_goto (pc := 19) S 23 dX6_userAt_19 (by decide) ?_
      refine s_astore_n (pc := 23) S [(2, .ref (A 10 k)), (0, .ref (A 0 0)), (1, .int (nI k))] dX6_userAt_23 rfl (by decide) rfl ?_
      refine s_aload_n (pc := 24) S 0 dX6_userAt_24 rfl rfl ?_
      refine s_ifnonnull (pc := 25) S 39 dX6_userAt_25 (by decide) ?_
      refine s_aload_n (pc := 39) S 0 dX6_userAt_39 rfl rfl ?_
      exact s_aret (pc := 40) S hz hlo hr ⟨rfl, rfl, k, lv_2, rfl, rfl⟩ (Nat.le_of_ble_eq_true rfl) (Nat.le_of_ble_eq_true rfl) dX6_userAt_40
    · refine s_aald (pc := 18) S hz (v := .null) (cc_users (A := A) (C := C)) (by omega) (by decide) (by rw [if_neg lv_2]; rfl) dX6_userAt_18 ?_
      refine s_goto (pc := 19) S 23 dX6_userAt_19 (by decide) ?_
      refine s_astore_nN (pc := 23) S [(2, .null), (0, .ref (A 0 0)), (1, .int (nI k))] dX6_userAt_23 rfl (by decide) rfl ?_
      refine s_aload_nN (pc := 24) S 0 dX6_userAt_24 rfl rfl ?_
      refine s_ifnonnullN (pc := 25) S dX6_userAt_25 ?_
      exact s_thrW (pc := 28) (text := "no such user") S hz hfl hml hex hlo thr_IOB (by decide +kernel) (by decide +kernel) (by decide +kernel) (by decide +kernel) dX6_userAt_28 dX6_userAt_31 dX6_userAt_32 dX6_userAt_35 dX6_userAt_38 (Nat.le_of_ble_eq_true rfl) (Nat.le_of_ble_eq_true rfl) (Nat.le_of_ble_eq_true rfl) (Nat.le_of_ble_eq_true rfl) ⟨rfl, rfl, ix_dead (by omega) (by omega), rfl⟩ (Nat.le_of_ble_eq_true rfl) (Nat.le_of_ble_eq_true rfl)
  · refine s_iload_n (pc := 0) S 1 dX6_userAt_0 rfl rfl ?_
    refine s_if_lt (pc := 1) S 22 dX6_userAt_1 (by decide) (fun _ => ?_) (fun c_3 => ?_)
    · refine s_null (pc := 22) S dX6_userAt_22 ?_
      refine s_astore_nN (pc := 23) S [(2, .null), (0, .ref (A 0 0)), (1, .int x)] dX6_userAt_23 rfl (by decide) rfl ?_
      refine s_aload_nN (pc := 24) S 0 dX6_userAt_24 rfl rfl ?_
      refine s_ifnonnullN (pc := 25) S dX6_userAt_25 ?_
      exact s_thrW (pc := 28) (text := "no such user") S hz hfl hml hex hlo thr_IOB (by decide +kernel) (by decide +kernel) (by decide +kernel) (by decide +kernel) dX6_userAt_28 dX6_userAt_31 dX6_userAt_32 dX6_userAt_35 dX6_userAt_38 (Nat.le_of_ble_eq_true rfl) (Nat.le_of_ble_eq_true rfl) (Nat.le_of_ble_eq_true rfl) (Nat.le_of_ble_eq_true rfl) ⟨rfl, rfl, ix_out (by decide) hx hc, rfl⟩ (Nat.le_of_ble_eq_true rfl) (Nat.le_of_ble_eq_true rfl)
    · refine s_iload_n (pc := 4) S 1 dX6_userAt_4 rfl rfl ?_
      refine s_aload_n (pc := 5) S 0 dX6_userAt_5 rfl rfl ?_
      refine s_get (pc := 6) S hz (ref := "SpoolFarm") (v := .ref (A 1 0)) (cc_farm (A := A) (C := C)) i_RX6 rfl 0 (Nat.le_of_ble_eq_true rfl) (by decide +kernel) (fun _ h => h) rfl dX6_userAt_6 ?_
      refine s_alen (pc := 9) S hz (n := 6) (cc_users (A := A) (C := C)) dX6_userAt_9 ?_
      refine s_icmp_ge (pc := 10) S 22 dX6_userAt_10 (by decide) (fun _ => ?_) (fun h => absurd (hx.resolve_left c_3) h)
      refine s_null (pc := 22) S dX6_userAt_22 ?_
      refine s_astore_nN (pc := 23) S [(2, .null), (0, .ref (A 0 0)), (1, .int x)] dX6_userAt_23 rfl (by decide) rfl ?_
      refine s_aload_nN (pc := 24) S 0 dX6_userAt_24 rfl rfl ?_
      refine s_ifnonnullN (pc := 25) S dX6_userAt_25 ?_
      exact s_thrW (pc := 28) (text := "no such user") S hz hfl hml hex hlo thr_IOB (by decide +kernel) (by decide +kernel) (by decide +kernel) (by decide +kernel) dX6_userAt_28 dX6_userAt_31 dX6_userAt_32 dX6_userAt_35 dX6_userAt_38 (Nat.le_of_ble_eq_true rfl) (Nat.le_of_ble_eq_true rfl) (Nat.le_of_ble_eq_true rfl) (Nat.le_of_ble_eq_true rfl) ⟨rfl, rfl, ix_out (by decide) hx hc, rfl⟩ (Nat.le_of_ble_eq_true rfl) (Nat.le_of_ble_eq_true rfl)
set_option maxHeartbeats 4000000 in
set_option maxRecDepth 100000 in
theorem k_X6_printerAt_ok (Z : Zp) (l : Launch) (A : AF) (C : CF) (k : Nat) (hk : k < C 0 0 4) (hc : C 0 0 4 ≤ 4) : CtS Z l yX6_printerAt wsX6_printerAt ({ frames := 0, cells := 0, slots := 0, locals := 0 }) [.ref (A 0 0), .int (nI k)] A C 0 0 (fun v A2 C2 => A = A2 ∧ C = C2 ∧ some (.ref (A 9 k)) = v) (fun _ _ _ => False) := by
  refine CtS.of (cc0 := cX6_printerAt) (maxL := 3) (ret := (some (.object "SpoolFarm$Printer"))) (by decide) rfl (Nat.le_of_ble_eq_true rfl) ?_
  intro M0_ p_ e_ s_ m_ args_ below_ meth_ c_ S hz hml hex hlo hr hin
  refine s_loc (L2 := [(0, .ref (A 0 0)), (1, .int (nI k))]) rfl ?_
  have i_RX6 : ∀ w ∈ u_ws RX6 TX6 12, w ∈ wsX6_printerAt := by decide +kernel
  refine s_iload_n (pc := 0) S 1 dX6_printerAt_0 rfl rfl ?_
  refine s_if_ltN (pc := 1) S 22 dX6_printerAt_1 (by decide) (by omega) (fun c_1 => absurd c_1 (by omega)) (fun c_1 => ?_)
  refine s_iload_n (pc := 4) S 1 dX6_printerAt_4 rfl rfl ?_
  refine s_aload_n (pc := 5) S 0 dX6_printerAt_5 rfl rfl ?_
  refine s_get (pc := 6) S hz (ref := "SpoolFarm") (v := .ref (A 2 0)) (cc_farm (A := A) (C := C)) i_RX6 rfl 1 (Nat.le_of_ble_eq_true rfl) (by decide +kernel) (fun _ h => h) rfl dX6_printerAt_6 ?_
  refine s_alen (pc := 9) S hz (n := 4) (cc_prns (A := A) (C := C)) dX6_printerAt_9 ?_
  refine s_icmp_geN (pc := 10) S 22 dX6_printerAt_10 (by decide) (by omega) (by decide) (fun h => absurd h (by omega)) (fun _ => ?_)
  refine s_aload_n (pc := 13) S 0 dX6_printerAt_13 rfl rfl ?_
  refine s_get (pc := 14) S hz (ref := "SpoolFarm") (v := .ref (A 2 0)) (cc_farm (A := A) (C := C)) i_RX6 rfl 1 (Nat.le_of_ble_eq_true rfl) (by decide +kernel) (fun _ h => h) rfl dX6_printerAt_14 ?_
  refine s_iload_n (pc := 17) S 1 dX6_printerAt_17 rfl rfl ?_
  refine s_aald (pc := 18) S hz (v := .ref (A 9 k)) (cc_prns (A := A) (C := C)) (by omega) (by decide) (by rw [if_pos hk]; rfl) dX6_printerAt_18 ?_
  refine s_goto (pc := 19) S 23 dX6_printerAt_19 (by decide) ?_
  refine s_astore_n (pc := 23) S [(2, .ref (A 9 k)), (0, .ref (A 0 0)), (1, .int (nI k))] dX6_printerAt_23 rfl (by decide) rfl ?_
  refine s_aload_n (pc := 24) S 0 dX6_printerAt_24 rfl rfl ?_
  refine s_ifnonnull (pc := 25) S 39 dX6_printerAt_25 (by decide) ?_
  refine s_aload_n (pc := 39) S 0 dX6_printerAt_39 rfl rfl ?_
  exact s_aret (pc := 40) S hz hlo hr ⟨rfl, rfl, rfl⟩ (Nat.le_of_ble_eq_true rfl) (Nat.le_of_ble_eq_true rfl) dX6_printerAt_40
set_option maxHeartbeats 4000000 in
set_option maxRecDepth 100000 in
theorem k_X6_printerAt (Z : Zp) (l : Launch) (A : AF) (C : CF) (x : Int32) (hc : C 0 0 4 ≤ 4) (hfl : l.stackTraces = false) : CtS Z l yX6_printerAt wsX6_printerAt ({ frames := 6, cells := 1, slots := 6, locals := 90 }) [.ref (A 0 0), .int x] A C 1 6 (fun v A2 C2 => A = A2 ∧ C = C2 ∧ ∃ k : Nat, k < C 0 0 4 ∧ nI k = x ∧ some (.ref (A 9 k)) = v) (fun E A2 C2 => A = A2 ∧ (E = "java/lang/IndexOutOfBoundsException" ∧ (∀ k : Nat, k < C 0 0 4 → nI k ≠ x) ∧ C = C2)) := by
  refine CtS.of (cc0 := cX6_printerAt) (maxL := 3) (ret := (some (.object "SpoolFarm$Printer"))) (by decide) rfl (Nat.le_of_ble_eq_true rfl) ?_
  intro M0_ p_ e_ s_ m_ args_ below_ meth_ c_ S hz hml hex hlo hr hin
  refine s_loc (L2 := [(0, .ref (A 0 0)), (1, .int x)]) rfl ?_
  have i_RX6 : ∀ w ∈ u_ws RX6 TX6 12, w ∈ wsX6_printerAt := by decide +kernel
  rcases ix3 x (n := 4) (by decide) with ⟨k, hk, rfl⟩ | hx
  · refine s_iload_n (pc := 0) S 1 dX6_printerAt_0 rfl rfl ?_
    refine s_if_ltN (pc := 1) S 22 dX6_printerAt_1 (by decide) (by omega) (fun c_1 => absurd c_1 (by omega)) (fun c_1 => ?_)
    refine s_iload_n (pc := 4) S 1 dX6_printerAt_4 rfl rfl ?_
    refine s_aload_n (pc := 5) S 0 dX6_printerAt_5 rfl rfl ?_
    refine s_get (pc := 6) S hz (ref := "SpoolFarm") (v := .ref (A 2 0)) (cc_farm (A := A) (C := C)) i_RX6 rfl 1 (Nat.le_of_ble_eq_true rfl) (by decide +kernel) (fun _ h => h) rfl dX6_printerAt_6 ?_
    refine s_alen (pc := 9) S hz (n := 4) (cc_prns (A := A) (C := C)) dX6_printerAt_9 ?_
    refine s_icmp_geN (pc := 10) S 22 dX6_printerAt_10 (by decide) (by omega) (by decide) (fun h => absurd h (by omega)) (fun _ => ?_)
    refine s_aload_n (pc := 13) S 0 dX6_printerAt_13 rfl rfl ?_
    refine s_get (pc := 14) S hz (ref := "SpoolFarm") (v := .ref (A 2 0)) (cc_farm (A := A) (C := C)) i_RX6 rfl 1 (Nat.le_of_ble_eq_true rfl) (by decide +kernel) (fun _ h => h) rfl dX6_printerAt_14 ?_
    refine s_iload_n (pc := 17) S 1 dX6_printerAt_17 rfl rfl ?_
    by_cases lv_2 : k < C 0 0 4
    · refine s_aald (pc := 18) S hz (v := .ref (A 9 k)) (cc_prns (A := A) (C := C)) (by omega) (by decide) (by rw [if_pos lv_2]; rfl) dX6_printerAt_18 ?_
      refine s_goto (pc := 19) S 23 dX6_printerAt_19 (by decide) ?_
      refine s_astore_n (pc := 23) S [(2, .ref (A 9 k)), (0, .ref (A 0 0)), (1, .int (nI k))] dX6_printerAt_23 rfl (by decide) rfl ?_
      refine s_aload_n (pc := 24) S 0 dX6_printerAt_24 rfl rfl ?_
      refine s_ifnonnull (pc := 25) S 39 dX6_printerAt_25 (by decide) ?_
      refine s_aload_n (pc := 39) S 0 dX6_printerAt_39 rfl rfl ?_
      exact s_aret (pc := 40) S hz hlo hr ⟨rfl, rfl, k, lv_2, rfl, rfl⟩ (Nat.le_of_ble_eq_true rfl) (Nat.le_of_ble_eq_true rfl) dX6_printerAt_40
    · refine s_aald (pc := 18) S hz (v := .null) (cc_prns (A := A) (C := C)) (by omega) (by decide) (by rw [if_neg lv_2]; rfl) dX6_printerAt_18 ?_
      refine s_goto (pc := 19) S 23 dX6_printerAt_19 (by decide) ?_
      refine s_astore_nN (pc := 23) S [(2, .null), (0, .ref (A 0 0)), (1, .int (nI k))] dX6_printerAt_23 rfl (by decide) rfl ?_
      refine s_aload_nN (pc := 24) S 0 dX6_printerAt_24 rfl rfl ?_
      refine s_ifnonnullN (pc := 25) S dX6_printerAt_25 ?_
      exact s_thrW (pc := 28) (text := "no such printer") S hz hfl hml hex hlo thr_IOB (by decide +kernel) (by decide +kernel) (by decide +kernel) (by decide +kernel) dX6_printerAt_28 dX6_printerAt_31 dX6_printerAt_32 dX6_printerAt_35 dX6_printerAt_38 (Nat.le_of_ble_eq_true rfl) (Nat.le_of_ble_eq_true rfl) (Nat.le_of_ble_eq_true rfl) (Nat.le_of_ble_eq_true rfl) ⟨rfl, rfl, ix_dead (by omega) (by omega), rfl⟩ (Nat.le_of_ble_eq_true rfl) (Nat.le_of_ble_eq_true rfl)
  · refine s_iload_n (pc := 0) S 1 dX6_printerAt_0 rfl rfl ?_
    refine s_if_lt (pc := 1) S 22 dX6_printerAt_1 (by decide) (fun _ => ?_) (fun c_3 => ?_)
    · refine s_null (pc := 22) S dX6_printerAt_22 ?_
      refine s_astore_nN (pc := 23) S [(2, .null), (0, .ref (A 0 0)), (1, .int x)] dX6_printerAt_23 rfl (by decide) rfl ?_
      refine s_aload_nN (pc := 24) S 0 dX6_printerAt_24 rfl rfl ?_
      refine s_ifnonnullN (pc := 25) S dX6_printerAt_25 ?_
      exact s_thrW (pc := 28) (text := "no such printer") S hz hfl hml hex hlo thr_IOB (by decide +kernel) (by decide +kernel) (by decide +kernel) (by decide +kernel) dX6_printerAt_28 dX6_printerAt_31 dX6_printerAt_32 dX6_printerAt_35 dX6_printerAt_38 (Nat.le_of_ble_eq_true rfl) (Nat.le_of_ble_eq_true rfl) (Nat.le_of_ble_eq_true rfl) (Nat.le_of_ble_eq_true rfl) ⟨rfl, rfl, ix_out (by decide) hx hc, rfl⟩ (Nat.le_of_ble_eq_true rfl) (Nat.le_of_ble_eq_true rfl)
    · refine s_iload_n (pc := 4) S 1 dX6_printerAt_4 rfl rfl ?_
      refine s_aload_n (pc := 5) S 0 dX6_printerAt_5 rfl rfl ?_
      refine s_get (pc := 6) S hz (ref := "SpoolFarm") (v := .ref (A 2 0)) (cc_farm (A := A) (C := C)) i_RX6 rfl 1 (Nat.le_of_ble_eq_true rfl) (by decide +kernel) (fun _ h => h) rfl dX6_printerAt_6 ?_
      refine s_alen (pc := 9) S hz (n := 4) (cc_prns (A := A) (C := C)) dX6_printerAt_9 ?_
      refine s_icmp_ge (pc := 10) S 22 dX6_printerAt_10 (by decide) (fun _ => ?_) (fun h => absurd (hx.resolve_left c_3) h)
      refine s_null (pc := 22) S dX6_printerAt_22 ?_
      refine s_astore_nN (pc := 23) S [(2, .null), (0, .ref (A 0 0)), (1, .int x)] dX6_printerAt_23 rfl (by decide) rfl ?_
      refine s_aload_nN (pc := 24) S 0 dX6_printerAt_24 rfl rfl ?_
      refine s_ifnonnullN (pc := 25) S dX6_printerAt_25 ?_
      exact s_thrW (pc := 28) (text := "no such printer") S hz hfl hml hex hlo thr_IOB (by decide +kernel) (by decide +kernel) (by decide +kernel) (by decide +kernel) dX6_printerAt_28 dX6_printerAt_31 dX6_printerAt_32 dX6_printerAt_35 dX6_printerAt_38 (Nat.le_of_ble_eq_true rfl) (Nat.le_of_ble_eq_true rfl) (Nat.le_of_ble_eq_true rfl) (Nat.le_of_ble_eq_true rfl) ⟨rfl, rfl, ix_out (by decide) hx hc, rfl⟩ (Nat.le_of_ble_eq_true rfl) (Nat.le_of_ble_eq_true rfl)
set_option maxHeartbeats 4000000 in
set_option maxRecDepth 100000 in
theorem k_X6_jobAt_ok (Z : Zp) (l : Launch) (A : AF) (C : CF) (k : Nat) (hk : k < C 0 0 5) (hc : C 0 0 5 ≤ 40) : CtS Z l yX6_jobAt wsX6_jobAt ({ frames := 0, cells := 0, slots := 0, locals := 0 }) [.ref (A 0 0), .int (nI k)] A C 0 0 (fun v A2 C2 => A = A2 ∧ C = C2 ∧ some (.ref (A 11 k)) = v) (fun _ _ _ => False) := by
  refine CtS.of (cc0 := cX6_jobAt) (maxL := 3) (ret := (some (.object "SpoolFarm$Job"))) (by decide) rfl (Nat.le_of_ble_eq_true rfl) ?_
  intro M0_ p_ e_ s_ m_ args_ below_ meth_ c_ S hz hml hex hlo hr hin
  refine s_loc (L2 := [(0, .ref (A 0 0)), (1, .int (nI k))]) rfl ?_
  have i_RX6 : ∀ w ∈ u_ws RX6 TX6 12, w ∈ wsX6_jobAt := by decide +kernel
  refine s_iload_n (pc := 0) S 1 dX6_jobAt_0 rfl rfl ?_
  refine s_if_ltN (pc := 1) S 22 dX6_jobAt_1 (by decide) (by omega) (fun c_1 => absurd c_1 (by omega)) (fun c_1 => ?_)
  refine s_iload_n (pc := 4) S 1 dX6_jobAt_4 rfl rfl ?_
  refine s_aload_n (pc := 5) S 0 dX6_jobAt_5 rfl rfl ?_
  refine s_get (pc := 6) S hz (ref := "SpoolFarm") (v := .ref (A 3 0)) (cc_farm (A := A) (C := C)) i_RX6 rfl 2 (Nat.le_of_ble_eq_true rfl) (by decide +kernel) (fun _ h => h) rfl dX6_jobAt_6 ?_
  refine s_alen (pc := 9) S hz (n := 40) (cc_jobs (A := A) (C := C)) dX6_jobAt_9 ?_
  refine s_icmp_geN (pc := 10) S 22 dX6_jobAt_10 (by decide) (by omega) (by decide) (fun h => absurd h (by omega)) (fun _ => ?_)
  refine s_aload_n (pc := 13) S 0 dX6_jobAt_13 rfl rfl ?_
  refine s_get (pc := 14) S hz (ref := "SpoolFarm") (v := .ref (A 3 0)) (cc_farm (A := A) (C := C)) i_RX6 rfl 2 (Nat.le_of_ble_eq_true rfl) (by decide +kernel) (fun _ h => h) rfl dX6_jobAt_14 ?_
  refine s_iload_n (pc := 17) S 1 dX6_jobAt_17 rfl rfl ?_
  refine s_aald (pc := 18) S hz (v := .ref (A 11 k)) (cc_jobs (A := A) (C := C)) (by omega) (by decide) (by rw [if_pos hk]; rfl) dX6_jobAt_18 ?_
  refine s_goto (pc := 19) S 23 dX6_jobAt_19 (by decide) ?_
  refine s_astore_n (pc := 23) S [(2, .ref (A 11 k)), (0, .ref (A 0 0)), (1, .int (nI k))] dX6_jobAt_23 rfl (by decide) rfl ?_
  refine s_aload_n (pc := 24) S 0 dX6_jobAt_24 rfl rfl ?_
  refine s_ifnonnull (pc := 25) S 39 dX6_jobAt_25 (by decide) ?_
  refine s_aload_n (pc := 39) S 0 dX6_jobAt_39 rfl rfl ?_
  exact s_aret (pc := 40) S hz hlo hr ⟨rfl, rfl, rfl⟩ (Nat.le_of_ble_eq_true rfl) (Nat.le_of_ble_eq_true rfl) dX6_jobAt_40
set_option maxHeartbeats 4000000 in
set_option maxRecDepth 100000 in
theorem k_X6_jobAt (Z : Zp) (l : Launch) (A : AF) (C : CF) (x : Int32) (hc : C 0 0 5 ≤ 40) (hfl : l.stackTraces = false) : CtS Z l yX6_jobAt wsX6_jobAt ({ frames := 6, cells := 1, slots := 6, locals := 90 }) [.ref (A 0 0), .int x] A C 1 6 (fun v A2 C2 => A = A2 ∧ C = C2 ∧ ∃ k : Nat, k < C 0 0 5 ∧ nI k = x ∧ some (.ref (A 11 k)) = v) (fun E A2 C2 => A = A2 ∧ (E = "java/lang/IndexOutOfBoundsException" ∧ (∀ k : Nat, k < C 0 0 5 → nI k ≠ x) ∧ C = C2)) := by
  refine CtS.of (cc0 := cX6_jobAt) (maxL := 3) (ret := (some (.object "SpoolFarm$Job"))) (by decide) rfl (Nat.le_of_ble_eq_true rfl) ?_
  intro M0_ p_ e_ s_ m_ args_ below_ meth_ c_ S hz hml hex hlo hr hin
  refine s_loc (L2 := [(0, .ref (A 0 0)), (1, .int x)]) rfl ?_
  have i_RX6 : ∀ w ∈ u_ws RX6 TX6 12, w ∈ wsX6_jobAt := by decide +kernel
  rcases ix3 x (n := 40) (by decide) with ⟨k, hk, rfl⟩ | hx
  · refine s_iload_n (pc := 0) S 1 dX6_jobAt_0 rfl rfl ?_
    refine s_if_ltN (pc := 1) S 22 dX6_jobAt_1 (by decide) (by omega) (fun c_1 => absurd c_1 (by omega)) (fun c_1 => ?_)
    refine s_iload_n (pc := 4) S 1 dX6_jobAt_4 rfl rfl ?_
    refine s_aload_n (pc := 5) S 0 dX6_jobAt_5 rfl rfl ?_
    refine s_get (pc := 6) S hz (ref := "SpoolFarm") (v := .ref (A 3 0)) (cc_farm (A := A) (C := C)) i_RX6 rfl 2 (Nat.le_of_ble_eq_true rfl) (by decide +kernel) (fun _ h => h) rfl dX6_jobAt_6 ?_
    refine s_alen (pc := 9) S hz (n := 40) (cc_jobs (A := A) (C := C)) dX6_jobAt_9 ?_
    refine s_icmp_geN (pc := 10) S 22 dX6_jobAt_10 (by decide) (by omega) (by decide) (fun h => absurd h (by omega)) (fun _ => ?_)
    refine s_aload_n (pc := 13) S 0 dX6_jobAt_13 rfl rfl ?_
    refine s_get (pc := 14) S hz (ref := "SpoolFarm") (v := .ref (A 3 0)) (cc_farm (A := A) (C := C)) i_RX6 rfl 2 (Nat.le_of_ble_eq_true rfl) (by decide +kernel) (fun _ h => h) rfl dX6_jobAt_14 ?_
    refine s_iload_n (pc := 17) S 1 dX6_jobAt_17 rfl rfl ?_
    by_cases lv_2 : k < C 0 0 5
    · refine s_aald (pc := 18) S hz (v := .ref (A 11 k)) (cc_jobs (A := A) (C := C)) (by omega) (by decide) (by rw [if_pos lv_2]; rfl) dX6_jobAt_18 ?_
      refine s_goto (pc := 19) S 23 dX6_jobAt_19 (by decide) ?_
      refine s_astore_n (pc := 23) S [(2, .ref (A 11 k)), (0, .ref (A 0 0)), (1, .int (nI k))] dX6_jobAt_23 rfl (by decide) rfl ?_
      refine s_aload_n (pc := 24) S 0 dX6_jobAt_24 rfl rfl ?_
      refine s_ifnonnull (pc := 25) S 39 dX6_jobAt_25 (by decide) ?_
      refine s_aload_n (pc := 39) S 0 dX6_jobAt_39 rfl rfl ?_
      exact s_aret (pc := 40) S hz hlo hr ⟨rfl, rfl, k, lv_2, rfl, rfl⟩ (Nat.le_of_ble_eq_true rfl) (Nat.le_of_ble_eq_true rfl) dX6_jobAt_40
    · refine s_aald (pc := 18) S hz (v := .null) (cc_jobs (A := A) (C := C)) (by omega) (by decide) (by rw [if_neg lv_2]; rfl) dX6_jobAt_18 ?_
      refine s_goto (pc := 19) S 23 dX6_jobAt_19 (by decide) ?_
      refine s_astore_nN (pc := 23) S [(2, .null), (0, .ref (A 0 0)), (1, .int (nI k))] dX6_jobAt_23 rfl (by decide) rfl ?_
      refine s_aload_nN (pc := 24) S 0 dX6_jobAt_24 rfl rfl ?_
      refine s_ifnonnullN (pc := 25) S dX6_jobAt_25 ?_
      exact s_thrW (pc := 28) (text := "no such job") S hz hfl hml hex hlo thr_IOB (by decide +kernel) (by decide +kernel) (by decide +kernel) (by decide +kernel) dX6_jobAt_28 dX6_jobAt_31 dX6_jobAt_32 dX6_jobAt_35 dX6_jobAt_38 (Nat.le_of_ble_eq_true rfl) (Nat.le_of_ble_eq_true rfl) (Nat.le_of_ble_eq_true rfl) (Nat.le_of_ble_eq_true rfl) ⟨rfl, rfl, ix_dead (by omega) (by omega), rfl⟩ (Nat.le_of_ble_eq_true rfl) (Nat.le_of_ble_eq_true rfl)
  · refine s_iload_n (pc := 0) S 1 dX6_jobAt_0 rfl rfl ?_
    refine s_if_lt (pc := 1) S 22 dX6_jobAt_1 (by decide) (fun _ => ?_) (fun c_3 => ?_)
    · refine s_null (pc := 22) S dX6_jobAt_22 ?_
      refine s_astore_nN (pc := 23) S [(2, .null), (0, .ref (A 0 0)), (1, .int x)] dX6_jobAt_23 rfl (by decide) rfl ?_
      refine s_aload_nN (pc := 24) S 0 dX6_jobAt_24 rfl rfl ?_
      refine s_ifnonnullN (pc := 25) S dX6_jobAt_25 ?_
      exact s_thrW (pc := 28) (text := "no such job") S hz hfl hml hex hlo thr_IOB (by decide +kernel) (by decide +kernel) (by decide +kernel) (by decide +kernel) dX6_jobAt_28 dX6_jobAt_31 dX6_jobAt_32 dX6_jobAt_35 dX6_jobAt_38 (Nat.le_of_ble_eq_true rfl) (Nat.le_of_ble_eq_true rfl) (Nat.le_of_ble_eq_true rfl) (Nat.le_of_ble_eq_true rfl) ⟨rfl, rfl, ix_out (by decide) hx hc, rfl⟩ (Nat.le_of_ble_eq_true rfl) (Nat.le_of_ble_eq_true rfl)
    · refine s_iload_n (pc := 4) S 1 dX6_jobAt_4 rfl rfl ?_
      refine s_aload_n (pc := 5) S 0 dX6_jobAt_5 rfl rfl ?_
      refine s_get (pc := 6) S hz (ref := "SpoolFarm") (v := .ref (A 3 0)) (cc_farm (A := A) (C := C)) i_RX6 rfl 2 (Nat.le_of_ble_eq_true rfl) (by decide +kernel) (fun _ h => h) rfl dX6_jobAt_6 ?_
      refine s_alen (pc := 9) S hz (n := 40) (cc_jobs (A := A) (C := C)) dX6_jobAt_9 ?_
      refine s_icmp_ge (pc := 10) S 22 dX6_jobAt_10 (by decide) (fun _ => ?_) (fun h => absurd (hx.resolve_left c_3) h)
      refine s_null (pc := 22) S dX6_jobAt_22 ?_
      refine s_astore_nN (pc := 23) S [(2, .null), (0, .ref (A 0 0)), (1, .int x)] dX6_jobAt_23 rfl (by decide) rfl ?_
      refine s_aload_nN (pc := 24) S 0 dX6_jobAt_24 rfl rfl ?_
      refine s_ifnonnullN (pc := 25) S dX6_jobAt_25 ?_
      exact s_thrW (pc := 28) (text := "no such job") S hz hfl hml hex hlo thr_IOB (by decide +kernel) (by decide +kernel) (by decide +kernel) (by decide +kernel) dX6_jobAt_28 dX6_jobAt_31 dX6_jobAt_32 dX6_jobAt_35 dX6_jobAt_38 (Nat.le_of_ble_eq_true rfl) (Nat.le_of_ble_eq_true rfl) (Nat.le_of_ble_eq_true rfl) (Nat.le_of_ble_eq_true rfl) ⟨rfl, rfl, ix_out (by decide) hx hc, rfl⟩ (Nat.le_of_ble_eq_true rfl) (Nat.le_of_ble_eq_true rfl)
