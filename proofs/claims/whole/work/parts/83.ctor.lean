set_option maxHeartbeats 4000000 in
set_option maxRecDepth 100000 in
theorem k_X0_init (Z : Zp) (l : Launch) (M : Wd) (r : Role) (a : Nat) (hm : M r = some (a, .inr (5, [.int (nI 0), .int (nI 0), .int (nI 0), .int (nI 0), .int (nI 0), .long (lN 0)]))) (x y z : Nat) : Ct Z l yX0_init wsX0_init ({ frames := 1, cells := 0, slots := 0, locals := 20 }) [.ref a, .int (nI x), .int (nI y), .int (nI z)] M 0 0 (fun v M2 => none = v ∧ (∀ r2 : Role, r2 ≠ r → M2 r2 = M r2) ∧ M2 r = some (a, .inr (5, [.int (nI x), .int (nI y), .int (nI z), .int (nI 0), .int (nI 0), .long (lN 0)]))) (fun _ _ => False) := by
  refine Ct.of (cc := cX0_init) (maxL := 4) (ret := none) (by decide) rfl (Nat.le_of_ble_eq_true rfl) ?_
  intro p_ e_ s_ m_ args_ below_ meth_ c_ S hz hml hex hlo hr hin
  refine g_loc (L2 := [(0, .ref a), (1, .int (nI x)), (2, .int (nI y)), (3, .int (nI z))]) rfl ?_
  have i_RX0 : ∀ w ∈ u_ws RX0 TX0 6, w ∈ wsX0_init := by decide +kernel
  refine g_aload_n (pc := 0) S 0 dX0_init_0 rfl rfl ?_
  refine g_objInit (pc := 1) S hml (by decide +kernel) (by decide +kernel) (by decide +kernel) dX0_init_1 (Nat.le_of_ble_eq_true rfl) (Nat.le_of_ble_eq_true rfl) ?_
  refine g_aload_n (pc := 4) S 0 dX0_init_4 rfl rfl ?_
  refine g_iconst (pc := 5) S (v := (nI 0)) dX0_init_5 (by decide) ?_
  refine g_put (pc := 6) S hz (ref := "SpoolFarm$Entry") (r := r) (v := .int (nI 0)) (ty := .int) hm i_RX0 tyX0 tyX0_ok nmX0 rfl 3 (Nat.le_of_ble_eq_true rfl) (by decide +kernel) (fun _ h => h) rfl (by decide +kernel) rfl rfl _ (Nat.le_of_ble_eq_true rfl) rfl dX0_init_6 (fun M_1 f_2 m_3 => ?_)
  refine g_aload_n (pc := 9) S 0 dX0_init_9 rfl rfl ?_
  refine g_iconst (pc := 10) S (v := (nI 0)) dX0_init_10 (by decide) ?_
  refine g_put (pc := 11) S hz (ref := "SpoolFarm$Entry") (r := r) (v := .int (nI 0)) (ty := .int) m_3 i_RX0 tyX0 tyX0_ok nmX0 rfl 4 (Nat.le_of_ble_eq_true rfl) (by decide +kernel) (fun _ h => h) rfl (by decide +kernel) rfl rfl _ (Nat.le_of_ble_eq_true rfl) rfl dX0_init_11 (fun M_4 f_5 m_6 => ?_)
  refine g_aload_n (pc := 14) S 0 dX0_init_14 rfl rfl ?_
  refine g_lconst (pc := 15) S (v := lN 0) dX0_init_15 (by decide) ?_
  refine g_put (pc := 16) S hz (ref := "SpoolFarm$Entry") (r := r) (v := .long (lN 0)) (ty := .long) m_6 i_RX0 tyX0 tyX0_ok nmX0 rfl 5 (Nat.le_of_ble_eq_true rfl) (by decide +kernel) (fun _ h => h) rfl (by decide +kernel) rfl rfl _ (Nat.le_of_ble_eq_true rfl) rfl dX0_init_16 (fun M_7 f_8 m_9 => ?_)
  refine g_aload_n (pc := 19) S 0 dX0_init_19 rfl rfl ?_
  refine g_iload_n (pc := 20) S 1 dX0_init_20 rfl rfl ?_
  refine g_putF (pc := 21) S hz (ref := "SpoolFarm$Entry") (r := r) (v := .int (nI x)) (ty := .int) m_9 i_RX0 tyX0 tyX0_ok nmX0 rfl 0 (Nat.le_of_ble_eq_true rfl) (by decide +kernel) (fun _ h => h) rfl (hin rfl) rfl (by decide +kernel) rfl rfl _ (Nat.le_of_ble_eq_true rfl) rfl dX0_init_21 (fun M_10 f_11 m_12 => ?_)
  refine g_aload_n (pc := 24) S 0 dX0_init_24 rfl rfl ?_
  refine g_iload_n (pc := 25) S 2 dX0_init_25 rfl rfl ?_
  refine g_putF (pc := 26) S hz (ref := "SpoolFarm$Entry") (r := r) (v := .int (nI y)) (ty := .int) m_12 i_RX0 tyX0 tyX0_ok nmX0 rfl 1 (Nat.le_of_ble_eq_true rfl) (by decide +kernel) (fun _ h => h) rfl (hin rfl) rfl (by decide +kernel) rfl rfl _ (Nat.le_of_ble_eq_true rfl) rfl dX0_init_26 (fun M_13 f_14 m_15 => ?_)
  refine g_aload_n (pc := 29) S 0 dX0_init_29 rfl rfl ?_
  refine g_iload_n (pc := 30) S 3 dX0_init_30 rfl rfl ?_
  refine g_putF (pc := 31) S hz (ref := "SpoolFarm$Entry") (r := r) (v := .int (nI z)) (ty := .int) m_15 i_RX0 tyX0 tyX0_ok nmX0 rfl 2 (Nat.le_of_ble_eq_true rfl) (by decide +kernel) (fun _ h => h) rfl (hin rfl) rfl (by decide +kernel) rfl rfl _ (Nat.le_of_ble_eq_true rfl) rfl dX0_init_31 (fun M_16 f_17 m_18 => ?_)
  exact g_vret (pc := 34) S hz hlo hr ⟨rfl, fun r2 z1 => by rw [f_17 r2 z1, f_14 r2 z1, f_11 r2 z1, f_8 r2 z1, f_5 r2 z1, f_2 r2 z1], m_18⟩ (Nat.le_of_ble_eq_true rfl) (Nat.le_of_ble_eq_true rfl) dX0_init_34
set_option maxHeartbeats 4000000 in
set_option maxRecDepth 100000 in
theorem k_X1_init (Z : Zp) (l : Launch) (M : Wd) (r : Role) (a : Nat) (hm : M r = some (a, .inr (6, [.int (nI 0), .int (nI 0), .int (nI 0), .int (nI 0), .int (nI 0), .int (nI 0), .int (nI 0), .int (nI 0), .int (nI 0), .int (nI 0), .int (nI 0), .int (nI 0), .int (nI 0), .int (nI 0)]))) (x y z w : Nat) : Ct Z l yX1_init wsX1_init ({ frames := 1, cells := 0, slots := 0, locals := 20 }) [.ref a, .int (nI x), .int (nI y), .int (nI z), .int (nI w)] M 0 0 (fun v M2 => none = v ∧ (∀ r2 : Role, r2 ≠ r → M2 r2 = M r2) ∧ M2 r = some (a, .inr (6, [.int (nI x), .int (nI y), .int (nI z), .int (nI (z * w)), .int (nI 97), .int (nI 0), .int (nI 0), .int (nI 0), .int (nI 0), .int (nI 0), .int (nI 0), .int (nI 0), .int (nI 0), .int (nI 45)]))) (fun _ _ => False) := by
  refine Ct.of (cc := cX1_init) (maxL := 5) (ret := none) (by decide) rfl (Nat.le_of_ble_eq_true rfl) ?_
  intro p_ e_ s_ m_ args_ below_ meth_ c_ S hz hml hex hlo hr hin
  refine g_loc (L2 := [(0, .ref a), (1, .int (nI x)), (2, .int (nI y)), (3, .int (nI z)), (4, .int (nI w))]) rfl ?_
  have i_RX1 : ∀ w ∈ u_ws RX1 TX1 14, w ∈ wsX1_init := by decide +kernel
  refine g_aload_n (pc := 0) S 0 dX1_init_0 rfl rfl ?_
  refine g_objInit (pc := 1) S hml (by decide +kernel) (by decide +kernel) (by decide +kernel) dX1_init_1 (Nat.le_of_ble_eq_true rfl) (Nat.le_of_ble_eq_true rfl) ?_
  refine g_aload_n (pc := 4) S 0 dX1_init_4 rfl rfl ?_
  refine g_bipush (pc := 5) S (v := (nI 97)) dX1_init_5 (by decide) ?_
  refine g_put (pc := 7) S hz (ref := "SpoolFarm$Job") (r := r) (v := .int (nI 97)) (ty := .char) hm i_RX1 tyX1 tyX1_ok nmX1 rfl 4 (Nat.le_of_ble_eq_true rfl) (by decide +kernel) (fun _ h => h) rfl (by decide +kernel) (nar_c (by first | decide | omega)) (fit_c (by first | decide | omega)) _ (Nat.le_of_ble_eq_true rfl) rfl dX1_init_7 (fun M_1 f_2 m_3 => ?_)
  refine g_aload_n (pc := 10) S 0 dX1_init_10 rfl rfl ?_
  refine g_iconst (pc := 11) S (v := (nI 0)) dX1_init_11 (by decide) ?_
  refine g_put (pc := 12) S hz (ref := "SpoolFarm$Job") (r := r) (v := .int (nI 0)) (ty := .boolean) m_3 i_RX1 tyX1 tyX1_ok nmX1 rfl 5 (Nat.le_of_ble_eq_true rfl) (by decide +kernel) (fun _ h => h) rfl (by decide +kernel) (nar_z (by first | decide | omega)) (fit_z (by first | decide | omega)) _ (Nat.le_of_ble_eq_true rfl) rfl dX1_init_12 (fun M_4 f_5 m_6 => ?_)
  refine g_aload_n (pc := 15) S 0 dX1_init_15 rfl rfl ?_
  refine g_iconst (pc := 16) S (v := (nI 0)) dX1_init_16 (by decide) ?_
  refine g_put (pc := 17) S hz (ref := "SpoolFarm$Job") (r := r) (v := .int (nI 0)) (ty := .boolean) m_6 i_RX1 tyX1 tyX1_ok nmX1 rfl 6 (Nat.le_of_ble_eq_true rfl) (by decide +kernel) (fun _ h => h) rfl (by decide +kernel) (nar_z (by first | decide | omega)) (fit_z (by first | decide | omega)) _ (Nat.le_of_ble_eq_true rfl) rfl dX1_init_17 (fun M_7 f_8 m_9 => ?_)
  refine g_aload_n (pc := 20) S 0 dX1_init_20 rfl rfl ?_
  refine g_iconst (pc := 21) S (v := (nI 0)) dX1_init_21 (by decide) ?_
  refine g_put (pc := 22) S hz (ref := "SpoolFarm$Job") (r := r) (v := .int (nI 0)) (ty := .boolean) m_9 i_RX1 tyX1 tyX1_ok nmX1 rfl 7 (Nat.le_of_ble_eq_true rfl) (by decide +kernel) (fun _ h => h) rfl (by decide +kernel) (nar_z (by first | decide | omega)) (fit_z (by first | decide | omega)) _ (Nat.le_of_ble_eq_true rfl) rfl dX1_init_22 (fun M_10 f_11 m_12 => ?_)
  refine g_aload_n (pc := 25) S 0 dX1_init_25 rfl rfl ?_
  refine g_iconst (pc := 26) S (v := (nI 0)) dX1_init_26 (by decide) ?_
  refine g_put (pc := 27) S hz (ref := "SpoolFarm$Job") (r := r) (v := .int (nI 0)) (ty := .boolean) m_12 i_RX1 tyX1 tyX1_ok nmX1 rfl 8 (Nat.le_of_ble_eq_true rfl) (by decide +kernel) (fun _ h => h) rfl (by decide +kernel) (nar_z (by first | decide | omega)) (fit_z (by first | decide | omega)) _ (Nat.le_of_ble_eq_true rfl) rfl dX1_init_27 (fun M_13 f_14 m_15 => ?_)
  refine g_aload_n (pc := 30) S 0 dX1_init_30 rfl rfl ?_
  refine g_iconst (pc := 31) S (v := (nI 0)) dX1_init_31 (by decide) ?_
  refine g_put (pc := 32) S hz (ref := "SpoolFarm$Job") (r := r) (v := .int (nI 0)) (ty := .int) m_15 i_RX1 tyX1 tyX1_ok nmX1 rfl 9 (Nat.le_of_ble_eq_true rfl) (by decide +kernel) (fun _ h => h) rfl (by decide +kernel) rfl rfl _ (Nat.le_of_ble_eq_true rfl) rfl dX1_init_32 (fun M_16 f_17 m_18 => ?_)
  refine g_aload_n (pc := 35) S 0 dX1_init_35 rfl rfl ?_
  refine g_iconst (pc := 36) S (v := (nI 0)) dX1_init_36 (by decide) ?_
  refine g_put (pc := 37) S hz (ref := "SpoolFarm$Job") (r := r) (v := .int (nI 0)) (ty := .int) m_18 i_RX1 tyX1 tyX1_ok nmX1 rfl 10 (Nat.le_of_ble_eq_true rfl) (by decide +kernel) (fun _ h => h) rfl (by decide +kernel) rfl rfl _ (Nat.le_of_ble_eq_true rfl) rfl dX1_init_37 (fun M_19 f_20 m_21 => ?_)
  refine g_aload_n (pc := 40) S 0 dX1_init_40 rfl rfl ?_
  refine g_iconst (pc := 41) S (v := (nI 0)) dX1_init_41 (by decide) ?_
  refine g_put (pc := 42) S hz (ref := "SpoolFarm$Job") (r := r) (v := .int (nI 0)) (ty := .int) m_21 i_RX1 tyX1 tyX1_ok nmX1 rfl 11 (Nat.le_of_ble_eq_true rfl) (by decide +kernel) (fun _ h => h) rfl (by decide +kernel) rfl rfl _ (Nat.le_of_ble_eq_true rfl) rfl dX1_init_42 (fun M_22 f_23 m_24 => ?_)
  refine g_aload_n (pc := 45) S 0 dX1_init_45 rfl rfl ?_
  refine g_iconst (pc := 46) S (v := (nI 0)) dX1_init_46 (by decide) ?_
  refine g_put (pc := 47) S hz (ref := "SpoolFarm$Job") (r := r) (v := .int (nI 0)) (ty := .int) m_24 i_RX1 tyX1 tyX1_ok nmX1 rfl 12 (Nat.le_of_ble_eq_true rfl) (by decide +kernel) (fun _ h => h) rfl (by decide +kernel) rfl rfl _ (Nat.le_of_ble_eq_true rfl) rfl dX1_init_47 (fun M_25 f_26 m_27 => ?_)
  refine g_aload_n (pc := 50) S 0 dX1_init_50 rfl rfl ?_
  refine g_bipush (pc := 51) S (v := (nI 45)) dX1_init_51 (by decide) ?_
  refine g_put (pc := 53) S hz (ref := "SpoolFarm$Job") (r := r) (v := .int (nI 45)) (ty := .char) m_27 i_RX1 tyX1 tyX1_ok nmX1 rfl 13 (Nat.le_of_ble_eq_true rfl) (by decide +kernel) (fun _ h => h) rfl (by decide +kernel) (nar_c (by first | decide | omega)) (fit_c (by first | decide | omega)) _ (Nat.le_of_ble_eq_true rfl) rfl dX1_init_53 (fun M_28 f_29 m_30 => ?_)
  refine g_aload_n (pc := 56) S 0 dX1_init_56 rfl rfl ?_
  refine g_iload_n (pc := 57) S 1 dX1_init_57 rfl rfl ?_
  refine g_putF (pc := 58) S hz (ref := "SpoolFarm$Job") (r := r) (v := .int (nI x)) (ty := .int) m_30 i_RX1 tyX1 tyX1_ok nmX1 rfl 0 (Nat.le_of_ble_eq_true rfl) (by decide +kernel) (fun _ h => h) rfl (hin rfl) rfl (by decide +kernel) rfl rfl _ (Nat.le_of_ble_eq_true rfl) rfl dX1_init_58 (fun M_31 f_32 m_33 => ?_)
  refine g_aload_n (pc := 61) S 0 dX1_init_61 rfl rfl ?_
  refine g_iload_n (pc := 62) S 2 dX1_init_62 rfl rfl ?_
  refine g_putF (pc := 63) S hz (ref := "SpoolFarm$Job") (r := r) (v := .int (nI y)) (ty := .int) m_33 i_RX1 tyX1 tyX1_ok nmX1 rfl 1 (Nat.le_of_ble_eq_true rfl) (by decide +kernel) (fun _ h => h) rfl (hin rfl) rfl (by decide +kernel) rfl rfl _ (Nat.le_of_ble_eq_true rfl) rfl dX1_init_63 (fun M_34 f_35 m_36 => ?_)
  refine g_aload_n (pc := 66) S 0 dX1_init_66 rfl rfl ?_
  refine g_iload_n (pc := 67) S 3 dX1_init_67 rfl rfl ?_
  refine g_putF (pc := 68) S hz (ref := "SpoolFarm$Job") (r := r) (v := .int (nI z)) (ty := .int) m_36 i_RX1 tyX1 tyX1_ok nmX1 rfl 2 (Nat.le_of_ble_eq_true rfl) (by decide +kernel) (fun _ h => h) rfl (hin rfl) rfl (by decide +kernel) rfl rfl _ (Nat.le_of_ble_eq_true rfl) rfl dX1_init_68 (fun M_37 f_38 m_39 => ?_)
  refine g_aload_n (pc := 71) S 0 dX1_init_71 rfl rfl ?_
  refine g_iload_n (pc := 72) S 3 dX1_init_72 rfl rfl ?_
  refine g_iload (pc := 73) S 4 dX1_init_73 rfl ?_
  refine g_imulN (pc := 75) S dX1_init_75 ?_
  refine g_putF (pc := 76) S hz (ref := "SpoolFarm$Job") (r := r) (v := .int (nI (z * w))) (ty := .int) m_39 i_RX1 tyX1 tyX1_ok nmX1 rfl 3 (Nat.le_of_ble_eq_true rfl) (by decide +kernel) (fun _ h => h) rfl (hin rfl) rfl (by decide +kernel) rfl rfl _ (Nat.le_of_ble_eq_true rfl) rfl dX1_init_76 (fun M_40 f_41 m_42 => ?_)
  exact g_vret (pc := 79) S hz hlo hr ⟨rfl, fun r2 z1 => by rw [f_41 r2 z1, f_38 r2 z1, f_35 r2 z1, f_32 r2 z1, f_29 r2 z1, f_26 r2 z1, f_23 r2 z1, f_20 r2 z1, f_17 r2 z1, f_14 r2 z1, f_11 r2 z1, f_8 r2 z1, f_5 r2 z1, f_2 r2 z1], m_42⟩ (Nat.le_of_ble_eq_true rfl) (Nat.le_of_ble_eq_true rfl) dX1_init_79
set_option maxHeartbeats 4000000 in
set_option maxRecDepth 100000 in
theorem k_X2_init (Z : Zp) (l : Launch) (M : Wd) (r : Role) (a : Nat) (hm : M r = some (a, .inr (7, [.int (nI 0), .int (nI 0), .int (nI 0), .int (nI 0), .int (nI 0), .int (nI 0), .int (nI 0), .int (nI 0), .int (nI 0), .int (nI 0)])))  : Ct Z l yX2_init wsX2_init ({ frames := 1, cells := 0, slots := 0, locals := 20 }) [.ref a] M 0 0 (fun v M2 => none = v ∧ (∀ r2 : Role, r2 ≠ r → M2 r2 = M r2) ∧ M2 r = some (a, .inr (7, [.int (nI 0), .int (nI 0), .int (nI 0), .int (nI 0), .int (nI 0), .int (nI 0), .int (nI 0), .int (nI 0), .int (nI 0), .int (nI 45)]))) (fun _ _ => False) := by
  refine Ct.of (cc := cX2_init) (maxL := 1) (ret := none) (by decide) rfl (Nat.le_of_ble_eq_true rfl) ?_
  intro p_ e_ s_ m_ args_ below_ meth_ c_ S hz hml hex hlo hr hin
  refine g_loc (L2 := [(0, .ref a)]) rfl ?_
  have i_RX2 : ∀ w ∈ u_ws RX2 TX2 10, w ∈ wsX2_init := by decide +kernel
  refine g_aload_n (pc := 0) S 0 dX2_init_0 rfl rfl ?_
  refine g_objInit (pc := 1) S hml (by decide +kernel) (by decide +kernel) (by decide +kernel) dX2_init_1 (Nat.le_of_ble_eq_true rfl) (Nat.le_of_ble_eq_true rfl) ?_
  refine g_aload_n (pc := 4) S 0 dX2_init_4 rfl rfl ?_
  refine g_iconst (pc := 5) S (v := (nI 0)) dX2_init_5 (by decide) ?_
  refine g_put (pc := 6) S hz (ref := "SpoolFarm$Plan") (r := r) (v := .int (nI 0)) (ty := .boolean) hm i_RX2 tyX2 tyX2_ok nmX2 rfl 0 (Nat.le_of_ble_eq_true rfl) (by decide +kernel) (fun _ h => h) rfl (by decide +kernel) (nar_z (by first | decide | omega)) (fit_z (by first | decide | omega)) _ (Nat.le_of_ble_eq_true rfl) rfl dX2_init_6 (fun M_1 f_2 m_3 => ?_)
  refine g_aload_n (pc := 9) S 0 dX2_init_9 rfl rfl ?_
  refine g_iconst (pc := 10) S (v := (nI 0)) dX2_init_10 (by decide) ?_
  refine g_put (pc := 11) S hz (ref := "SpoolFarm$Plan") (r := r) (v := .int (nI 0)) (ty := .int) m_3 i_RX2 tyX2 tyX2_ok nmX2 rfl 1 (Nat.le_of_ble_eq_true rfl) (by decide +kernel) (fun _ h => h) rfl (by decide +kernel) rfl rfl _ (Nat.le_of_ble_eq_true rfl) rfl dX2_init_11 (fun M_4 f_5 m_6 => ?_)
  refine g_aload_n (pc := 14) S 0 dX2_init_14 rfl rfl ?_
  refine g_iconst (pc := 15) S (v := (nI 0)) dX2_init_15 (by decide) ?_
  refine g_put (pc := 16) S hz (ref := "SpoolFarm$Plan") (r := r) (v := .int (nI 0)) (ty := .int) m_6 i_RX2 tyX2 tyX2_ok nmX2 rfl 2 (Nat.le_of_ble_eq_true rfl) (by decide +kernel) (fun _ h => h) rfl (by decide +kernel) rfl rfl _ (Nat.le_of_ble_eq_true rfl) rfl dX2_init_16 (fun M_7 f_8 m_9 => ?_)
  refine g_aload_n (pc := 19) S 0 dX2_init_19 rfl rfl ?_
  refine g_iconst (pc := 20) S (v := (nI 0)) dX2_init_20 (by decide) ?_
  refine g_put (pc := 21) S hz (ref := "SpoolFarm$Plan") (r := r) (v := .int (nI 0)) (ty := .int) m_9 i_RX2 tyX2 tyX2_ok nmX2 rfl 3 (Nat.le_of_ble_eq_true rfl) (by decide +kernel) (fun _ h => h) rfl (by decide +kernel) rfl rfl _ (Nat.le_of_ble_eq_true rfl) rfl dX2_init_21 (fun M_10 f_11 m_12 => ?_)
  refine g_aload_n (pc := 24) S 0 dX2_init_24 rfl rfl ?_
  refine g_iconst (pc := 25) S (v := (nI 0)) dX2_init_25 (by decide) ?_
  refine g_put (pc := 26) S hz (ref := "SpoolFarm$Plan") (r := r) (v := .int (nI 0)) (ty := .int) m_12 i_RX2 tyX2 tyX2_ok nmX2 rfl 4 (Nat.le_of_ble_eq_true rfl) (by decide +kernel) (fun _ h => h) rfl (by decide +kernel) rfl rfl _ (Nat.le_of_ble_eq_true rfl) rfl dX2_init_26 (fun M_13 f_14 m_15 => ?_)
  refine g_aload_n (pc := 29) S 0 dX2_init_29 rfl rfl ?_
  refine g_iconst (pc := 30) S (v := (nI 0)) dX2_init_30 (by decide) ?_
  refine g_put (pc := 31) S hz (ref := "SpoolFarm$Plan") (r := r) (v := .int (nI 0)) (ty := .int) m_15 i_RX2 tyX2 tyX2_ok nmX2 rfl 5 (Nat.le_of_ble_eq_true rfl) (by decide +kernel) (fun _ h => h) rfl (by decide +kernel) rfl rfl _ (Nat.le_of_ble_eq_true rfl) rfl dX2_init_31 (fun M_16 f_17 m_18 => ?_)
  refine g_aload_n (pc := 34) S 0 dX2_init_34 rfl rfl ?_
  refine g_iconst (pc := 35) S (v := (nI 0)) dX2_init_35 (by decide) ?_
  refine g_put (pc := 36) S hz (ref := "SpoolFarm$Plan") (r := r) (v := .int (nI 0)) (ty := .int) m_18 i_RX2 tyX2 tyX2_ok nmX2 rfl 6 (Nat.le_of_ble_eq_true rfl) (by decide +kernel) (fun _ h => h) rfl (by decide +kernel) rfl rfl _ (Nat.le_of_ble_eq_true rfl) rfl dX2_init_36 (fun M_19 f_20 m_21 => ?_)
  refine g_aload_n (pc := 39) S 0 dX2_init_39 rfl rfl ?_
  refine g_iconst (pc := 40) S (v := (nI 0)) dX2_init_40 (by decide) ?_
  refine g_put (pc := 41) S hz (ref := "SpoolFarm$Plan") (r := r) (v := .int (nI 0)) (ty := .boolean) m_21 i_RX2 tyX2 tyX2_ok nmX2 rfl 7 (Nat.le_of_ble_eq_true rfl) (by decide +kernel) (fun _ h => h) rfl (by decide +kernel) (nar_z (by first | decide | omega)) (fit_z (by first | decide | omega)) _ (Nat.le_of_ble_eq_true rfl) rfl dX2_init_41 (fun M_22 f_23 m_24 => ?_)
  refine g_aload_n (pc := 44) S 0 dX2_init_44 rfl rfl ?_
  refine g_iconst (pc := 45) S (v := (nI 0)) dX2_init_45 (by decide) ?_
  refine g_put (pc := 46) S hz (ref := "SpoolFarm$Plan") (r := r) (v := .int (nI 0)) (ty := .int) m_24 i_RX2 tyX2 tyX2_ok nmX2 rfl 8 (Nat.le_of_ble_eq_true rfl) (by decide +kernel) (fun _ h => h) rfl (by decide +kernel) rfl rfl _ (Nat.le_of_ble_eq_true rfl) rfl dX2_init_46 (fun M_25 f_26 m_27 => ?_)
  refine g_aload_n (pc := 49) S 0 dX2_init_49 rfl rfl ?_
  refine g_bipush (pc := 50) S (v := (nI 45)) dX2_init_50 (by decide) ?_
  refine g_put (pc := 52) S hz (ref := "SpoolFarm$Plan") (r := r) (v := .int (nI 45)) (ty := .char) m_27 i_RX2 tyX2 tyX2_ok nmX2 rfl 9 (Nat.le_of_ble_eq_true rfl) (by decide +kernel) (fun _ h => h) rfl (by decide +kernel) (nar_c (by first | decide | omega)) (fit_c (by first | decide | omega)) _ (Nat.le_of_ble_eq_true rfl) rfl dX2_init_52 (fun M_28 f_29 m_30 => ?_)
  exact g_vret (pc := 55) S hz hlo hr ⟨rfl, fun r2 z1 => by rw [f_29 r2 z1, f_26 r2 z1, f_23 r2 z1, f_20 r2 z1, f_17 r2 z1, f_14 r2 z1, f_11 r2 z1, f_8 r2 z1, f_5 r2 z1, f_2 r2 z1], m_30⟩ (Nat.le_of_ble_eq_true rfl) (Nat.le_of_ble_eq_true rfl) dX2_init_55
set_option maxHeartbeats 4000000 in
set_option maxRecDepth 100000 in
theorem k_X4_init (Z : Zp) (l : Launch) (M : Wd) (r : Role) (a : Nat) (hm : M r = some (a, .inr (9, [.int (nI 0), .int (nI 0)]))) (x y : Nat) (hx : x < 65536) : Ct Z l yX4_init wsX4_init ({ frames := 1, cells := 0, slots := 0, locals := 20 }) [.ref a, .int (nI x), .int (nI y)] M 0 0 (fun v M2 => none = v ∧ (∀ r2 : Role, r2 ≠ r → M2 r2 = M r2) ∧ M2 r = some (a, .inr (9, [.int (nI x), .int (nI y)]))) (fun _ _ => False) := by
  refine Ct.of (cc := cX4_init) (maxL := 3) (ret := none) (by decide) rfl (Nat.le_of_ble_eq_true rfl) ?_
  intro p_ e_ s_ m_ args_ below_ meth_ c_ S hz hml hex hlo hr hin
  refine g_loc (L2 := [(0, .ref a), (1, .int (nI x)), (2, .int (nI y))]) rfl ?_
  have i_RX4 : ∀ w ∈ u_ws RX4 TX4 2, w ∈ wsX4_init := by decide +kernel
  refine g_aload_n (pc := 0) S 0 dX4_init_0 rfl rfl ?_
  refine g_objInit (pc := 1) S hml (by decide +kernel) (by decide +kernel) (by decide +kernel) dX4_init_1 (Nat.le_of_ble_eq_true rfl) (Nat.le_of_ble_eq_true rfl) ?_
  refine g_aload_n (pc := 4) S 0 dX4_init_4 rfl rfl ?_
  refine g_iload_n (pc := 5) S 1 dX4_init_5 rfl rfl ?_
  refine g_put (pc := 6) S hz (ref := "SpoolFarm$Tray") (r := r) (v := .int (nI x)) (ty := .char) hm i_RX4 tyX4 tyX4_ok nmX4 rfl 0 (Nat.le_of_ble_eq_true rfl) (by decide +kernel) (fun _ h => h) rfl (by decide +kernel) (nar_c (by first | decide | omega)) (fit_c (by first | decide | omega)) _ (Nat.le_of_ble_eq_true rfl) rfl dX4_init_6 (fun M_1 f_2 m_3 => ?_)
  refine g_aload_n (pc := 9) S 0 dX4_init_9 rfl rfl ?_
  refine g_iload_n (pc := 10) S 2 dX4_init_10 rfl rfl ?_
  refine g_put (pc := 11) S hz (ref := "SpoolFarm$Tray") (r := r) (v := .int (nI y)) (ty := .int) m_3 i_RX4 tyX4 tyX4_ok nmX4 rfl 1 (Nat.le_of_ble_eq_true rfl) (by decide +kernel) (fun _ h => h) rfl (by decide +kernel) rfl rfl _ (Nat.le_of_ble_eq_true rfl) rfl dX4_init_11 (fun M_4 f_5 m_6 => ?_)
  exact g_vret (pc := 14) S hz hlo hr ⟨rfl, fun r2 z1 => by rw [f_5 r2 z1, f_2 r2 z1], m_6⟩ (Nat.le_of_ble_eq_true rfl) (Nat.le_of_ble_eq_true rfl) dX4_init_14
set_option maxHeartbeats 4000000 in
set_option maxRecDepth 100000 in
theorem k_X5_init (Z : Zp) (l : Launch) (M : Wd) (r : Role) (a : Nat) (hm : M r = some (a, .inr (10, [.int (nI 0), .int (nI 0), .int (nI 0), .long (lN 0)]))) (x y : Nat) : Ct Z l yX5_init wsX5_init ({ frames := 1, cells := 0, slots := 0, locals := 20 }) [.ref a, .int (nI x), .int (nI y)] M 0 0 (fun v M2 => none = v ∧ (∀ r2 : Role, r2 ≠ r → M2 r2 = M r2) ∧ M2 r = some (a, .inr (10, [.int (nI x), .int (nI y), .int (nI 0), .long (lN 0)]))) (fun _ _ => False) := by
  refine Ct.of (cc := cX5_init) (maxL := 3) (ret := none) (by decide) rfl (Nat.le_of_ble_eq_true rfl) ?_
  intro p_ e_ s_ m_ args_ below_ meth_ c_ S hz hml hex hlo hr hin
  refine g_loc (L2 := [(0, .ref a), (1, .int (nI x)), (2, .int (nI y))]) rfl ?_
  have i_RX5 : ∀ w ∈ u_ws RX5 TX5 4, w ∈ wsX5_init := by decide +kernel
  refine g_aload_n (pc := 0) S 0 dX5_init_0 rfl rfl ?_
  refine g_objInit (pc := 1) S hml (by decide +kernel) (by decide +kernel) (by decide +kernel) dX5_init_1 (Nat.le_of_ble_eq_true rfl) (Nat.le_of_ble_eq_true rfl) ?_
  refine g_aload_n (pc := 4) S 0 dX5_init_4 rfl rfl ?_
  refine g_iconst (pc := 5) S (v := (nI 0)) dX5_init_5 (by decide) ?_
  refine g_put (pc := 6) S hz (ref := "SpoolFarm$User") (r := r) (v := .int (nI 0)) (ty := .int) hm i_RX5 tyX5 tyX5_ok nmX5 rfl 2 (Nat.le_of_ble_eq_true rfl) (by decide +kernel) (fun _ h => h) rfl (by decide +kernel) rfl rfl _ (Nat.le_of_ble_eq_true rfl) rfl dX5_init_6 (fun M_1 f_2 m_3 => ?_)
  refine g_aload_n (pc := 9) S 0 dX5_init_9 rfl rfl ?_
  refine g_lconst (pc := 10) S (v := lN 0) dX5_init_10 (by decide) ?_
  refine g_put (pc := 11) S hz (ref := "SpoolFarm$User") (r := r) (v := .long (lN 0)) (ty := .long) m_3 i_RX5 tyX5 tyX5_ok nmX5 rfl 3 (Nat.le_of_ble_eq_true rfl) (by decide +kernel) (fun _ h => h) rfl (by decide +kernel) rfl rfl _ (Nat.le_of_ble_eq_true rfl) rfl dX5_init_11 (fun M_4 f_5 m_6 => ?_)
  refine g_aload_n (pc := 14) S 0 dX5_init_14 rfl rfl ?_
  refine g_iload_n (pc := 15) S 1 dX5_init_15 rfl rfl ?_
  refine g_put (pc := 16) S hz (ref := "SpoolFarm$User") (r := r) (v := .int (nI x)) (ty := .int) m_6 i_RX5 tyX5 tyX5_ok nmX5 rfl 0 (Nat.le_of_ble_eq_true rfl) (by decide +kernel) (fun _ h => h) rfl (by decide +kernel) rfl rfl _ (Nat.le_of_ble_eq_true rfl) rfl dX5_init_16 (fun M_7 f_8 m_9 => ?_)
  refine g_aload_n (pc := 19) S 0 dX5_init_19 rfl rfl ?_
  refine g_iload_n (pc := 20) S 2 dX5_init_20 rfl rfl ?_
  refine g_put (pc := 21) S hz (ref := "SpoolFarm$User") (r := r) (v := .int (nI y)) (ty := .int) m_9 i_RX5 tyX5 tyX5_ok nmX5 rfl 1 (Nat.le_of_ble_eq_true rfl) (by decide +kernel) (fun _ h => h) rfl (by decide +kernel) rfl rfl _ (Nat.le_of_ble_eq_true rfl) rfl dX5_init_21 (fun M_10 f_11 m_12 => ?_)
  exact g_vret (pc := 24) S hz hlo hr ⟨rfl, fun r2 z1 => by rw [f_11 r2 z1, f_8 r2 z1, f_5 r2 z1, f_2 r2 z1], m_12⟩ (Nat.le_of_ble_eq_true rfl) (Nat.le_of_ble_eq_true rfl) dX5_init_24
set_option maxHeartbeats 4000000 in
set_option maxRecDepth 100000 in
theorem k_X3_init (Z : Zp) (l : Launch) (M : Wd) (r q : Role) (a : Nat) (hm : M r = some (a, .inr (8, [.int (nI 0), .int (nI 0), .int (nI 0), .int (nI 0), .null, .int (nI 0)]))) (hrq : r ≠ q) (x y z : Nat) (hx : x < 2) : Ct Z l yX3_init wsX3_init ({ frames := 1, cells := 1, slots := 3, locals := 20 }) [.ref a, .int (nI x), .int (nI y), .int (nI z)] M 1 3 (fun v M2 => none = v ∧ ∃ b : Nat, (∀ r2 : Role, r2 ≠ r → r2 ≠ q → M2 r2 = M r2) ∧ M2 r = some (a, .inr (8, [.int (nI x), .int (nI y), .int (nI (if x = 0 then 0 else y)), .int (nI z), .ref b, .int (nI 0)])) ∧ M2 q = some (b, aR "SpoolFarm$Tray" 3 (fun _ => none))) (fun _ _ => False) := by
  refine Ct.of (cc := cX3_init) (maxL := 4) (ret := none) (by decide) rfl (Nat.le_of_ble_eq_true rfl) ?_
  intro p_ e_ s_ m_ args_ below_ meth_ c_ S hz hml hex hlo hr hin
  refine g_loc (L2 := [(0, .ref a), (1, .int (nI x)), (2, .int (nI y)), (3, .int (nI z))]) rfl ?_
  have i_RX3 : ∀ w ∈ u_ws RX3 TX3 6, w ∈ wsX3_init := by decide +kernel
  refine g_aload_n (pc := 0) S 0 dX3_init_0 rfl rfl ?_
  refine g_objInit (pc := 1) S hml (by decide +kernel) (by decide +kernel) (by decide +kernel) dX3_init_1 (Nat.le_of_ble_eq_true rfl) (Nat.le_of_ble_eq_true rfl) ?_
  refine g_aload_n (pc := 4) S 0 dX3_init_4 rfl rfl ?_
  refine g_iconst (pc := 5) S (v := (nI 3)) dX3_init_5 (by decide) ?_
  refine g_anew (pc := 6) S hz (C := "SpoolFarm$Tray") (n := 3) q (by decide +kernel) (hz.over (by decide +kernel)) (by decide) (by decide) (Nat.le_of_ble_eq_true rfl) (Nat.le_of_ble_eq_true rfl) dX3_init_6 (fun b M2 f2 m2 => ?_)
  refine g_putF (pc := 9) S hz (ref := "SpoolFarm$Printer") (r := r) (v := .ref b) (ty := .array (.object "SpoolFarm$Tray")) ((f2 _ hrq).trans hm) i_RX3 tyX3 tyX3_ok nmX3 rfl 4 (Nat.le_of_ble_eq_true rfl) (by decide +kernel) (fun _ h => h) rfl (hin rfl) rfl (by decide +kernel) rfl rfl _ (Nat.le_of_ble_eq_true rfl) rfl dX3_init_9 (fun M_1 f_2 m_3 => ?_)
  refine g_aload_n (pc := 12) S 0 dX3_init_12 rfl rfl ?_
  refine g_iconst (pc := 13) S (v := (nI 0)) dX3_init_13 (by decide) ?_
  refine g_put (pc := 14) S hz (ref := "SpoolFarm$Printer") (r := r) (v := .int (nI 0)) (ty := .int) m_3 i_RX3 tyX3 tyX3_ok nmX3 rfl 5 (Nat.le_of_ble_eq_true rfl) (by decide +kernel) (fun _ h => h) rfl (by decide +kernel) rfl rfl _ (Nat.le_of_ble_eq_true rfl) rfl dX3_init_14 (fun M_4 f_5 m_6 => ?_)
  refine g_aload_n (pc := 17) S 0 dX3_init_17 rfl rfl ?_
  refine g_iload_n (pc := 18) S 1 dX3_init_18 rfl rfl ?_
  refine g_putF (pc := 19) S hz (ref := "SpoolFarm$Printer") (r := r) (v := .int (nI x)) (ty := .boolean) m_6 i_RX3 tyX3 tyX3_ok nmX3 rfl 0 (Nat.le_of_ble_eq_true rfl) (by decide +kernel) (fun _ h => h) rfl (hin rfl) rfl (by decide +kernel) (nar_z (by first | decide | omega)) (fit_z (by first | decide | omega)) _ (Nat.le_of_ble_eq_true rfl) rfl dX3_init_19 (fun M_7 f_8 m_9 => ?_)
  refine g_aload_n (pc := 22) S 0 dX3_init_22 rfl rfl ?_
  refine g_iload_n (pc := 23) S 2 dX3_init_23 rfl rfl ?_
  refine g_put (pc := 24) S hz (ref := "SpoolFarm$Printer") (r := r) (v := .int (nI y)) (ty := .int) m_9 i_RX3 tyX3 tyX3_ok nmX3 rfl 1 (Nat.le_of_ble_eq_true rfl) (by decide +kernel) (fun _ h => h) rfl (by decide +kernel) rfl rfl _ (Nat.le_of_ble_eq_true rfl) rfl dX3_init_24 (fun M_10 f_11 m_12 => ?_)
  refine g_aload_n (pc := 27) S 0 dX3_init_27 rfl rfl ?_
  refine g_iload_n (pc := 28) S 1 dX3_init_28 rfl rfl ?_
  refine g_if_eqN (pc := 29) S 36 dX3_init_29 (by decide) (by omega) (fun c_13 => ?_) (fun c_13 => ?_)
  · refine g_iconst (pc := 36) S (v := (nI 0)) dX3_init_36 (by decide) ?_
    refine g_put (pc := 37) S hz (ref := "SpoolFarm$Printer") (r := r) (v := .int (nI 0)) (ty := .int) m_12 i_RX3 tyX3 tyX3_ok nmX3 rfl 2 (Nat.le_of_ble_eq_true rfl) (by decide +kernel) (fun _ h => h) rfl (by decide +kernel) rfl rfl _ (Nat.le_of_ble_eq_true rfl) rfl dX3_init_37 (fun M_14 f_15 m_16 => ?_)
    refine g_aload_n (pc := 40) S 0 dX3_init_40 rfl rfl ?_
    refine g_iload_n (pc := 41) S 3 dX3_init_41 rfl rfl ?_
    refine g_put (pc := 42) S hz (ref := "SpoolFarm$Printer") (r := r) (v := .int (nI z)) (ty := .int) m_16 i_RX3 tyX3 tyX3_ok nmX3 rfl 3 (Nat.le_of_ble_eq_true rfl) (by decide +kernel) (fun _ h => h) rfl (by decide +kernel) rfl rfl _ (Nat.le_of_ble_eq_true rfl) rfl dX3_init_42 (fun M_17 f_18 m_19 => ?_)
    exact g_vret (pc := 45) S hz hlo hr ⟨rfl, b, fun r2 z1 z2 => by rw [f_18 r2 z1, f_15 r2 z1, f_11 r2 z1, f_8 r2 z1, f_5 r2 z1, f_2 r2 z1, f2 r2 z2], by rw [if_pos (by omega)]; exact m_19, ((f_18 _ (Ne.symm hrq)).trans ((f_15 _ (Ne.symm hrq)).trans ((f_11 _ (Ne.symm hrq)).trans ((f_8 _ (Ne.symm hrq)).trans ((f_5 _ (Ne.symm hrq)).trans ((f_2 _ (Ne.symm hrq)).trans m2))))))⟩ (Nat.le_of_ble_eq_true rfl) (Nat.le_of_ble_eq_true rfl) dX3_init_45
  · refine g_iload_n (pc := 32) S 2 dX3_init_32 rfl rfl ?_
    refine g_goto (pc := 33) S 37 dX3_init_33 (by decide) ?_
    refine g_put (pc := 37) S hz (ref := "SpoolFarm$Printer") (r := r) (v := .int (nI y)) (ty := .int) m_12 i_RX3 tyX3 tyX3_ok nmX3 rfl 2 (Nat.le_of_ble_eq_true rfl) (by decide +kernel) (fun _ h => h) rfl (by decide +kernel) rfl rfl _ (Nat.le_of_ble_eq_true rfl) rfl dX3_init_37 (fun M_20 f_21 m_22 => ?_)
    refine g_aload_n (pc := 40) S 0 dX3_init_40 rfl rfl ?_
    refine g_iload_n (pc := 41) S 3 dX3_init_41 rfl rfl ?_
    refine g_put (pc := 42) S hz (ref := "SpoolFarm$Printer") (r := r) (v := .int (nI z)) (ty := .int) m_22 i_RX3 tyX3 tyX3_ok nmX3 rfl 3 (Nat.le_of_ble_eq_true rfl) (by decide +kernel) (fun _ h => h) rfl (by decide +kernel) rfl rfl _ (Nat.le_of_ble_eq_true rfl) rfl dX3_init_42 (fun M_23 f_24 m_25 => ?_)
    exact g_vret (pc := 45) S hz hlo hr ⟨rfl, b, fun r2 z1 z2 => by rw [f_24 r2 z1, f_21 r2 z1, f_11 r2 z1, f_8 r2 z1, f_5 r2 z1, f_2 r2 z1, f2 r2 z2], by rw [if_neg (by omega)]; exact m_25, ((f_24 _ (Ne.symm hrq)).trans ((f_21 _ (Ne.symm hrq)).trans ((f_11 _ (Ne.symm hrq)).trans ((f_8 _ (Ne.symm hrq)).trans ((f_5 _ (Ne.symm hrq)).trans ((f_2 _ (Ne.symm hrq)).trans m2))))))⟩ (Nat.le_of_ble_eq_true rfl) (Nat.le_of_ble_eq_true rfl) dX3_init_45
