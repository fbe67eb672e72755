/-- the state of a farm and a model just made -/
def C00 : CF := fun kk ii ff => if kk = 60 ∧ ii = 100 then (if ff = 32 then 2 else if ff = 33 then 9 else if ff = 34 then 1 else 0) else if kk = 61 ∧ ii ≤ 24 then 64 else if kk = 0 ∧ ii = 0 then (if ff = 6 then 2 else if ff = 7 then 9 else if ff = 8 then 1 else 0) else if kk = 6 ∧ ff = 9 then 45 else if kk = 8 ∧ ii = 100 then 16 else 0
theorem rep60 {A : AF} {C : CF} {M : Wd} (h100 : M (60, 100) = some (A 60 100, .inr (12, modFs A (C 60 100)))) (hr : ∀ i : Nat, i < 26 → M (60, i) = some (A 60 i, rowEv C i)) (h26 : M (60, 26) = some (A 60 26, .inr (0, strFs (A 60 27)))) (h27 : M (60, 27) = some (A 60 27, aN .byte (C 61 27 0) (C 60 27))) : ∀ (i : Nat) (x : Nat × Ev), cc A C 60 i = some x → M (60, i) = some x := by
  intro i x hx
  unfold cc at hx
  rw [if_pos rfl] at hx
  by_cases h1 : i = 100
  · subst h1
    rw [if_pos rfl] at hx
    rw [h100, hx]
  · rw [if_neg h1] at hx
    by_cases h2 : i < 26
    · rw [if_pos h2] at hx
      rw [hr i h2, hx]
    · rw [if_neg h2] at hx
      by_cases h3 : i = 26
      · subst h3
        rw [if_pos rfl] at hx
        rw [h26, hx]
      · rw [if_neg h3] at hx
        by_cases h4 : i = 27
        · subst h4
          rw [if_pos rfl] at hx
          rw [h27, hx]
        · rw [if_neg h4] at hx
          cases hx
theorem nek {r : Role} {k i : Nat} (h : 9 ≤ r.1) (hk : k < 9) : r ≠ (k, i) := fun z => by
  rw [z] at h
  exact absurd h (show ¬ 9 ≤ k by omega)
set_option maxHeartbeats 4000000 in
set_option maxRecDepth 100000 in
theorem k_X6_init (Z : Zp) (l : Launch) (M : Wd) (a : Nat) (hm : M (0, 0) = some (a, .inr (11, [.null, .null, .null, .int (nI 0), .int (nI 0), .int (nI 0), .int (nI 0), .int (nI 0), .int (nI 0), .null, .null, .null]))) : Ct Z l yX6_init wsX6_init ({ frames := 4, cells := 7, slots := 83, locals := 80 }) [.ref a] M 7 83 (fun v M2 => none = v ∧ ∃ a1 a2 a3 a4 a5 a6 a8 : Nat, (∀ r2 : Role, 9 ≤ r2.1 → M2 r2 = M r2) ∧ M2 (0, 0) = some (a, .inr (11, [.ref a1, .ref a2, .ref a3, .int (nI 0), .int (nI 0), .int (nI 0), .int (nI 2), .int (nI 9), .int (nI 1), .ref a4, .ref a5, .ref a6])) ∧ M2 (1, 0) = some (a1, aR "SpoolFarm$User" 6 (fun _ => none)) ∧ M2 (2, 0) = some (a2, aR "SpoolFarm$Printer" 4 (fun _ => none)) ∧ M2 (3, 0) = some (a3, aR "SpoolFarm$Job" 40 (fun _ => none)) ∧ M2 (4, 0) = some (a4, .inr (4, [.int (nI 0), .ref (zD Z), .int (nI 0)])) ∧ M2 (5, 0) = some (a5, .inr (1, [.ref a8, .int (nI 0), .int (nI 0), .int (nI 0)])) ∧ M2 (6, 0) = some (a6, .inr (7, [.int (nI 0), .int (nI 0), .int (nI 0), .int (nI 0), .int (nI 0), .int (nI 0), .int (nI 0), .int (nI 0), .int (nI 0), .int (nI 45)])) ∧ M2 (8, 0) = some (a8, aN .byte 16 (fun _ => 0))) (fun _ _ => False) := by
  refine Ct.of (cc := cX6_init) (maxL := 1) (ret := none) (by decide) rfl (Nat.le_of_ble_eq_true rfl) ?_
  intro p_ e_ s_ m_ args_ below_ meth_ c_ S hz hml hex hlo hr hin
  refine g_loc (L2 := [(0, .ref a)]) rfl ?_
  have i_RJ4 : ∀ w ∈ u_ws RJ4 TJ4 4, w ∈ wsX6_init := by decide +kernel
  have i_RJx4a65c : ∀ w ∈ u_ws RJx4a65c TJx4a65c 3, w ∈ wsX6_init := by decide +kernel
  have i_RX2 : ∀ w ∈ u_ws RX2 TX2 10, w ∈ wsX6_init := by decide +kernel
  have i_RX6 : ∀ w ∈ u_ws RX6 TX6 12, w ∈ wsX6_init := by decide +kernel
  refine g_aload_n (pc := 0) S 0 dX6_init_0 rfl rfl ?_
  refine g_objInit (pc := 1) S hml (by decide +kernel) (by decide +kernel) (by decide +kernel) dX6_init_1 (Nat.le_of_ble_eq_true rfl) (Nat.le_of_ble_eq_true rfl) ?_
  refine g_aload_n (pc := 4) S 0 dX6_init_4 rfl rfl ?_
  refine g_bipush (pc := 5) S (v := (nI 6)) dX6_init_5 (by decide) ?_
  refine g_anew (pc := 7) S hz (C := "SpoolFarm$User") (n := 6) (1, 0) (by decide +kernel) (hz.over (by decide +kernel)) (by decide) (by decide) (Nat.le_of_ble_eq_true rfl) (Nat.le_of_ble_eq_true rfl) dX6_init_7 (fun a_1 M_1 f_2 m_3 => ?_)
  refine g_putF (pc := 10) S hz (ref := "SpoolFarm") (r := (0, 0)) (v := .ref a_1) (ty := .array (.object "SpoolFarm$User")) ((f_2 _ (by decide)).trans hm) i_RX6 tyX6 tyX6_ok nmX6 rfl 0 (Nat.le_of_ble_eq_true rfl) (by decide +kernel) (fun _ h => h) rfl (hin rfl) rfl (by decide +kernel) rfl rfl _ (Nat.le_of_ble_eq_true rfl) rfl dX6_init_10 (fun M_4 f_5 m_6 => ?_)
  refine g_aload_n (pc := 13) S 0 dX6_init_13 rfl rfl ?_
  refine g_iconst (pc := 14) S (v := (nI 4)) dX6_init_14 (by decide) ?_
  refine g_anew (pc := 15) S hz (C := "SpoolFarm$Printer") (n := 4) (2, 0) (by decide +kernel) (hz.over (by decide +kernel)) (by decide) (by decide) (Nat.le_of_ble_eq_true rfl) (Nat.le_of_ble_eq_true rfl) dX6_init_15 (fun a_2 M_7 f_8 m_9 => ?_)
  refine g_putF (pc := 18) S hz (ref := "SpoolFarm") (r := (0, 0)) (v := .ref a_2) (ty := .array (.object "SpoolFarm$Printer")) ((f_8 _ (by decide)).trans m_6) i_RX6 tyX6 tyX6_ok nmX6 rfl 1 (Nat.le_of_ble_eq_true rfl) (by decide +kernel) (fun _ h => h) rfl (hin rfl) rfl (by decide +kernel) rfl rfl _ (Nat.le_of_ble_eq_true rfl) rfl dX6_init_18 (fun M_10 f_11 m_12 => ?_)
  refine g_aload_n (pc := 21) S 0 dX6_init_21 rfl rfl ?_
  refine g_bipush (pc := 22) S (v := (nI 40)) dX6_init_22 (by decide) ?_
  refine g_anew (pc := 24) S hz (C := "SpoolFarm$Job") (n := 40) (3, 0) (by decide +kernel) (hz.over (by decide +kernel)) (by decide) (by decide) (Nat.le_of_ble_eq_true rfl) (Nat.le_of_ble_eq_true rfl) dX6_init_24 (fun a_3 M_13 f_14 m_15 => ?_)
  refine g_putF (pc := 27) S hz (ref := "SpoolFarm") (r := (0, 0)) (v := .ref a_3) (ty := .array (.object "SpoolFarm$Job")) ((f_14 _ (by decide)).trans m_12) i_RX6 tyX6 tyX6_ok nmX6 rfl 2 (Nat.le_of_ble_eq_true rfl) (by decide +kernel) (fun _ h => h) rfl (hin rfl) rfl (by decide +kernel) rfl rfl _ (Nat.le_of_ble_eq_true rfl) rfl dX6_init_27 (fun M_16 f_17 m_18 => ?_)
  refine g_aload_n (pc := 30) S 0 dX6_init_30 rfl rfl ?_
  refine g_iconst (pc := 31) S (v := (nI 0)) dX6_init_31 (by decide) ?_
  refine g_put (pc := 32) S hz (ref := "SpoolFarm") (r := (0, 0)) (v := .int (nI 0)) (ty := .int) m_18 i_RX6 tyX6 tyX6_ok nmX6 rfl 3 (Nat.le_of_ble_eq_true rfl) (by decide +kernel) (fun _ h => h) rfl (by decide +kernel) rfl rfl _ (Nat.le_of_ble_eq_true rfl) rfl dX6_init_32 (fun M_19 f_20 m_21 => ?_)
  refine g_aload_n (pc := 35) S 0 dX6_init_35 rfl rfl ?_
  refine g_iconst (pc := 36) S (v := (nI 0)) dX6_init_36 (by decide) ?_
  refine g_put (pc := 37) S hz (ref := "SpoolFarm") (r := (0, 0)) (v := .int (nI 0)) (ty := .int) m_21 i_RX6 tyX6 tyX6_ok nmX6 rfl 4 (Nat.le_of_ble_eq_true rfl) (by decide +kernel) (fun _ h => h) rfl (by decide +kernel) rfl rfl _ (Nat.le_of_ble_eq_true rfl) rfl dX6_init_37 (fun M_22 f_23 m_24 => ?_)
  refine g_aload_n (pc := 40) S 0 dX6_init_40 rfl rfl ?_
  refine g_iconst (pc := 41) S (v := (nI 0)) dX6_init_41 (by decide) ?_
  refine g_put (pc := 42) S hz (ref := "SpoolFarm") (r := (0, 0)) (v := .int (nI 0)) (ty := .int) m_24 i_RX6 tyX6 tyX6_ok nmX6 rfl 5 (Nat.le_of_ble_eq_true rfl) (by decide +kernel) (fun _ h => h) rfl (by decide +kernel) rfl rfl _ (Nat.le_of_ble_eq_true rfl) rfl dX6_init_42 (fun M_25 f_26 m_27 => ?_)
  refine g_aload_n (pc := 45) S 0 dX6_init_45 rfl rfl ?_
  refine g_iconst (pc := 46) S (v := (nI 2)) dX6_init_46 (by decide) ?_
  refine g_put (pc := 47) S hz (ref := "SpoolFarm") (r := (0, 0)) (v := .int (nI 2)) (ty := .int) m_27 i_RX6 tyX6 tyX6_ok nmX6 rfl 6 (Nat.le_of_ble_eq_true rfl) (by decide +kernel) (fun _ h => h) rfl (by decide +kernel) rfl rfl _ (Nat.le_of_ble_eq_true rfl) rfl dX6_init_47 (fun M_28 f_29 m_30 => ?_)
  refine g_aload_n (pc := 50) S 0 dX6_init_50 rfl rfl ?_
  refine g_bipush (pc := 51) S (v := (nI 9)) dX6_init_51 (by decide) ?_
  refine g_put (pc := 53) S hz (ref := "SpoolFarm") (r := (0, 0)) (v := .int (nI 9)) (ty := .int) m_30 i_RX6 tyX6 tyX6_ok nmX6 rfl 7 (Nat.le_of_ble_eq_true rfl) (by decide +kernel) (fun _ h => h) rfl (by decide +kernel) rfl rfl _ (Nat.le_of_ble_eq_true rfl) rfl dX6_init_53 (fun M_31 f_32 m_33 => ?_)
  refine g_aload_n (pc := 56) S 0 dX6_init_56 rfl rfl ?_
  refine g_iconst (pc := 57) S (v := (nI 1)) dX6_init_57 (by decide) ?_
  refine g_put (pc := 58) S hz (ref := "SpoolFarm") (r := (0, 0)) (v := .int (nI 1)) (ty := .int) m_33 i_RX6 tyX6 tyX6_ok nmX6 rfl 8 (Nat.le_of_ble_eq_true rfl) (by decide +kernel) (fun _ h => h) rfl (by decide +kernel) rfl rfl _ (Nat.le_of_ble_eq_true rfl) rfl dX6_init_58 (fun M_34 f_35 m_36 => ?_)
  refine g_aload_n (pc := 61) S 0 dX6_init_61 rfl rfl ?_
  refine g_new (pc := 62) S hz (ci := 4) (fs := [.int (nI 0), .null, .int (nI 0)]) (4, 0) i_RJx4a65c tyJx4a65c tyJx4a65c_ok (by decide +kernel) (by decide +kernel) (by decide +kernel) rfl (fun j hj => by revert j; decide) (Nat.le_of_ble_eq_true rfl) (Nat.le_of_ble_eq_true rfl) dX6_init_62 (fun a_4 M_37 f_38 m_39 => ?_)
  refine g_dup (pc := 65) S dX6_init_65 rfl ?_
  refine g_callI (pc := 66) S hz hml [] (k_listInit Z l M_37 (4, 0) a_4 m_39) (cwI 0 S.2.2.2.2 gX6_init_Jx4a65c_init_da8c8 rfl rfl rfl (S.2.2.2.2 _ (by decide +kernel)) (S.2.2.2.2 _ (by decide +kernel)) (S.2.2.2.2 _ (by decide +kernel)) rfl (by decide +kernel) ⟨Nat.le_of_ble_eq_true rfl, Nat.le_of_ble_eq_true rfl⟩) rfl rfl (Nat.le_of_ble_eq_true rfl) dX6_init_66 ⟨Nat.le_of_ble_eq_true rfl, Nat.le_of_ble_eq_true rfl⟩ (fun v_42 M_41 h_40 => ?_)
  obtain ⟨rfl, f_l, m_l⟩ := h_40
  refine g_putF (pc := 69) S hz (ref := "SpoolFarm") (r := (0, 0)) (v := .ref a_4) (ty := .object "java/util/ArrayList") ((f_l _ (by decide)).trans ((f_38 _ (by decide)).trans m_36)) i_RX6 tyX6 tyX6_ok nmX6 rfl 9 (Nat.le_of_ble_eq_true rfl) (by decide +kernel) (fun _ h => h) rfl (hin rfl) rfl (by decide +kernel) rfl rfl _ (Nat.le_of_ble_eq_true rfl) rfl dX6_init_69 (fun M_43 f_44 m_45 => ?_)
  refine g_aload_n (pc := 72) S 0 dX6_init_72 rfl rfl ?_
  refine g_new (pc := 73) S hz (ci := 1) (fs := [.null, .int (nI 0), .int (nI 0), .int (nI 0)]) (5, 0) i_RJ4 tyJ4 tyJ4_ok (by decide +kernel) (by decide +kernel) (by decide +kernel) rfl (fun j hj => by revert j; decide) (Nat.le_of_ble_eq_true rfl) (Nat.le_of_ble_eq_true rfl) dX6_init_73 (fun a_5 M_46 f_47 m_48 => ?_)
  refine g_dup (pc := 76) S dX6_init_76 rfl ?_
  refine g_callI (pc := 77) S hz hml [] (k_sbInit Z l M_46 (5, 0) (8, 0) a_5 m_48 (by decide)) (cwI 0 S.2.2.2.2 gX6_init_J4_init_da8c8 rfl rfl rfl (S.2.2.2.2 _ (by decide +kernel)) (S.2.2.2.2 _ (by decide +kernel)) (S.2.2.2.2 _ (by decide +kernel)) rfl (by decide +kernel) ⟨Nat.le_of_ble_eq_true rfl, Nat.le_of_ble_eq_true rfl⟩) rfl rfl (Nat.le_of_ble_eq_true rfl) dX6_init_77 ⟨Nat.le_of_ble_eq_true rfl, Nat.le_of_ble_eq_true rfl⟩ (fun v_51 M_50 h_49 => ?_)
  obtain ⟨rfl, a_8, f_s, m_s, m_b⟩ := h_49
  refine g_putF (pc := 80) S hz (ref := "SpoolFarm") (r := (0, 0)) (v := .ref a_5) (ty := .object "java/lang/StringBuilder") ((f_s _ (by decide) (by decide)).trans ((f_47 _ (by decide)).trans m_45)) i_RX6 tyX6 tyX6_ok nmX6 rfl 10 (Nat.le_of_ble_eq_true rfl) (by decide +kernel) (fun _ h => h) rfl (hin rfl) rfl (by decide +kernel) rfl rfl _ (Nat.le_of_ble_eq_true rfl) rfl dX6_init_80 (fun M_52 f_53 m_54 => ?_)
  refine g_aload_n (pc := 83) S 0 dX6_init_83 rfl rfl ?_
  refine g_new (pc := 84) S hz (ci := 7) (fs := [.int (nI 0), .int (nI 0), .int (nI 0), .int (nI 0), .int (nI 0), .int (nI 0), .int (nI 0), .int (nI 0), .int (nI 0), .int (nI 0)]) (6, 0) i_RX2 tyX2 tyX2_ok (by decide +kernel) (by decide +kernel) (by decide +kernel) rfl (fun j hj => by revert j; decide) (Nat.le_of_ble_eq_true rfl) (Nat.le_of_ble_eq_true rfl) dX6_init_84 (fun a_6 M_55 f_56 m_57 => ?_)
  refine g_dup (pc := 87) S dX6_init_87 rfl ?_
  refine g_callIN (pc := 88) S hz hml (y := yX2_init) (host := "SpoolFarm") [] (k_X2_init Z l M_55 (6, 0) a_6 m_57) ⟨va_cnB 0 S.2.2.2.2 gX6_init_X2_init_n62 rfl rfl rfl (hz.nest (by decide +kernel)) (hz.word (by decide +kernel) (by decide +kernel)) (by decide +kernel) ⟨Nat.le_of_ble_eq_true rfl, Nat.le_of_ble_eq_true rfl⟩, rfl, hz.word (by decide +kernel) (by decide +kernel)⟩ rfl rfl (Nat.le_of_ble_eq_true rfl) dX6_init_88 ⟨Nat.le_of_ble_eq_true rfl, Nat.le_of_ble_eq_true rfl⟩ (fun v_60 M_59 h_58 => ?_)
  obtain ⟨rfl, f_p, m_p⟩ := h_58
  refine g_putF (pc := 91) S hz (ref := "SpoolFarm") (r := (0, 0)) (v := .ref a_6) (ty := .object "SpoolFarm$Plan") ((f_p _ (by decide)).trans ((f_56 _ (by decide)).trans m_54)) i_RX6 tyX6 tyX6_ok nmX6 rfl 11 (Nat.le_of_ble_eq_true rfl) (by decide +kernel) (fun _ h => h) rfl (hin rfl) rfl (by decide +kernel) rfl rfl _ (Nat.le_of_ble_eq_true rfl) rfl dX6_init_91 (fun M_61 f_62 m_63 => ?_)
  exact g_vret (pc := 94) S hz hlo hr ⟨rfl, a_1, a_2, a_3, a_4, a_5, a_6, a_8, fun r2 h => by rw [f_62 r2 (nek h (by decide)), f_p r2 (nek h (by decide)), f_56 r2 (nek h (by decide)), f_53 r2 (nek h (by decide)), f_s r2 (nek h (by decide)) (nek h (by decide)), f_47 r2 (nek h (by decide)), f_44 r2 (nek h (by decide)), f_l r2 (nek h (by decide)), f_38 r2 (nek h (by decide)), f_35 r2 (nek h (by decide)), f_32 r2 (nek h (by decide)), f_29 r2 (nek h (by decide)), f_26 r2 (nek h (by decide)), f_23 r2 (nek h (by decide)), f_20 r2 (nek h (by decide)), f_17 r2 (nek h (by decide)), f_14 r2 (nek h (by decide)), f_11 r2 (nek h (by decide)), f_8 r2 (nek h (by decide)), f_5 r2 (nek h (by decide)), f_2 r2 (nek h (by decide))], by (rw [m_63]) <;> rfl, ((f_62 _ (by decide)).trans ((f_p _ (by decide)).trans ((f_56 _ (by decide)).trans ((f_53 _ (by decide)).trans ((f_s _ (by decide) (by decide)).trans ((f_47 _ (by decide)).trans ((f_44 _ (by decide)).trans ((f_l _ (by decide)).trans ((f_38 _ (by decide)).trans ((f_35 _ (by decide)).trans ((f_32 _ (by decide)).trans ((f_29 _ (by decide)).trans ((f_26 _ (by decide)).trans ((f_23 _ (by decide)).trans ((f_20 _ (by decide)).trans ((f_17 _ (by decide)).trans ((f_14 _ (by decide)).trans ((f_11 _ (by decide)).trans ((f_8 _ (by decide)).trans ((f_5 _ (by decide)).trans m_3)))))))))))))))))))), ((f_62 _ (by decide)).trans ((f_p _ (by decide)).trans ((f_56 _ (by decide)).trans ((f_53 _ (by decide)).trans ((f_s _ (by decide) (by decide)).trans ((f_47 _ (by decide)).trans ((f_44 _ (by decide)).trans ((f_l _ (by decide)).trans ((f_38 _ (by decide)).trans ((f_35 _ (by decide)).trans ((f_32 _ (by decide)).trans ((f_29 _ (by decide)).trans ((f_26 _ (by decide)).trans ((f_23 _ (by decide)).trans ((f_20 _ (by decide)).trans ((f_17 _ (by decide)).trans ((f_14 _ (by decide)).trans ((f_11 _ (by decide)).trans m_9)))))))))))))))))), ((f_62 _ (by decide)).trans ((f_p _ (by decide)).trans ((f_56 _ (by decide)).trans ((f_53 _ (by decide)).trans ((f_s _ (by decide) (by decide)).trans ((f_47 _ (by decide)).trans ((f_44 _ (by decide)).trans ((f_l _ (by decide)).trans ((f_38 _ (by decide)).trans ((f_35 _ (by decide)).trans ((f_32 _ (by decide)).trans ((f_29 _ (by decide)).trans ((f_26 _ (by decide)).trans ((f_23 _ (by decide)).trans ((f_20 _ (by decide)).trans ((f_17 _ (by decide)).trans m_15)))))))))))))))), ((f_62 _ (by decide)).trans ((f_p _ (by decide)).trans ((f_56 _ (by decide)).trans ((f_53 _ (by decide)).trans ((f_s _ (by decide) (by decide)).trans ((f_47 _ (by decide)).trans ((f_44 _ (by decide)).trans m_l))))))), ((f_62 _ (by decide)).trans ((f_p _ (by decide)).trans ((f_56 _ (by decide)).trans ((f_53 _ (by decide)).trans m_s)))), ((f_62 _ (by decide)).trans m_p), ((f_62 _ (by decide)).trans ((f_p _ (by decide)).trans ((f_56 _ (by decide)).trans ((f_53 _ (by decide)).trans m_b))))⟩ (Nat.le_of_ble_eq_true rfl) (Nat.le_of_ble_eq_true rfl) dX6_init_94
