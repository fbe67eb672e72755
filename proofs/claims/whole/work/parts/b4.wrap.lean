section KWRAP
theorem nn_colourShare {A A2 : AF} {C C2 : CF} {r : UInt32} (hI : Iv C) (h : K6_colourShare A C (some (.float r)) A2 C2) : vf_n64 (FP.f2d r) := by
  unfold K6_colourShare at h
  obtain ⟨h1, h2, h3, h4⟩ := h
  cases Option.some.inj h4
  obtain ⟨oU, oP, oJ, oTc, oY, o8, o9, o10, o11, o12, o13, o14, o15, oX, oQ, oB, oK, oS, oJk, oM, oCo, oSh, oLg, oPo, oLl, oL2, oL3, oL4, oLle, oE1, oE2, oE3, oE4⟩ := id hI.2.1.1
  have h5 := ouN_le (C := C) (b := 0) oE3 (C 60 100 31)
  exact fp_n64 ((Jvm.FP.f2d_nan _).trans (fp_fdivN (by omega) (by omega)))
set_option maxHeartbeats 4000000 in
set_option maxRecDepth 100000 in
theorem k_L_addUser (Z : Zp) (l : Launch) (A : AF) (C : CF) (hI : Iv C) (x y : Int32) (hfl : l.stackTraces = false) : CtS Z l yL_addUser wsL_addUser ({ frames := 8, cells := 3, slots := 18, locals := 135 }) [.ref (A 0 0), .int x, .int y, .ref (A 70 0)] A C 3 18 (fun v A2 C2 => ∃ k : Nat, some (.int (nI k)) = v ∧ W_addUser A C x y k A2 C2) (fun _ _ _ => False) := by
  refine CtS.ofH (cc0 := cL_addUser) (maxL := 5) (ret := some .int) (hh := [(0, 10, 13, 13), (0, 10, 17, 15)]) (by decide) rfl (Nat.le_of_ble_eq_true rfl) ?_
  intro M0_ p_ e_ s_ m_ args_ below_ meth_ c_ S hz hml htb hlo hr
  refine s_loc (L2 := [(0, .ref (A 0 0)), (1, .int x), (2, .int y), (3, .ref (A 70 0))]) rfl ?_
  refine s_aload_n (pc := 0) S 3 dL_addUser_0 rfl rfl ?_
  refine s_iconst (pc := 1) S (v := nI 0) dL_addUser_1 (by decide) ?_
  refine s_aload_n (pc := 2) S 0 dL_addUser_2 rfl rfl ?_
  refine s_iload_n (pc := 3) S 1 dL_addUser_3 rfl rfl ?_
  refine s_iload_n (pc := 4) S 2 dL_addUser_4 rfl rfl ?_
  refine s_callV (pc := 5) S hz hml [.int x, .int y] (k_X6_addUser Z l A C x y (hI.1.okk hI.2.1 hI.2.2) hfl) (cwV 2 S.2.2.2.2 gL_addUser_X6_addUser rfl rfl rfl (by decide +kernel) ⟨(Nat.le_of_ble_eq_true rfl), (Nat.le_of_ble_eq_true rfl)⟩) (cc_farm (A := A) (C := C)) rfl rfl rfl (Nat.le_of_ble_eq_true rfl) dL_addUser_5 ⟨(Nat.le_of_ble_eq_true rfl), (Nat.le_of_ble_eq_true rfl)⟩ (fun E_ A2 C2 h => ?_) (fun v A2 C2 h => ?_)
  · have h6 : E6_addUser A C x y E_ A2 C2 := h
    obtain ⟨hE, -, -⟩ := e6_addUser h6
    rcases hE with rfl | rfl
    · refine s_catch (E := "java/lang/IllegalArgumentException") S hz htb [] (⟨0, 10, 13, 13⟩ : ExceptionTableEntry) [(⟨0, 10, 17, 15⟩ : ExceptionTableEntry)] rfl (fun z h => absurd h List.not_mem_nil) (by decide) (by decide) link_IAE cast_IAE 13 rfl (fun q_ => ?_)
      refine s_astore (pc := 13) S [(4, .ref q_), (0, .ref (A 0 0)), (1, .int x), (2, .int y), (3, .ref (A 70 0))] dL_addUser_13 (by decide) rfl ?_
      refine s_iconst (pc := 15) S (v := nI 1) dL_addUser_15 (by decide) ?_
      exact s_iret (pc := 16) S hz hlo hr ⟨1, rfl, Or.inr (Or.inl ⟨rfl, h6⟩)⟩ (Nat.le_of_ble_eq_true rfl) (Nat.le_of_ble_eq_true rfl) dL_addUser_16
    · refine s_catch (E := "java/lang/IllegalStateException") S hz htb [(⟨0, 10, 13, 13⟩ : ExceptionTableEntry)] (⟨0, 10, 17, 15⟩ : ExceptionTableEntry) [] rfl (List.forall_mem_cons.mpr ⟨⟨by decide, "java/lang/IllegalArgumentException", link_IAE, by decide +kernel⟩, fun _ h => absurd h List.not_mem_nil⟩) (by decide) (by decide) link_ISE cast_ISE 17 rfl (fun q_ => ?_)
      refine s_astore (pc := 17) S [(4, .ref q_), (0, .ref (A 0 0)), (1, .int x), (2, .int y), (3, .ref (A 70 0))] dL_addUser_17 (by decide) rfl ?_
      refine s_iconst (pc := 19) S (v := nI 2) dL_addUser_19 (by decide) ?_
      exact s_iret (pc := 20) S hz hlo hr ⟨2, rfl, Or.inr (Or.inr (⟨rfl, h6⟩))⟩ (Nat.le_of_ble_eq_true rfl) (Nat.le_of_ble_eq_true rfl) dL_addUser_20
  · have h6 : K6_addUser A C x y v A2 C2 := h
    obtain ⟨⟨r, rfl⟩, hA, -⟩ := v6_addUser h6
    obtain ⟨o, ho⟩ := lN_ex r.toInt64
    refine s_i2l (pc := 8) S (v := lN o) dL_addUser_8 ho.symm ?_
    refine s_lout (pc := 9) S hz (o := o) hA.1.2.2.1 dL_addUser_9 ?_
    refine s_goto (pc := 10) S 21 dL_addUser_10 (by decide) ?_
    refine s_iconst (pc := 21) S (v := nI 0) dL_addUser_21 (by decide) ?_
    exact s_iret (pc := 22) S hz hlo hr ⟨0, rfl, Or.inl ⟨rfl, r, o, C2, ho, rfl, h6⟩⟩ (Nat.le_of_ble_eq_true rfl) (Nat.le_of_ble_eq_true rfl) dL_addUser_22
set_option maxHeartbeats 4000000 in
set_option maxRecDepth 100000 in
theorem k_L_addPrinter (Z : Zp) (l : Launch) (A : AF) (C : CF) (hI : Iv C) (cb : Nat) (x y : Int32) (hcb : cb < 2) (hfl : l.stackTraces = false) : CtS Z l yL_addPrinter wsL_addPrinter ({ frames := 8, cells := 4, slots := 21, locals := 136 }) [.ref (A 0 0), .int (nI cb), .int x, .int y, .ref (A 70 0)] A C 4 21 (fun v A2 C2 => ∃ k : Nat, some (.int (nI k)) = v ∧ W_addPrinter A C cb x y k A2 C2) (fun _ _ _ => False) := by
  refine CtS.ofH (cc0 := cL_addPrinter) (maxL := 6) (ret := some .int) (hh := [(0, 12, 15, 13), (0, 12, 19, 15)]) (by decide) rfl (Nat.le_of_ble_eq_true rfl) ?_
  intro M0_ p_ e_ s_ m_ args_ below_ meth_ c_ S hz hml htb hlo hr
  refine s_loc (L2 := [(0, .ref (A 0 0)), (1, .int (nI cb)), (2, .int x), (3, .int y), (4, .ref (A 70 0))]) rfl ?_
  refine s_aload (pc := 0) S 4 dL_addPrinter_0 rfl ?_
  refine s_iconst (pc := 2) S (v := nI 0) dL_addPrinter_2 (by decide) ?_
  refine s_aload_n (pc := 3) S 0 dL_addPrinter_3 rfl rfl ?_
  refine s_iload_n (pc := 4) S 1 dL_addPrinter_4 rfl rfl ?_
  refine s_iload_n (pc := 5) S 2 dL_addPrinter_5 rfl rfl ?_
  refine s_iload_n (pc := 6) S 3 dL_addPrinter_6 rfl rfl ?_
  refine s_callV (pc := 7) S hz hml [.int (nI cb), .int x, .int y] (k_X6_addPrinter Z l A C cb x y hcb (hI.1.okk hI.2.1 hI.2.2) hfl) (cwV 3 S.2.2.2.2 gL_addPrinter_X6_addPrinter rfl rfl rfl (by decide +kernel) ⟨(Nat.le_of_ble_eq_true rfl), (Nat.le_of_ble_eq_true rfl)⟩) (cc_farm (A := A) (C := C)) rfl rfl rfl (Nat.le_of_ble_eq_true rfl) dL_addPrinter_7 ⟨(Nat.le_of_ble_eq_true rfl), (Nat.le_of_ble_eq_true rfl)⟩ (fun E_ A2 C2 h => ?_) (fun v A2 C2 h => ?_)
  · have h6 : E6_addPrinter A C cb x y E_ A2 C2 := h
    obtain ⟨hE, -, -⟩ := e6_addPrinter h6
    rcases hE with rfl | rfl
    · refine s_catch (E := "java/lang/IllegalArgumentException") S hz htb [] (⟨0, 12, 15, 13⟩ : ExceptionTableEntry) [(⟨0, 12, 19, 15⟩ : ExceptionTableEntry)] rfl (fun z h => absurd h List.not_mem_nil) (by decide) (by decide) link_IAE cast_IAE 15 rfl (fun q_ => ?_)
      refine s_astore (pc := 15) S [(5, .ref q_), (0, .ref (A 0 0)), (1, .int (nI cb)), (2, .int x), (3, .int y), (4, .ref (A 70 0))] dL_addPrinter_15 (by decide) rfl ?_
      refine s_iconst (pc := 17) S (v := nI 1) dL_addPrinter_17 (by decide) ?_
      exact s_iret (pc := 18) S hz hlo hr ⟨1, rfl, Or.inr (Or.inl ⟨rfl, h6⟩)⟩ (Nat.le_of_ble_eq_true rfl) (Nat.le_of_ble_eq_true rfl) dL_addPrinter_18
    · refine s_catch (E := "java/lang/IllegalStateException") S hz htb [(⟨0, 12, 15, 13⟩ : ExceptionTableEntry)] (⟨0, 12, 19, 15⟩ : ExceptionTableEntry) [] rfl (List.forall_mem_cons.mpr ⟨⟨by decide, "java/lang/IllegalArgumentException", link_IAE, by decide +kernel⟩, fun _ h => absurd h List.not_mem_nil⟩) (by decide) (by decide) link_ISE cast_ISE 19 rfl (fun q_ => ?_)
      refine s_astore (pc := 19) S [(5, .ref q_), (0, .ref (A 0 0)), (1, .int (nI cb)), (2, .int x), (3, .int y), (4, .ref (A 70 0))] dL_addPrinter_19 (by decide) rfl ?_
      refine s_iconst (pc := 21) S (v := nI 2) dL_addPrinter_21 (by decide) ?_
      exact s_iret (pc := 22) S hz hlo hr ⟨2, rfl, Or.inr (Or.inr (⟨rfl, h6⟩))⟩ (Nat.le_of_ble_eq_true rfl) (Nat.le_of_ble_eq_true rfl) dL_addPrinter_22
  · have h6 : K6_addPrinter A C cb x y v A2 C2 := h
    obtain ⟨⟨r, rfl⟩, hA, -⟩ := v6_addPrinter h6
    obtain ⟨o, ho⟩ := lN_ex r.toInt64
    refine s_i2l (pc := 10) S (v := lN o) dL_addPrinter_10 ho.symm ?_
    refine s_lout (pc := 11) S hz (o := o) hA.1.2.2.1 dL_addPrinter_11 ?_
    refine s_goto (pc := 12) S 23 dL_addPrinter_12 (by decide) ?_
    refine s_iconst (pc := 23) S (v := nI 0) dL_addPrinter_23 (by decide) ?_
    exact s_iret (pc := 24) S hz hlo hr ⟨0, rfl, Or.inl ⟨rfl, r, o, C2, ho, rfl, h6⟩⟩ (Nat.le_of_ble_eq_true rfl) (Nat.le_of_ble_eq_true rfl) dL_addPrinter_24
set_option maxHeartbeats 4000000 in
set_option maxRecDepth 100000 in
theorem k_L_addTray (Z : Zp) (l : Launch) (A : AF) (C : CF) (hI : Iv C) (x : Int32) (q : Nat) (y : Int32) (hq : q < 65536) (hfl : l.stackTraces = false) : CtS Z l yL_addTray wsL_addTray ({ frames := 8, cells := 4, slots := 24, locals := 137 }) [.ref (A 0 0), .int x, .int (nI q), .int y, .ref (A 70 0)] A C 4 24 (fun v A2 C2 => ∃ k : Nat, some (.int (nI k)) = v ∧ W_addTray A C x q y k A2 C2) (fun _ _ _ => False) := by
  refine CtS.ofH (cc0 := cL_addTray) (maxL := 6) (ret := some .int) (hh := [(0, 12, 15, 25), (0, 12, 19, 13), (0, 12, 23, 15)]) (by decide) rfl (Nat.le_of_ble_eq_true rfl) ?_
  intro M0_ p_ e_ s_ m_ args_ below_ meth_ c_ S hz hml htb hlo hr
  refine s_loc (L2 := [(0, .ref (A 0 0)), (1, .int x), (2, .int (nI q)), (3, .int y), (4, .ref (A 70 0))]) rfl ?_
  refine s_aload (pc := 0) S 4 dL_addTray_0 rfl ?_
  refine s_iconst (pc := 2) S (v := nI 0) dL_addTray_2 (by decide) ?_
  refine s_aload_n (pc := 3) S 0 dL_addTray_3 rfl rfl ?_
  refine s_iload_n (pc := 4) S 1 dL_addTray_4 rfl rfl ?_
  refine s_iload_n (pc := 5) S 2 dL_addTray_5 rfl rfl ?_
  refine s_iload_n (pc := 6) S 3 dL_addTray_6 rfl rfl ?_
  refine s_callV (pc := 7) S hz hml [.int x, .int (nI q), .int y] (k_X6_addTray Z l A C x q y hq (hI.1.okk hI.2.1 hI.2.2) hfl) (cwV 3 S.2.2.2.2 gL_addTray_X6_addTray rfl rfl rfl (by decide +kernel) ⟨(Nat.le_of_ble_eq_true rfl), (Nat.le_of_ble_eq_true rfl)⟩) (cc_farm (A := A) (C := C)) rfl rfl rfl (Nat.le_of_ble_eq_true rfl) dL_addTray_7 ⟨(Nat.le_of_ble_eq_true rfl), (Nat.le_of_ble_eq_true rfl)⟩ (fun E_ A2 C2 h => ?_) (fun v A2 C2 h => ?_)
  · have h6 : E6_addTray A C x q y E_ A2 C2 := h
    obtain ⟨hE, -, -⟩ := e6_addTray h6
    rcases hE with rfl | rfl | rfl
    · refine s_catch (E := "java/lang/IndexOutOfBoundsException") S hz htb [] (⟨0, 12, 15, 25⟩ : ExceptionTableEntry) [(⟨0, 12, 19, 13⟩ : ExceptionTableEntry), (⟨0, 12, 23, 15⟩ : ExceptionTableEntry)] rfl (fun z h => absurd h List.not_mem_nil) (by decide) (by decide) link_IOB cast_IOB 15 rfl (fun q_ => ?_)
      refine s_astore (pc := 15) S [(5, .ref q_), (0, .ref (A 0 0)), (1, .int x), (2, .int (nI q)), (3, .int y), (4, .ref (A 70 0))] dL_addTray_15 (by decide) rfl ?_
      refine s_iconst (pc := 17) S (v := nI 1) dL_addTray_17 (by decide) ?_
      exact s_iret (pc := 18) S hz hlo hr ⟨1, rfl, Or.inr (Or.inl ⟨rfl, h6⟩)⟩ (Nat.le_of_ble_eq_true rfl) (Nat.le_of_ble_eq_true rfl) dL_addTray_18
    · refine s_catch (E := "java/lang/IllegalArgumentException") S hz htb [(⟨0, 12, 15, 25⟩ : ExceptionTableEntry)] (⟨0, 12, 19, 13⟩ : ExceptionTableEntry) [(⟨0, 12, 23, 15⟩ : ExceptionTableEntry)] rfl (List.forall_mem_cons.mpr ⟨⟨by decide, "java/lang/IndexOutOfBoundsException", link_IOB, by decide +kernel⟩, fun _ h => absurd h List.not_mem_nil⟩) (by decide) (by decide) link_IAE cast_IAE 19 rfl (fun q_ => ?_)
      refine s_astore (pc := 19) S [(5, .ref q_), (0, .ref (A 0 0)), (1, .int x), (2, .int (nI q)), (3, .int y), (4, .ref (A 70 0))] dL_addTray_19 (by decide) rfl ?_
      refine s_iconst (pc := 21) S (v := nI 2) dL_addTray_21 (by decide) ?_
      exact s_iret (pc := 22) S hz hlo hr ⟨2, rfl, Or.inr (Or.inr (Or.inl ⟨rfl, h6⟩))⟩ (Nat.le_of_ble_eq_true rfl) (Nat.le_of_ble_eq_true rfl) dL_addTray_22
    · refine s_catch (E := "java/lang/IllegalStateException") S hz htb [(⟨0, 12, 15, 25⟩ : ExceptionTableEntry), (⟨0, 12, 19, 13⟩ : ExceptionTableEntry)] (⟨0, 12, 23, 15⟩ : ExceptionTableEntry) [] rfl (List.forall_mem_cons.mpr ⟨⟨by decide, "java/lang/IndexOutOfBoundsException", link_IOB, by decide +kernel⟩, List.forall_mem_cons.mpr ⟨⟨by decide, "java/lang/IllegalArgumentException", link_IAE, by decide +kernel⟩, fun _ h => absurd h List.not_mem_nil⟩⟩) (by decide) (by decide) link_ISE cast_ISE 23 rfl (fun q_ => ?_)
      refine s_astore (pc := 23) S [(5, .ref q_), (0, .ref (A 0 0)), (1, .int x), (2, .int (nI q)), (3, .int y), (4, .ref (A 70 0))] dL_addTray_23 (by decide) rfl ?_
      refine s_iconst (pc := 25) S (v := nI 3) dL_addTray_25 (by decide) ?_
      exact s_iret (pc := 26) S hz hlo hr ⟨3, rfl, Or.inr (Or.inr (Or.inr (⟨rfl, h6⟩)))⟩ (Nat.le_of_ble_eq_true rfl) (Nat.le_of_ble_eq_true rfl) dL_addTray_26
  · have h6 : K6_addTray A C x q y v A2 C2 := h
    obtain ⟨⟨r, rfl⟩, hA, -⟩ := v6_addTray h6
    obtain ⟨o, ho⟩ := lN_ex r.toInt64
    refine s_i2l (pc := 10) S (v := lN o) dL_addTray_10 ho.symm ?_
    refine s_lout (pc := 11) S hz (o := o) hA.1.2.2.1 dL_addTray_11 ?_
    refine s_goto (pc := 12) S 27 dL_addTray_12 (by decide) ?_
    refine s_iconst (pc := 27) S (v := nI 0) dL_addTray_27 (by decide) ?_
    exact s_iret (pc := 28) S hz hlo hr ⟨0, rfl, Or.inl ⟨rfl, r, o, C2, ho, rfl, h6⟩⟩ (Nat.le_of_ble_eq_true rfl) (Nat.le_of_ble_eq_true rfl) dL_addTray_28
set_option maxHeartbeats 4000000 in
set_option maxRecDepth 100000 in
theorem k_L_trayCount (Z : Zp) (l : Launch) (A : AF) (C : CF) (hI : Iv C) (x : Int32) (hfl : l.stackTraces = false) : CtS Z l yL_trayCount wsL_trayCount ({ frames := 8, cells := 1, slots := 6, locals := 133 }) [.ref (A 0 0), .int x, .ref (A 70 0)] A C 1 6 (fun v A2 C2 => ∃ k : Nat, some (.int (nI k)) = v ∧ W_trayCount A C x k A2 C2) (fun _ _ _ => False) := by
  refine CtS.ofH (cc0 := cL_trayCount) (maxL := 4) (ret := some .int) (hh := [(0, 9, 12, 25)]) (by decide) rfl (Nat.le_of_ble_eq_true rfl) ?_
  intro M0_ p_ e_ s_ m_ args_ below_ meth_ c_ S hz hml htb hlo hr
  refine s_loc (L2 := [(0, .ref (A 0 0)), (1, .int x), (2, .ref (A 70 0))]) rfl ?_
  refine s_aload_n (pc := 0) S 2 dL_trayCount_0 rfl rfl ?_
  refine s_iconst (pc := 1) S (v := nI 0) dL_trayCount_1 (by decide) ?_
  refine s_aload_n (pc := 2) S 0 dL_trayCount_2 rfl rfl ?_
  refine s_iload_n (pc := 3) S 1 dL_trayCount_3 rfl rfl ?_
  refine s_callV (pc := 4) S hz hml [.int x] (k_X6_trayCount Z l A C x (hI.1.okk hI.2.1 hI.2.2) hfl) (cwV 1 S.2.2.2.2 gL_trayCount_X6_trayCount rfl rfl rfl (by decide +kernel) ⟨(Nat.le_of_ble_eq_true rfl), (Nat.le_of_ble_eq_true rfl)⟩) (cc_farm (A := A) (C := C)) rfl rfl rfl (Nat.le_of_ble_eq_true rfl) dL_trayCount_4 ⟨(Nat.le_of_ble_eq_true rfl), (Nat.le_of_ble_eq_true rfl)⟩ (fun E_ A2 C2 h => ?_) (fun v A2 C2 h => ?_)
  · have h6 : E6_trayCount A C x E_ A2 C2 := h
    obtain ⟨hE, -, -⟩ := e6_trayCount h6
    rcases hE with rfl
    refine s_catch (E := "java/lang/IndexOutOfBoundsException") S hz htb [] (⟨0, 9, 12, 25⟩ : ExceptionTableEntry) [] rfl (fun z h => absurd h List.not_mem_nil) (by decide) (by decide) link_IOB cast_IOB 12 rfl (fun q_ => ?_)
    refine s_astore_n (pc := 12) S [(3, .ref q_), (0, .ref (A 0 0)), (1, .int x), (2, .ref (A 70 0))] dL_trayCount_12 rfl (by decide) rfl ?_
    refine s_iconst (pc := 13) S (v := nI 1) dL_trayCount_13 (by decide) ?_
    exact s_iret (pc := 14) S hz hlo hr ⟨1, rfl, Or.inr (⟨rfl, h6⟩)⟩ (Nat.le_of_ble_eq_true rfl) (Nat.le_of_ble_eq_true rfl) dL_trayCount_14
  · have h6 : K6_trayCount A C x v A2 C2 := h
    obtain ⟨⟨r, rfl⟩, hA, -⟩ := v6_trayCount h6
    obtain ⟨o, ho⟩ := lN_ex r.toInt64
    refine s_i2l (pc := 7) S (v := lN o) dL_trayCount_7 ho.symm ?_
    refine s_lout (pc := 8) S hz (o := o) hA.1.2.2.1 dL_trayCount_8 ?_
    refine s_goto (pc := 9) S 15 dL_trayCount_9 (by decide) ?_
    refine s_iconst (pc := 15) S (v := nI 0) dL_trayCount_15 (by decide) ?_
    exact s_iret (pc := 16) S hz hlo hr ⟨0, rfl, Or.inl ⟨rfl, r, o, C2, ho, rfl, h6⟩⟩ (Nat.le_of_ble_eq_true rfl) (Nat.le_of_ble_eq_true rfl) dL_trayCount_16
set_option maxHeartbeats 4000000 in
set_option maxRecDepth 100000 in
theorem k_L_load (Z : Zp) (l : Launch) (A : AF) (C : CF) (hI : Iv C) (x y w : Int32) (hfl : l.stackTraces = false) : CtS Z l yL_load wsL_load ({ frames := 9, cells := 4, slots := 24, locals := 160 }) [.ref (A 0 0), .int x, .int y, .int w, .ref (A 70 0)] A C 4 24 (fun v A2 C2 => ∃ k : Nat, some (.int (nI k)) = v ∧ W_load A C x y w k A2 C2) (fun _ _ _ => False) := by
  refine CtS.ofH (cc0 := cL_load) (maxL := 6) (ret := some .int) (hh := [(0, 12, 15, 25), (0, 12, 19, 13), (0, 12, 23, 15)]) (by decide) rfl (Nat.le_of_ble_eq_true rfl) ?_
  intro M0_ p_ e_ s_ m_ args_ below_ meth_ c_ S hz hml htb hlo hr
  refine s_loc (L2 := [(0, .ref (A 0 0)), (1, .int x), (2, .int y), (3, .int w), (4, .ref (A 70 0))]) rfl ?_
  refine s_aload (pc := 0) S 4 dL_load_0 rfl ?_
  refine s_iconst (pc := 2) S (v := nI 0) dL_load_2 (by decide) ?_
  refine s_aload_n (pc := 3) S 0 dL_load_3 rfl rfl ?_
  refine s_iload_n (pc := 4) S 1 dL_load_4 rfl rfl ?_
  refine s_iload_n (pc := 5) S 2 dL_load_5 rfl rfl ?_
  refine s_iload_n (pc := 6) S 3 dL_load_6 rfl rfl ?_
  refine s_callV (pc := 7) S hz hml [.int x, .int y, .int w] (k_X6_load Z l A C x y w (hI.1.okk hI.2.1 hI.2.2) hfl) (cwV 3 S.2.2.2.2 gL_load_X6_load rfl rfl rfl (by decide +kernel) ⟨(Nat.le_of_ble_eq_true rfl), (Nat.le_of_ble_eq_true rfl)⟩) (cc_farm (A := A) (C := C)) rfl rfl rfl (Nat.le_of_ble_eq_true rfl) dL_load_7 ⟨(Nat.le_of_ble_eq_true rfl), (Nat.le_of_ble_eq_true rfl)⟩ (fun E_ A2 C2 h => ?_) (fun v A2 C2 h => ?_)
  · have h6 : E6_load A C x y w E_ A2 C2 := h
    obtain ⟨hE, -, -⟩ := e6_load h6
    rcases hE with rfl | rfl | rfl
    · refine s_catch (E := "java/lang/IndexOutOfBoundsException") S hz htb [] (⟨0, 12, 15, 25⟩ : ExceptionTableEntry) [(⟨0, 12, 19, 13⟩ : ExceptionTableEntry), (⟨0, 12, 23, 15⟩ : ExceptionTableEntry)] rfl (fun z h => absurd h List.not_mem_nil) (by decide) (by decide) link_IOB cast_IOB 15 rfl (fun q_ => ?_)
      refine s_astore (pc := 15) S [(5, .ref q_), (0, .ref (A 0 0)), (1, .int x), (2, .int y), (3, .int w), (4, .ref (A 70 0))] dL_load_15 (by decide) rfl ?_
      refine s_iconst (pc := 17) S (v := nI 1) dL_load_17 (by decide) ?_
      exact s_iret (pc := 18) S hz hlo hr ⟨1, rfl, Or.inr (Or.inl ⟨rfl, h6⟩)⟩ (Nat.le_of_ble_eq_true rfl) (Nat.le_of_ble_eq_true rfl) dL_load_18
    · refine s_catch (E := "java/lang/IllegalArgumentException") S hz htb [(⟨0, 12, 15, 25⟩ : ExceptionTableEntry)] (⟨0, 12, 19, 13⟩ : ExceptionTableEntry) [(⟨0, 12, 23, 15⟩ : ExceptionTableEntry)] rfl (List.forall_mem_cons.mpr ⟨⟨by decide, "java/lang/IndexOutOfBoundsException", link_IOB, by decide +kernel⟩, fun _ h => absurd h List.not_mem_nil⟩) (by decide) (by decide) link_IAE cast_IAE 19 rfl (fun q_ => ?_)
      refine s_astore (pc := 19) S [(5, .ref q_), (0, .ref (A 0 0)), (1, .int x), (2, .int y), (3, .int w), (4, .ref (A 70 0))] dL_load_19 (by decide) rfl ?_
      refine s_iconst (pc := 21) S (v := nI 2) dL_load_21 (by decide) ?_
      exact s_iret (pc := 22) S hz hlo hr ⟨2, rfl, Or.inr (Or.inr (Or.inl ⟨rfl, h6⟩))⟩ (Nat.le_of_ble_eq_true rfl) (Nat.le_of_ble_eq_true rfl) dL_load_22
    · refine s_catch (E := "java/lang/IllegalStateException") S hz htb [(⟨0, 12, 15, 25⟩ : ExceptionTableEntry), (⟨0, 12, 19, 13⟩ : ExceptionTableEntry)] (⟨0, 12, 23, 15⟩ : ExceptionTableEntry) [] rfl (List.forall_mem_cons.mpr ⟨⟨by decide, "java/lang/IndexOutOfBoundsException", link_IOB, by decide +kernel⟩, List.forall_mem_cons.mpr ⟨⟨by decide, "java/lang/IllegalArgumentException", link_IAE, by decide +kernel⟩, fun _ h => absurd h List.not_mem_nil⟩⟩) (by decide) (by decide) link_ISE cast_ISE 23 rfl (fun q_ => ?_)
      refine s_astore (pc := 23) S [(5, .ref q_), (0, .ref (A 0 0)), (1, .int x), (2, .int y), (3, .int w), (4, .ref (A 70 0))] dL_load_23 (by decide) rfl ?_
      refine s_iconst (pc := 25) S (v := nI 3) dL_load_25 (by decide) ?_
      exact s_iret (pc := 26) S hz hlo hr ⟨3, rfl, Or.inr (Or.inr (Or.inr (⟨rfl, h6⟩)))⟩ (Nat.le_of_ble_eq_true rfl) (Nat.le_of_ble_eq_true rfl) dL_load_26
  · have h6 : K6_load A C x y w v A2 C2 := h
    obtain ⟨⟨r, rfl⟩, hA, -⟩ := v6_load h6
    obtain ⟨o, ho⟩ := lN_ex r.toInt64
    refine s_i2l (pc := 10) S (v := lN o) dL_load_10 ho.symm ?_
    refine s_lout (pc := 11) S hz (o := o) hA.1.2.2.1 dL_load_11 ?_
    refine s_goto (pc := 12) S 27 dL_load_12 (by decide) ?_
    refine s_iconst (pc := 27) S (v := nI 0) dL_load_27 (by decide) ?_
    exact s_iret (pc := 28) S hz hlo hr ⟨0, rfl, Or.inl ⟨rfl, r, o, C2, ho, rfl, h6⟩⟩ (Nat.le_of_ble_eq_true rfl) (Nat.le_of_ble_eq_true rfl) dL_load_28
set_option maxHeartbeats 4000000 in
set_option maxRecDepth 100000 in
theorem k_L_changePaper (Z : Zp) (l : Launch) (A : AF) (C : CF) (hI : Iv C) (x y : Int32) (q : Nat) (hq : q < 65536) (hfl : l.stackTraces = false) : CtS Z l yL_changePaper wsL_changePaper ({ frames := 9, cells := 4, slots := 24, locals := 161 }) [.ref (A 0 0), .int x, .int y, .int (nI q), .ref (A 70 0)] A C 4 24 (fun v A2 C2 => ∃ k : Nat, some (.int (nI k)) = v ∧ W_changePaper A C x y q k A2 C2) (fun _ _ _ => False) := by
  refine CtS.ofH (cc0 := cL_changePaper) (maxL := 6) (ret := some .int) (hh := [(0, 12, 15, 25), (0, 12, 19, 13), (0, 12, 23, 15)]) (by decide) rfl (Nat.le_of_ble_eq_true rfl) ?_
  intro M0_ p_ e_ s_ m_ args_ below_ meth_ c_ S hz hml htb hlo hr
  refine s_loc (L2 := [(0, .ref (A 0 0)), (1, .int x), (2, .int y), (3, .int (nI q)), (4, .ref (A 70 0))]) rfl ?_
  refine s_aload (pc := 0) S 4 dL_changePaper_0 rfl ?_
  refine s_iconst (pc := 2) S (v := nI 0) dL_changePaper_2 (by decide) ?_
  refine s_aload_n (pc := 3) S 0 dL_changePaper_3 rfl rfl ?_
  refine s_iload_n (pc := 4) S 1 dL_changePaper_4 rfl rfl ?_
  refine s_iload_n (pc := 5) S 2 dL_changePaper_5 rfl rfl ?_
  refine s_iload_n (pc := 6) S 3 dL_changePaper_6 rfl rfl ?_
  refine s_callV (pc := 7) S hz hml [.int x, .int y, .int (nI q)] (k_X6_changePaper Z l A C x y q hq (hI.1.okk hI.2.1 hI.2.2) hfl) (cwV 3 S.2.2.2.2 gL_changePaper_X6_changePaper rfl rfl rfl (by decide +kernel) ⟨(Nat.le_of_ble_eq_true rfl), (Nat.le_of_ble_eq_true rfl)⟩) (cc_farm (A := A) (C := C)) rfl rfl rfl (Nat.le_of_ble_eq_true rfl) dL_changePaper_7 ⟨(Nat.le_of_ble_eq_true rfl), (Nat.le_of_ble_eq_true rfl)⟩ (fun E_ A2 C2 h => ?_) (fun v A2 C2 h => ?_)
  · have h6 : E6_changePaper A C x y q E_ A2 C2 := h
    obtain ⟨hE, -, -⟩ := e6_changePaper h6
    rcases hE with rfl | rfl | rfl
    · refine s_catch (E := "java/lang/IndexOutOfBoundsException") S hz htb [] (⟨0, 12, 15, 25⟩ : ExceptionTableEntry) [(⟨0, 12, 19, 13⟩ : ExceptionTableEntry), (⟨0, 12, 23, 15⟩ : ExceptionTableEntry)] rfl (fun z h => absurd h List.not_mem_nil) (by decide) (by decide) link_IOB cast_IOB 15 rfl (fun q_ => ?_)
      refine s_astore (pc := 15) S [(5, .ref q_), (0, .ref (A 0 0)), (1, .int x), (2, .int y), (3, .int (nI q)), (4, .ref (A 70 0))] dL_changePaper_15 (by decide) rfl ?_
      refine s_iconst (pc := 17) S (v := nI 1) dL_changePaper_17 (by decide) ?_
      exact s_iret (pc := 18) S hz hlo hr ⟨1, rfl, Or.inr (Or.inl ⟨rfl, h6⟩)⟩ (Nat.le_of_ble_eq_true rfl) (Nat.le_of_ble_eq_true rfl) dL_changePaper_18
    · refine s_catch (E := "java/lang/IllegalArgumentException") S hz htb [(⟨0, 12, 15, 25⟩ : ExceptionTableEntry)] (⟨0, 12, 19, 13⟩ : ExceptionTableEntry) [(⟨0, 12, 23, 15⟩ : ExceptionTableEntry)] rfl (List.forall_mem_cons.mpr ⟨⟨by decide, "java/lang/IndexOutOfBoundsException", link_IOB, by decide +kernel⟩, fun _ h => absurd h List.not_mem_nil⟩) (by decide) (by decide) link_IAE cast_IAE 19 rfl (fun q_ => ?_)
      refine s_astore (pc := 19) S [(5, .ref q_), (0, .ref (A 0 0)), (1, .int x), (2, .int y), (3, .int (nI q)), (4, .ref (A 70 0))] dL_changePaper_19 (by decide) rfl ?_
      refine s_iconst (pc := 21) S (v := nI 2) dL_changePaper_21 (by decide) ?_
      exact s_iret (pc := 22) S hz hlo hr ⟨2, rfl, Or.inr (Or.inr (Or.inl ⟨rfl, h6⟩))⟩ (Nat.le_of_ble_eq_true rfl) (Nat.le_of_ble_eq_true rfl) dL_changePaper_22
    · refine s_catch (E := "java/lang/IllegalStateException") S hz htb [(⟨0, 12, 15, 25⟩ : ExceptionTableEntry), (⟨0, 12, 19, 13⟩ : ExceptionTableEntry)] (⟨0, 12, 23, 15⟩ : ExceptionTableEntry) [] rfl (List.forall_mem_cons.mpr ⟨⟨by decide, "java/lang/IndexOutOfBoundsException", link_IOB, by decide +kernel⟩, List.forall_mem_cons.mpr ⟨⟨by decide, "java/lang/IllegalArgumentException", link_IAE, by decide +kernel⟩, fun _ h => absurd h List.not_mem_nil⟩⟩) (by decide) (by decide) link_ISE cast_ISE 23 rfl (fun q_ => ?_)
      refine s_astore (pc := 23) S [(5, .ref q_), (0, .ref (A 0 0)), (1, .int x), (2, .int y), (3, .int (nI q)), (4, .ref (A 70 0))] dL_changePaper_23 (by decide) rfl ?_
      refine s_iconst (pc := 25) S (v := nI 3) dL_changePaper_25 (by decide) ?_
      exact s_iret (pc := 26) S hz hlo hr ⟨3, rfl, Or.inr (Or.inr (Or.inr (⟨rfl, h6⟩)))⟩ (Nat.le_of_ble_eq_true rfl) (Nat.le_of_ble_eq_true rfl) dL_changePaper_26
  · have h6 : K6_changePaper A C x y q v A2 C2 := h
    obtain ⟨⟨r, rfl⟩, hA, -⟩ := v6_changePaper h6
    obtain ⟨o, ho⟩ := lN_ex r.toInt64
    refine s_i2l (pc := 10) S (v := lN o) dL_changePaper_10 ho.symm ?_
    refine s_lout (pc := 11) S hz (o := o) hA.1.2.2.1 dL_changePaper_11 ?_
    refine s_goto (pc := 12) S 27 dL_changePaper_12 (by decide) ?_
    refine s_iconst (pc := 27) S (v := nI 0) dL_changePaper_27 (by decide) ?_
    exact s_iret (pc := 28) S hz hlo hr ⟨0, rfl, Or.inl ⟨rfl, r, o, C2, ho, rfl, h6⟩⟩ (Nat.le_of_ble_eq_true rfl) (Nat.le_of_ble_eq_true rfl) dL_changePaper_28
set_option maxHeartbeats 4000000 in
set_option maxRecDepth 100000 in
theorem k_L_sheetsIn (Z : Zp) (l : Launch) (A : AF) (C : CF) (hI : Iv C) (x y : Int32) (hfl : l.stackTraces = false) : CtS Z l yL_sheetsIn wsL_sheetsIn ({ frames := 9, cells := 2, slots := 12, locals := 158 }) [.ref (A 0 0), .int x, .int y, .ref (A 70 0)] A C 2 12 (fun v A2 C2 => ∃ k : Nat, some (.int (nI k)) = v ∧ W_sheetsIn A C x y k A2 C2) (fun _ _ _ => False) := by
  refine CtS.ofH (cc0 := cL_sheetsIn) (maxL := 5) (ret := some .int) (hh := [(0, 10, 13, 25)]) (by decide) rfl (Nat.le_of_ble_eq_true rfl) ?_
  intro M0_ p_ e_ s_ m_ args_ below_ meth_ c_ S hz hml htb hlo hr
  refine s_loc (L2 := [(0, .ref (A 0 0)), (1, .int x), (2, .int y), (3, .ref (A 70 0))]) rfl ?_
  refine s_aload_n (pc := 0) S 3 dL_sheetsIn_0 rfl rfl ?_
  refine s_iconst (pc := 1) S (v := nI 0) dL_sheetsIn_1 (by decide) ?_
  refine s_aload_n (pc := 2) S 0 dL_sheetsIn_2 rfl rfl ?_
  refine s_iload_n (pc := 3) S 1 dL_sheetsIn_3 rfl rfl ?_
  refine s_iload_n (pc := 4) S 2 dL_sheetsIn_4 rfl rfl ?_
  refine s_callV (pc := 5) S hz hml [.int x, .int y] (k_X6_sheetsIn Z l A C x y (hI.1.okk hI.2.1 hI.2.2) hfl) (cwV 2 S.2.2.2.2 gL_sheetsIn_X6_sheetsIn rfl rfl rfl (by decide +kernel) ⟨(Nat.le_of_ble_eq_true rfl), (Nat.le_of_ble_eq_true rfl)⟩) (cc_farm (A := A) (C := C)) rfl rfl rfl (Nat.le_of_ble_eq_true rfl) dL_sheetsIn_5 ⟨(Nat.le_of_ble_eq_true rfl), (Nat.le_of_ble_eq_true rfl)⟩ (fun E_ A2 C2 h => ?_) (fun v A2 C2 h => ?_)
  · have h6 : E6_sheetsIn A C x y E_ A2 C2 := h
    obtain ⟨hE, -, -⟩ := e6_sheetsIn h6
    rcases hE with rfl
    refine s_catch (E := "java/lang/IndexOutOfBoundsException") S hz htb [] (⟨0, 10, 13, 25⟩ : ExceptionTableEntry) [] rfl (fun z h => absurd h List.not_mem_nil) (by decide) (by decide) link_IOB cast_IOB 13 rfl (fun q_ => ?_)
    refine s_astore (pc := 13) S [(4, .ref q_), (0, .ref (A 0 0)), (1, .int x), (2, .int y), (3, .ref (A 70 0))] dL_sheetsIn_13 (by decide) rfl ?_
    refine s_iconst (pc := 15) S (v := nI 1) dL_sheetsIn_15 (by decide) ?_
    exact s_iret (pc := 16) S hz hlo hr ⟨1, rfl, Or.inr (⟨rfl, h6⟩)⟩ (Nat.le_of_ble_eq_true rfl) (Nat.le_of_ble_eq_true rfl) dL_sheetsIn_16
  · have h6 : K6_sheetsIn A C x y v A2 C2 := h
    obtain ⟨⟨r, rfl⟩, hA, -⟩ := v6_sheetsIn h6
    obtain ⟨o, ho⟩ := lN_ex r.toInt64
    refine s_i2l (pc := 8) S (v := lN o) dL_sheetsIn_8 ho.symm ?_
    refine s_lout (pc := 9) S hz (o := o) hA.1.2.2.1 dL_sheetsIn_9 ?_
    refine s_goto (pc := 10) S 17 dL_sheetsIn_10 (by decide) ?_
    refine s_iconst (pc := 17) S (v := nI 0) dL_sheetsIn_17 (by decide) ?_
    exact s_iret (pc := 18) S hz hlo hr ⟨0, rfl, Or.inl ⟨rfl, r, o, C2, ho, rfl, h6⟩⟩ (Nat.le_of_ble_eq_true rfl) (Nat.le_of_ble_eq_true rfl) dL_sheetsIn_18
set_option maxHeartbeats 4000000 in
set_option maxRecDepth 100000 in
theorem k_L_paperOf (Z : Zp) (l : Launch) (A : AF) (C : CF) (hI : Iv C) (x y : Int32) (hfl : l.stackTraces = false) : CtS Z l yL_paperOf wsL_paperOf ({ frames := 9, cells := 2, slots := 12, locals := 158 }) [.ref (A 0 0), .int x, .int y, .ref (A 70 0)] A C 2 12 (fun v A2 C2 => ∃ k : Nat, some (.int (nI k)) = v ∧ W_paperOf A C x y k A2 C2) (fun _ _ _ => False) := by
  refine CtS.ofH (cc0 := cL_paperOf) (maxL := 5) (ret := some .int) (hh := [(0, 10, 13, 25)]) (by decide) rfl (Nat.le_of_ble_eq_true rfl) ?_
  intro M0_ p_ e_ s_ m_ args_ below_ meth_ c_ S hz hml htb hlo hr
  refine s_loc (L2 := [(0, .ref (A 0 0)), (1, .int x), (2, .int y), (3, .ref (A 70 0))]) rfl ?_
  refine s_aload_n (pc := 0) S 3 dL_paperOf_0 rfl rfl ?_
  refine s_iconst (pc := 1) S (v := nI 0) dL_paperOf_1 (by decide) ?_
  refine s_aload_n (pc := 2) S 0 dL_paperOf_2 rfl rfl ?_
  refine s_iload_n (pc := 3) S 1 dL_paperOf_3 rfl rfl ?_
  refine s_iload_n (pc := 4) S 2 dL_paperOf_4 rfl rfl ?_
  refine s_callV (pc := 5) S hz hml [.int x, .int y] (k_X6_paperOf Z l A C x y (hI.1.okk hI.2.1 hI.2.2) hfl) (cwV 2 S.2.2.2.2 gL_paperOf_X6_paperOf rfl rfl rfl (by decide +kernel) ⟨(Nat.le_of_ble_eq_true rfl), (Nat.le_of_ble_eq_true rfl)⟩) (cc_farm (A := A) (C := C)) rfl rfl rfl (Nat.le_of_ble_eq_true rfl) dL_paperOf_5 ⟨(Nat.le_of_ble_eq_true rfl), (Nat.le_of_ble_eq_true rfl)⟩ (fun E_ A2 C2 h => ?_) (fun v A2 C2 h => ?_)
  · have h6 : E6_paperOf A C x y E_ A2 C2 := h
    obtain ⟨hE, -, -⟩ := e6_paperOf h6
    rcases hE with rfl
    refine s_catch (E := "java/lang/IndexOutOfBoundsException") S hz htb [] (⟨0, 10, 13, 25⟩ : ExceptionTableEntry) [] rfl (fun z h => absurd h List.not_mem_nil) (by decide) (by decide) link_IOB cast_IOB 13 rfl (fun q_ => ?_)
    refine s_astore (pc := 13) S [(4, .ref q_), (0, .ref (A 0 0)), (1, .int x), (2, .int y), (3, .ref (A 70 0))] dL_paperOf_13 (by decide) rfl ?_
    refine s_iconst (pc := 15) S (v := nI 1) dL_paperOf_15 (by decide) ?_
    exact s_iret (pc := 16) S hz hlo hr ⟨1, rfl, Or.inr (⟨rfl, h6⟩)⟩ (Nat.le_of_ble_eq_true rfl) (Nat.le_of_ble_eq_true rfl) dL_paperOf_16
  · have h6 : K6_paperOf A C x y v A2 C2 := h
    obtain ⟨⟨r, rfl⟩, hA, -⟩ := v6_paperOf h6
    obtain ⟨o, ho⟩ := lN_ex r.toInt64
    refine s_i2l (pc := 8) S (v := lN o) dL_paperOf_8 ho.symm ?_
    refine s_lout (pc := 9) S hz (o := o) hA.1.2.2.1 dL_paperOf_9 ?_
    refine s_goto (pc := 10) S 17 dL_paperOf_10 (by decide) ?_
    refine s_iconst (pc := 17) S (v := nI 0) dL_paperOf_17 (by decide) ?_
    exact s_iret (pc := 18) S hz hlo hr ⟨0, rfl, Or.inl ⟨rfl, r, o, C2, ho, rfl, h6⟩⟩ (Nat.le_of_ble_eq_true rfl) (Nat.le_of_ble_eq_true rfl) dL_paperOf_18
set_option maxHeartbeats 4000000 in
set_option maxRecDepth 100000 in
theorem k_L_setToner (Z : Zp) (l : Launch) (A : AF) (C : CF) (hI : Iv C) (x : Int32) (cb : Nat) (y : Int32) (hcb : cb < 2) (hfl : l.stackTraces = false) : CtS Z l yL_setToner wsL_setToner ({ frames := 8, cells := 3, slots := 18, locals := 137 }) [.ref (A 0 0), .int x, .int (nI cb), .int y, .ref (A 70 0)] A C 3 18 (fun v A2 C2 => ∃ k : Nat, some (.int (nI k)) = v ∧ W_setToner A C x cb y k A2 C2) (fun _ _ _ => False) := by
  refine CtS.ofH (cc0 := cL_setToner) (maxL := 6) (ret := some .int) (hh := [(0, 12, 15, 25), (0, 12, 19, 13), (0, 12, 23, 50)]) (by decide) rfl (Nat.le_of_ble_eq_true rfl) ?_
  intro M0_ p_ e_ s_ m_ args_ below_ meth_ c_ S hz hml htb hlo hr
  refine s_loc (L2 := [(0, .ref (A 0 0)), (1, .int x), (2, .int (nI cb)), (3, .int y), (4, .ref (A 70 0))]) rfl ?_
  refine s_aload (pc := 0) S 4 dL_setToner_0 rfl ?_
  refine s_iconst (pc := 2) S (v := nI 0) dL_setToner_2 (by decide) ?_
  refine s_aload_n (pc := 3) S 0 dL_setToner_3 rfl rfl ?_
  refine s_iload_n (pc := 4) S 1 dL_setToner_4 rfl rfl ?_
  refine s_iload_n (pc := 5) S 2 dL_setToner_5 rfl rfl ?_
  refine s_iload_n (pc := 6) S 3 dL_setToner_6 rfl rfl ?_
  refine s_callV (pc := 7) S hz hml [.int x, .int (nI cb), .int y] (k_X6_setToner Z l A C x cb y hcb (hI.1.okk hI.2.1 hI.2.2) hfl) (cwV 3 S.2.2.2.2 gL_setToner_X6_setToner rfl rfl rfl (by decide +kernel) ⟨(Nat.le_of_ble_eq_true rfl), (Nat.le_of_ble_eq_true rfl)⟩) (cc_farm (A := A) (C := C)) rfl rfl rfl (Nat.le_of_ble_eq_true rfl) dL_setToner_7 ⟨(Nat.le_of_ble_eq_true rfl), (Nat.le_of_ble_eq_true rfl)⟩ (fun E_ A2 C2 h => ?_) (fun v A2 C2 h => ?_)
  · have h6 : E6_setToner A C x cb y E_ A2 C2 := h
    obtain ⟨hE, -, -⟩ := e6_setToner h6
    rcases hE with rfl | rfl | rfl
    · refine s_catch (E := "java/lang/IndexOutOfBoundsException") S hz htb [] (⟨0, 12, 15, 25⟩ : ExceptionTableEntry) [(⟨0, 12, 19, 13⟩ : ExceptionTableEntry), (⟨0, 12, 23, 50⟩ : ExceptionTableEntry)] rfl (fun z h => absurd h List.not_mem_nil) (by decide) (by decide) link_IOB cast_IOB 15 rfl (fun q_ => ?_)
      refine s_astore (pc := 15) S [(5, .ref q_), (0, .ref (A 0 0)), (1, .int x), (2, .int (nI cb)), (3, .int y), (4, .ref (A 70 0))] dL_setToner_15 (by decide) rfl ?_
      refine s_iconst (pc := 17) S (v := nI 1) dL_setToner_17 (by decide) ?_
      exact s_iret (pc := 18) S hz hlo hr ⟨1, rfl, Or.inr (Or.inl ⟨rfl, h6⟩)⟩ (Nat.le_of_ble_eq_true rfl) (Nat.le_of_ble_eq_true rfl) dL_setToner_18
    · refine s_catch (E := "java/lang/IllegalArgumentException") S hz htb [(⟨0, 12, 15, 25⟩ : ExceptionTableEntry)] (⟨0, 12, 19, 13⟩ : ExceptionTableEntry) [(⟨0, 12, 23, 50⟩ : ExceptionTableEntry)] rfl (List.forall_mem_cons.mpr ⟨⟨by decide, "java/lang/IndexOutOfBoundsException", link_IOB, by decide +kernel⟩, fun _ h => absurd h List.not_mem_nil⟩) (by decide) (by decide) link_IAE cast_IAE 19 rfl (fun q_ => ?_)
      refine s_astore (pc := 19) S [(5, .ref q_), (0, .ref (A 0 0)), (1, .int x), (2, .int (nI cb)), (3, .int y), (4, .ref (A 70 0))] dL_setToner_19 (by decide) rfl ?_
      refine s_iconst (pc := 21) S (v := nI 2) dL_setToner_21 (by decide) ?_
      exact s_iret (pc := 22) S hz hlo hr ⟨2, rfl, Or.inr (Or.inr (Or.inl ⟨rfl, h6⟩))⟩ (Nat.le_of_ble_eq_true rfl) (Nat.le_of_ble_eq_true rfl) dL_setToner_22
    · refine s_catch (E := "java/lang/UnsupportedOperationException") S hz htb [(⟨0, 12, 15, 25⟩ : ExceptionTableEntry), (⟨0, 12, 19, 13⟩ : ExceptionTableEntry)] (⟨0, 12, 23, 50⟩ : ExceptionTableEntry) [] rfl (List.forall_mem_cons.mpr ⟨⟨by decide, "java/lang/IndexOutOfBoundsException", link_IOB, by decide +kernel⟩, List.forall_mem_cons.mpr ⟨⟨by decide, "java/lang/IllegalArgumentException", link_IAE, by decide +kernel⟩, fun _ h => absurd h List.not_mem_nil⟩⟩) (by decide) (by decide) link_UOE cast_UOE 23 rfl (fun q_ => ?_)
      refine s_astore (pc := 23) S [(5, .ref q_), (0, .ref (A 0 0)), (1, .int x), (2, .int (nI cb)), (3, .int y), (4, .ref (A 70 0))] dL_setToner_23 (by decide) rfl ?_
      refine s_iconst (pc := 25) S (v := nI 3) dL_setToner_25 (by decide) ?_
      exact s_iret (pc := 26) S hz hlo hr ⟨3, rfl, Or.inr (Or.inr (Or.inr (⟨rfl, h6⟩)))⟩ (Nat.le_of_ble_eq_true rfl) (Nat.le_of_ble_eq_true rfl) dL_setToner_26
  · have h6 : K6_setToner A C x cb y v A2 C2 := h
    obtain ⟨⟨r, rfl⟩, hA, -⟩ := v6_setToner h6
    obtain ⟨o, ho⟩ := lN_ex r.toInt64
    refine s_i2l (pc := 10) S (v := lN o) dL_setToner_10 ho.symm ?_
    refine s_lout (pc := 11) S hz (o := o) hA.1.2.2.1 dL_setToner_11 ?_
    refine s_goto (pc := 12) S 27 dL_setToner_12 (by decide) ?_
    refine s_iconst (pc := 27) S (v := nI 0) dL_setToner_27 (by decide) ?_
    exact s_iret (pc := 28) S hz hlo hr ⟨0, rfl, Or.inl ⟨rfl, r, o, C2, ho, rfl, h6⟩⟩ (Nat.le_of_ble_eq_true rfl) (Nat.le_of_ble_eq_true rfl) dL_setToner_28
set_option maxHeartbeats 4000000 in
set_option maxRecDepth 100000 in
theorem k_L_tonerOf (Z : Zp) (l : Launch) (A : AF) (C : CF) (hI : Iv C) (x : Int32) (cb : Nat) (hcb : cb < 2) (hfl : l.stackTraces = false) : CtS Z l yL_tonerOf wsL_tonerOf ({ frames := 8, cells := 2, slots := 12, locals := 135 }) [.ref (A 0 0), .int x, .int (nI cb), .ref (A 70 0)] A C 2 12 (fun v A2 C2 => ∃ k : Nat, some (.int (nI k)) = v ∧ W_tonerOf A C x cb k A2 C2) (fun _ _ _ => False) := by
  refine CtS.ofH (cc0 := cL_tonerOf) (maxL := 5) (ret := some .int) (hh := [(0, 10, 13, 25), (0, 10, 17, 50)]) (by decide) rfl (Nat.le_of_ble_eq_true rfl) ?_
  intro M0_ p_ e_ s_ m_ args_ below_ meth_ c_ S hz hml htb hlo hr
  refine s_loc (L2 := [(0, .ref (A 0 0)), (1, .int x), (2, .int (nI cb)), (3, .ref (A 70 0))]) rfl ?_
  refine s_aload_n (pc := 0) S 3 dL_tonerOf_0 rfl rfl ?_
  refine s_iconst (pc := 1) S (v := nI 0) dL_tonerOf_1 (by decide) ?_
  refine s_aload_n (pc := 2) S 0 dL_tonerOf_2 rfl rfl ?_
  refine s_iload_n (pc := 3) S 1 dL_tonerOf_3 rfl rfl ?_
  refine s_iload_n (pc := 4) S 2 dL_tonerOf_4 rfl rfl ?_
  refine s_callV (pc := 5) S hz hml [.int x, .int (nI cb)] (k_X6_tonerOf Z l A C x cb hcb (hI.1.okk hI.2.1 hI.2.2) hfl) (cwV 2 S.2.2.2.2 gL_tonerOf_X6_tonerOf rfl rfl rfl (by decide +kernel) ⟨(Nat.le_of_ble_eq_true rfl), (Nat.le_of_ble_eq_true rfl)⟩) (cc_farm (A := A) (C := C)) rfl rfl rfl (Nat.le_of_ble_eq_true rfl) dL_tonerOf_5 ⟨(Nat.le_of_ble_eq_true rfl), (Nat.le_of_ble_eq_true rfl)⟩ (fun E_ A2 C2 h => ?_) (fun v A2 C2 h => ?_)
  · have h6 : E6_tonerOf A C x cb E_ A2 C2 := h
    obtain ⟨hE, -, -⟩ := e6_tonerOf h6
    rcases hE with rfl | rfl
    · refine s_catch (E := "java/lang/IndexOutOfBoundsException") S hz htb [] (⟨0, 10, 13, 25⟩ : ExceptionTableEntry) [(⟨0, 10, 17, 50⟩ : ExceptionTableEntry)] rfl (fun z h => absurd h List.not_mem_nil) (by decide) (by decide) link_IOB cast_IOB 13 rfl (fun q_ => ?_)
      refine s_astore (pc := 13) S [(4, .ref q_), (0, .ref (A 0 0)), (1, .int x), (2, .int (nI cb)), (3, .ref (A 70 0))] dL_tonerOf_13 (by decide) rfl ?_
      refine s_iconst (pc := 15) S (v := nI 1) dL_tonerOf_15 (by decide) ?_
      exact s_iret (pc := 16) S hz hlo hr ⟨1, rfl, Or.inr (Or.inl ⟨rfl, h6⟩)⟩ (Nat.le_of_ble_eq_true rfl) (Nat.le_of_ble_eq_true rfl) dL_tonerOf_16
    · refine s_catch (E := "java/lang/UnsupportedOperationException") S hz htb [(⟨0, 10, 13, 25⟩ : ExceptionTableEntry)] (⟨0, 10, 17, 50⟩ : ExceptionTableEntry) [] rfl (List.forall_mem_cons.mpr ⟨⟨by decide, "java/lang/IndexOutOfBoundsException", link_IOB, by decide +kernel⟩, fun _ h => absurd h List.not_mem_nil⟩) (by decide) (by decide) link_UOE cast_UOE 17 rfl (fun q_ => ?_)
      refine s_astore (pc := 17) S [(4, .ref q_), (0, .ref (A 0 0)), (1, .int x), (2, .int (nI cb)), (3, .ref (A 70 0))] dL_tonerOf_17 (by decide) rfl ?_
      refine s_iconst (pc := 19) S (v := nI 2) dL_tonerOf_19 (by decide) ?_
      exact s_iret (pc := 20) S hz hlo hr ⟨2, rfl, Or.inr (Or.inr (⟨rfl, h6⟩))⟩ (Nat.le_of_ble_eq_true rfl) (Nat.le_of_ble_eq_true rfl) dL_tonerOf_20
  · have h6 : K6_tonerOf A C x cb v A2 C2 := h
    obtain ⟨⟨r, rfl⟩, hA, -⟩ := v6_tonerOf h6
    obtain ⟨o, ho⟩ := lN_ex r.toInt64
    refine s_i2l (pc := 8) S (v := lN o) dL_tonerOf_8 ho.symm ?_
    refine s_lout (pc := 9) S hz (o := o) hA.1.2.2.1 dL_tonerOf_9 ?_
    refine s_goto (pc := 10) S 21 dL_tonerOf_10 (by decide) ?_
    refine s_iconst (pc := 21) S (v := nI 0) dL_tonerOf_21 (by decide) ?_
    exact s_iret (pc := 22) S hz hlo hr ⟨0, rfl, Or.inl ⟨rfl, r, o, C2, ho, rfl, h6⟩⟩ (Nat.le_of_ble_eq_true rfl) (Nat.le_of_ble_eq_true rfl) dL_tonerOf_22
set_option maxHeartbeats 4000000 in
set_option maxRecDepth 100000 in
theorem k_L_setStaples (Z : Zp) (l : Launch) (A : AF) (C : CF) (hI : Iv C) (x y : Int32) (hfl : l.stackTraces = false) : CtS Z l yL_setStaples wsL_setStaples ({ frames := 8, cells := 2, slots := 12, locals := 136 }) [.ref (A 0 0), .int x, .int y, .ref (A 70 0)] A C 2 12 (fun v A2 C2 => ∃ k : Nat, some (.int (nI k)) = v ∧ W_setStaples A C x y k A2 C2) (fun _ _ _ => False) := by
  refine CtS.ofH (cc0 := cL_setStaples) (maxL := 5) (ret := some .int) (hh := [(0, 10, 13, 25), (0, 10, 17, 13)]) (by decide) rfl (Nat.le_of_ble_eq_true rfl) ?_
  intro M0_ p_ e_ s_ m_ args_ below_ meth_ c_ S hz hml htb hlo hr
  refine s_loc (L2 := [(0, .ref (A 0 0)), (1, .int x), (2, .int y), (3, .ref (A 70 0))]) rfl ?_
  refine s_aload_n (pc := 0) S 3 dL_setStaples_0 rfl rfl ?_
  refine s_iconst (pc := 1) S (v := nI 0) dL_setStaples_1 (by decide) ?_
  refine s_aload_n (pc := 2) S 0 dL_setStaples_2 rfl rfl ?_
  refine s_iload_n (pc := 3) S 1 dL_setStaples_3 rfl rfl ?_
  refine s_iload_n (pc := 4) S 2 dL_setStaples_4 rfl rfl ?_
  refine s_callV (pc := 5) S hz hml [.int x, .int y] (k_X6_setStaples Z l A C x y (hI.1.okk hI.2.1 hI.2.2) hfl) (cwV 2 S.2.2.2.2 gL_setStaples_X6_setStaples rfl rfl rfl (by decide +kernel) ⟨(Nat.le_of_ble_eq_true rfl), (Nat.le_of_ble_eq_true rfl)⟩) (cc_farm (A := A) (C := C)) rfl rfl rfl (Nat.le_of_ble_eq_true rfl) dL_setStaples_5 ⟨(Nat.le_of_ble_eq_true rfl), (Nat.le_of_ble_eq_true rfl)⟩ (fun E_ A2 C2 h => ?_) (fun v A2 C2 h => ?_)
  · have h6 : E6_setStaples A C x y E_ A2 C2 := h
    obtain ⟨hE, -, -⟩ := e6_setStaples h6
    rcases hE with rfl | rfl
    · refine s_catch (E := "java/lang/IndexOutOfBoundsException") S hz htb [] (⟨0, 10, 13, 25⟩ : ExceptionTableEntry) [(⟨0, 10, 17, 13⟩ : ExceptionTableEntry)] rfl (fun z h => absurd h List.not_mem_nil) (by decide) (by decide) link_IOB cast_IOB 13 rfl (fun q_ => ?_)
      refine s_astore (pc := 13) S [(4, .ref q_), (0, .ref (A 0 0)), (1, .int x), (2, .int y), (3, .ref (A 70 0))] dL_setStaples_13 (by decide) rfl ?_
      refine s_iconst (pc := 15) S (v := nI 1) dL_setStaples_15 (by decide) ?_
      exact s_iret (pc := 16) S hz hlo hr ⟨1, rfl, Or.inr (Or.inl ⟨rfl, h6⟩)⟩ (Nat.le_of_ble_eq_true rfl) (Nat.le_of_ble_eq_true rfl) dL_setStaples_16
    · refine s_catch (E := "java/lang/IllegalArgumentException") S hz htb [(⟨0, 10, 13, 25⟩ : ExceptionTableEntry)] (⟨0, 10, 17, 13⟩ : ExceptionTableEntry) [] rfl (List.forall_mem_cons.mpr ⟨⟨by decide, "java/lang/IndexOutOfBoundsException", link_IOB, by decide +kernel⟩, fun _ h => absurd h List.not_mem_nil⟩) (by decide) (by decide) link_IAE cast_IAE 17 rfl (fun q_ => ?_)
      refine s_astore (pc := 17) S [(4, .ref q_), (0, .ref (A 0 0)), (1, .int x), (2, .int y), (3, .ref (A 70 0))] dL_setStaples_17 (by decide) rfl ?_
      refine s_iconst (pc := 19) S (v := nI 2) dL_setStaples_19 (by decide) ?_
      exact s_iret (pc := 20) S hz hlo hr ⟨2, rfl, Or.inr (Or.inr (⟨rfl, h6⟩))⟩ (Nat.le_of_ble_eq_true rfl) (Nat.le_of_ble_eq_true rfl) dL_setStaples_20
  · have h6 : K6_setStaples A C x y v A2 C2 := h
    obtain ⟨⟨r, rfl⟩, hA, -⟩ := v6_setStaples h6
    obtain ⟨o, ho⟩ := lN_ex r.toInt64
    refine s_i2l (pc := 8) S (v := lN o) dL_setStaples_8 ho.symm ?_
    refine s_lout (pc := 9) S hz (o := o) hA.1.2.2.1 dL_setStaples_9 ?_
    refine s_goto (pc := 10) S 21 dL_setStaples_10 (by decide) ?_
    refine s_iconst (pc := 21) S (v := nI 0) dL_setStaples_21 (by decide) ?_
    exact s_iret (pc := 22) S hz hlo hr ⟨0, rfl, Or.inl ⟨rfl, r, o, C2, ho, rfl, h6⟩⟩ (Nat.le_of_ble_eq_true rfl) (Nat.le_of_ble_eq_true rfl) dL_setStaples_22
set_option maxHeartbeats 4000000 in
set_option maxRecDepth 100000 in
theorem k_L_staplesIn (Z : Zp) (l : Launch) (A : AF) (C : CF) (hI : Iv C) (x : Int32) (hfl : l.stackTraces = false) : CtS Z l yL_staplesIn wsL_staplesIn ({ frames := 8, cells := 1, slots := 6, locals := 133 }) [.ref (A 0 0), .int x, .ref (A 70 0)] A C 1 6 (fun v A2 C2 => ∃ k : Nat, some (.int (nI k)) = v ∧ W_staplesIn A C x k A2 C2) (fun _ _ _ => False) := by
  refine CtS.ofH (cc0 := cL_staplesIn) (maxL := 4) (ret := some .int) (hh := [(0, 9, 12, 25)]) (by decide) rfl (Nat.le_of_ble_eq_true rfl) ?_
  intro M0_ p_ e_ s_ m_ args_ below_ meth_ c_ S hz hml htb hlo hr
  refine s_loc (L2 := [(0, .ref (A 0 0)), (1, .int x), (2, .ref (A 70 0))]) rfl ?_
  refine s_aload_n (pc := 0) S 2 dL_staplesIn_0 rfl rfl ?_
  refine s_iconst (pc := 1) S (v := nI 0) dL_staplesIn_1 (by decide) ?_
  refine s_aload_n (pc := 2) S 0 dL_staplesIn_2 rfl rfl ?_
  refine s_iload_n (pc := 3) S 1 dL_staplesIn_3 rfl rfl ?_
  refine s_callV (pc := 4) S hz hml [.int x] (k_X6_staplesIn Z l A C x (hI.1.okk hI.2.1 hI.2.2) hfl) (cwV 1 S.2.2.2.2 gL_staplesIn_X6_staplesIn rfl rfl rfl (by decide +kernel) ⟨(Nat.le_of_ble_eq_true rfl), (Nat.le_of_ble_eq_true rfl)⟩) (cc_farm (A := A) (C := C)) rfl rfl rfl (Nat.le_of_ble_eq_true rfl) dL_staplesIn_4 ⟨(Nat.le_of_ble_eq_true rfl), (Nat.le_of_ble_eq_true rfl)⟩ (fun E_ A2 C2 h => ?_) (fun v A2 C2 h => ?_)
  · have h6 : E6_staplesIn A C x E_ A2 C2 := h
    obtain ⟨hE, -, -⟩ := e6_staplesIn h6
    rcases hE with rfl
    refine s_catch (E := "java/lang/IndexOutOfBoundsException") S hz htb [] (⟨0, 9, 12, 25⟩ : ExceptionTableEntry) [] rfl (fun z h => absurd h List.not_mem_nil) (by decide) (by decide) link_IOB cast_IOB 12 rfl (fun q_ => ?_)
    refine s_astore_n (pc := 12) S [(3, .ref q_), (0, .ref (A 0 0)), (1, .int x), (2, .ref (A 70 0))] dL_staplesIn_12 rfl (by decide) rfl ?_
    refine s_iconst (pc := 13) S (v := nI 1) dL_staplesIn_13 (by decide) ?_
    exact s_iret (pc := 14) S hz hlo hr ⟨1, rfl, Or.inr (⟨rfl, h6⟩)⟩ (Nat.le_of_ble_eq_true rfl) (Nat.le_of_ble_eq_true rfl) dL_staplesIn_14
  · have h6 : K6_staplesIn A C x v A2 C2 := h
    obtain ⟨⟨r, rfl⟩, hA, -⟩ := v6_staplesIn h6
    obtain ⟨o, ho⟩ := lN_ex r.toInt64
    refine s_i2l (pc := 7) S (v := lN o) dL_staplesIn_7 ho.symm ?_
    refine s_lout (pc := 8) S hz (o := o) hA.1.2.2.1 dL_staplesIn_8 ?_
    refine s_goto (pc := 9) S 15 dL_staplesIn_9 (by decide) ?_
    refine s_iconst (pc := 15) S (v := nI 0) dL_staplesIn_15 (by decide) ?_
    exact s_iret (pc := 16) S hz hlo hr ⟨0, rfl, Or.inl ⟨rfl, r, o, C2, ho, rfl, h6⟩⟩ (Nat.le_of_ble_eq_true rfl) (Nat.le_of_ble_eq_true rfl) dL_staplesIn_16
set_option maxHeartbeats 4000000 in
set_option maxRecDepth 100000 in
theorem k_L_grant (Z : Zp) (l : Launch) (A : AF) (C : CF) (hI : Iv C) (x : Int32) (cb : Nat) (y : Int32) (hcb : cb < 2) (hfl : l.stackTraces = false) : CtS Z l yL_grant wsL_grant ({ frames := 8, cells := 3, slots := 18, locals := 136 }) [.ref (A 0 0), .int x, .int (nI cb), .int y, .ref (A 70 0)] A C 3 18 (fun v A2 C2 => ∃ k : Nat, some (.int (nI k)) = v ∧ W_grant A C x cb y k A2 C2) (fun _ _ _ => False) := by
  refine CtS.ofH (cc0 := cL_grant) (maxL := 6) (ret := some .int) (hh := [(0, 12, 15, 25), (0, 12, 19, 13), (0, 12, 23, 15)]) (by decide) rfl (Nat.le_of_ble_eq_true rfl) ?_
  intro M0_ p_ e_ s_ m_ args_ below_ meth_ c_ S hz hml htb hlo hr
  refine s_loc (L2 := [(0, .ref (A 0 0)), (1, .int x), (2, .int (nI cb)), (3, .int y), (4, .ref (A 70 0))]) rfl ?_
  refine s_aload (pc := 0) S 4 dL_grant_0 rfl ?_
  refine s_iconst (pc := 2) S (v := nI 0) dL_grant_2 (by decide) ?_
  refine s_aload_n (pc := 3) S 0 dL_grant_3 rfl rfl ?_
  refine s_iload_n (pc := 4) S 1 dL_grant_4 rfl rfl ?_
  refine s_iload_n (pc := 5) S 2 dL_grant_5 rfl rfl ?_
  refine s_iload_n (pc := 6) S 3 dL_grant_6 rfl rfl ?_
  refine s_callV (pc := 7) S hz hml [.int x, .int (nI cb), .int y] (k_X6_grant Z l A C x cb y hcb (hI.1.okk hI.2.1 hI.2.2) hfl) (cwV 3 S.2.2.2.2 gL_grant_X6_grant rfl rfl rfl (by decide +kernel) ⟨(Nat.le_of_ble_eq_true rfl), (Nat.le_of_ble_eq_true rfl)⟩) (cc_farm (A := A) (C := C)) rfl rfl rfl (Nat.le_of_ble_eq_true rfl) dL_grant_7 ⟨(Nat.le_of_ble_eq_true rfl), (Nat.le_of_ble_eq_true rfl)⟩ (fun E_ A2 C2 h => ?_) (fun v A2 C2 h => ?_)
  · have h6 : E6_grant A C x cb y E_ A2 C2 := h
    obtain ⟨hE, -, -⟩ := e6_grant h6
    rcases hE with rfl | rfl | rfl
    · refine s_catch (E := "java/lang/IndexOutOfBoundsException") S hz htb [] (⟨0, 12, 15, 25⟩ : ExceptionTableEntry) [(⟨0, 12, 19, 13⟩ : ExceptionTableEntry), (⟨0, 12, 23, 15⟩ : ExceptionTableEntry)] rfl (fun z h => absurd h List.not_mem_nil) (by decide) (by decide) link_IOB cast_IOB 15 rfl (fun q_ => ?_)
      refine s_astore (pc := 15) S [(5, .ref q_), (0, .ref (A 0 0)), (1, .int x), (2, .int (nI cb)), (3, .int y), (4, .ref (A 70 0))] dL_grant_15 (by decide) rfl ?_
      refine s_iconst (pc := 17) S (v := nI 1) dL_grant_17 (by decide) ?_
      exact s_iret (pc := 18) S hz hlo hr ⟨1, rfl, Or.inr (Or.inl ⟨rfl, h6⟩)⟩ (Nat.le_of_ble_eq_true rfl) (Nat.le_of_ble_eq_true rfl) dL_grant_18
    · refine s_catch (E := "java/lang/IllegalArgumentException") S hz htb [(⟨0, 12, 15, 25⟩ : ExceptionTableEntry)] (⟨0, 12, 19, 13⟩ : ExceptionTableEntry) [(⟨0, 12, 23, 15⟩ : ExceptionTableEntry)] rfl (List.forall_mem_cons.mpr ⟨⟨by decide, "java/lang/IndexOutOfBoundsException", link_IOB, by decide +kernel⟩, fun _ h => absurd h List.not_mem_nil⟩) (by decide) (by decide) link_IAE cast_IAE 19 rfl (fun q_ => ?_)
      refine s_astore (pc := 19) S [(5, .ref q_), (0, .ref (A 0 0)), (1, .int x), (2, .int (nI cb)), (3, .int y), (4, .ref (A 70 0))] dL_grant_19 (by decide) rfl ?_
      refine s_iconst (pc := 21) S (v := nI 2) dL_grant_21 (by decide) ?_
      exact s_iret (pc := 22) S hz hlo hr ⟨2, rfl, Or.inr (Or.inr (Or.inl ⟨rfl, h6⟩))⟩ (Nat.le_of_ble_eq_true rfl) (Nat.le_of_ble_eq_true rfl) dL_grant_22
    · refine s_catch (E := "java/lang/IllegalStateException") S hz htb [(⟨0, 12, 15, 25⟩ : ExceptionTableEntry), (⟨0, 12, 19, 13⟩ : ExceptionTableEntry)] (⟨0, 12, 23, 15⟩ : ExceptionTableEntry) [] rfl (List.forall_mem_cons.mpr ⟨⟨by decide, "java/lang/IndexOutOfBoundsException", link_IOB, by decide +kernel⟩, List.forall_mem_cons.mpr ⟨⟨by decide, "java/lang/IllegalArgumentException", link_IAE, by decide +kernel⟩, fun _ h => absurd h List.not_mem_nil⟩⟩) (by decide) (by decide) link_ISE cast_ISE 23 rfl (fun q_ => ?_)
      refine s_astore (pc := 23) S [(5, .ref q_), (0, .ref (A 0 0)), (1, .int x), (2, .int (nI cb)), (3, .int y), (4, .ref (A 70 0))] dL_grant_23 (by decide) rfl ?_
      refine s_iconst (pc := 25) S (v := nI 3) dL_grant_25 (by decide) ?_
      exact s_iret (pc := 26) S hz hlo hr ⟨3, rfl, Or.inr (Or.inr (Or.inr (⟨rfl, h6⟩)))⟩ (Nat.le_of_ble_eq_true rfl) (Nat.le_of_ble_eq_true rfl) dL_grant_26
  · have h6 : K6_grant A C x cb y v A2 C2 := h
    obtain ⟨⟨r, rfl⟩, hA, -⟩ := v6_grant h6
    obtain ⟨o, ho⟩ := lN_ex r.toInt64
    refine s_i2l (pc := 10) S (v := lN o) dL_grant_10 ho.symm ?_
    refine s_lout (pc := 11) S hz (o := o) hA.1.2.2.1 dL_grant_11 ?_
    refine s_goto (pc := 12) S 27 dL_grant_12 (by decide) ?_
    refine s_iconst (pc := 27) S (v := nI 0) dL_grant_27 (by decide) ?_
    exact s_iret (pc := 28) S hz hlo hr ⟨0, rfl, Or.inl ⟨rfl, r, o, C2, ho, rfl, h6⟩⟩ (Nat.le_of_ble_eq_true rfl) (Nat.le_of_ble_eq_true rfl) dL_grant_28
set_option maxHeartbeats 4000000 in
set_option maxRecDepth 100000 in
theorem k_L_quotaOf (Z : Zp) (l : Launch) (A : AF) (C : CF) (hI : Iv C) (x : Int32) (cb : Nat) (hcb : cb < 2) (hfl : l.stackTraces = false) : CtS Z l yL_quotaOf wsL_quotaOf ({ frames := 8, cells := 1, slots := 6, locals := 134 }) [.ref (A 0 0), .int x, .int (nI cb), .ref (A 70 0)] A C 1 6 (fun v A2 C2 => ∃ k : Nat, some (.int (nI k)) = v ∧ W_quotaOf A C x cb k A2 C2) (fun _ _ _ => False) := by
  refine CtS.ofH (cc0 := cL_quotaOf) (maxL := 5) (ret := some .int) (hh := [(0, 10, 13, 25)]) (by decide) rfl (Nat.le_of_ble_eq_true rfl) ?_
  intro M0_ p_ e_ s_ m_ args_ below_ meth_ c_ S hz hml htb hlo hr
  refine s_loc (L2 := [(0, .ref (A 0 0)), (1, .int x), (2, .int (nI cb)), (3, .ref (A 70 0))]) rfl ?_
  refine s_aload_n (pc := 0) S 3 dL_quotaOf_0 rfl rfl ?_
  refine s_iconst (pc := 1) S (v := nI 0) dL_quotaOf_1 (by decide) ?_
  refine s_aload_n (pc := 2) S 0 dL_quotaOf_2 rfl rfl ?_
  refine s_iload_n (pc := 3) S 1 dL_quotaOf_3 rfl rfl ?_
  refine s_iload_n (pc := 4) S 2 dL_quotaOf_4 rfl rfl ?_
  refine s_callV (pc := 5) S hz hml [.int x, .int (nI cb)] (k_X6_quotaOf Z l A C x cb hcb (hI.1.okk hI.2.1 hI.2.2) hfl) (cwV 2 S.2.2.2.2 gL_quotaOf_X6_quotaOf rfl rfl rfl (by decide +kernel) ⟨(Nat.le_of_ble_eq_true rfl), (Nat.le_of_ble_eq_true rfl)⟩) (cc_farm (A := A) (C := C)) rfl rfl rfl (Nat.le_of_ble_eq_true rfl) dL_quotaOf_5 ⟨(Nat.le_of_ble_eq_true rfl), (Nat.le_of_ble_eq_true rfl)⟩ (fun E_ A2 C2 h => ?_) (fun v A2 C2 h => ?_)
  · have h6 : E6_quotaOf A C x cb E_ A2 C2 := h
    obtain ⟨hE, -, -⟩ := e6_quotaOf h6
    rcases hE with rfl
    refine s_catch (E := "java/lang/IndexOutOfBoundsException") S hz htb [] (⟨0, 10, 13, 25⟩ : ExceptionTableEntry) [] rfl (fun z h => absurd h List.not_mem_nil) (by decide) (by decide) link_IOB cast_IOB 13 rfl (fun q_ => ?_)
    refine s_astore (pc := 13) S [(4, .ref q_), (0, .ref (A 0 0)), (1, .int x), (2, .int (nI cb)), (3, .ref (A 70 0))] dL_quotaOf_13 (by decide) rfl ?_
    refine s_iconst (pc := 15) S (v := nI 1) dL_quotaOf_15 (by decide) ?_
    exact s_iret (pc := 16) S hz hlo hr ⟨1, rfl, Or.inr (⟨rfl, h6⟩)⟩ (Nat.le_of_ble_eq_true rfl) (Nat.le_of_ble_eq_true rfl) dL_quotaOf_16
  · have h6 : K6_quotaOf A C x cb v A2 C2 := h
    obtain ⟨⟨r, rfl⟩, hA, -⟩ := v6_quotaOf h6
    obtain ⟨o, ho⟩ := lN_ex r.toInt64
    refine s_i2l (pc := 8) S (v := lN o) dL_quotaOf_8 ho.symm ?_
    refine s_lout (pc := 9) S hz (o := o) hA.1.2.2.1 dL_quotaOf_9 ?_
    refine s_goto (pc := 10) S 17 dL_quotaOf_10 (by decide) ?_
    refine s_iconst (pc := 17) S (v := nI 0) dL_quotaOf_17 (by decide) ?_
    exact s_iret (pc := 18) S hz hlo hr ⟨0, rfl, Or.inl ⟨rfl, r, o, C2, ho, rfl, h6⟩⟩ (Nat.le_of_ble_eq_true rfl) (Nat.le_of_ble_eq_true rfl) dL_quotaOf_18
set_option maxHeartbeats 4000000 in
set_option maxRecDepth 100000 in
theorem k_L_setPrices (Z : Zp) (l : Launch) (A : AF) (C : CF) (hI : Iv C) (x y w : Int32) (hfl : l.stackTraces = false) : CtS Z l yL_setPrices wsL_setPrices ({ frames := 8, cells := 3, slots := 18, locals := 136 }) [.ref (A 0 0), .int x, .int y, .int w, .ref (A 70 0)] A C 3 18 (fun v A2 C2 => ∃ k : Nat, some (.int (nI k)) = v ∧ W_setPrices A C x y w k A2 C2) (fun _ _ _ => False) := by
  refine CtS.ofH (cc0 := cL_setPrices) (maxL := 6) (ret := some .int) (hh := [(0, 12, 15, 13)]) (by decide) rfl (Nat.le_of_ble_eq_true rfl) ?_
  intro M0_ p_ e_ s_ m_ args_ below_ meth_ c_ S hz hml htb hlo hr
  refine s_loc (L2 := [(0, .ref (A 0 0)), (1, .int x), (2, .int y), (3, .int w), (4, .ref (A 70 0))]) rfl ?_
  refine s_aload (pc := 0) S 4 dL_setPrices_0 rfl ?_
  refine s_iconst (pc := 2) S (v := nI 0) dL_setPrices_2 (by decide) ?_
  refine s_aload_n (pc := 3) S 0 dL_setPrices_3 rfl rfl ?_
  refine s_iload_n (pc := 4) S 1 dL_setPrices_4 rfl rfl ?_
  refine s_iload_n (pc := 5) S 2 dL_setPrices_5 rfl rfl ?_
  refine s_iload_n (pc := 6) S 3 dL_setPrices_6 rfl rfl ?_
  refine s_callV (pc := 7) S hz hml [.int x, .int y, .int w] (k_X6_setPrices Z l A C x y w (hI.1.okk hI.2.1 hI.2.2) hfl) (cwV 3 S.2.2.2.2 gL_setPrices_X6_setPrices rfl rfl rfl (by decide +kernel) ⟨(Nat.le_of_ble_eq_true rfl), (Nat.le_of_ble_eq_true rfl)⟩) (cc_farm (A := A) (C := C)) rfl rfl rfl (Nat.le_of_ble_eq_true rfl) dL_setPrices_7 ⟨(Nat.le_of_ble_eq_true rfl), (Nat.le_of_ble_eq_true rfl)⟩ (fun E_ A2 C2 h => ?_) (fun v A2 C2 h => ?_)
  · have h6 : E6_setPrices A C x y w E_ A2 C2 := h
    obtain ⟨hE, -, -⟩ := e6_setPrices h6
    rcases hE with rfl
    refine s_catch (E := "java/lang/IllegalArgumentException") S hz htb [] (⟨0, 12, 15, 13⟩ : ExceptionTableEntry) [] rfl (fun z h => absurd h List.not_mem_nil) (by decide) (by decide) link_IAE cast_IAE 15 rfl (fun q_ => ?_)
    refine s_astore (pc := 15) S [(5, .ref q_), (0, .ref (A 0 0)), (1, .int x), (2, .int y), (3, .int w), (4, .ref (A 70 0))] dL_setPrices_15 (by decide) rfl ?_
    refine s_iconst (pc := 17) S (v := nI 1) dL_setPrices_17 (by decide) ?_
    exact s_iret (pc := 18) S hz hlo hr ⟨1, rfl, Or.inr (⟨rfl, h6⟩)⟩ (Nat.le_of_ble_eq_true rfl) (Nat.le_of_ble_eq_true rfl) dL_setPrices_18
  · have h6 : K6_setPrices A C x y w v A2 C2 := h
    obtain ⟨⟨r, rfl⟩, hA, -⟩ := v6_setPrices h6
    obtain ⟨o, ho⟩ := lN_ex r.toInt64
    refine s_i2l (pc := 10) S (v := lN o) dL_setPrices_10 ho.symm ?_
    refine s_lout (pc := 11) S hz (o := o) hA.1.2.2.1 dL_setPrices_11 ?_
    refine s_goto (pc := 12) S 19 dL_setPrices_12 (by decide) ?_
    refine s_iconst (pc := 19) S (v := nI 0) dL_setPrices_19 (by decide) ?_
    exact s_iret (pc := 20) S hz hlo hr ⟨0, rfl, Or.inl ⟨rfl, r, o, C2, ho, rfl, h6⟩⟩ (Nat.le_of_ble_eq_true rfl) (Nat.le_of_ble_eq_true rfl) dL_setPrices_20
set_option maxHeartbeats 4000000 in
set_option maxRecDepth 100000 in
theorem k_L_submit (Z : Zp) (l : Launch) (A : AF) (C : CF) (hI : Iv C) (x y w : Int32) (q cb db : Nat) (hq : q < 65536) (hcb : cb < 2) (hdb : db < 2) (hfl : l.stackTraces = false) : CtS Z l yL_submit wsL_submit ({ frames := 8, cells := 5, slots := 38, locals := 140 }) [.ref (A 0 0), .int x, .int y, .int w, .int (nI q), .int (nI cb), .int (nI db), .ref (A 70 0)] A C 5 38 (fun v A2 C2 => ∃ k : Nat, some (.int (nI k)) = v ∧ W_submit A C x y w q cb db k A2 C2) (fun _ _ _ => False) := by
  refine CtS.ofH (cc0 := cL_submit) (maxL := 9) (ret := some .int) (hh := [(0, 18, 21, 25), (0, 18, 25, 13), (0, 18, 29, 15)]) (by decide) rfl (Nat.le_of_ble_eq_true rfl) ?_
  intro M0_ p_ e_ s_ m_ args_ below_ meth_ c_ S hz hml htb hlo hr
  refine s_loc (L2 := [(0, .ref (A 0 0)), (1, .int x), (2, .int y), (3, .int w), (4, .int (nI q)), (5, .int (nI cb)), (6, .int (nI db)), (7, .ref (A 70 0))]) rfl ?_
  refine s_aload (pc := 0) S 7 dL_submit_0 rfl ?_
  refine s_iconst (pc := 2) S (v := nI 0) dL_submit_2 (by decide) ?_
  refine s_aload_n (pc := 3) S 0 dL_submit_3 rfl rfl ?_
  refine s_iload_n (pc := 4) S 1 dL_submit_4 rfl rfl ?_
  refine s_iload_n (pc := 5) S 2 dL_submit_5 rfl rfl ?_
  refine s_iload_n (pc := 6) S 3 dL_submit_6 rfl rfl ?_
  refine s_iload (pc := 7) S 4 dL_submit_7 rfl ?_
  refine s_iload (pc := 9) S 5 dL_submit_9 rfl ?_
  refine s_iload (pc := 11) S 6 dL_submit_11 rfl ?_
  refine s_callV (pc := 13) S hz hml [.int x, .int y, .int w, .int (nI q), .int (nI cb), .int (nI db)] (k_X6_submit Z l A C x y w q cb db hq hcb hdb (hI.1.okk hI.2.1 hI.2.2) hfl) (cwV 6 S.2.2.2.2 gL_submit_X6_submit rfl rfl rfl (by decide +kernel) ⟨(Nat.le_of_ble_eq_true rfl), (Nat.le_of_ble_eq_true rfl)⟩) (cc_farm (A := A) (C := C)) rfl rfl rfl (Nat.le_of_ble_eq_true rfl) dL_submit_13 ⟨(Nat.le_of_ble_eq_true rfl), (Nat.le_of_ble_eq_true rfl)⟩ (fun E_ A2 C2 h => ?_) (fun v A2 C2 h => ?_)
  · have h6 : E6_submit A C x y w q cb db E_ A2 C2 := h
    obtain ⟨hE, -, -⟩ := e6_submit h6
    rcases hE with rfl | rfl | rfl
    · refine s_catch (E := "java/lang/IndexOutOfBoundsException") S hz htb [] (⟨0, 18, 21, 25⟩ : ExceptionTableEntry) [(⟨0, 18, 25, 13⟩ : ExceptionTableEntry), (⟨0, 18, 29, 15⟩ : ExceptionTableEntry)] rfl (fun z h => absurd h List.not_mem_nil) (by decide) (by decide) link_IOB cast_IOB 21 rfl (fun q_ => ?_)
      refine s_astore (pc := 21) S [(8, .ref q_), (0, .ref (A 0 0)), (1, .int x), (2, .int y), (3, .int w), (4, .int (nI q)), (5, .int (nI cb)), (6, .int (nI db)), (7, .ref (A 70 0))] dL_submit_21 (by decide) rfl ?_
      refine s_iconst (pc := 23) S (v := nI 1) dL_submit_23 (by decide) ?_
      exact s_iret (pc := 24) S hz hlo hr ⟨1, rfl, Or.inr (Or.inl ⟨rfl, h6⟩)⟩ (Nat.le_of_ble_eq_true rfl) (Nat.le_of_ble_eq_true rfl) dL_submit_24
    · refine s_catch (E := "java/lang/IllegalArgumentException") S hz htb [(⟨0, 18, 21, 25⟩ : ExceptionTableEntry)] (⟨0, 18, 25, 13⟩ : ExceptionTableEntry) [(⟨0, 18, 29, 15⟩ : ExceptionTableEntry)] rfl (List.forall_mem_cons.mpr ⟨⟨by decide, "java/lang/IndexOutOfBoundsException", link_IOB, by decide +kernel⟩, fun _ h => absurd h List.not_mem_nil⟩) (by decide) (by decide) link_IAE cast_IAE 25 rfl (fun q_ => ?_)
      refine s_astore (pc := 25) S [(8, .ref q_), (0, .ref (A 0 0)), (1, .int x), (2, .int y), (3, .int w), (4, .int (nI q)), (5, .int (nI cb)), (6, .int (nI db)), (7, .ref (A 70 0))] dL_submit_25 (by decide) rfl ?_
      refine s_iconst (pc := 27) S (v := nI 2) dL_submit_27 (by decide) ?_
      exact s_iret (pc := 28) S hz hlo hr ⟨2, rfl, Or.inr (Or.inr (Or.inl ⟨rfl, h6⟩))⟩ (Nat.le_of_ble_eq_true rfl) (Nat.le_of_ble_eq_true rfl) dL_submit_28
    · refine s_catch (E := "java/lang/IllegalStateException") S hz htb [(⟨0, 18, 21, 25⟩ : ExceptionTableEntry), (⟨0, 18, 25, 13⟩ : ExceptionTableEntry)] (⟨0, 18, 29, 15⟩ : ExceptionTableEntry) [] rfl (List.forall_mem_cons.mpr ⟨⟨by decide, "java/lang/IndexOutOfBoundsException", link_IOB, by decide +kernel⟩, List.forall_mem_cons.mpr ⟨⟨by decide, "java/lang/IllegalArgumentException", link_IAE, by decide +kernel⟩, fun _ h => absurd h List.not_mem_nil⟩⟩) (by decide) (by decide) link_ISE cast_ISE 29 rfl (fun q_ => ?_)
      refine s_astore (pc := 29) S [(8, .ref q_), (0, .ref (A 0 0)), (1, .int x), (2, .int y), (3, .int w), (4, .int (nI q)), (5, .int (nI cb)), (6, .int (nI db)), (7, .ref (A 70 0))] dL_submit_29 (by decide) rfl ?_
      refine s_iconst (pc := 31) S (v := nI 3) dL_submit_31 (by decide) ?_
      exact s_iret (pc := 32) S hz hlo hr ⟨3, rfl, Or.inr (Or.inr (Or.inr (⟨rfl, h6⟩)))⟩ (Nat.le_of_ble_eq_true rfl) (Nat.le_of_ble_eq_true rfl) dL_submit_32
  · have h6 : K6_submit A C x y w q cb db v A2 C2 := h
    obtain ⟨⟨r, rfl⟩, hA, -⟩ := v6_submit h6
    obtain ⟨o, ho⟩ := lN_ex r.toInt64
    refine s_i2l (pc := 16) S (v := lN o) dL_submit_16 ho.symm ?_
    refine s_lout (pc := 17) S hz (o := o) hA.1.2.2.1 dL_submit_17 ?_
    refine s_goto (pc := 18) S 33 dL_submit_18 (by decide) ?_
    refine s_iconst (pc := 33) S (v := nI 0) dL_submit_33 (by decide) ?_
    exact s_iret (pc := 34) S hz hlo hr ⟨0, rfl, Or.inl ⟨rfl, r, o, C2, ho, rfl, h6⟩⟩ (Nat.le_of_ble_eq_true rfl) (Nat.le_of_ble_eq_true rfl) dL_submit_34
set_option maxHeartbeats 4000000 in
set_option maxRecDepth 100000 in
theorem k_L_setStapled (Z : Zp) (l : Launch) (A : AF) (C : CF) (hI : Iv C) (x : Int32) (cb : Nat) (hcb : cb < 2) (hfl : l.stackTraces = false) : CtS Z l yL_setStapled wsL_setStapled ({ frames := 8, cells := 1, slots := 6, locals := 136 }) [.ref (A 0 0), .int x, .int (nI cb), .ref (A 70 0)] A C 1 6 (fun v A2 C2 => ∃ k : Nat, some (.int (nI k)) = v ∧ W_setStapled A C x cb k A2 C2) (fun _ _ _ => False) := by
  refine CtS.ofH (cc0 := cL_setStapled) (maxL := 5) (ret := some .int) (hh := [(0, 17, 20, 25)]) (by decide) rfl (Nat.le_of_ble_eq_true rfl) ?_
  intro M0_ p_ e_ s_ m_ args_ below_ meth_ c_ S hz hml htb hlo hr
  refine s_loc (L2 := [(0, .ref (A 0 0)), (1, .int x), (2, .int (nI cb)), (3, .ref (A 70 0))]) rfl ?_
  refine s_aload_n (pc := 0) S 3 dL_setStapled_0 rfl rfl ?_
  refine s_iconst (pc := 1) S (v := nI 0) dL_setStapled_1 (by decide) ?_
  refine s_aload_n (pc := 2) S 0 dL_setStapled_2 rfl rfl ?_
  refine s_iload_n (pc := 3) S 1 dL_setStapled_3 rfl rfl ?_
  refine s_iload_n (pc := 4) S 2 dL_setStapled_4 rfl rfl ?_
  refine s_callV (pc := 5) S hz hml [.int x, .int (nI cb)] (k_X6_setStapled Z l A C x cb hcb (hI.1.okk hI.2.1 hI.2.2) hfl) (cwV 2 S.2.2.2.2 gL_setStapled_X6_setStapled rfl rfl rfl (by decide +kernel) ⟨(Nat.le_of_ble_eq_true rfl), (Nat.le_of_ble_eq_true rfl)⟩) (cc_farm (A := A) (C := C)) rfl rfl rfl (Nat.le_of_ble_eq_true rfl) dL_setStapled_5 ⟨(Nat.le_of_ble_eq_true rfl), (Nat.le_of_ble_eq_true rfl)⟩ (fun E_ A2 C2 h => ?_) (fun v A2 C2 h => ?_)
  · have h6 : E6_setStapled A C x cb E_ A2 C2 := h
    obtain ⟨hE, -, -⟩ := e6_setStapled h6
    rcases hE with rfl
    refine s_catch (E := "java/lang/IndexOutOfBoundsException") S hz htb [] (⟨0, 17, 20, 25⟩ : ExceptionTableEntry) [] rfl (fun z h => absurd h List.not_mem_nil) (by decide) (by decide) link_IOB cast_IOB 20 rfl (fun q_ => ?_)
    refine s_astore (pc := 20) S [(4, .ref q_), (0, .ref (A 0 0)), (1, .int x), (2, .int (nI cb)), (3, .ref (A 70 0))] dL_setStapled_20 (by decide) rfl ?_
    refine s_iconst (pc := 22) S (v := nI 1) dL_setStapled_22 (by decide) ?_
    exact s_iret (pc := 23) S hz hlo hr ⟨1, rfl, Or.inr (⟨rfl, h6⟩)⟩ (Nat.le_of_ble_eq_true rfl) (Nat.le_of_ble_eq_true rfl) dL_setStapled_23
  · have h6 : K6_setStapled A C x cb v A2 C2 := h
    obtain ⟨⟨r, rfl⟩, hA, -⟩ := v6_setStapled h6
    refine s_if_eq (pc := 8) S 15 dL_setStapled_8 (by decide) (fun c0 => ?_) (fun c0 => ?_)
    · refine s_lconst (pc := 15) S (v := lN 0) dL_setStapled_15 (by decide) ?_
      refine s_lout (pc := 16) S hz (o := 0) hA.1.2.2.1 dL_setStapled_16 ?_
      refine s_goto (pc := 17) S 24 dL_setStapled_17 (by decide) ?_
      refine s_iconst (pc := 24) S (v := nI 0) dL_setStapled_24 (by decide) ?_
      exact s_iret (pc := 25) S hz hlo hr ⟨0, rfl, Or.inl ⟨rfl, r, 0, C2, Or.inl ⟨c0, rfl⟩, rfl, h6⟩⟩ (Nat.le_of_ble_eq_true rfl) (Nat.le_of_ble_eq_true rfl) dL_setStapled_25
    · refine s_lconst (pc := 11) S (v := lN 1) dL_setStapled_11 (by decide) ?_
      refine s_goto (pc := 12) S 16 dL_setStapled_12 (by decide) ?_
      refine s_lout (pc := 16) S hz (o := 1) hA.1.2.2.1 dL_setStapled_16 ?_
      refine s_goto (pc := 17) S 24 dL_setStapled_17 (by decide) ?_
      refine s_iconst (pc := 24) S (v := nI 0) dL_setStapled_24 (by decide) ?_
      exact s_iret (pc := 25) S hz hlo hr ⟨0, rfl, Or.inl ⟨rfl, r, 1, C2, Or.inr ⟨c0, rfl⟩, rfl, h6⟩⟩ (Nat.le_of_ble_eq_true rfl) (Nat.le_of_ble_eq_true rfl) dL_setStapled_25
set_option maxHeartbeats 4000000 in
set_option maxRecDepth 100000 in
theorem k_L_cancel (Z : Zp) (l : Launch) (A : AF) (C : CF) (hI : Iv C) (x : Int32) (hfl : l.stackTraces = false) : CtS Z l yL_cancel wsL_cancel ({ frames := 8, cells := 2, slots := 12, locals := 134 }) [.ref (A 0 0), .int x, .ref (A 70 0)] A C 2 12 (fun v A2 C2 => ∃ k : Nat, some (.int (nI k)) = v ∧ W_cancel A C x k A2 C2) (fun _ _ _ => False) := by
  refine CtS.ofH (cc0 := cL_cancel) (maxL := 4) (ret := some .int) (hh := [(0, 9, 12, 25), (0, 9, 15, 15)]) (by decide) rfl (Nat.le_of_ble_eq_true rfl) ?_
  intro M0_ p_ e_ s_ m_ args_ below_ meth_ c_ S hz hml htb hlo hr
  refine s_loc (L2 := [(0, .ref (A 0 0)), (1, .int x), (2, .ref (A 70 0))]) rfl ?_
  refine s_aload_n (pc := 0) S 2 dL_cancel_0 rfl rfl ?_
  refine s_iconst (pc := 1) S (v := nI 0) dL_cancel_1 (by decide) ?_
  refine s_aload_n (pc := 2) S 0 dL_cancel_2 rfl rfl ?_
  refine s_iload_n (pc := 3) S 1 dL_cancel_3 rfl rfl ?_
  refine s_callV (pc := 4) S hz hml [.int x] (k_X6_cancel Z l A C x (hI.1.okk hI.2.1 hI.2.2) hfl) (cwV 1 S.2.2.2.2 gL_cancel_X6_cancel rfl rfl rfl (by decide +kernel) ⟨(Nat.le_of_ble_eq_true rfl), (Nat.le_of_ble_eq_true rfl)⟩) (cc_farm (A := A) (C := C)) rfl rfl rfl (Nat.le_of_ble_eq_true rfl) dL_cancel_4 ⟨(Nat.le_of_ble_eq_true rfl), (Nat.le_of_ble_eq_true rfl)⟩ (fun E_ A2 C2 h => ?_) (fun v A2 C2 h => ?_)
  · have h6 : E6_cancel A C x E_ A2 C2 := h
    obtain ⟨hE, -, -⟩ := e6_cancel h6
    rcases hE with rfl | rfl
    · refine s_catch (E := "java/lang/IndexOutOfBoundsException") S hz htb [] (⟨0, 9, 12, 25⟩ : ExceptionTableEntry) [(⟨0, 9, 15, 15⟩ : ExceptionTableEntry)] rfl (fun z h => absurd h List.not_mem_nil) (by decide) (by decide) link_IOB cast_IOB 12 rfl (fun q_ => ?_)
      refine s_astore_n (pc := 12) S [(3, .ref q_), (0, .ref (A 0 0)), (1, .int x), (2, .ref (A 70 0))] dL_cancel_12 rfl (by decide) rfl ?_
      refine s_iconst (pc := 13) S (v := nI 1) dL_cancel_13 (by decide) ?_
      exact s_iret (pc := 14) S hz hlo hr ⟨1, rfl, Or.inr (Or.inl ⟨rfl, h6⟩)⟩ (Nat.le_of_ble_eq_true rfl) (Nat.le_of_ble_eq_true rfl) dL_cancel_14
    · refine s_catch (E := "java/lang/IllegalStateException") S hz htb [(⟨0, 9, 12, 25⟩ : ExceptionTableEntry)] (⟨0, 9, 15, 15⟩ : ExceptionTableEntry) [] rfl (List.forall_mem_cons.mpr ⟨⟨by decide, "java/lang/IndexOutOfBoundsException", link_IOB, by decide +kernel⟩, fun _ h => absurd h List.not_mem_nil⟩) (by decide) (by decide) link_ISE cast_ISE 15 rfl (fun q_ => ?_)
      refine s_astore_n (pc := 15) S [(3, .ref q_), (0, .ref (A 0 0)), (1, .int x), (2, .ref (A 70 0))] dL_cancel_15 rfl (by decide) rfl ?_
      refine s_iconst (pc := 16) S (v := nI 2) dL_cancel_16 (by decide) ?_
      exact s_iret (pc := 17) S hz hlo hr ⟨2, rfl, Or.inr (Or.inr (⟨rfl, h6⟩))⟩ (Nat.le_of_ble_eq_true rfl) (Nat.le_of_ble_eq_true rfl) dL_cancel_17
  · have h6 : K6_cancel A C x v A2 C2 := h
    obtain ⟨⟨r, rfl⟩, hA, -⟩ := v6_cancel h6
    obtain ⟨o, ho⟩ := lN_ex r.toInt64
    refine s_i2l (pc := 7) S (v := lN o) dL_cancel_7 ho.symm ?_
    refine s_lout (pc := 8) S hz (o := o) hA.1.2.2.1 dL_cancel_8 ?_
    refine s_goto (pc := 9) S 18 dL_cancel_9 (by decide) ?_
    refine s_iconst (pc := 18) S (v := nI 0) dL_cancel_18 (by decide) ?_
    exact s_iret (pc := 19) S hz hlo hr ⟨0, rfl, Or.inl ⟨rfl, r, o, C2, ho, rfl, h6⟩⟩ (Nat.le_of_ble_eq_true rfl) (Nat.le_of_ble_eq_true rfl) dL_cancel_19
set_option maxHeartbeats 4000000 in
set_option maxRecDepth 100000 in
theorem k_L_stateOf (Z : Zp) (l : Launch) (A : AF) (C : CF) (hI : Iv C) (x : Int32) (hfl : l.stackTraces = false) : CtS Z l yL_stateOf wsL_stateOf ({ frames := 8, cells := 1, slots := 6, locals := 134 }) [.ref (A 0 0), .int x, .ref (A 70 0)] A C 1 6 (fun v A2 C2 => ∃ k : Nat, some (.int (nI k)) = v ∧ W_stateOf A C x k A2 C2) (fun _ _ _ => False) := by
  refine CtS.ofH (cc0 := cL_stateOf) (maxL := 4) (ret := some .int) (hh := [(0, 9, 12, 25)]) (by decide) rfl (Nat.le_of_ble_eq_true rfl) ?_
  intro M0_ p_ e_ s_ m_ args_ below_ meth_ c_ S hz hml htb hlo hr
  refine s_loc (L2 := [(0, .ref (A 0 0)), (1, .int x), (2, .ref (A 70 0))]) rfl ?_
  refine s_aload_n (pc := 0) S 2 dL_stateOf_0 rfl rfl ?_
  refine s_iconst (pc := 1) S (v := nI 0) dL_stateOf_1 (by decide) ?_
  refine s_aload_n (pc := 2) S 0 dL_stateOf_2 rfl rfl ?_
  refine s_iload_n (pc := 3) S 1 dL_stateOf_3 rfl rfl ?_
  refine s_callV (pc := 4) S hz hml [.int x] (k_X6_stateOf Z l A C x (hI.1.okk hI.2.1 hI.2.2) hfl) (cwV 1 S.2.2.2.2 gL_stateOf_X6_stateOf rfl rfl rfl (by decide +kernel) ⟨(Nat.le_of_ble_eq_true rfl), (Nat.le_of_ble_eq_true rfl)⟩) (cc_farm (A := A) (C := C)) rfl rfl rfl (Nat.le_of_ble_eq_true rfl) dL_stateOf_4 ⟨(Nat.le_of_ble_eq_true rfl), (Nat.le_of_ble_eq_true rfl)⟩ (fun E_ A2 C2 h => ?_) (fun v A2 C2 h => ?_)
  · have h6 : E6_stateOf A C x E_ A2 C2 := h
    obtain ⟨hE, -, -⟩ := e6_stateOf h6
    rcases hE with rfl
    refine s_catch (E := "java/lang/IndexOutOfBoundsException") S hz htb [] (⟨0, 9, 12, 25⟩ : ExceptionTableEntry) [] rfl (fun z h => absurd h List.not_mem_nil) (by decide) (by decide) link_IOB cast_IOB 12 rfl (fun q_ => ?_)
    refine s_astore_n (pc := 12) S [(3, .ref q_), (0, .ref (A 0 0)), (1, .int x), (2, .ref (A 70 0))] dL_stateOf_12 rfl (by decide) rfl ?_
    refine s_iconst (pc := 13) S (v := nI 1) dL_stateOf_13 (by decide) ?_
    exact s_iret (pc := 14) S hz hlo hr ⟨1, rfl, Or.inr (⟨rfl, h6⟩)⟩ (Nat.le_of_ble_eq_true rfl) (Nat.le_of_ble_eq_true rfl) dL_stateOf_14
  · have h6 : K6_stateOf A C x v A2 C2 := h
    obtain ⟨⟨r, rfl⟩, hA, -⟩ := v6_stateOf h6
    obtain ⟨o, ho⟩ := lN_ex r.toInt64
    refine s_i2l (pc := 7) S (v := lN o) dL_stateOf_7 ho.symm ?_
    refine s_lout (pc := 8) S hz (o := o) hA.1.2.2.1 dL_stateOf_8 ?_
    refine s_goto (pc := 9) S 15 dL_stateOf_9 (by decide) ?_
    refine s_iconst (pc := 15) S (v := nI 0) dL_stateOf_15 (by decide) ?_
    exact s_iret (pc := 16) S hz hlo hr ⟨0, rfl, Or.inl ⟨rfl, r, o, C2, ho, rfl, h6⟩⟩ (Nat.le_of_ble_eq_true rfl) (Nat.le_of_ble_eq_true rfl) dL_stateOf_16
set_option maxHeartbeats 4000000 in
set_option maxRecDepth 100000 in
theorem k_L_pagesLeft (Z : Zp) (l : Launch) (A : AF) (C : CF) (hI : Iv C) (x : Int32) (hfl : l.stackTraces = false) : CtS Z l yL_pagesLeft wsL_pagesLeft ({ frames := 8, cells := 1, slots := 6, locals := 133 }) [.ref (A 0 0), .int x, .ref (A 70 0)] A C 1 6 (fun v A2 C2 => ∃ k : Nat, some (.int (nI k)) = v ∧ W_pagesLeft A C x k A2 C2) (fun _ _ _ => False) := by
  refine CtS.ofH (cc0 := cL_pagesLeft) (maxL := 4) (ret := some .int) (hh := [(0, 9, 12, 25)]) (by decide) rfl (Nat.le_of_ble_eq_true rfl) ?_
  intro M0_ p_ e_ s_ m_ args_ below_ meth_ c_ S hz hml htb hlo hr
  refine s_loc (L2 := [(0, .ref (A 0 0)), (1, .int x), (2, .ref (A 70 0))]) rfl ?_
  refine s_aload_n (pc := 0) S 2 dL_pagesLeft_0 rfl rfl ?_
  refine s_iconst (pc := 1) S (v := nI 0) dL_pagesLeft_1 (by decide) ?_
  refine s_aload_n (pc := 2) S 0 dL_pagesLeft_2 rfl rfl ?_
  refine s_iload_n (pc := 3) S 1 dL_pagesLeft_3 rfl rfl ?_
  refine s_callV (pc := 4) S hz hml [.int x] (k_X6_pagesLeft Z l A C x (hI.1.okk hI.2.1 hI.2.2) hfl) (cwV 1 S.2.2.2.2 gL_pagesLeft_X6_pagesLeft rfl rfl rfl (by decide +kernel) ⟨(Nat.le_of_ble_eq_true rfl), (Nat.le_of_ble_eq_true rfl)⟩) (cc_farm (A := A) (C := C)) rfl rfl rfl (Nat.le_of_ble_eq_true rfl) dL_pagesLeft_4 ⟨(Nat.le_of_ble_eq_true rfl), (Nat.le_of_ble_eq_true rfl)⟩ (fun E_ A2 C2 h => ?_) (fun v A2 C2 h => ?_)
  · have h6 : E6_pagesLeft A C x E_ A2 C2 := h
    obtain ⟨hE, -, -⟩ := e6_pagesLeft h6
    rcases hE with rfl
    refine s_catch (E := "java/lang/IndexOutOfBoundsException") S hz htb [] (⟨0, 9, 12, 25⟩ : ExceptionTableEntry) [] rfl (fun z h => absurd h List.not_mem_nil) (by decide) (by decide) link_IOB cast_IOB 12 rfl (fun q_ => ?_)
    refine s_astore_n (pc := 12) S [(3, .ref q_), (0, .ref (A 0 0)), (1, .int x), (2, .ref (A 70 0))] dL_pagesLeft_12 rfl (by decide) rfl ?_
    refine s_iconst (pc := 13) S (v := nI 1) dL_pagesLeft_13 (by decide) ?_
    exact s_iret (pc := 14) S hz hlo hr ⟨1, rfl, Or.inr (⟨rfl, h6⟩)⟩ (Nat.le_of_ble_eq_true rfl) (Nat.le_of_ble_eq_true rfl) dL_pagesLeft_14
  · have h6 : K6_pagesLeft A C x v A2 C2 := h
    obtain ⟨⟨r, rfl⟩, hA, -⟩ := v6_pagesLeft h6
    obtain ⟨o, ho⟩ := lN_ex r.toInt64
    refine s_i2l (pc := 7) S (v := lN o) dL_pagesLeft_7 ho.symm ?_
    refine s_lout (pc := 8) S hz (o := o) hA.1.2.2.1 dL_pagesLeft_8 ?_
    refine s_goto (pc := 9) S 15 dL_pagesLeft_9 (by decide) ?_
    refine s_iconst (pc := 15) S (v := nI 0) dL_pagesLeft_15 (by decide) ?_
    exact s_iret (pc := 16) S hz hlo hr ⟨0, rfl, Or.inl ⟨rfl, r, o, C2, ho, rfl, h6⟩⟩ (Nat.le_of_ble_eq_true rfl) (Nat.le_of_ble_eq_true rfl) dL_pagesLeft_16
set_option maxHeartbeats 4000000 in
set_option maxRecDepth 100000 in
theorem k_L_sheetsOut (Z : Zp) (l : Launch) (A : AF) (C : CF) (hI : Iv C) (x : Int32) (hfl : l.stackTraces = false) : CtS Z l yL_sheetsOut wsL_sheetsOut ({ frames := 8, cells := 1, slots := 6, locals := 133 }) [.ref (A 0 0), .int x, .ref (A 70 0)] A C 1 6 (fun v A2 C2 => ∃ k : Nat, some (.int (nI k)) = v ∧ W_sheetsOut A C x k A2 C2) (fun _ _ _ => False) := by
  refine CtS.ofH (cc0 := cL_sheetsOut) (maxL := 4) (ret := some .int) (hh := [(0, 9, 12, 25)]) (by decide) rfl (Nat.le_of_ble_eq_true rfl) ?_
  intro M0_ p_ e_ s_ m_ args_ below_ meth_ c_ S hz hml htb hlo hr
  refine s_loc (L2 := [(0, .ref (A 0 0)), (1, .int x), (2, .ref (A 70 0))]) rfl ?_
  refine s_aload_n (pc := 0) S 2 dL_sheetsOut_0 rfl rfl ?_
  refine s_iconst (pc := 1) S (v := nI 0) dL_sheetsOut_1 (by decide) ?_
  refine s_aload_n (pc := 2) S 0 dL_sheetsOut_2 rfl rfl ?_
  refine s_iload_n (pc := 3) S 1 dL_sheetsOut_3 rfl rfl ?_
  refine s_callV (pc := 4) S hz hml [.int x] (k_X6_sheetsOut Z l A C x (hI.1.okk hI.2.1 hI.2.2) hfl) (cwV 1 S.2.2.2.2 gL_sheetsOut_X6_sheetsOut rfl rfl rfl (by decide +kernel) ⟨(Nat.le_of_ble_eq_true rfl), (Nat.le_of_ble_eq_true rfl)⟩) (cc_farm (A := A) (C := C)) rfl rfl rfl (Nat.le_of_ble_eq_true rfl) dL_sheetsOut_4 ⟨(Nat.le_of_ble_eq_true rfl), (Nat.le_of_ble_eq_true rfl)⟩ (fun E_ A2 C2 h => ?_) (fun v A2 C2 h => ?_)
  · have h6 : E6_sheetsOut A C x E_ A2 C2 := h
    obtain ⟨hE, -, -⟩ := e6_sheetsOut h6
    rcases hE with rfl
    refine s_catch (E := "java/lang/IndexOutOfBoundsException") S hz htb [] (⟨0, 9, 12, 25⟩ : ExceptionTableEntry) [] rfl (fun z h => absurd h List.not_mem_nil) (by decide) (by decide) link_IOB cast_IOB 12 rfl (fun q_ => ?_)
    refine s_astore_n (pc := 12) S [(3, .ref q_), (0, .ref (A 0 0)), (1, .int x), (2, .ref (A 70 0))] dL_sheetsOut_12 rfl (by decide) rfl ?_
    refine s_iconst (pc := 13) S (v := nI 1) dL_sheetsOut_13 (by decide) ?_
    exact s_iret (pc := 14) S hz hlo hr ⟨1, rfl, Or.inr (⟨rfl, h6⟩)⟩ (Nat.le_of_ble_eq_true rfl) (Nat.le_of_ble_eq_true rfl) dL_sheetsOut_14
  · have h6 : K6_sheetsOut A C x v A2 C2 := h
    obtain ⟨⟨r, rfl⟩, hA, -⟩ := v6_sheetsOut h6
    obtain ⟨o, ho⟩ := lN_ex r.toInt64
    refine s_i2l (pc := 7) S (v := lN o) dL_sheetsOut_7 ho.symm ?_
    refine s_lout (pc := 8) S hz (o := o) hA.1.2.2.1 dL_sheetsOut_8 ?_
    refine s_goto (pc := 9) S 15 dL_sheetsOut_9 (by decide) ?_
    refine s_iconst (pc := 15) S (v := nI 0) dL_sheetsOut_15 (by decide) ?_
    exact s_iret (pc := 16) S hz hlo hr ⟨0, rfl, Or.inl ⟨rfl, r, o, C2, ho, rfl, h6⟩⟩ (Nat.le_of_ble_eq_true rfl) (Nat.le_of_ble_eq_true rfl) dL_sheetsOut_16
set_option maxHeartbeats 4000000 in
set_option maxRecDepth 100000 in
theorem k_L_stapledCopies (Z : Zp) (l : Launch) (A : AF) (C : CF) (hI : Iv C) (x : Int32) (hfl : l.stackTraces = false) : CtS Z l yL_stapledCopies wsL_stapledCopies ({ frames := 8, cells := 1, slots := 6, locals := 133 }) [.ref (A 0 0), .int x, .ref (A 70 0)] A C 1 6 (fun v A2 C2 => ∃ k : Nat, some (.int (nI k)) = v ∧ W_stapledCopies A C x k A2 C2) (fun _ _ _ => False) := by
  refine CtS.ofH (cc0 := cL_stapledCopies) (maxL := 4) (ret := some .int) (hh := [(0, 9, 12, 25)]) (by decide) rfl (Nat.le_of_ble_eq_true rfl) ?_
  intro M0_ p_ e_ s_ m_ args_ below_ meth_ c_ S hz hml htb hlo hr
  refine s_loc (L2 := [(0, .ref (A 0 0)), (1, .int x), (2, .ref (A 70 0))]) rfl ?_
  refine s_aload_n (pc := 0) S 2 dL_stapledCopies_0 rfl rfl ?_
  refine s_iconst (pc := 1) S (v := nI 0) dL_stapledCopies_1 (by decide) ?_
  refine s_aload_n (pc := 2) S 0 dL_stapledCopies_2 rfl rfl ?_
  refine s_iload_n (pc := 3) S 1 dL_stapledCopies_3 rfl rfl ?_
  refine s_callV (pc := 4) S hz hml [.int x] (k_X6_stapledCopies Z l A C x (hI.1.okk hI.2.1 hI.2.2) hfl) (cwV 1 S.2.2.2.2 gL_stapledCopies_X6_stapledCopies rfl rfl rfl (by decide +kernel) ⟨(Nat.le_of_ble_eq_true rfl), (Nat.le_of_ble_eq_true rfl)⟩) (cc_farm (A := A) (C := C)) rfl rfl rfl (Nat.le_of_ble_eq_true rfl) dL_stapledCopies_4 ⟨(Nat.le_of_ble_eq_true rfl), (Nat.le_of_ble_eq_true rfl)⟩ (fun E_ A2 C2 h => ?_) (fun v A2 C2 h => ?_)
  · have h6 : E6_stapledCopies A C x E_ A2 C2 := h
    obtain ⟨hE, -, -⟩ := e6_stapledCopies h6
    rcases hE with rfl
    refine s_catch (E := "java/lang/IndexOutOfBoundsException") S hz htb [] (⟨0, 9, 12, 25⟩ : ExceptionTableEntry) [] rfl (fun z h => absurd h List.not_mem_nil) (by decide) (by decide) link_IOB cast_IOB 12 rfl (fun q_ => ?_)
    refine s_astore_n (pc := 12) S [(3, .ref q_), (0, .ref (A 0 0)), (1, .int x), (2, .ref (A 70 0))] dL_stapledCopies_12 rfl (by decide) rfl ?_
    refine s_iconst (pc := 13) S (v := nI 1) dL_stapledCopies_13 (by decide) ?_
    exact s_iret (pc := 14) S hz hlo hr ⟨1, rfl, Or.inr (⟨rfl, h6⟩)⟩ (Nat.le_of_ble_eq_true rfl) (Nat.le_of_ble_eq_true rfl) dL_stapledCopies_14
  · have h6 : K6_stapledCopies A C x v A2 C2 := h
    obtain ⟨⟨r, rfl⟩, hA, -⟩ := v6_stapledCopies h6
    obtain ⟨o, ho⟩ := lN_ex r.toInt64
    refine s_i2l (pc := 7) S (v := lN o) dL_stapledCopies_7 ho.symm ?_
    refine s_lout (pc := 8) S hz (o := o) hA.1.2.2.1 dL_stapledCopies_8 ?_
    refine s_goto (pc := 9) S 15 dL_stapledCopies_9 (by decide) ?_
    refine s_iconst (pc := 15) S (v := nI 0) dL_stapledCopies_15 (by decide) ?_
    exact s_iret (pc := 16) S hz hlo hr ⟨0, rfl, Or.inl ⟨rfl, r, o, C2, ho, rfl, h6⟩⟩ (Nat.le_of_ble_eq_true rfl) (Nat.le_of_ble_eq_true rfl) dL_stapledCopies_16
set_option maxHeartbeats 4000000 in
set_option maxRecDepth 100000 in
theorem k_L_reasonFor (Z : Zp) (l : Launch) (A : AF) (C : CF) (hI : Iv C) (x y : Int32) (hfl : l.stackTraces = false) : CtS Z l yL_reasonFor wsL_reasonFor ({ frames := 8, cells := 2, slots := 12, locals := 134 }) [.ref (A 0 0), .int x, .int y, .ref (A 70 0)] A C 2 12 (fun v A2 C2 => ∃ k : Nat, some (.int (nI k)) = v ∧ W_reasonFor A C x y k A2 C2) (fun _ _ _ => False) := by
  refine CtS.ofH (cc0 := cL_reasonFor) (maxL := 5) (ret := some .int) (hh := [(0, 10, 13, 25)]) (by decide) rfl (Nat.le_of_ble_eq_true rfl) ?_
  intro M0_ p_ e_ s_ m_ args_ below_ meth_ c_ S hz hml htb hlo hr
  refine s_loc (L2 := [(0, .ref (A 0 0)), (1, .int x), (2, .int y), (3, .ref (A 70 0))]) rfl ?_
  refine s_aload_n (pc := 0) S 3 dL_reasonFor_0 rfl rfl ?_
  refine s_iconst (pc := 1) S (v := nI 0) dL_reasonFor_1 (by decide) ?_
  refine s_aload_n (pc := 2) S 0 dL_reasonFor_2 rfl rfl ?_
  refine s_iload_n (pc := 3) S 1 dL_reasonFor_3 rfl rfl ?_
  refine s_iload_n (pc := 4) S 2 dL_reasonFor_4 rfl rfl ?_
  refine s_callV (pc := 5) S hz hml [.int x, .int y] (k_X6_reasonFor Z l A C C hI.1 hI.2.1 hI.2.2 x y hfl) (cwV 2 S.2.2.2.2 gL_reasonFor_X6_reasonFor rfl rfl rfl (by decide +kernel) ⟨(Nat.le_of_ble_eq_true rfl), (Nat.le_of_ble_eq_true rfl)⟩) (cc_farm (A := A) (C := C)) rfl rfl rfl (Nat.le_of_ble_eq_true rfl) dL_reasonFor_5 ⟨(Nat.le_of_ble_eq_true rfl), (Nat.le_of_ble_eq_true rfl)⟩ (fun E_ A2 C2 h => ?_) (fun v A2 C2 h => ?_)
  · have h6 : E6_reasonFor A C x y E_ A2 C2 := h
    obtain ⟨hE, -, -⟩ := e6_reasonFor h6
    rcases hE with rfl
    refine s_catch (E := "java/lang/IndexOutOfBoundsException") S hz htb [] (⟨0, 10, 13, 25⟩ : ExceptionTableEntry) [] rfl (fun z h => absurd h List.not_mem_nil) (by decide) (by decide) link_IOB cast_IOB 13 rfl (fun q_ => ?_)
    refine s_astore (pc := 13) S [(4, .ref q_), (0, .ref (A 0 0)), (1, .int x), (2, .int y), (3, .ref (A 70 0))] dL_reasonFor_13 (by decide) rfl ?_
    refine s_iconst (pc := 15) S (v := nI 1) dL_reasonFor_15 (by decide) ?_
    exact s_iret (pc := 16) S hz hlo hr ⟨1, rfl, Or.inr (⟨rfl, h6⟩)⟩ (Nat.le_of_ble_eq_true rfl) (Nat.le_of_ble_eq_true rfl) dL_reasonFor_16
  · have h6 : K6_reasonFor A C x y v A2 C2 := h
    obtain ⟨⟨r, rfl⟩, hA, -⟩ := v6_reasonFor h6
    obtain ⟨o, ho⟩ := lN_ex r.toInt64
    refine s_i2l (pc := 8) S (v := lN o) dL_reasonFor_8 ho.symm ?_
    refine s_lout (pc := 9) S hz (o := o) hA.1.2.2.1 dL_reasonFor_9 ?_
    refine s_goto (pc := 10) S 17 dL_reasonFor_10 (by decide) ?_
    refine s_iconst (pc := 17) S (v := nI 0) dL_reasonFor_17 (by decide) ?_
    exact s_iret (pc := 18) S hz hlo hr ⟨0, rfl, Or.inl ⟨rfl, r, o, C2, ho, rfl, h6⟩⟩ (Nat.le_of_ble_eq_true rfl) (Nat.le_of_ble_eq_true rfl) dL_reasonFor_18
set_option maxHeartbeats 4000000 in
set_option maxRecDepth 100000 in
theorem k_L_wouldPrint (Z : Zp) (l : Launch) (A : AF) (C : CF) (hI : Iv C) (x y : Int32) (hfl : l.stackTraces = false) : CtS Z l yL_wouldPrint wsL_wouldPrint ({ frames := 8, cells := 2, slots := 12, locals := 151 }) [.ref (A 0 0), .int x, .int y, .ref (A 70 0)] A C 2 12 (fun v A2 C2 => ∃ k : Nat, some (.int (nI k)) = v ∧ W_wouldPrint A C x y k A2 C2) (fun _ _ _ => False) := by
  refine CtS.ofH (cc0 := cL_wouldPrint) (maxL := 5) (ret := some .int) (hh := [(0, 10, 13, 25)]) (by decide) rfl (Nat.le_of_ble_eq_true rfl) ?_
  intro M0_ p_ e_ s_ m_ args_ below_ meth_ c_ S hz hml htb hlo hr
  refine s_loc (L2 := [(0, .ref (A 0 0)), (1, .int x), (2, .int y), (3, .ref (A 70 0))]) rfl ?_
  refine s_aload_n (pc := 0) S 3 dL_wouldPrint_0 rfl rfl ?_
  refine s_iconst (pc := 1) S (v := nI 0) dL_wouldPrint_1 (by decide) ?_
  refine s_aload_n (pc := 2) S 0 dL_wouldPrint_2 rfl rfl ?_
  refine s_iload_n (pc := 3) S 1 dL_wouldPrint_3 rfl rfl ?_
  refine s_iload_n (pc := 4) S 2 dL_wouldPrint_4 rfl rfl ?_
  refine s_callV (pc := 5) S hz hml [.int x, .int y] (k_X6_wouldPrint Z l A C C hI.1 hI.2.1 hI.2.2 x y hfl) (cwV 2 S.2.2.2.2 gL_wouldPrint_X6_wouldPrint rfl rfl rfl (by decide +kernel) ⟨(Nat.le_of_ble_eq_true rfl), (Nat.le_of_ble_eq_true rfl)⟩) (cc_farm (A := A) (C := C)) rfl rfl rfl (Nat.le_of_ble_eq_true rfl) dL_wouldPrint_5 ⟨(Nat.le_of_ble_eq_true rfl), (Nat.le_of_ble_eq_true rfl)⟩ (fun E_ A2 C2 h => ?_) (fun v A2 C2 h => ?_)
  · have h6 : E6_wouldPrint A C x y E_ A2 C2 := h
    obtain ⟨hE, -, -⟩ := e6_wouldPrint h6
    rcases hE with rfl
    refine s_catch (E := "java/lang/IndexOutOfBoundsException") S hz htb [] (⟨0, 10, 13, 25⟩ : ExceptionTableEntry) [] rfl (fun z h => absurd h List.not_mem_nil) (by decide) (by decide) link_IOB cast_IOB 13 rfl (fun q_ => ?_)
    refine s_astore (pc := 13) S [(4, .ref q_), (0, .ref (A 0 0)), (1, .int x), (2, .int y), (3, .ref (A 70 0))] dL_wouldPrint_13 (by decide) rfl ?_
    refine s_iconst (pc := 15) S (v := nI 1) dL_wouldPrint_15 (by decide) ?_
    exact s_iret (pc := 16) S hz hlo hr ⟨1, rfl, Or.inr (⟨rfl, h6⟩)⟩ (Nat.le_of_ble_eq_true rfl) (Nat.le_of_ble_eq_true rfl) dL_wouldPrint_16
  · have h6 : K6_wouldPrint A C x y v A2 C2 := h
    obtain ⟨⟨r, rfl⟩, hA, -⟩ := v6_wouldPrint h6
    obtain ⟨o, ho⟩ := lN_ex r.toInt64
    refine s_i2l (pc := 8) S (v := lN o) dL_wouldPrint_8 ho.symm ?_
    refine s_lout (pc := 9) S hz (o := o) hA.1.2.2.1 dL_wouldPrint_9 ?_
    refine s_goto (pc := 10) S 17 dL_wouldPrint_10 (by decide) ?_
    refine s_iconst (pc := 17) S (v := nI 0) dL_wouldPrint_17 (by decide) ?_
    exact s_iret (pc := 18) S hz hlo hr ⟨0, rfl, Or.inl ⟨rfl, r, o, C2, ho, rfl, h6⟩⟩ (Nat.le_of_ble_eq_true rfl) (Nat.le_of_ble_eq_true rfl) dL_wouldPrint_18
set_option maxHeartbeats 4000000 in
set_option maxRecDepth 100000 in
theorem k_L_release (Z : Zp) (l : Launch) (A : AF) (C : CF) (hI : Iv C) (x y : Int32) (hA7 : C 7 100 0 = 0 → A 7 0 = zD Z) (hlg : C 4 0 2 + 1 ≤ 40000) (mc ms : Nat) (hm3 : 3 ≤ mc ∧ 18 ≤ ms) (hmr : ∀ k p : Nat, nI k = x → nI p = y → k < C 0 0 5 → p < C 0 0 4 → 0 < nR (up3 C 60 100 27 0) k p → 2 + lgC C ≤ mc ∧ 12 + lgS C ≤ ms) (hfl : l.stackTraces = false) : CtS Z l yL_release wsL_release ({ frames := 9, cells := mc, slots := ms, locals := 246 }) [.ref (A 0 0), .int x, .int y, .ref (A 70 0)] A C mc ms (fun v A2 C2 => ∃ k : Nat, some (.int (nI k)) = v ∧ W_release A C x y k A2 C2) (fun _ _ _ => False) := by
  refine CtS.ofH (cc0 := cL_release) (maxL := 5) (ret := some .int) (hh := [(0, 10, 13, 25), (0, 10, 17, 50)]) (by decide) rfl (Nat.le_of_ble_eq_true rfl) ?_
  intro M0_ p_ e_ s_ m_ args_ below_ meth_ c_ S hz hml htb hlo hr
  refine s_loc (L2 := [(0, .ref (A 0 0)), (1, .int x), (2, .int y), (3, .ref (A 70 0))]) rfl ?_
  refine s_aload_n (pc := 0) S 3 dL_release_0 rfl rfl ?_
  refine s_iconst (pc := 1) S (v := nI 0) dL_release_1 (by decide) ?_
  refine s_aload_n (pc := 2) S 0 dL_release_2 rfl rfl ?_
  refine s_iload_n (pc := 3) S 1 dL_release_3 rfl rfl ?_
  refine s_iload_n (pc := 4) S 2 dL_release_4 rfl rfl ?_
  refine s_callV (pc := 5) S hz hml [.int x, .int y] (k_X6_release Z l A C (up3 C 60 100 27 0) (keep_th hI.1 hI.2.1 hI.2.2 0).1 (keep_th hI.1 hI.2.1 hI.2.2 0).2.1 (keep_th hI.1 hI.2.1 hI.2.2 0).2.2 x y hA7 hlg mc ms hm3 hmr hfl) (cwV 2 S.2.2.2.2 gL_release_X6_release rfl rfl rfl (by decide +kernel) ⟨(Nat.le_of_ble_eq_true rfl), (Nat.le_of_ble_eq_true rfl)⟩) (cc_farm (A := A) (C := C)) rfl rfl rfl (Nat.le_of_ble_eq_true rfl) dL_release_5 ⟨(Nat.le_of_eq (Nat.zero_add _)), (Nat.le_of_eq (Nat.zero_add _))⟩ (fun E_ A2 C2 h => ?_) (fun v A2 C2 h => ?_)
  · have h6 : E6_release A C x y E_ A2 C2 := h
    obtain ⟨hE, -, -⟩ := e6_release h6
    rcases hE with rfl | rfl
    · refine s_catch (E := "java/lang/IndexOutOfBoundsException") S hz htb [] (⟨0, 10, 13, 25⟩ : ExceptionTableEntry) [(⟨0, 10, 17, 50⟩ : ExceptionTableEntry)] rfl (fun z h => absurd h List.not_mem_nil) (by decide) (by decide) link_IOB cast_IOB 13 rfl (fun q_ => ?_)
      refine s_astore (pc := 13) S [(4, .ref q_), (0, .ref (A 0 0)), (1, .int x), (2, .int y), (3, .ref (A 70 0))] dL_release_13 (by decide) rfl ?_
      refine s_iconst (pc := 15) S (v := nI 1) dL_release_15 (by decide) ?_
      exact s_iret (pc := 16) S hz hlo hr ⟨1, rfl, Or.inr (Or.inl ⟨rfl, h6⟩)⟩ (Nat.le_of_eq (Nat.zero_add _)) (Nat.le_of_eq (Nat.zero_add _)) dL_release_16
    · refine s_catch (E := "java/lang/UnsupportedOperationException") S hz htb [(⟨0, 10, 13, 25⟩ : ExceptionTableEntry)] (⟨0, 10, 17, 50⟩ : ExceptionTableEntry) [] rfl (List.forall_mem_cons.mpr ⟨⟨by decide, "java/lang/IndexOutOfBoundsException", link_IOB, by decide +kernel⟩, fun _ h => absurd h List.not_mem_nil⟩) (by decide) (by decide) link_UOE cast_UOE 17 rfl (fun q_ => ?_)
      refine s_astore (pc := 17) S [(4, .ref q_), (0, .ref (A 0 0)), (1, .int x), (2, .int y), (3, .ref (A 70 0))] dL_release_17 (by decide) rfl ?_
      refine s_iconst (pc := 19) S (v := nI 2) dL_release_19 (by decide) ?_
      exact s_iret (pc := 20) S hz hlo hr ⟨2, rfl, Or.inr (Or.inr (⟨rfl, h6⟩))⟩ (Nat.le_of_eq (Nat.zero_add _)) (Nat.le_of_eq (Nat.zero_add _)) dL_release_20
  · have h6 : K6_release A C x y v A2 C2 := h
    obtain ⟨⟨r, rfl⟩, hA, -⟩ := v6_release h6
    obtain ⟨o, ho⟩ := lN_ex r.toInt64
    refine s_i2l (pc := 8) S (v := lN o) dL_release_8 ho.symm ?_
    refine s_lout (pc := 9) S hz (o := o) hA.2.2.1 dL_release_9 ?_
    refine s_goto (pc := 10) S 21 dL_release_10 (by decide) ?_
    refine s_iconst (pc := 21) S (v := nI 0) dL_release_21 (by decide) ?_
    exact s_iret (pc := 22) S hz hlo hr ⟨0, rfl, Or.inl ⟨rfl, r, o, C2, ho, rfl, h6⟩⟩ (Nat.le_of_eq (Nat.zero_add _)) (Nat.le_of_eq (Nat.zero_add _)) dL_release_22
set_option maxHeartbeats 4000000 in
set_option maxRecDepth 100000 in
theorem k_L_releaseAll (Z : Zp) (l : Launch) (A : AF) (C : CF) (hI : Iv C) (x y : Int32) (hA7 : C 7 100 0 = 0 → A 7 0 = zD Z) (hlg4 : (up3 C 60 100 27 0) 60 100 31 + 40 ≤ 40000) (mc ms : Nat) (hm3 : 3 ≤ mc ∧ 18 ≤ ms) (hmr : ∀ u p : Nat, nI u = x → nI p = y → u < C 0 0 3 → p < C 0 0 4 → 2 + kaC (up3 C 60 100 27 0) u p ((up3 C 60 100 27 0) 60 100 30) ≤ mc ∧ 12 + kaL (up3 C 60 100 27 0) u p ((up3 C 60 100 27 0) 60 100 30) ≤ ms) (hfl : l.stackTraces = false) : CtS Z l yL_releaseAll wsL_releaseAll ({ frames := 9, cells := mc, slots := ms, locals := 251 }) [.ref (A 0 0), .int x, .int y, .ref (A 70 0)] A C mc ms (fun v A2 C2 => ∃ k : Nat, some (.int (nI k)) = v ∧ W_releaseAll A C Z x y k A2 C2) (fun _ _ _ => False) := by
  refine CtS.ofH (cc0 := cL_releaseAll) (maxL := 5) (ret := some .int) (hh := [(0, 10, 13, 25)]) (by decide) rfl (Nat.le_of_ble_eq_true rfl) ?_
  intro M0_ p_ e_ s_ m_ args_ below_ meth_ c_ S hz hml htb hlo hr
  refine s_loc (L2 := [(0, .ref (A 0 0)), (1, .int x), (2, .int y), (3, .ref (A 70 0))]) rfl ?_
  refine s_aload_n (pc := 0) S 3 dL_releaseAll_0 rfl rfl ?_
  refine s_iconst (pc := 1) S (v := nI 0) dL_releaseAll_1 (by decide) ?_
  refine s_aload_n (pc := 2) S 0 dL_releaseAll_2 rfl rfl ?_
  refine s_iload_n (pc := 3) S 1 dL_releaseAll_3 rfl rfl ?_
  refine s_iload_n (pc := 4) S 2 dL_releaseAll_4 rfl rfl ?_
  refine s_callV (pc := 5) S hz hml [.int x, .int y] (k_X6_releaseAll Z l A C (up3 C 60 100 27 0) (keep_th hI.1 hI.2.1 hI.2.2 0).1 (keep_th hI.1 hI.2.1 hI.2.2 0).2.1 (keep_th hI.1 hI.2.1 hI.2.2 0).2.2 x y hA7 hlg4 mc ms hm3 hmr hfl) (cwV 2 S.2.2.2.2 gL_releaseAll_X6_releaseAll rfl rfl rfl (by decide +kernel) ⟨(Nat.le_of_ble_eq_true rfl), (Nat.le_of_ble_eq_true rfl)⟩) (cc_farm (A := A) (C := C)) rfl rfl rfl (Nat.le_of_ble_eq_true rfl) dL_releaseAll_5 ⟨(Nat.le_of_eq (Nat.zero_add _)), (Nat.le_of_eq (Nat.zero_add _))⟩ (fun E_ A2 C2 h => ?_) (fun v A2 C2 h => ?_)
  · have h6 : E6_releaseAll A C Z x y E_ A2 C2 := h
    obtain ⟨hE, -, -⟩ := e6_releaseAll h6
    rcases hE with rfl
    refine s_catch (E := "java/lang/IndexOutOfBoundsException") S hz htb [] (⟨0, 10, 13, 25⟩ : ExceptionTableEntry) [] rfl (fun z h => absurd h List.not_mem_nil) (by decide) (by decide) link_IOB cast_IOB 13 rfl (fun q_ => ?_)
    refine s_astore (pc := 13) S [(4, .ref q_), (0, .ref (A 0 0)), (1, .int x), (2, .int y), (3, .ref (A 70 0))] dL_releaseAll_13 (by decide) rfl ?_
    refine s_iconst (pc := 15) S (v := nI 1) dL_releaseAll_15 (by decide) ?_
    exact s_iret (pc := 16) S hz hlo hr ⟨1, rfl, Or.inr (⟨rfl, h6⟩)⟩ (Nat.le_of_eq (Nat.zero_add _)) (Nat.le_of_eq (Nat.zero_add _)) dL_releaseAll_16
  · have h6 : K6_releaseAll A C Z x y v A2 C2 := h
    obtain ⟨⟨r, rfl⟩, hA, -⟩ := v6_releaseAll h6
    obtain ⟨o, ho⟩ := lN_ex r.toInt64
    refine s_i2l (pc := 8) S (v := lN o) dL_releaseAll_8 ho.symm ?_
    refine s_lout (pc := 9) S hz (o := o) hA.2.2.1 dL_releaseAll_9 ?_
    refine s_goto (pc := 10) S 17 dL_releaseAll_10 (by decide) ?_
    refine s_iconst (pc := 17) S (v := nI 0) dL_releaseAll_17 (by decide) ?_
    exact s_iret (pc := 18) S hz hlo hr ⟨0, rfl, Or.inl ⟨rfl, r, o, C2, ho, rfl, h6⟩⟩ (Nat.le_of_eq (Nat.zero_add _)) (Nat.le_of_eq (Nat.zero_add _)) dL_releaseAll_18
set_option maxHeartbeats 4000000 in
set_option maxRecDepth 100000 in
theorem k_L_stopOf (Z : Zp) (l : Launch) (A : AF) (C : CF) (hI : Iv C) (x : Int32) (hfl : l.stackTraces = false) : CtS Z l yL_stopOf wsL_stopOf ({ frames := 8, cells := 2, slots := 12, locals := 134 }) [.ref (A 0 0), .int x, .ref (A 70 0)] A C 2 12 (fun v A2 C2 => ∃ k : Nat, some (.int (nI k)) = v ∧ W_stopOf A C x k A2 C2) (fun _ _ _ => False) := by
  refine CtS.ofH (cc0 := cL_stopOf) (maxL := 4) (ret := some .int) (hh := [(0, 9, 12, 25), (0, 9, 15, 110)]) (by decide) rfl (Nat.le_of_ble_eq_true rfl) ?_
  intro M0_ p_ e_ s_ m_ args_ below_ meth_ c_ S hz hml htb hlo hr
  refine s_loc (L2 := [(0, .ref (A 0 0)), (1, .int x), (2, .ref (A 70 0))]) rfl ?_
  refine s_aload_n (pc := 0) S 2 dL_stopOf_0 rfl rfl ?_
  refine s_iconst (pc := 1) S (v := nI 0) dL_stopOf_1 (by decide) ?_
  refine s_aload_n (pc := 2) S 0 dL_stopOf_2 rfl rfl ?_
  refine s_iload_n (pc := 3) S 1 dL_stopOf_3 rfl rfl ?_
  refine s_callV (pc := 4) S hz hml [.int x] (k_X6_stopOf Z l A C x (hI.1.okk hI.2.1 hI.2.2) hfl) (cwV 1 S.2.2.2.2 gL_stopOf_X6_stopOf rfl rfl rfl (by decide +kernel) ⟨(Nat.le_of_ble_eq_true rfl), (Nat.le_of_ble_eq_true rfl)⟩) (cc_farm (A := A) (C := C)) rfl rfl rfl (Nat.le_of_ble_eq_true rfl) dL_stopOf_4 ⟨(Nat.le_of_ble_eq_true rfl), (Nat.le_of_ble_eq_true rfl)⟩ (fun E_ A2 C2 h => ?_) (fun v A2 C2 h => ?_)
  · have h6 : E6_stopOf A C x E_ A2 C2 := h
    obtain ⟨hE, -, -⟩ := e6_stopOf h6
    rcases hE with rfl | rfl
    · refine s_catch (E := "java/lang/IndexOutOfBoundsException") S hz htb [] (⟨0, 9, 12, 25⟩ : ExceptionTableEntry) [(⟨0, 9, 15, 110⟩ : ExceptionTableEntry)] rfl (fun z h => absurd h List.not_mem_nil) (by decide) (by decide) link_IOB cast_IOB 12 rfl (fun q_ => ?_)
      refine s_astore_n (pc := 12) S [(3, .ref q_), (0, .ref (A 0 0)), (1, .int x), (2, .ref (A 70 0))] dL_stopOf_12 rfl (by decide) rfl ?_
      refine s_iconst (pc := 13) S (v := nI 1) dL_stopOf_13 (by decide) ?_
      exact s_iret (pc := 14) S hz hlo hr ⟨1, rfl, Or.inr (Or.inl ⟨rfl, h6⟩)⟩ (Nat.le_of_ble_eq_true rfl) (Nat.le_of_ble_eq_true rfl) dL_stopOf_14
    · refine s_catch (E := "java/util/NoSuchElementException") S hz htb [(⟨0, 9, 12, 25⟩ : ExceptionTableEntry)] (⟨0, 9, 15, 110⟩ : ExceptionTableEntry) [] rfl (List.forall_mem_cons.mpr ⟨⟨by decide, "java/lang/IndexOutOfBoundsException", link_IOB, by decide +kernel⟩, fun _ h => absurd h List.not_mem_nil⟩) (by decide) (by decide) link_NSE cast_NSE 15 rfl (fun q_ => ?_)
      refine s_astore_n (pc := 15) S [(3, .ref q_), (0, .ref (A 0 0)), (1, .int x), (2, .ref (A 70 0))] dL_stopOf_15 rfl (by decide) rfl ?_
      refine s_iconst (pc := 16) S (v := nI 2) dL_stopOf_16 (by decide) ?_
      exact s_iret (pc := 17) S hz hlo hr ⟨2, rfl, Or.inr (Or.inr (⟨rfl, h6⟩))⟩ (Nat.le_of_ble_eq_true rfl) (Nat.le_of_ble_eq_true rfl) dL_stopOf_17
  · have h6 : K6_stopOf A C x v A2 C2 := h
    obtain ⟨⟨r, rfl⟩, hA, -⟩ := v6_stopOf h6
    obtain ⟨o, ho⟩ := lN_ex r.toInt64
    refine s_i2l (pc := 7) S (v := lN o) dL_stopOf_7 ho.symm ?_
    refine s_lout (pc := 8) S hz (o := o) hA.1.2.2.1 dL_stopOf_8 ?_
    refine s_goto (pc := 9) S 18 dL_stopOf_9 (by decide) ?_
    refine s_iconst (pc := 18) S (v := nI 0) dL_stopOf_18 (by decide) ?_
    exact s_iret (pc := 19) S hz hlo hr ⟨0, rfl, Or.inl ⟨rfl, r, o, C2, ho, rfl, h6⟩⟩ (Nat.le_of_ble_eq_true rfl) (Nat.le_of_ble_eq_true rfl) dL_stopOf_19
set_option maxHeartbeats 4000000 in
set_option maxRecDepth 100000 in
theorem k_L_bestPrinter (Z : Zp) (l : Launch) (A : AF) (C : CF) (hI : Iv C) (x : Int32) (hfl : l.stackTraces = false) : CtS Z l yL_bestPrinter wsL_bestPrinter ({ frames := 8, cells := 2, slots := 12, locals := 155 }) [.ref (A 0 0), .int x, .ref (A 70 0)] A C 2 12 (fun v A2 C2 => ∃ k : Nat, some (.int (nI k)) = v ∧ W_bestPrinter A C x k A2 C2) (fun _ _ _ => False) := by
  refine CtS.ofH (cc0 := cL_bestPrinter) (maxL := 4) (ret := some .int) (hh := [(0, 9, 12, 25), (0, 9, 15, 110)]) (by decide) rfl (Nat.le_of_ble_eq_true rfl) ?_
  intro M0_ p_ e_ s_ m_ args_ below_ meth_ c_ S hz hml htb hlo hr
  refine s_loc (L2 := [(0, .ref (A 0 0)), (1, .int x), (2, .ref (A 70 0))]) rfl ?_
  refine s_aload_n (pc := 0) S 2 dL_bestPrinter_0 rfl rfl ?_
  refine s_iconst (pc := 1) S (v := nI 0) dL_bestPrinter_1 (by decide) ?_
  refine s_aload_n (pc := 2) S 0 dL_bestPrinter_2 rfl rfl ?_
  refine s_iload_n (pc := 3) S 1 dL_bestPrinter_3 rfl rfl ?_
  refine s_callV (pc := 4) S hz hml [.int x] (k_X6_bestPrinter Z l A C C hI.1 hI.2.1 hI.2.2 x hfl) (cwV 1 S.2.2.2.2 gL_bestPrinter_X6_bestPrinter rfl rfl rfl (by decide +kernel) ⟨(Nat.le_of_ble_eq_true rfl), (Nat.le_of_ble_eq_true rfl)⟩) (cc_farm (A := A) (C := C)) rfl rfl rfl (Nat.le_of_ble_eq_true rfl) dL_bestPrinter_4 ⟨(Nat.le_of_ble_eq_true rfl), (Nat.le_of_ble_eq_true rfl)⟩ (fun E_ A2 C2 h => ?_) (fun v A2 C2 h => ?_)
  · have h6 : E6_bestPrinter A C x E_ A2 C2 := h
    obtain ⟨hE, -, -⟩ := e6_bestPrinter h6
    rcases hE with rfl | rfl
    · refine s_catch (E := "java/lang/IndexOutOfBoundsException") S hz htb [] (⟨0, 9, 12, 25⟩ : ExceptionTableEntry) [(⟨0, 9, 15, 110⟩ : ExceptionTableEntry)] rfl (fun z h => absurd h List.not_mem_nil) (by decide) (by decide) link_IOB cast_IOB 12 rfl (fun q_ => ?_)
      refine s_astore_n (pc := 12) S [(3, .ref q_), (0, .ref (A 0 0)), (1, .int x), (2, .ref (A 70 0))] dL_bestPrinter_12 rfl (by decide) rfl ?_
      refine s_iconst (pc := 13) S (v := nI 1) dL_bestPrinter_13 (by decide) ?_
      exact s_iret (pc := 14) S hz hlo hr ⟨1, rfl, Or.inr (Or.inl ⟨rfl, h6⟩)⟩ (Nat.le_of_ble_eq_true rfl) (Nat.le_of_ble_eq_true rfl) dL_bestPrinter_14
    · refine s_catch (E := "java/util/NoSuchElementException") S hz htb [(⟨0, 9, 12, 25⟩ : ExceptionTableEntry)] (⟨0, 9, 15, 110⟩ : ExceptionTableEntry) [] rfl (List.forall_mem_cons.mpr ⟨⟨by decide, "java/lang/IndexOutOfBoundsException", link_IOB, by decide +kernel⟩, fun _ h => absurd h List.not_mem_nil⟩) (by decide) (by decide) link_NSE cast_NSE 15 rfl (fun q_ => ?_)
      refine s_astore_n (pc := 15) S [(3, .ref q_), (0, .ref (A 0 0)), (1, .int x), (2, .ref (A 70 0))] dL_bestPrinter_15 rfl (by decide) rfl ?_
      refine s_iconst (pc := 16) S (v := nI 2) dL_bestPrinter_16 (by decide) ?_
      exact s_iret (pc := 17) S hz hlo hr ⟨2, rfl, Or.inr (Or.inr (⟨rfl, h6⟩))⟩ (Nat.le_of_ble_eq_true rfl) (Nat.le_of_ble_eq_true rfl) dL_bestPrinter_17
  · have h6 : K6_bestPrinter A C x v A2 C2 := h
    obtain ⟨⟨r, rfl⟩, hA, -⟩ := v6_bestPrinter h6
    obtain ⟨o, ho⟩ := lN_ex r.toInt64
    refine s_i2l (pc := 7) S (v := lN o) dL_bestPrinter_7 ho.symm ?_
    refine s_lout (pc := 8) S hz (o := o) hA.1.2.2.1 dL_bestPrinter_8 ?_
    refine s_goto (pc := 9) S 18 dL_bestPrinter_9 (by decide) ?_
    refine s_iconst (pc := 18) S (v := nI 0) dL_bestPrinter_18 (by decide) ?_
    exact s_iret (pc := 19) S hz hlo hr ⟨0, rfl, Or.inl ⟨rfl, r, o, C2, ho, rfl, h6⟩⟩ (Nat.le_of_ble_eq_true rfl) (Nat.le_of_ble_eq_true rfl) dL_bestPrinter_19
set_option maxHeartbeats 4000000 in
set_option maxRecDepth 100000 in
theorem k_L_queueLength (Z : Zp) (l : Launch) (A : AF) (C : CF) (hI : Iv C) (x : Int32) (hfl : l.stackTraces = false) : CtS Z l yL_queueLength wsL_queueLength ({ frames := 8, cells := 1, slots := 6, locals := 139 }) [.ref (A 0 0), .int x, .ref (A 70 0)] A C 1 6 (fun v A2 C2 => ∃ k : Nat, some (.int (nI k)) = v ∧ W_queueLength A C x k A2 C2) (fun _ _ _ => False) := by
  refine CtS.ofH (cc0 := cL_queueLength) (maxL := 4) (ret := some .int) (hh := [(0, 9, 12, 25)]) (by decide) rfl (Nat.le_of_ble_eq_true rfl) ?_
  intro M0_ p_ e_ s_ m_ args_ below_ meth_ c_ S hz hml htb hlo hr
  refine s_loc (L2 := [(0, .ref (A 0 0)), (1, .int x), (2, .ref (A 70 0))]) rfl ?_
  refine s_aload_n (pc := 0) S 2 dL_queueLength_0 rfl rfl ?_
  refine s_iconst (pc := 1) S (v := nI 0) dL_queueLength_1 (by decide) ?_
  refine s_aload_n (pc := 2) S 0 dL_queueLength_2 rfl rfl ?_
  refine s_iload_n (pc := 3) S 1 dL_queueLength_3 rfl rfl ?_
  refine s_callV (pc := 4) S hz hml [.int x] (k_X6_queueLength Z l A C C hI.1 hI.2.1 hI.2.2 x hfl) (cwV 1 S.2.2.2.2 gL_queueLength_X6_queueLength rfl rfl rfl (by decide +kernel) ⟨(Nat.le_of_ble_eq_true rfl), (Nat.le_of_ble_eq_true rfl)⟩) (cc_farm (A := A) (C := C)) rfl rfl rfl (Nat.le_of_ble_eq_true rfl) dL_queueLength_4 ⟨(Nat.le_of_ble_eq_true rfl), (Nat.le_of_ble_eq_true rfl)⟩ (fun E_ A2 C2 h => ?_) (fun v A2 C2 h => ?_)
  · have h6 : E6_queueLength A C x E_ A2 C2 := h
    obtain ⟨hE, -, -⟩ := e6_queueLength h6
    rcases hE with rfl
    refine s_catch (E := "java/lang/IndexOutOfBoundsException") S hz htb [] (⟨0, 9, 12, 25⟩ : ExceptionTableEntry) [] rfl (fun z h => absurd h List.not_mem_nil) (by decide) (by decide) link_IOB cast_IOB 12 rfl (fun q_ => ?_)
    refine s_astore_n (pc := 12) S [(3, .ref q_), (0, .ref (A 0 0)), (1, .int x), (2, .ref (A 70 0))] dL_queueLength_12 rfl (by decide) rfl ?_
    refine s_iconst (pc := 13) S (v := nI 1) dL_queueLength_13 (by decide) ?_
    exact s_iret (pc := 14) S hz hlo hr ⟨1, rfl, Or.inr (⟨rfl, h6⟩)⟩ (Nat.le_of_ble_eq_true rfl) (Nat.le_of_ble_eq_true rfl) dL_queueLength_14
  · have h6 : K6_queueLength A C x v A2 C2 := h
    obtain ⟨⟨r, rfl⟩, hA, -⟩ := v6_queueLength h6
    obtain ⟨o, ho⟩ := lN_ex r.toInt64
    refine s_i2l (pc := 7) S (v := lN o) dL_queueLength_7 ho.symm ?_
    refine s_lout (pc := 8) S hz (o := o) hA.1.2.2.1 dL_queueLength_8 ?_
    refine s_goto (pc := 9) S 15 dL_queueLength_9 (by decide) ?_
    refine s_iconst (pc := 15) S (v := nI 0) dL_queueLength_15 (by decide) ?_
    exact s_iret (pc := 16) S hz hlo hr ⟨0, rfl, Or.inl ⟨rfl, r, o, C2, ho, rfl, h6⟩⟩ (Nat.le_of_ble_eq_true rfl) (Nat.le_of_ble_eq_true rfl) dL_queueLength_16
set_option maxHeartbeats 4000000 in
set_option maxRecDepth 100000 in
theorem k_L_queueAt (Z : Zp) (l : Launch) (A : AF) (C : CF) (hI : Iv C) (x y : Int32) (hfl : l.stackTraces = false) : CtS Z l yL_queueAt wsL_queueAt ({ frames := 8, cells := 2, slots := 12, locals := 181 }) [.ref (A 0 0), .int x, .int y, .ref (A 70 0)] A C 2 12 (fun v A2 C2 => ∃ k : Nat, some (.int (nI k)) = v ∧ W_queueAt A C x y k A2 C2) (fun _ _ _ => False) := by
  refine CtS.ofH (cc0 := cL_queueAt) (maxL := 5) (ret := some .int) (hh := [(0, 10, 13, 25), (0, 10, 17, 110)]) (by decide) rfl (Nat.le_of_ble_eq_true rfl) ?_
  intro M0_ p_ e_ s_ m_ args_ below_ meth_ c_ S hz hml htb hlo hr
  refine s_loc (L2 := [(0, .ref (A 0 0)), (1, .int x), (2, .int y), (3, .ref (A 70 0))]) rfl ?_
  refine s_aload_n (pc := 0) S 3 dL_queueAt_0 rfl rfl ?_
  refine s_iconst (pc := 1) S (v := nI 0) dL_queueAt_1 (by decide) ?_
  refine s_aload_n (pc := 2) S 0 dL_queueAt_2 rfl rfl ?_
  refine s_iload_n (pc := 3) S 1 dL_queueAt_3 rfl rfl ?_
  refine s_iload_n (pc := 4) S 2 dL_queueAt_4 rfl rfl ?_
  refine s_callV (pc := 5) S hz hml [.int x, .int y] (k_X6_queueAt Z l A C C hI.1 hI.2.1 hI.2.2 x y hfl) (cwV 2 S.2.2.2.2 gL_queueAt_X6_queueAt rfl rfl rfl (by decide +kernel) ⟨(Nat.le_of_ble_eq_true rfl), (Nat.le_of_ble_eq_true rfl)⟩) (cc_farm (A := A) (C := C)) rfl rfl rfl (Nat.le_of_ble_eq_true rfl) dL_queueAt_5 ⟨(Nat.le_of_ble_eq_true rfl), (Nat.le_of_ble_eq_true rfl)⟩ (fun E_ A2 C2 h => ?_) (fun v A2 C2 h => ?_)
  · have h6 : E6_queueAt A C x y E_ A2 C2 := h
    obtain ⟨hE, -, -⟩ := e6_queueAt h6
    rcases hE with rfl | rfl
    · refine s_catch (E := "java/lang/IndexOutOfBoundsException") S hz htb [] (⟨0, 10, 13, 25⟩ : ExceptionTableEntry) [(⟨0, 10, 17, 110⟩ : ExceptionTableEntry)] rfl (fun z h => absurd h List.not_mem_nil) (by decide) (by decide) link_IOB cast_IOB 13 rfl (fun q_ => ?_)
      refine s_astore (pc := 13) S [(4, .ref q_), (0, .ref (A 0 0)), (1, .int x), (2, .int y), (3, .ref (A 70 0))] dL_queueAt_13 (by decide) rfl ?_
      refine s_iconst (pc := 15) S (v := nI 1) dL_queueAt_15 (by decide) ?_
      exact s_iret (pc := 16) S hz hlo hr ⟨1, rfl, Or.inr (Or.inl ⟨rfl, h6⟩)⟩ (Nat.le_of_ble_eq_true rfl) (Nat.le_of_ble_eq_true rfl) dL_queueAt_16
    · refine s_catch (E := "java/util/NoSuchElementException") S hz htb [(⟨0, 10, 13, 25⟩ : ExceptionTableEntry)] (⟨0, 10, 17, 110⟩ : ExceptionTableEntry) [] rfl (List.forall_mem_cons.mpr ⟨⟨by decide, "java/lang/IndexOutOfBoundsException", link_IOB, by decide +kernel⟩, fun _ h => absurd h List.not_mem_nil⟩) (by decide) (by decide) link_NSE cast_NSE 17 rfl (fun q_ => ?_)
      refine s_astore (pc := 17) S [(4, .ref q_), (0, .ref (A 0 0)), (1, .int x), (2, .int y), (3, .ref (A 70 0))] dL_queueAt_17 (by decide) rfl ?_
      refine s_iconst (pc := 19) S (v := nI 2) dL_queueAt_19 (by decide) ?_
      exact s_iret (pc := 20) S hz hlo hr ⟨2, rfl, Or.inr (Or.inr (⟨rfl, h6⟩))⟩ (Nat.le_of_ble_eq_true rfl) (Nat.le_of_ble_eq_true rfl) dL_queueAt_20
  · have h6 : K6_queueAt A C x y v A2 C2 := h
    obtain ⟨⟨r, rfl⟩, hA, -⟩ := v6_queueAt h6
    obtain ⟨o, ho⟩ := lN_ex r.toInt64
    refine s_i2l (pc := 8) S (v := lN o) dL_queueAt_8 ho.symm ?_
    refine s_lout (pc := 9) S hz (o := o) hA.1.2.2.1 dL_queueAt_9 ?_
    refine s_goto (pc := 10) S 21 dL_queueAt_10 (by decide) ?_
    refine s_iconst (pc := 21) S (v := nI 0) dL_queueAt_21 (by decide) ?_
    exact s_iret (pc := 22) S hz hlo hr ⟨0, rfl, Or.inl ⟨rfl, r, o, C2, ho, rfl, h6⟩⟩ (Nat.le_of_ble_eq_true rfl) (Nat.le_of_ble_eq_true rfl) dL_queueAt_22
set_option maxHeartbeats 4000000 in
set_option maxRecDepth 100000 in
theorem k_L_logJob (Z : Zp) (l : Launch) (A : AF) (C : CF) (hI : Iv C) (x : Int32) (hfl : l.stackTraces = false) : CtS Z l yL_logJob wsL_logJob ({ frames := 8, cells := 1, slots := 6, locals := 132 }) [.ref (A 0 0), .int x, .ref (A 70 0)] A C 1 6 (fun v A2 C2 => ∃ k : Nat, some (.int (nI k)) = v ∧ W_logJob A C x k A2 C2) (fun _ _ _ => False) := by
  refine CtS.ofH (cc0 := cL_logJob) (maxL := 4) (ret := some .int) (hh := [(0, 9, 12, 25)]) (by decide) rfl (Nat.le_of_ble_eq_true rfl) ?_
  intro M0_ p_ e_ s_ m_ args_ below_ meth_ c_ S hz hml htb hlo hr
  refine s_loc (L2 := [(0, .ref (A 0 0)), (1, .int x), (2, .ref (A 70 0))]) rfl ?_
  refine s_aload_n (pc := 0) S 2 dL_logJob_0 rfl rfl ?_
  refine s_iconst (pc := 1) S (v := nI 0) dL_logJob_1 (by decide) ?_
  refine s_aload_n (pc := 2) S 0 dL_logJob_2 rfl rfl ?_
  refine s_iload_n (pc := 3) S 1 dL_logJob_3 rfl rfl ?_
  refine s_callV (pc := 4) S hz hml [.int x] (k_X6_logJob Z l A C x (hI.1.okk hI.2.1 hI.2.2) hfl) (cwV 1 S.2.2.2.2 gL_logJob_X6_logJob rfl rfl rfl (by decide +kernel) ⟨(Nat.le_of_ble_eq_true rfl), (Nat.le_of_ble_eq_true rfl)⟩) (cc_farm (A := A) (C := C)) rfl rfl rfl (Nat.le_of_ble_eq_true rfl) dL_logJob_4 ⟨(Nat.le_of_ble_eq_true rfl), (Nat.le_of_ble_eq_true rfl)⟩ (fun E_ A2 C2 h => ?_) (fun v A2 C2 h => ?_)
  · have h6 : E6_logJob A C x E_ A2 C2 := h
    obtain ⟨hE, -, -⟩ := e6_logJob h6
    rcases hE with rfl
    refine s_catch (E := "java/lang/IndexOutOfBoundsException") S hz htb [] (⟨0, 9, 12, 25⟩ : ExceptionTableEntry) [] rfl (fun z h => absurd h List.not_mem_nil) (by decide) (by decide) link_IOB cast_IOB 12 rfl (fun q_ => ?_)
    refine s_astore_n (pc := 12) S [(3, .ref q_), (0, .ref (A 0 0)), (1, .int x), (2, .ref (A 70 0))] dL_logJob_12 rfl (by decide) rfl ?_
    refine s_iconst (pc := 13) S (v := nI 1) dL_logJob_13 (by decide) ?_
    exact s_iret (pc := 14) S hz hlo hr ⟨1, rfl, Or.inr (⟨rfl, h6⟩)⟩ (Nat.le_of_ble_eq_true rfl) (Nat.le_of_ble_eq_true rfl) dL_logJob_14
  · have h6 : K6_logJob A C x v A2 C2 := h
    obtain ⟨⟨r, rfl⟩, hA, -⟩ := v6_logJob h6
    obtain ⟨o, ho⟩ := lN_ex r.toInt64
    refine s_i2l (pc := 7) S (v := lN o) dL_logJob_7 ho.symm ?_
    refine s_lout (pc := 8) S hz (o := o) hA.1.2.2.1 dL_logJob_8 ?_
    refine s_goto (pc := 9) S 15 dL_logJob_9 (by decide) ?_
    refine s_iconst (pc := 15) S (v := nI 0) dL_logJob_15 (by decide) ?_
    exact s_iret (pc := 16) S hz hlo hr ⟨0, rfl, Or.inl ⟨rfl, r, o, C2, ho, rfl, h6⟩⟩ (Nat.le_of_ble_eq_true rfl) (Nat.le_of_ble_eq_true rfl) dL_logJob_16
set_option maxHeartbeats 4000000 in
set_option maxRecDepth 100000 in
theorem k_L_logPrinter (Z : Zp) (l : Launch) (A : AF) (C : CF) (hI : Iv C) (x : Int32) (hfl : l.stackTraces = false) : CtS Z l yL_logPrinter wsL_logPrinter ({ frames := 8, cells := 1, slots := 6, locals := 132 }) [.ref (A 0 0), .int x, .ref (A 70 0)] A C 1 6 (fun v A2 C2 => ∃ k : Nat, some (.int (nI k)) = v ∧ W_logPrinter A C x k A2 C2) (fun _ _ _ => False) := by
  refine CtS.ofH (cc0 := cL_logPrinter) (maxL := 4) (ret := some .int) (hh := [(0, 9, 12, 25)]) (by decide) rfl (Nat.le_of_ble_eq_true rfl) ?_
  intro M0_ p_ e_ s_ m_ args_ below_ meth_ c_ S hz hml htb hlo hr
  refine s_loc (L2 := [(0, .ref (A 0 0)), (1, .int x), (2, .ref (A 70 0))]) rfl ?_
  refine s_aload_n (pc := 0) S 2 dL_logPrinter_0 rfl rfl ?_
  refine s_iconst (pc := 1) S (v := nI 0) dL_logPrinter_1 (by decide) ?_
  refine s_aload_n (pc := 2) S 0 dL_logPrinter_2 rfl rfl ?_
  refine s_iload_n (pc := 3) S 1 dL_logPrinter_3 rfl rfl ?_
  refine s_callV (pc := 4) S hz hml [.int x] (k_X6_logPrinter Z l A C x (hI.1.okk hI.2.1 hI.2.2) hfl) (cwV 1 S.2.2.2.2 gL_logPrinter_X6_logPrinter rfl rfl rfl (by decide +kernel) ⟨(Nat.le_of_ble_eq_true rfl), (Nat.le_of_ble_eq_true rfl)⟩) (cc_farm (A := A) (C := C)) rfl rfl rfl (Nat.le_of_ble_eq_true rfl) dL_logPrinter_4 ⟨(Nat.le_of_ble_eq_true rfl), (Nat.le_of_ble_eq_true rfl)⟩ (fun E_ A2 C2 h => ?_) (fun v A2 C2 h => ?_)
  · have h6 : E6_logPrinter A C x E_ A2 C2 := h
    obtain ⟨hE, -, -⟩ := e6_logPrinter h6
    rcases hE with rfl
    refine s_catch (E := "java/lang/IndexOutOfBoundsException") S hz htb [] (⟨0, 9, 12, 25⟩ : ExceptionTableEntry) [] rfl (fun z h => absurd h List.not_mem_nil) (by decide) (by decide) link_IOB cast_IOB 12 rfl (fun q_ => ?_)
    refine s_astore_n (pc := 12) S [(3, .ref q_), (0, .ref (A 0 0)), (1, .int x), (2, .ref (A 70 0))] dL_logPrinter_12 rfl (by decide) rfl ?_
    refine s_iconst (pc := 13) S (v := nI 1) dL_logPrinter_13 (by decide) ?_
    exact s_iret (pc := 14) S hz hlo hr ⟨1, rfl, Or.inr (⟨rfl, h6⟩)⟩ (Nat.le_of_ble_eq_true rfl) (Nat.le_of_ble_eq_true rfl) dL_logPrinter_14
  · have h6 : K6_logPrinter A C x v A2 C2 := h
    obtain ⟨⟨r, rfl⟩, hA, -⟩ := v6_logPrinter h6
    obtain ⟨o, ho⟩ := lN_ex r.toInt64
    refine s_i2l (pc := 7) S (v := lN o) dL_logPrinter_7 ho.symm ?_
    refine s_lout (pc := 8) S hz (o := o) hA.1.2.2.1 dL_logPrinter_8 ?_
    refine s_goto (pc := 9) S 15 dL_logPrinter_9 (by decide) ?_
    refine s_iconst (pc := 15) S (v := nI 0) dL_logPrinter_15 (by decide) ?_
    exact s_iret (pc := 16) S hz hlo hr ⟨0, rfl, Or.inl ⟨rfl, r, o, C2, ho, rfl, h6⟩⟩ (Nat.le_of_ble_eq_true rfl) (Nat.le_of_ble_eq_true rfl) dL_logPrinter_16
set_option maxHeartbeats 4000000 in
set_option maxRecDepth 100000 in
theorem k_L_logPages (Z : Zp) (l : Launch) (A : AF) (C : CF) (hI : Iv C) (x : Int32) (hfl : l.stackTraces = false) : CtS Z l yL_logPages wsL_logPages ({ frames := 8, cells := 1, slots := 6, locals := 132 }) [.ref (A 0 0), .int x, .ref (A 70 0)] A C 1 6 (fun v A2 C2 => ∃ k : Nat, some (.int (nI k)) = v ∧ W_logPages A C x k A2 C2) (fun _ _ _ => False) := by
  refine CtS.ofH (cc0 := cL_logPages) (maxL := 4) (ret := some .int) (hh := [(0, 9, 12, 25)]) (by decide) rfl (Nat.le_of_ble_eq_true rfl) ?_
  intro M0_ p_ e_ s_ m_ args_ below_ meth_ c_ S hz hml htb hlo hr
  refine s_loc (L2 := [(0, .ref (A 0 0)), (1, .int x), (2, .ref (A 70 0))]) rfl ?_
  refine s_aload_n (pc := 0) S 2 dL_logPages_0 rfl rfl ?_
  refine s_iconst (pc := 1) S (v := nI 0) dL_logPages_1 (by decide) ?_
  refine s_aload_n (pc := 2) S 0 dL_logPages_2 rfl rfl ?_
  refine s_iload_n (pc := 3) S 1 dL_logPages_3 rfl rfl ?_
  refine s_callV (pc := 4) S hz hml [.int x] (k_X6_logPages Z l A C x (hI.1.okk hI.2.1 hI.2.2) hfl) (cwV 1 S.2.2.2.2 gL_logPages_X6_logPages rfl rfl rfl (by decide +kernel) ⟨(Nat.le_of_ble_eq_true rfl), (Nat.le_of_ble_eq_true rfl)⟩) (cc_farm (A := A) (C := C)) rfl rfl rfl (Nat.le_of_ble_eq_true rfl) dL_logPages_4 ⟨(Nat.le_of_ble_eq_true rfl), (Nat.le_of_ble_eq_true rfl)⟩ (fun E_ A2 C2 h => ?_) (fun v A2 C2 h => ?_)
  · have h6 : E6_logPages A C x E_ A2 C2 := h
    obtain ⟨hE, -, -⟩ := e6_logPages h6
    rcases hE with rfl
    refine s_catch (E := "java/lang/IndexOutOfBoundsException") S hz htb [] (⟨0, 9, 12, 25⟩ : ExceptionTableEntry) [] rfl (fun z h => absurd h List.not_mem_nil) (by decide) (by decide) link_IOB cast_IOB 12 rfl (fun q_ => ?_)
    refine s_astore_n (pc := 12) S [(3, .ref q_), (0, .ref (A 0 0)), (1, .int x), (2, .ref (A 70 0))] dL_logPages_12 rfl (by decide) rfl ?_
    refine s_iconst (pc := 13) S (v := nI 1) dL_logPages_13 (by decide) ?_
    exact s_iret (pc := 14) S hz hlo hr ⟨1, rfl, Or.inr (⟨rfl, h6⟩)⟩ (Nat.le_of_ble_eq_true rfl) (Nat.le_of_ble_eq_true rfl) dL_logPages_14
  · have h6 : K6_logPages A C x v A2 C2 := h
    obtain ⟨⟨r, rfl⟩, hA, -⟩ := v6_logPages h6
    obtain ⟨o, ho⟩ := lN_ex r.toInt64
    refine s_i2l (pc := 7) S (v := lN o) dL_logPages_7 ho.symm ?_
    refine s_lout (pc := 8) S hz (o := o) hA.1.2.2.1 dL_logPages_8 ?_
    refine s_goto (pc := 9) S 15 dL_logPages_9 (by decide) ?_
    refine s_iconst (pc := 15) S (v := nI 0) dL_logPages_15 (by decide) ?_
    exact s_iret (pc := 16) S hz hlo hr ⟨0, rfl, Or.inl ⟨rfl, r, o, C2, ho, rfl, h6⟩⟩ (Nat.le_of_ble_eq_true rfl) (Nat.le_of_ble_eq_true rfl) dL_logPages_16
set_option maxHeartbeats 4000000 in
set_option maxRecDepth 100000 in
theorem k_L_logSheets (Z : Zp) (l : Launch) (A : AF) (C : CF) (hI : Iv C) (x : Int32) (hfl : l.stackTraces = false) : CtS Z l yL_logSheets wsL_logSheets ({ frames := 8, cells := 1, slots := 6, locals := 132 }) [.ref (A 0 0), .int x, .ref (A 70 0)] A C 1 6 (fun v A2 C2 => ∃ k : Nat, some (.int (nI k)) = v ∧ W_logSheets A C x k A2 C2) (fun _ _ _ => False) := by
  refine CtS.ofH (cc0 := cL_logSheets) (maxL := 4) (ret := some .int) (hh := [(0, 9, 12, 25)]) (by decide) rfl (Nat.le_of_ble_eq_true rfl) ?_
  intro M0_ p_ e_ s_ m_ args_ below_ meth_ c_ S hz hml htb hlo hr
  refine s_loc (L2 := [(0, .ref (A 0 0)), (1, .int x), (2, .ref (A 70 0))]) rfl ?_
  refine s_aload_n (pc := 0) S 2 dL_logSheets_0 rfl rfl ?_
  refine s_iconst (pc := 1) S (v := nI 0) dL_logSheets_1 (by decide) ?_
  refine s_aload_n (pc := 2) S 0 dL_logSheets_2 rfl rfl ?_
  refine s_iload_n (pc := 3) S 1 dL_logSheets_3 rfl rfl ?_
  refine s_callV (pc := 4) S hz hml [.int x] (k_X6_logSheets Z l A C x (hI.1.okk hI.2.1 hI.2.2) hfl) (cwV 1 S.2.2.2.2 gL_logSheets_X6_logSheets rfl rfl rfl (by decide +kernel) ⟨(Nat.le_of_ble_eq_true rfl), (Nat.le_of_ble_eq_true rfl)⟩) (cc_farm (A := A) (C := C)) rfl rfl rfl (Nat.le_of_ble_eq_true rfl) dL_logSheets_4 ⟨(Nat.le_of_ble_eq_true rfl), (Nat.le_of_ble_eq_true rfl)⟩ (fun E_ A2 C2 h => ?_) (fun v A2 C2 h => ?_)
  · have h6 : E6_logSheets A C x E_ A2 C2 := h
    obtain ⟨hE, -, -⟩ := e6_logSheets h6
    rcases hE with rfl
    refine s_catch (E := "java/lang/IndexOutOfBoundsException") S hz htb [] (⟨0, 9, 12, 25⟩ : ExceptionTableEntry) [] rfl (fun z h => absurd h List.not_mem_nil) (by decide) (by decide) link_IOB cast_IOB 12 rfl (fun q_ => ?_)
    refine s_astore_n (pc := 12) S [(3, .ref q_), (0, .ref (A 0 0)), (1, .int x), (2, .ref (A 70 0))] dL_logSheets_12 rfl (by decide) rfl ?_
    refine s_iconst (pc := 13) S (v := nI 1) dL_logSheets_13 (by decide) ?_
    exact s_iret (pc := 14) S hz hlo hr ⟨1, rfl, Or.inr (⟨rfl, h6⟩)⟩ (Nat.le_of_ble_eq_true rfl) (Nat.le_of_ble_eq_true rfl) dL_logSheets_14
  · have h6 : K6_logSheets A C x v A2 C2 := h
    obtain ⟨⟨r, rfl⟩, hA, -⟩ := v6_logSheets h6
    obtain ⟨o, ho⟩ := lN_ex r.toInt64
    refine s_i2l (pc := 7) S (v := lN o) dL_logSheets_7 ho.symm ?_
    refine s_lout (pc := 8) S hz (o := o) hA.1.2.2.1 dL_logSheets_8 ?_
    refine s_goto (pc := 9) S 15 dL_logSheets_9 (by decide) ?_
    refine s_iconst (pc := 15) S (v := nI 0) dL_logSheets_15 (by decide) ?_
    exact s_iret (pc := 16) S hz hlo hr ⟨0, rfl, Or.inl ⟨rfl, r, o, C2, ho, rfl, h6⟩⟩ (Nat.le_of_ble_eq_true rfl) (Nat.le_of_ble_eq_true rfl) dL_logSheets_16
set_option maxHeartbeats 4000000 in
set_option maxRecDepth 100000 in
theorem k_L_pagesOf (Z : Zp) (l : Launch) (A : AF) (C : CF) (hI : Iv C) (x : Int32) (hfl : l.stackTraces = false) : CtS Z l yL_pagesOf wsL_pagesOf ({ frames := 8, cells := 1, slots := 6, locals := 133 }) [.ref (A 0 0), .int x, .ref (A 70 0)] A C 1 6 (fun v A2 C2 => ∃ k : Nat, some (.int (nI k)) = v ∧ W_pagesOf A C x k A2 C2) (fun _ _ _ => False) := by
  refine CtS.ofH (cc0 := cL_pagesOf) (maxL := 4) (ret := some .int) (hh := [(0, 9, 12, 25)]) (by decide) rfl (Nat.le_of_ble_eq_true rfl) ?_
  intro M0_ p_ e_ s_ m_ args_ below_ meth_ c_ S hz hml htb hlo hr
  refine s_loc (L2 := [(0, .ref (A 0 0)), (1, .int x), (2, .ref (A 70 0))]) rfl ?_
  refine s_aload_n (pc := 0) S 2 dL_pagesOf_0 rfl rfl ?_
  refine s_iconst (pc := 1) S (v := nI 0) dL_pagesOf_1 (by decide) ?_
  refine s_aload_n (pc := 2) S 0 dL_pagesOf_2 rfl rfl ?_
  refine s_iload_n (pc := 3) S 1 dL_pagesOf_3 rfl rfl ?_
  refine s_callV (pc := 4) S hz hml [.int x] (k_X6_pagesOf Z l A C x (hI.1.okk hI.2.1 hI.2.2) hfl) (cwV 1 S.2.2.2.2 gL_pagesOf_X6_pagesOf rfl rfl rfl (by decide +kernel) ⟨(Nat.le_of_ble_eq_true rfl), (Nat.le_of_ble_eq_true rfl)⟩) (cc_farm (A := A) (C := C)) rfl rfl rfl (Nat.le_of_ble_eq_true rfl) dL_pagesOf_4 ⟨(Nat.le_of_ble_eq_true rfl), (Nat.le_of_ble_eq_true rfl)⟩ (fun E_ A2 C2 h => ?_) (fun v A2 C2 h => ?_)
  · have h6 : E6_pagesOf A C x E_ A2 C2 := h
    obtain ⟨hE, -, -⟩ := e6_pagesOf h6
    rcases hE with rfl
    refine s_catch (E := "java/lang/IndexOutOfBoundsException") S hz htb [] (⟨0, 9, 12, 25⟩ : ExceptionTableEntry) [] rfl (fun z h => absurd h List.not_mem_nil) (by decide) (by decide) link_IOB cast_IOB 12 rfl (fun q_ => ?_)
    refine s_astore_n (pc := 12) S [(3, .ref q_), (0, .ref (A 0 0)), (1, .int x), (2, .ref (A 70 0))] dL_pagesOf_12 rfl (by decide) rfl ?_
    refine s_iconst (pc := 13) S (v := nI 1) dL_pagesOf_13 (by decide) ?_
    exact s_iret (pc := 14) S hz hlo hr ⟨1, rfl, Or.inr (⟨rfl, h6⟩)⟩ (Nat.le_of_ble_eq_true rfl) (Nat.le_of_ble_eq_true rfl) dL_pagesOf_14
  · have h6 : K6_pagesOf A C x v A2 C2 := h
    obtain ⟨⟨r, rfl⟩, hA, -⟩ := v6_pagesOf h6
    obtain ⟨o, ho⟩ := lN_ex r.toInt64
    refine s_i2l (pc := 7) S (v := lN o) dL_pagesOf_7 ho.symm ?_
    refine s_lout (pc := 8) S hz (o := o) hA.1.2.2.1 dL_pagesOf_8 ?_
    refine s_goto (pc := 9) S 15 dL_pagesOf_9 (by decide) ?_
    refine s_iconst (pc := 15) S (v := nI 0) dL_pagesOf_15 (by decide) ?_
    exact s_iret (pc := 16) S hz hlo hr ⟨0, rfl, Or.inl ⟨rfl, r, o, C2, ho, rfl, h6⟩⟩ (Nat.le_of_ble_eq_true rfl) (Nat.le_of_ble_eq_true rfl) dL_pagesOf_16
set_option maxHeartbeats 4000000 in
set_option maxRecDepth 100000 in
theorem k_L_pagesByLog (Z : Zp) (l : Launch) (A : AF) (C : CF) (hI : Iv C) (x : Int32) (hfl : l.stackTraces = false) : CtS Z l yL_pagesByLog wsL_pagesByLog ({ frames := 8, cells := 1, slots := 6, locals := 136 }) [.ref (A 0 0), .int x, .ref (A 70 0)] A C 1 6 (fun v A2 C2 => ∃ k : Nat, some (.int (nI k)) = v ∧ W_pagesByLog A C x k A2 C2) (fun _ _ _ => False) := by
  refine CtS.ofH (cc0 := cL_pagesByLog) (maxL := 4) (ret := some .int) (hh := [(0, 9, 12, 25)]) (by decide) rfl (Nat.le_of_ble_eq_true rfl) ?_
  intro M0_ p_ e_ s_ m_ args_ below_ meth_ c_ S hz hml htb hlo hr
  refine s_loc (L2 := [(0, .ref (A 0 0)), (1, .int x), (2, .ref (A 70 0))]) rfl ?_
  refine s_aload_n (pc := 0) S 2 dL_pagesByLog_0 rfl rfl ?_
  refine s_iconst (pc := 1) S (v := nI 0) dL_pagesByLog_1 (by decide) ?_
  refine s_aload_n (pc := 2) S 0 dL_pagesByLog_2 rfl rfl ?_
  refine s_iload_n (pc := 3) S 1 dL_pagesByLog_3 rfl rfl ?_
  refine s_callV (pc := 4) S hz hml [.int x] (k_X6_pagesByLog Z l A C C hI.1 hI.2.1 hI.2.2 x hfl) (cwV 1 S.2.2.2.2 gL_pagesByLog_X6_pagesByLog rfl rfl rfl (by decide +kernel) ⟨(Nat.le_of_ble_eq_true rfl), (Nat.le_of_ble_eq_true rfl)⟩) (cc_farm (A := A) (C := C)) rfl rfl rfl (Nat.le_of_ble_eq_true rfl) dL_pagesByLog_4 ⟨(Nat.le_of_ble_eq_true rfl), (Nat.le_of_ble_eq_true rfl)⟩ (fun E_ A2 C2 h => ?_) (fun v A2 C2 h => ?_)
  · have h6 : E6_pagesByLog A C x E_ A2 C2 := h
    obtain ⟨hE, -, -⟩ := e6_pagesByLog h6
    rcases hE with rfl
    refine s_catch (E := "java/lang/IndexOutOfBoundsException") S hz htb [] (⟨0, 9, 12, 25⟩ : ExceptionTableEntry) [] rfl (fun z h => absurd h List.not_mem_nil) (by decide) (by decide) link_IOB cast_IOB 12 rfl (fun q_ => ?_)
    refine s_astore_n (pc := 12) S [(3, .ref q_), (0, .ref (A 0 0)), (1, .int x), (2, .ref (A 70 0))] dL_pagesByLog_12 rfl (by decide) rfl ?_
    refine s_iconst (pc := 13) S (v := nI 1) dL_pagesByLog_13 (by decide) ?_
    exact s_iret (pc := 14) S hz hlo hr ⟨1, rfl, Or.inr (⟨rfl, h6⟩)⟩ (Nat.le_of_ble_eq_true rfl) (Nat.le_of_ble_eq_true rfl) dL_pagesByLog_14
  · have h6 : K6_pagesByLog A C x v A2 C2 := h
    obtain ⟨⟨r, rfl⟩, hA, -⟩ := v6_pagesByLog h6
    obtain ⟨o, ho⟩ := lN_ex r.toInt64
    refine s_i2l (pc := 7) S (v := lN o) dL_pagesByLog_7 ho.symm ?_
    refine s_lout (pc := 8) S hz (o := o) hA.1.2.2.1 dL_pagesByLog_8 ?_
    refine s_goto (pc := 9) S 15 dL_pagesByLog_9 (by decide) ?_
    refine s_iconst (pc := 15) S (v := nI 0) dL_pagesByLog_15 (by decide) ?_
    exact s_iret (pc := 16) S hz hlo hr ⟨0, rfl, Or.inl ⟨rfl, r, o, C2, ho, rfl, h6⟩⟩ (Nat.le_of_ble_eq_true rfl) (Nat.le_of_ble_eq_true rfl) dL_pagesByLog_16
set_option maxHeartbeats 4000000 in
set_option maxRecDepth 100000 in
theorem k_L_billOf (Z : Zp) (l : Launch) (A : AF) (C : CF) (hI : Iv C) (x : Int32) (hfl : l.stackTraces = false) : CtS Z l yL_billOf wsL_billOf ({ frames := 8, cells := 1, slots := 6, locals := 133 }) [.ref (A 0 0), .int x, .ref (A 70 0)] A C 1 6 (fun v A2 C2 => ∃ k : Nat, some (.int (nI k)) = v ∧ W_billOf A C x k A2 C2) (fun _ _ _ => False) := by
  refine CtS.ofH (cc0 := cL_billOf) (maxL := 4) (ret := some .int) (hh := [(0, 8, 11, 25)]) (by decide) rfl (Nat.le_of_ble_eq_true rfl) ?_
  intro M0_ p_ e_ s_ m_ args_ below_ meth_ c_ S hz hml htb hlo hr
  refine s_loc (L2 := [(0, .ref (A 0 0)), (1, .int x), (2, .ref (A 70 0))]) rfl ?_
  refine s_aload_n (pc := 0) S 2 dL_billOf_0 rfl rfl ?_
  refine s_iconst (pc := 1) S (v := nI 0) dL_billOf_1 (by decide) ?_
  refine s_aload_n (pc := 2) S 0 dL_billOf_2 rfl rfl ?_
  refine s_iload_n (pc := 3) S 1 dL_billOf_3 rfl rfl ?_
  refine s_callV (pc := 4) S hz hml [.int x] (k_X6_billOf Z l A C x (hI.1.okk hI.2.1 hI.2.2) hfl) (cwV 1 S.2.2.2.2 gL_billOf_X6_billOf rfl rfl rfl (by decide +kernel) ⟨(Nat.le_of_ble_eq_true rfl), (Nat.le_of_ble_eq_true rfl)⟩) (cc_farm (A := A) (C := C)) rfl rfl rfl (Nat.le_of_ble_eq_true rfl) dL_billOf_4 ⟨(Nat.le_of_ble_eq_true rfl), (Nat.le_of_ble_eq_true rfl)⟩ (fun E_ A2 C2 h => ?_) (fun v A2 C2 h => ?_)
  · have h6 : E6_billOf A C x E_ A2 C2 := h
    obtain ⟨hE, -, -⟩ := e6_billOf h6
    rcases hE with rfl
    refine s_catch (E := "java/lang/IndexOutOfBoundsException") S hz htb [] (⟨0, 8, 11, 25⟩ : ExceptionTableEntry) [] rfl (fun z h => absurd h List.not_mem_nil) (by decide) (by decide) link_IOB cast_IOB 11 rfl (fun q_ => ?_)
    refine s_astore_n (pc := 11) S [(3, .ref q_), (0, .ref (A 0 0)), (1, .int x), (2, .ref (A 70 0))] dL_billOf_11 rfl (by decide) rfl ?_
    refine s_iconst (pc := 12) S (v := nI 1) dL_billOf_12 (by decide) ?_
    exact s_iret (pc := 13) S hz hlo hr ⟨1, rfl, Or.inr (⟨rfl, h6⟩)⟩ (Nat.le_of_ble_eq_true rfl) (Nat.le_of_ble_eq_true rfl) dL_billOf_13
  · have h6 : K6_billOf A C x v A2 C2 := h
    obtain ⟨⟨r, rfl⟩, hA, -⟩ := v6_billOf h6
    obtain ⟨o, ho⟩ := lN_ex r
    refine s_top (u := .long (lN o)) (congrArg Value.long ho.symm) ?_
    refine s_lout (pc := 7) S hz (o := o) hA.1.2.2.1 dL_billOf_7 ?_
    refine s_goto (pc := 8) S 14 dL_billOf_8 (by decide) ?_
    refine s_iconst (pc := 14) S (v := nI 0) dL_billOf_14 (by decide) ?_
    exact s_iret (pc := 15) S hz hlo hr ⟨0, rfl, Or.inl ⟨rfl, r, o, C2, ho, rfl, h6⟩⟩ (Nat.le_of_ble_eq_true rfl) (Nat.le_of_ble_eq_true rfl) dL_billOf_15
set_option maxHeartbeats 4000000 in
set_option maxRecDepth 100000 in
theorem k_L_billByLog (Z : Zp) (l : Launch) (A : AF) (C : CF) (hI : Iv C) (x : Int32) (hfl : l.stackTraces = false) : CtS Z l yL_billByLog wsL_billByLog ({ frames := 8, cells := 1, slots := 6, locals := 137 }) [.ref (A 0 0), .int x, .ref (A 70 0)] A C 1 6 (fun v A2 C2 => ∃ k : Nat, some (.int (nI k)) = v ∧ W_billByLog A C x k A2 C2) (fun _ _ _ => False) := by
  refine CtS.ofH (cc0 := cL_billByLog) (maxL := 4) (ret := some .int) (hh := [(0, 8, 11, 25)]) (by decide) rfl (Nat.le_of_ble_eq_true rfl) ?_
  intro M0_ p_ e_ s_ m_ args_ below_ meth_ c_ S hz hml htb hlo hr
  refine s_loc (L2 := [(0, .ref (A 0 0)), (1, .int x), (2, .ref (A 70 0))]) rfl ?_
  refine s_aload_n (pc := 0) S 2 dL_billByLog_0 rfl rfl ?_
  refine s_iconst (pc := 1) S (v := nI 0) dL_billByLog_1 (by decide) ?_
  refine s_aload_n (pc := 2) S 0 dL_billByLog_2 rfl rfl ?_
  refine s_iload_n (pc := 3) S 1 dL_billByLog_3 rfl rfl ?_
  refine s_callV (pc := 4) S hz hml [.int x] (k_X6_billByLog Z l A C C hI.1 hI.2.1 hI.2.2 x hfl) (cwV 1 S.2.2.2.2 gL_billByLog_X6_billByLog rfl rfl rfl (by decide +kernel) ⟨(Nat.le_of_ble_eq_true rfl), (Nat.le_of_ble_eq_true rfl)⟩) (cc_farm (A := A) (C := C)) rfl rfl rfl (Nat.le_of_ble_eq_true rfl) dL_billByLog_4 ⟨(Nat.le_of_ble_eq_true rfl), (Nat.le_of_ble_eq_true rfl)⟩ (fun E_ A2 C2 h => ?_) (fun v A2 C2 h => ?_)
  · have h6 : E6_billByLog A C x E_ A2 C2 := h
    obtain ⟨hE, -, -⟩ := e6_billByLog h6
    rcases hE with rfl
    refine s_catch (E := "java/lang/IndexOutOfBoundsException") S hz htb [] (⟨0, 8, 11, 25⟩ : ExceptionTableEntry) [] rfl (fun z h => absurd h List.not_mem_nil) (by decide) (by decide) link_IOB cast_IOB 11 rfl (fun q_ => ?_)
    refine s_astore_n (pc := 11) S [(3, .ref q_), (0, .ref (A 0 0)), (1, .int x), (2, .ref (A 70 0))] dL_billByLog_11 rfl (by decide) rfl ?_
    refine s_iconst (pc := 12) S (v := nI 1) dL_billByLog_12 (by decide) ?_
    exact s_iret (pc := 13) S hz hlo hr ⟨1, rfl, Or.inr (⟨rfl, h6⟩)⟩ (Nat.le_of_ble_eq_true rfl) (Nat.le_of_ble_eq_true rfl) dL_billByLog_13
  · have h6 : K6_billByLog A C x v A2 C2 := h
    obtain ⟨⟨r, rfl⟩, hA, -⟩ := v6_billByLog h6
    obtain ⟨o, ho⟩ := lN_ex r
    refine s_top (u := .long (lN o)) (congrArg Value.long ho.symm) ?_
    refine s_lout (pc := 7) S hz (o := o) hA.1.2.2.1 dL_billByLog_7 ?_
    refine s_goto (pc := 8) S 14 dL_billByLog_8 (by decide) ?_
    refine s_iconst (pc := 14) S (v := nI 0) dL_billByLog_14 (by decide) ?_
    exact s_iret (pc := 15) S hz hlo hr ⟨0, rfl, Or.inl ⟨rfl, r, o, C2, ho, rfl, h6⟩⟩ (Nat.le_of_ble_eq_true rfl) (Nat.le_of_ble_eq_true rfl) dL_billByLog_15
set_option maxHeartbeats 4000000 in
set_option maxRecDepth 100000 in
theorem k_L_meanPages (Z : Zp) (l : Launch) (A : AF) (C : CF) (hI : Iv C) (hfl : l.stackTraces = false) : CtS Z l yL_meanPages wsL_meanPages ({ frames := 7, cells := 1, slots := 6, locals := 113 }) [.ref (A 0 0), .ref (A 70 1)] A C 1 6 (fun v A2 C2 => ∃ k : Nat, some (.int (nI k)) = v ∧ W_meanPages A C k A2 C2) (fun _ _ _ => False) := by
  refine CtS.ofH (cc0 := cL_meanPages) (maxL := 3) (ret := some .int) (hh := [(0, 7, 10, 150)]) (by decide) rfl (Nat.le_of_ble_eq_true rfl) ?_
  intro M0_ p_ e_ s_ m_ args_ below_ meth_ c_ S hz hml htb hlo hr
  refine s_loc (L2 := [(0, .ref (A 0 0)), (1, .ref (A 70 1))]) rfl ?_
  refine s_aload_n (pc := 0) S 1 dL_meanPages_0 rfl rfl ?_
  refine s_iconst (pc := 1) S (v := nI 0) dL_meanPages_1 (by decide) ?_
  refine s_aload_n (pc := 2) S 0 dL_meanPages_2 rfl rfl ?_
  refine s_callV (pc := 3) S hz hml [] (k_X6_meanPages Z l A C C hI.1 hI.2.1 hI.2.2 hfl) (cwV 0 S.2.2.2.2 gL_meanPages_X6_meanPages rfl rfl rfl (by decide +kernel) ⟨(Nat.le_of_ble_eq_true rfl), (Nat.le_of_ble_eq_true rfl)⟩) (cc_farm (A := A) (C := C)) rfl rfl rfl (Nat.le_of_ble_eq_true rfl) dL_meanPages_3 ⟨(Nat.le_of_ble_eq_true rfl), (Nat.le_of_ble_eq_true rfl)⟩ (fun E_ A2 C2 h => ?_) (fun v A2 C2 h => ?_)
  · have h6 : E6_meanPages A C E_ A2 C2 := h
    obtain ⟨hE, -, -⟩ := e6_meanPages h6
    rcases hE with rfl
    refine s_catch (E := "java/lang/ArithmeticException") S hz htb [] (⟨0, 7, 10, 150⟩ : ExceptionTableEntry) [] rfl (fun z h => absurd h List.not_mem_nil) (by decide) (by decide) link_ARI cast_ARI 10 rfl (fun q_ => ?_)
    refine s_astore_n (pc := 10) S [(2, .ref q_), (0, .ref (A 0 0)), (1, .ref (A 70 1))] dL_meanPages_10 rfl (by decide) rfl ?_
    refine s_iconst (pc := 11) S (v := nI 1) dL_meanPages_11 (by decide) ?_
    exact s_iret (pc := 12) S hz hlo hr ⟨1, rfl, Or.inr (⟨rfl, h6⟩)⟩ (Nat.le_of_ble_eq_true rfl) (Nat.le_of_ble_eq_true rfl) dL_meanPages_12
  · have h6 : K6_meanPages A C v A2 C2 := h
    obtain ⟨⟨r, rfl⟩, hA, -⟩ := v6_meanPages h6
    obtain ⟨o, ho⟩ := uN_ex r
    refine s_top (u := .double (UInt64.ofNat o)) (congrArg Value.double ho.symm) ?_
    refine s_dout (pc := 6) S hz (o := o) hA.1.2.2.2 dL_meanPages_6 ?_
    refine s_goto (pc := 7) S 13 dL_meanPages_7 (by decide) ?_
    refine s_iconst (pc := 13) S (v := nI 0) dL_meanPages_13 (by decide) ?_
    exact s_iret (pc := 14) S hz hlo hr ⟨0, rfl, Or.inl ⟨rfl, r, o, C2, ho, rfl, h6⟩⟩ (Nat.le_of_ble_eq_true rfl) (Nat.le_of_ble_eq_true rfl) dL_meanPages_14
set_option maxHeartbeats 4000000 in
set_option maxRecDepth 100000 in
theorem k_L_colourShare (Z : Zp) (l : Launch) (A : AF) (C : CF) (hI : Iv C) (hfl : l.stackTraces = false) : CtS Z l yL_colourShare wsL_colourShare ({ frames := 7, cells := 1, slots := 6, locals := 116 }) [.ref (A 0 0), .ref (A 70 1)] A C 1 6 (fun v A2 C2 => ∃ k : Nat, some (.int (nI k)) = v ∧ W_colourShare A C k A2 C2) (fun _ _ _ => False) := by
  refine CtS.ofH (cc0 := cL_colourShare) (maxL := 3) (ret := some .int) (hh := [(0, 8, 11, 150)]) (by decide) rfl (Nat.le_of_ble_eq_true rfl) ?_
  intro M0_ p_ e_ s_ m_ args_ below_ meth_ c_ S hz hml htb hlo hr
  refine s_loc (L2 := [(0, .ref (A 0 0)), (1, .ref (A 70 1))]) rfl ?_
  refine s_aload_n (pc := 0) S 1 dL_colourShare_0 rfl rfl ?_
  refine s_iconst (pc := 1) S (v := nI 0) dL_colourShare_1 (by decide) ?_
  refine s_aload_n (pc := 2) S 0 dL_colourShare_2 rfl rfl ?_
  refine s_callV (pc := 3) S hz hml [] (k_X6_colourShare Z l A C C hI.1 hI.2.1 hI.2.2 hfl) (cwV 0 S.2.2.2.2 gL_colourShare_X6_colourShare rfl rfl rfl (by decide +kernel) ⟨(Nat.le_of_ble_eq_true rfl), (Nat.le_of_ble_eq_true rfl)⟩) (cc_farm (A := A) (C := C)) rfl rfl rfl (Nat.le_of_ble_eq_true rfl) dL_colourShare_3 ⟨(Nat.le_of_ble_eq_true rfl), (Nat.le_of_ble_eq_true rfl)⟩ (fun E_ A2 C2 h => ?_) (fun v A2 C2 h => ?_)
  · have h6 : E6_colourShare A C E_ A2 C2 := h
    obtain ⟨hE, -, -⟩ := e6_colourShare h6
    rcases hE with rfl
    refine s_catch (E := "java/lang/ArithmeticException") S hz htb [] (⟨0, 8, 11, 150⟩ : ExceptionTableEntry) [] rfl (fun z h => absurd h List.not_mem_nil) (by decide) (by decide) link_ARI cast_ARI 11 rfl (fun q_ => ?_)
    refine s_astore_n (pc := 11) S [(2, .ref q_), (0, .ref (A 0 0)), (1, .ref (A 70 1))] dL_colourShare_11 rfl (by decide) rfl ?_
    refine s_iconst (pc := 12) S (v := nI 1) dL_colourShare_12 (by decide) ?_
    exact s_iret (pc := 13) S hz hlo hr ⟨1, rfl, Or.inr (⟨rfl, h6⟩)⟩ (Nat.le_of_ble_eq_true rfl) (Nat.le_of_ble_eq_true rfl) dL_colourShare_13
  · have h6 : K6_colourShare A C v A2 C2 := h
    obtain ⟨⟨r, rfl⟩, hA, -⟩ := v6_colourShare h6
    obtain ⟨o, ho⟩ := uN_ex (FP.f2d r)
    refine s_f2d (pc := 6) S dL_colourShare_6 (nn_colourShare hI h6) ?_
    refine s_top (u := .double (UInt64.ofNat o)) (congrArg Value.double ho.symm) ?_
    refine s_dout (pc := 7) S hz (o := o) hA.1.2.2.2 dL_colourShare_7 ?_
    refine s_goto (pc := 8) S 14 dL_colourShare_8 (by decide) ?_
    refine s_iconst (pc := 14) S (v := nI 0) dL_colourShare_14 (by decide) ?_
    exact s_iret (pc := 15) S hz hlo hr ⟨0, rfl, Or.inl ⟨rfl, r, o, C2, ho, rfl, h6⟩⟩ (Nat.le_of_ble_eq_true rfl) (Nat.le_of_ble_eq_true rfl) dL_colourShare_15
set_option maxHeartbeats 4000000 in
set_option maxRecDepth 100000 in
theorem k_L_writeJob (Z : Zp) (l : Launch) (A : AF) (C : CF) (hI : Iv C) (x : Int32) (hfl : l.stackTraces = false) : CtS Z l yL_writeJob wsL_writeJob ({ frames := 8, cells := 11, slots := 706, locals := 303 }) [.ref (A 0 0), .int x, .ref (A 70 0)] A C 11 706 (fun v A2 C2 => ∃ k : Nat, some (.int (nI k)) = v ∧ W_writeJob A C x k A2 C2) (fun _ _ _ => False) := by
  refine CtS.ofH (cc0 := cL_writeJob) (maxL := 4) (ret := some .int) (hh := [(0, 9, 12, 25)]) (by decide) rfl (Nat.le_of_ble_eq_true rfl) ?_
  intro M0_ p_ e_ s_ m_ args_ below_ meth_ c_ S hz hml htb hlo hr
  refine s_loc (L2 := [(0, .ref (A 0 0)), (1, .int x), (2, .ref (A 70 0))]) rfl ?_
  refine s_aload_n (pc := 0) S 2 dL_writeJob_0 rfl rfl ?_
  refine s_iconst (pc := 1) S (v := nI 0) dL_writeJob_1 (by decide) ?_
  refine s_aload_n (pc := 2) S 0 dL_writeJob_2 rfl rfl ?_
  refine s_iload_n (pc := 3) S 1 dL_writeJob_3 rfl rfl ?_
  refine s_callV (pc := 4) S hz hml [.int x] (k_X6_writeJob Z l A C C hI.1 hI.2.1 hI.2.2 x hfl) (cwV 1 S.2.2.2.2 gL_writeJob_X6_writeJob rfl rfl rfl (by decide +kernel) ⟨(Nat.le_of_ble_eq_true rfl), (Nat.le_of_ble_eq_true rfl)⟩) (cc_farm (A := A) (C := C)) rfl rfl rfl (Nat.le_of_ble_eq_true rfl) dL_writeJob_4 ⟨(Nat.le_of_ble_eq_true rfl), (Nat.le_of_ble_eq_true rfl)⟩ (fun E_ A2 C2 h => ?_) (fun v A2 C2 h => ?_)
  · have h6 : E6_writeJob A C x E_ A2 C2 := h
    obtain ⟨hE, -, -⟩ := e6_writeJob h6
    rcases hE with rfl
    refine s_catch (E := "java/lang/IndexOutOfBoundsException") S hz htb [] (⟨0, 9, 12, 25⟩ : ExceptionTableEntry) [] rfl (fun z h => absurd h List.not_mem_nil) (by decide) (by decide) link_IOB cast_IOB 12 rfl (fun q_ => ?_)
    refine s_astore_n (pc := 12) S [(3, .ref q_), (0, .ref (A 0 0)), (1, .int x), (2, .ref (A 70 0))] dL_writeJob_12 rfl (by decide) rfl ?_
    refine s_iconst (pc := 13) S (v := nI 1) dL_writeJob_13 (by decide) ?_
    exact s_iret (pc := 14) S hz hlo hr ⟨1, rfl, Or.inr (⟨rfl, h6⟩)⟩ (Nat.le_of_ble_eq_true rfl) (Nat.le_of_ble_eq_true rfl) dL_writeJob_14
  · have h6 : K6_writeJob A C x v A2 C2 := h
    obtain ⟨⟨r, rfl⟩, hA, -⟩ := v6_writeJob h6
    obtain ⟨o, ho⟩ := lN_ex r.toInt64
    refine s_i2l (pc := 7) S (v := lN o) dL_writeJob_7 ho.symm ?_
    refine s_lout (pc := 8) S hz (o := o) hA.1.2.2.1 dL_writeJob_8 ?_
    refine s_goto (pc := 9) S 15 dL_writeJob_9 (by decide) ?_
    refine s_iconst (pc := 15) S (v := nI 0) dL_writeJob_15 (by decide) ?_
    exact s_iret (pc := 16) S hz hlo hr ⟨0, rfl, Or.inl ⟨rfl, r, o, C2, ho, rfl, h6⟩⟩ (Nat.le_of_ble_eq_true rfl) (Nat.le_of_ble_eq_true rfl) dL_writeJob_16
set_option maxHeartbeats 4000000 in
set_option maxRecDepth 100000 in
theorem k_L_lineAt (Z : Zp) (l : Launch) (A : AF) (C : CF) (hI : Iv C) (x : Int32) (hfl : l.stackTraces = false) : CtS Z l yL_lineAt wsL_lineAt ({ frames := 7, cells := 1, slots := 6, locals := 111 }) [.ref (A 0 0), .int x, .ref (A 70 0)] A C 1 6 (fun v A2 C2 => ∃ k : Nat, some (.int (nI k)) = v ∧ W_lineAt A C x k A2 C2) (fun _ _ _ => False) := by
  refine CtS.ofH (cc0 := cL_lineAt) (maxL := 4) (ret := some .int) (hh := [(0, 9, 12, 25)]) (by decide) rfl (Nat.le_of_ble_eq_true rfl) ?_
  intro M0_ p_ e_ s_ m_ args_ below_ meth_ c_ S hz hml htb hlo hr
  refine s_loc (L2 := [(0, .ref (A 0 0)), (1, .int x), (2, .ref (A 70 0))]) rfl ?_
  refine s_aload_n (pc := 0) S 2 dL_lineAt_0 rfl rfl ?_
  refine s_iconst (pc := 1) S (v := nI 0) dL_lineAt_1 (by decide) ?_
  refine s_aload_n (pc := 2) S 0 dL_lineAt_2 rfl rfl ?_
  refine s_iload_n (pc := 3) S 1 dL_lineAt_3 rfl rfl ?_
  refine s_callV (pc := 4) S hz hml [.int x] (k_X6_lineAt Z l A C x (hI.1.okk hI.2.1 hI.2.2) hfl) (cwV 1 S.2.2.2.2 gL_lineAt_X6_lineAt rfl rfl rfl (by decide +kernel) ⟨(Nat.le_of_ble_eq_true rfl), (Nat.le_of_ble_eq_true rfl)⟩) (cc_farm (A := A) (C := C)) rfl rfl rfl (Nat.le_of_ble_eq_true rfl) dL_lineAt_4 ⟨(Nat.le_of_ble_eq_true rfl), (Nat.le_of_ble_eq_true rfl)⟩ (fun E_ A2 C2 h => ?_) (fun v A2 C2 h => ?_)
  · have h6 : E6_lineAt A C x E_ A2 C2 := h
    obtain ⟨hE, -, -⟩ := e6_lineAt h6
    rcases hE with rfl
    refine s_catch (E := "java/lang/IndexOutOfBoundsException") S hz htb [] (⟨0, 9, 12, 25⟩ : ExceptionTableEntry) [] rfl (fun z h => absurd h List.not_mem_nil) (by decide) (by decide) link_IOB cast_IOB 12 rfl (fun q_ => ?_)
    refine s_astore_n (pc := 12) S [(3, .ref q_), (0, .ref (A 0 0)), (1, .int x), (2, .ref (A 70 0))] dL_lineAt_12 rfl (by decide) rfl ?_
    refine s_iconst (pc := 13) S (v := nI 1) dL_lineAt_13 (by decide) ?_
    exact s_iret (pc := 14) S hz hlo hr ⟨1, rfl, Or.inr (⟨rfl, h6⟩)⟩ (Nat.le_of_ble_eq_true rfl) (Nat.le_of_ble_eq_true rfl) dL_lineAt_14
  · have h6 : K6_lineAt A C x v A2 C2 := h
    obtain ⟨⟨r, rfl⟩, hA, -⟩ := v6_lineAt h6
    obtain ⟨o, ho⟩ := lN_ex r.toInt64
    refine s_i2l (pc := 7) S (v := lN o) dL_lineAt_7 ho.symm ?_
    refine s_lout (pc := 8) S hz (o := o) hA.1.2.2.1 dL_lineAt_8 ?_
    refine s_goto (pc := 9) S 15 dL_lineAt_9 (by decide) ?_
    refine s_iconst (pc := 15) S (v := nI 0) dL_lineAt_15 (by decide) ?_
    exact s_iret (pc := 16) S hz hlo hr ⟨0, rfl, Or.inl ⟨rfl, r, o, C2, ho, rfl, h6⟩⟩ (Nat.le_of_ble_eq_true rfl) (Nat.le_of_ble_eq_true rfl) dL_lineAt_16
end KWRAP
