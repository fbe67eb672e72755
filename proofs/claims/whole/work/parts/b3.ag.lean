section KAG
theorem fp_ddivN {a b : Nat} (h : 0 < b) (h2 : b < 2 ^ 31) : Jvm.FP.Core.dIsNaN (FP.ddiv (FP.i2d (nI a)) (FP.i2d (nI b))) = false :=
  Jvm.FP.Core.ddiv_out (Jvm.FP.Core.i2d_fin (nI a)).notNaN (Jvm.FP.Core.i2d_fin (nI b)) (fun z => Jvm.FP.Core.i2d_ne_zero (fp_nz h h2) ((Jvm.FP.Core.zero_bits2 _).mp z))
theorem fp_fdivN {a b : Nat} (h : 0 < b) (h2 : b < 2 ^ 31) : Jvm.FP.Core.fIsNaN (FP.fdiv (FP.i2f (nI a)) (FP.i2f (nI b))) = false :=
  Jvm.FP.Core.fdiv_out (Jvm.FP.Core.i2f_fin (nI a)).notNaN (Jvm.FP.Core.i2f_fin (nI b)) (fun z => Jvm.FP.Core.i2f_ne_zero (fp_nz h h2) ((Jvm.FP.Core.zero_bits232 _).mp z))
theorem up3_w {C : CF} {k i f v w : Nat} : up3 (up3 C k i f v) k i f w = up3 C k i f w := by
  funext a b c
  by_cases h : a = k ∧ b = i ∧ c = f
  · simp only [up3, h, and_self, if_true]
  · simp only [up3, h, if_false]
theorem P6_id {C : CF} : P6 C (C 6 0) = C := by
  funext a b c
  unfold P6
  split
  · rename_i h
    rw [h.1, h.2]
  · rfl
set_option maxHeartbeats 4000000 in
theorem ag_addUser {A A1 A2 : AF} {C C1 C2 : CF} {x : Int32} {y : Int32} {k : Nat} {v : Option Value}  (hI : Iv C) (h6 : W_addUser A C x y k A1 C1) (h7 : K7_addUser A1 C1 x y v A2 C2) : AgB A C k A2 C2 ∧ ∃ b : Int32, v = some (.int b) ∧ (k = 0 → lN (C2 70 0 0) = b.toInt64) := by
  obtain ⟨w1, w3, -⟩ := w_addUser h6
  have e6 : C1 60 = C 60 := w1 60 (by decide) (by decide)
  have e61 : C1 61 = C 61 := w1 61 (by decide) (by decide)
  obtain ⟨hS, hM, hL⟩ := id hI
  obtain ⟨⟨c3, c4, c5, c6, c7, c8⟩, sU, sP, sT, sJ, ⟨sl, sc⟩, sE, sC, sB⟩ := id hS
  obtain ⟨oU, oP, oJ, oTc, oY, o8, o9, o10, o11, o12, o13, o14, o15, oX, oQ, oB, oK, oS, oJk, oM, oCo, oSh, oLg, oPo, oLl, oL2, oL3, oL4, oLle, oE1, oE2, oE3, oE4⟩ := id hM.1
  unfold K7_addUser at h7
  rw [e6] at h7
  unfold W_addUser at h6
  rcases h6 with ⟨rfl, r, o, C9, ho, hC1, h6⟩ | ⟨rfl, h6⟩ | ⟨rfl, h6⟩
  · unfold K6_addUser at h6
    obtain ⟨u1, u2, z3⟩ := h6
    obtain ⟨z4, z5, z6, z7, z8, z9, z10, z11, z12, z13⟩ := z3
    obtain ⟨u14, z15⟩ := z11
    obtain ⟨z16, z17⟩ := h7
    rcases z17 with z18 | z19 | z20 | z21
    · obtain ⟨m22, m23, z24⟩ := z18
      obtain ⟨z25, z26, z27, z28, z29, z30, z31, z32, z33⟩ := z24
      have e34 : u1 = m22 := nI_inj (by omega) (by omega) (z6.trans z27.symm)
      subst e34
      have e35 : u2 = m23 := nI_inj (by omega) (by omega) (z9.trans z30.symm)
      subst e35
      have hlo : ∀ kk : Nat, kk < 15 → C1 kk = (adO C 10 (C 0 0 3) (usF u1 u2) 3) kk := fun kk h => (congrFun hC1.symm kk).trans ((up3_k (by omega)).trans (congrFun z12.symm kk))
      have hA_ : St5 A A2 := by rw [← z16]; exact w3
      have hk_ := keep_addUser (t := 0) (a := u1) (b := u2) hS hM hL (by omega) (by omega) (by omega) rfl
      rw [← z32, ← z33]
      refine ⟨agb_k hk_ ?_ ?_ (fun kk h => ?_) ?_ ?_ ?_ hA_, ?_⟩
      · funext i_ f_
        simp only [up3, e6]
      · funext i_ f_
        simp only [up3, e61]
      · rw [up3_k (by omega), up3_k (by omega), up3_k (by omega), up3_k (by omega)]
        exact hlo kk h
      · simp [up3]
      · simp [up3]
      · simp [up3]
      · cases Option.some.inj z13
        have h70_ : C1 70 0 0 = o := by rw [← hC1]; exact up3_s
        refine ⟨_, rfl, fun _ => ?_⟩
        refine (congrArg (fun g : Nat → Nat → Nat => lN (g 0 0)) (show _ = C1 70 from by rw [up3_k (by decide), up3_k (by decide), up3_k (by decide), up3_k (by decide)])).trans ?_
        show lN (C1 70 0 0) = _
        refine (congrArg lN h70_).trans (ho.trans ?_)
        exact congrArg (fun n => (nI n).toInt64) (show (C 0 0 3) = (((C 60 100 28) + 1) - 1) by first | rfl | omega | (split <;> omega))
    · obtain ⟨m36, m37, z38⟩ := z19
      obtain ⟨z39, z40, z41, z42, z43, z44, z45, z46, z47⟩ := z38
      have e48 : u1 = m36 := nI_inj (by omega) (by omega) (z6.trans z41.symm)
      subst e48
      have e49 : u2 = m37 := nI_inj (by omega) (by omega) (z9.trans z44.symm)
      subst e49
      omega
    · obtain ⟨m50, z51⟩ := z20
      obtain ⟨z52, z53, z54, z55, z56, z57⟩ := z51
      have e58 : u1 = m50 := nI_inj (by omega) (by omega) (z6.trans z54.symm)
      subst e58
      exact absurd z9 (z55 _ (by omega) (by omega))
    · obtain ⟨z59, z60, z61⟩ := z21
      exact absurd z6 (z59 _ (by omega) (by omega))
  · unfold E6_addUser at h6
    obtain ⟨z62, z63⟩ := h6
    rcases z63 with z64 | z65 | z66
    · obtain ⟨z67, z68, z69⟩ := z64
      obtain ⟨z70, z71⟩ := h7
      rcases z71 with z72 | z73 | z74 | z75
      · obtain ⟨m76, m77, z78⟩ := z72
        obtain ⟨z79, z80, z81, z82, z83, z84, z85, z86, z87⟩ := z78
        exact absurd z81 (z68 _ (by omega) (by omega))
      · obtain ⟨m88, m89, z90⟩ := z73
        obtain ⟨z91, z92, z93, z94, z95, z96, z97, z98, z99⟩ := z90
        exact absurd z93 (z68 _ (by omega) (by omega))
      · obtain ⟨m100, z101⟩ := z74
        obtain ⟨z102, z103, z104, z105, z106, z107⟩ := z101
        have hlo : ∀ kk : Nat, kk < 15 → C1 kk = (C) kk := fun kk h => congrFun z69.symm kk
        have hA_ : St5 A A2 := by rw [← z70]; exact w3
        rw [← z106, ← z107]
        refine ⟨agb_th hI hlo e6 e61 _ hA_, ?_⟩
        exact ⟨_, rfl, fun h => absurd h (by decide)⟩
      · obtain ⟨z108, z109, z110⟩ := z75
        have hlo : ∀ kk : Nat, kk < 15 → C1 kk = (C) kk := fun kk h => congrFun z69.symm kk
        have hA_ : St5 A A2 := by rw [← z70]; exact w3
        rw [← z109, ← z110]
        refine ⟨agb_th hI hlo e6 e61 _ hA_, ?_⟩
        exact ⟨_, rfl, fun h => absurd h (by decide)⟩
    · obtain ⟨u111, z112⟩ := z65
      obtain ⟨z113, z114, z115, z116, z117, z118⟩ := z112
      obtain ⟨z119, z120⟩ := h7
      rcases z120 with z121 | z122 | z123 | z124
      · obtain ⟨m125, m126, z127⟩ := z121
        obtain ⟨z128, z129, z130, z131, z132, z133, z134, z135, z136⟩ := z127
        have e137 : u111 = m125 := nI_inj (by omega) (by omega) (z116.trans z130.symm)
        subst e137
        exact absurd z133 (z117 _ (by omega) (by omega))
      · obtain ⟨m138, m139, z140⟩ := z122
        obtain ⟨z141, z142, z143, z144, z145, z146, z147, z148, z149⟩ := z140
        have e150 : u111 = m138 := nI_inj (by omega) (by omega) (z116.trans z143.symm)
        subst e150
        exact absurd z146 (z117 _ (by omega) (by omega))
      · obtain ⟨m151, z152⟩ := z123
        obtain ⟨z153, z154, z155, z156, z157, z158⟩ := z152
        have e159 : u111 = m151 := nI_inj (by omega) (by omega) (z116.trans z155.symm)
        subst e159
        have hlo : ∀ kk : Nat, kk < 15 → C1 kk = (C) kk := fun kk h => congrFun z118.symm kk
        have hA_ : St5 A A2 := by rw [← z119]; exact w3
        rw [← z157, ← z158]
        refine ⟨agb_th hI hlo e6 e61 _ hA_, ?_⟩
        exact ⟨_, rfl, fun h => absurd h (by decide)⟩
      · obtain ⟨z160, z161, z162⟩ := z124
        have hlo : ∀ kk : Nat, kk < 15 → C1 kk = (C) kk := fun kk h => congrFun z118.symm kk
        have hA_ : St5 A A2 := by rw [← z119]; exact w3
        rw [← z161, ← z162]
        refine ⟨agb_th hI hlo e6 e61 _ hA_, ?_⟩
        exact ⟨_, rfl, fun h => absurd h (by decide)⟩
    · obtain ⟨u163, u164, z165⟩ := z66
      obtain ⟨z166, z167, z168, z169, z170, z171, z172, z173, z174⟩ := z165
      exact absurd z166 (by decide +kernel)
  · unfold E6_addUser at h6
    obtain ⟨z175, z176⟩ := h6
    rcases z176 with z177 | z178 | z179
    · obtain ⟨z180, z181, z182⟩ := z177
      exact absurd z180 (by decide +kernel)
    · obtain ⟨u183, z184⟩ := z178
      obtain ⟨z185, z186, z187, z188, z189, z190⟩ := z184
      exact absurd z185 (by decide +kernel)
    · obtain ⟨u191, u192, z193⟩ := z179
      obtain ⟨z194, z195, z196, z197, z198, z199, z200, z201, z202⟩ := z193
      obtain ⟨z203, z204⟩ := h7
      rcases z204 with z205 | z206 | z207 | z208
      · obtain ⟨m209, m210, z211⟩ := z205
        obtain ⟨z212, z213, z214, z215, z216, z217, z218, z219, z220⟩ := z211
        have e221 : u191 = m209 := nI_inj (by omega) (by omega) (z197.trans z214.symm)
        subst e221
        have e222 : u192 = m210 := nI_inj (by omega) (by omega) (z200.trans z217.symm)
        subst e222
        omega
      · obtain ⟨m223, m224, z225⟩ := z206
        obtain ⟨z226, z227, z228, z229, z230, z231, z232, z233, z234⟩ := z225
        have e235 : u191 = m223 := nI_inj (by omega) (by omega) (z197.trans z228.symm)
        subst e235
        have e236 : u192 = m224 := nI_inj (by omega) (by omega) (z200.trans z231.symm)
        subst e236
        have hlo : ∀ kk : Nat, kk < 15 → C1 kk = (C) kk := fun kk h => congrFun z202.symm kk
        have hA_ : St5 A A2 := by rw [← z203]; exact w3
        rw [← z233, ← z234]
        refine ⟨agb_th hI hlo e6 e61 _ hA_, ?_⟩
        exact ⟨_, rfl, fun h => absurd h (by decide)⟩
      · obtain ⟨m237, z238⟩ := z207
        obtain ⟨z239, z240, z241, z242, z243, z244⟩ := z238
        have e245 : u191 = m237 := nI_inj (by omega) (by omega) (z197.trans z241.symm)
        subst e245
        exact absurd z200 (z242 _ (by omega) (by omega))
      · obtain ⟨z246, z247, z248⟩ := z208
        exact absurd z197 (z246 _ (by omega) (by omega))
set_option maxHeartbeats 4000000 in
theorem ag_addPrinter {A A1 A2 : AF} {C C1 C2 : CF} {cb : Nat} {x : Int32} {y : Int32} {k : Nat} {v : Option Value} (hcb : cb < 2) (hI : Iv C) (h6 : W_addPrinter A C cb x y k A1 C1) (h7 : K7_addPrinter A1 C1 cb x y v A2 C2) : AgB A C k A2 C2 ∧ ∃ b : Int32, v = some (.int b) ∧ (k = 0 → lN (C2 70 0 0) = b.toInt64) := by
  obtain ⟨w1, w3, -⟩ := w_addPrinter h6
  have e6 : C1 60 = C 60 := w1 60 (by decide) (by decide)
  have e61 : C1 61 = C 61 := w1 61 (by decide) (by decide)
  obtain ⟨hS, hM, hL⟩ := id hI
  obtain ⟨⟨c3, c4, c5, c6, c7, c8⟩, sU, sP, sT, sJ, ⟨sl, sc⟩, sE, sC, sB⟩ := id hS
  obtain ⟨oU, oP, oJ, oTc, oY, o8, o9, o10, o11, o12, o13, o14, o15, oX, oQ, oB, oK, oS, oJk, oM, oCo, oSh, oLg, oPo, oLl, oL2, oL3, oL4, oLle, oE1, oE2, oE3, oE4⟩ := id hM.1
  unfold K7_addPrinter at h7
  rw [e6] at h7
  unfold W_addPrinter at h6
  rcases h6 with ⟨rfl, r, o, C9, ho, hC1, h6⟩ | ⟨rfl, h6⟩ | ⟨rfl, h6⟩
  · unfold K6_addPrinter at h6
    obtain ⟨u1, u2, z3⟩ := h6
    obtain ⟨z4, z5, z6, z7, z8, z9, z10, z11, z12, z13⟩ := z3
    obtain ⟨u14, u15, z16⟩ := z11
    obtain ⟨z17, z18⟩ := h7
    rcases z18 with z19 | z20 | z21 | z22
    · obtain ⟨m23, m24, z25⟩ := z19
      obtain ⟨z26, z27, z28, z29, z30, z31, z32, z33, z34⟩ := z25
      have e35 : u1 = m23 := nI_inj (by omega) (by omega) (z6.trans z28.symm)
      subst e35
      have e36 : u2 = m24 := nI_inj (by omega) (by omega) (z9.trans z31.symm)
      subst e36
      have hlo : ∀ kk : Nat, kk < 15 → C1 kk = (adO C 9 (C 0 0 4) (prF cb u1 u2) 4) kk := fun kk h => (congrFun hC1.symm kk).trans ((up3_k (by omega)).trans (congrFun z12.symm kk))
      have hA_ : St5 A A2 := by rw [← z17]; exact w3
      have hk_ := keep_addPrinter (t := 0) (cb := cb) (b := u1) (s := u2) hS hM hL hcb (by omega) (by omega) (by omega) rfl
      rw [← z33, ← z34]
      refine ⟨agb_k hk_ ?_ ?_ (fun kk h => ?_) ?_ ?_ ?_ hA_, ?_⟩
      · funext i_ f_
        simp only [up3, e6]
      · funext i_ f_
        simp only [up3, e61]
      · rw [up3_k (by omega), up3_k (by omega), up3_k (by omega), up3_k (by omega), up3_k (by omega), up3_k (by omega)]
        exact hlo kk h
      · simp [up3]
      · simp [up3]
      · simp [up3]
      · cases Option.some.inj z13
        have h70_ : C1 70 0 0 = o := by rw [← hC1]; exact up3_s
        refine ⟨_, rfl, fun _ => ?_⟩
        refine (congrArg (fun g : Nat → Nat → Nat => lN (g 0 0)) (show _ = C1 70 from by rw [up3_k (by decide), up3_k (by decide), up3_k (by decide), up3_k (by decide), up3_k (by decide), up3_k (by decide)])).trans ?_
        show lN (C1 70 0 0) = _
        refine (congrArg lN h70_).trans (ho.trans ?_)
        exact congrArg (fun n => (nI n).toInt64) (show (C 0 0 4) = (((C 60 100 29) + 1) - 1) by first | rfl | omega | (split <;> omega))
    · obtain ⟨m37, m38, z39⟩ := z20
      obtain ⟨z40, z41, z42, z43, z44, z45, z46, z47, z48⟩ := z39
      have e49 : u1 = m37 := nI_inj (by omega) (by omega) (z6.trans z42.symm)
      subst e49
      have e50 : u2 = m38 := nI_inj (by omega) (by omega) (z9.trans z45.symm)
      subst e50
      omega
    · obtain ⟨m51, z52⟩ := z21
      obtain ⟨z53, z54, z55, z56, z57, z58⟩ := z52
      have e59 : u1 = m51 := nI_inj (by omega) (by omega) (z6.trans z55.symm)
      subst e59
      exact absurd z9 (z56 _ (by omega) (by omega))
    · obtain ⟨z60, z61, z62⟩ := z22
      exact absurd z6 (z60 _ (by omega) (by omega))
  · unfold E6_addPrinter at h6
    obtain ⟨z63, z64⟩ := h6
    rcases z64 with z65 | z66 | z67
    · obtain ⟨z68, z69, z70⟩ := z65
      obtain ⟨z71, z72⟩ := h7
      rcases z72 with z73 | z74 | z75 | z76
      · obtain ⟨m77, m78, z79⟩ := z73
        obtain ⟨z80, z81, z82, z83, z84, z85, z86, z87, z88⟩ := z79
        exact absurd z82 (z69 _ (by omega) (by omega))
      · obtain ⟨m89, m90, z91⟩ := z74
        obtain ⟨z92, z93, z94, z95, z96, z97, z98, z99, z100⟩ := z91
        exact absurd z94 (z69 _ (by omega) (by omega))
      · obtain ⟨m101, z102⟩ := z75
        obtain ⟨z103, z104, z105, z106, z107, z108⟩ := z102
        have hlo : ∀ kk : Nat, kk < 15 → C1 kk = (C) kk := fun kk h => congrFun z70.symm kk
        have hA_ : St5 A A2 := by rw [← z71]; exact w3
        rw [← z107, ← z108]
        refine ⟨agb_th hI hlo e6 e61 _ hA_, ?_⟩
        exact ⟨_, rfl, fun h => absurd h (by decide)⟩
      · obtain ⟨z109, z110, z111⟩ := z76
        have hlo : ∀ kk : Nat, kk < 15 → C1 kk = (C) kk := fun kk h => congrFun z70.symm kk
        have hA_ : St5 A A2 := by rw [← z71]; exact w3
        rw [← z110, ← z111]
        refine ⟨agb_th hI hlo e6 e61 _ hA_, ?_⟩
        exact ⟨_, rfl, fun h => absurd h (by decide)⟩
    · obtain ⟨u112, z113⟩ := z66
      obtain ⟨z114, z115, z116, z117, z118, z119⟩ := z113
      obtain ⟨z120, z121⟩ := h7
      rcases z121 with z122 | z123 | z124 | z125
      · obtain ⟨m126, m127, z128⟩ := z122
        obtain ⟨z129, z130, z131, z132, z133, z134, z135, z136, z137⟩ := z128
        have e138 : u112 = m126 := nI_inj (by omega) (by omega) (z117.trans z131.symm)
        subst e138
        exact absurd z134 (z118 _ (by omega) (by omega))
      · obtain ⟨m139, m140, z141⟩ := z123
        obtain ⟨z142, z143, z144, z145, z146, z147, z148, z149, z150⟩ := z141
        have e151 : u112 = m139 := nI_inj (by omega) (by omega) (z117.trans z144.symm)
        subst e151
        exact absurd z147 (z118 _ (by omega) (by omega))
      · obtain ⟨m152, z153⟩ := z124
        obtain ⟨z154, z155, z156, z157, z158, z159⟩ := z153
        have e160 : u112 = m152 := nI_inj (by omega) (by omega) (z117.trans z156.symm)
        subst e160
        have hlo : ∀ kk : Nat, kk < 15 → C1 kk = (C) kk := fun kk h => congrFun z119.symm kk
        have hA_ : St5 A A2 := by rw [← z120]; exact w3
        rw [← z158, ← z159]
        refine ⟨agb_th hI hlo e6 e61 _ hA_, ?_⟩
        exact ⟨_, rfl, fun h => absurd h (by decide)⟩
      · obtain ⟨z161, z162, z163⟩ := z125
        have hlo : ∀ kk : Nat, kk < 15 → C1 kk = (C) kk := fun kk h => congrFun z119.symm kk
        have hA_ : St5 A A2 := by rw [← z120]; exact w3
        rw [← z162, ← z163]
        refine ⟨agb_th hI hlo e6 e61 _ hA_, ?_⟩
        exact ⟨_, rfl, fun h => absurd h (by decide)⟩
    · obtain ⟨u164, u165, z166⟩ := z67
      obtain ⟨z167, z168, z169, z170, z171, z172, z173, z174, z175⟩ := z166
      exact absurd z167 (by decide +kernel)
  · unfold E6_addPrinter at h6
    obtain ⟨z176, z177⟩ := h6
    rcases z177 with z178 | z179 | z180
    · obtain ⟨z181, z182, z183⟩ := z178
      exact absurd z181 (by decide +kernel)
    · obtain ⟨u184, z185⟩ := z179
      obtain ⟨z186, z187, z188, z189, z190, z191⟩ := z185
      exact absurd z186 (by decide +kernel)
    · obtain ⟨u192, u193, z194⟩ := z180
      obtain ⟨z195, z196, z197, z198, z199, z200, z201, z202, z203⟩ := z194
      obtain ⟨z204, z205⟩ := h7
      rcases z205 with z206 | z207 | z208 | z209
      · obtain ⟨m210, m211, z212⟩ := z206
        obtain ⟨z213, z214, z215, z216, z217, z218, z219, z220, z221⟩ := z212
        have e222 : u192 = m210 := nI_inj (by omega) (by omega) (z198.trans z215.symm)
        subst e222
        have e223 : u193 = m211 := nI_inj (by omega) (by omega) (z201.trans z218.symm)
        subst e223
        omega
      · obtain ⟨m224, m225, z226⟩ := z207
        obtain ⟨z227, z228, z229, z230, z231, z232, z233, z234, z235⟩ := z226
        have e236 : u192 = m224 := nI_inj (by omega) (by omega) (z198.trans z229.symm)
        subst e236
        have e237 : u193 = m225 := nI_inj (by omega) (by omega) (z201.trans z232.symm)
        subst e237
        have hlo : ∀ kk : Nat, kk < 15 → C1 kk = (C) kk := fun kk h => congrFun z203.symm kk
        have hA_ : St5 A A2 := by rw [← z204]; exact w3
        rw [← z234, ← z235]
        refine ⟨agb_th hI hlo e6 e61 _ hA_, ?_⟩
        exact ⟨_, rfl, fun h => absurd h (by decide)⟩
      · obtain ⟨m238, z239⟩ := z208
        obtain ⟨z240, z241, z242, z243, z244, z245⟩ := z239
        have e246 : u192 = m238 := nI_inj (by omega) (by omega) (z198.trans z242.symm)
        subst e246
        exact absurd z201 (z243 _ (by omega) (by omega))
      · obtain ⟨z247, z248, z249⟩ := z209
        exact absurd z198 (z247 _ (by omega) (by omega))
set_option maxHeartbeats 4000000 in
theorem ag_addTray {A A1 A2 : AF} {C C1 C2 : CF} {x : Int32} {q : Nat} {y : Int32} {k : Nat} {v : Option Value} (hq : q < 65536) (hI : Iv C) (h6 : W_addTray A C x q y k A1 C1) (h7 : K7_addTray A1 C1 x q y v A2 C2) : AgB A C k A2 C2 ∧ ∃ b : Int32, v = some (.int b) ∧ (k = 0 → lN (C2 70 0 0) = b.toInt64) := by
  obtain ⟨w1, w3, -⟩ := w_addTray h6
  have e6 : C1 60 = C 60 := w1 60 (by decide) (by decide)
  have e61 : C1 61 = C 61 := w1 61 (by decide) (by decide)
  obtain ⟨hS, hM, hL⟩ := id hI
  obtain ⟨⟨c3, c4, c5, c6, c7, c8⟩, sU, sP, sT, sJ, ⟨sl, sc⟩, sE, sC, sB⟩ := id hS
  obtain ⟨oU, oP, oJ, oTc, oY, o8, o9, o10, o11, o12, o13, o14, o15, oX, oQ, oB, oK, oS, oJk, oM, oCo, oSh, oLg, oPo, oLl, oL2, oL3, oL4, oLle, oE1, oE2, oE3, oE4⟩ := id hM.1
  unfold K7_addTray at h7
  rw [e6] at h7
  unfold W_addTray at h6
  rcases h6 with ⟨rfl, r, o, C9, ho, hC1, h6⟩ | ⟨rfl, h6⟩ | ⟨rfl, h6⟩ | ⟨rfl, h6⟩
  · unfold K6_addTray at h6
    obtain ⟨u1, u2, z3⟩ := h6
    obtain ⟨z4, z5, z6, z7, z8, z9, z10, z11, z12, z13⟩ := z3
    obtain ⟨u14, z15⟩ := z11
    obtain ⟨z16, z17⟩ := h7
    rcases z17 with z18 | z19 | z20 | z21 | z22
    · obtain ⟨m23, m24, z25⟩ := z18
      obtain ⟨z26, z27, z28, z29, z30, z31, z32, z33, z34⟩ := z25
      have hlt_u1 : u1 < C 60 100 29 := by omega
      obtain ⟨p0_u1, p1_u1, p2_u1, p3_u1, p5_u1⟩ := sP u1 hlt_u1
      have pt_u1 := oTc u1
      have pc_u1 : (C 60 11 u1 = 0 ∧ C 9 u1 2 = 0) ∨ (C 60 11 u1 ≠ 0 ∧ C 9 u1 2 = C 60 5 u1) := by rw [p2_u1]; split <;> omega
      clear p2_u1
      have e35 : u1 = m23 := nI_inj (by omega) (by omega) (z5.trans z27.symm)
      subst e35
      have e36 : u2 = m24 := nI_inj (by omega) (by omega) (z9.trans z31.symm)
      subst e36
      have hlo : ∀ kk : Nat, kk < 15 → C1 kk = (adT C u1 q u2) kk := fun kk h => (congrFun hC1.symm kk).trans ((up3_k (by omega)).trans (congrFun z12.symm kk))
      have hA_ : St5 A A2 := by rw [← z16]; exact w3
      have hk_ := keep_addTray (t := 0) (p := u1) (q := q) (s := u2) hS hM hL hlt_u1 hq (by omega) (by omega) rfl
      rw [← z33, ← z34]
      refine ⟨agb_k hk_ ?_ ?_ (fun kk h => ?_) ?_ ?_ ?_ hA_, ?_⟩
      · funext i_ f_
        simp only [up3, e6]
      · funext i_ f_
        simp only [up3, e61]
      · rw [up3_k (by omega), up3_k (by omega), up3_k (by omega), up3_k (by omega)]
        exact hlo kk h
      · simp [up3]
      · simp [up3]
      · simp [up3]
      · cases Option.some.inj z13
        have h70_ : C1 70 0 0 = o := by rw [← hC1]; exact up3_s
        refine ⟨_, rfl, fun _ => ?_⟩
        refine (congrArg (fun g : Nat → Nat → Nat => lN (g 0 0)) (show _ = C1 70 from by rw [up3_k (by decide), up3_k (by decide), up3_k (by decide), up3_k (by decide)])).trans ?_
        show lN (C1 70 0 0) = _
        refine (congrArg lN h70_).trans (ho.trans ?_)
        exact congrArg (fun n => (nI n).toInt64) (show (C 9 u1 5) = (C 60 2 u1) by first | rfl | omega | (split <;> omega))
    · obtain ⟨m37, m38, z39⟩ := z19
      obtain ⟨z40, z41, z42, z43, z44, z45, z46, z47, z48⟩ := z39
      have hlt_u1 : u1 < C 60 100 29 := by omega
      obtain ⟨p0_u1, p1_u1, p2_u1, p3_u1, p5_u1⟩ := sP u1 hlt_u1
      have pt_u1 := oTc u1
      have pc_u1 : (C 60 11 u1 = 0 ∧ C 9 u1 2 = 0) ∨ (C 60 11 u1 ≠ 0 ∧ C 9 u1 2 = C 60 5 u1) := by rw [p2_u1]; split <;> omega
      clear p2_u1
      have e49 : u1 = m37 := nI_inj (by omega) (by omega) (z5.trans z41.symm)
      subst e49
      have e50 : u2 = m38 := nI_inj (by omega) (by omega) (z9.trans z45.symm)
      subst e50
      omega
    · obtain ⟨m51, z52⟩ := z20
      obtain ⟨z53, z54, z55, z56, z57, z58⟩ := z52
      have hlt_u1 : u1 < C 60 100 29 := by omega
      obtain ⟨p0_u1, p1_u1, p2_u1, p3_u1, p5_u1⟩ := sP u1 hlt_u1
      have pt_u1 := oTc u1
      have pc_u1 : (C 60 11 u1 = 0 ∧ C 9 u1 2 = 0) ∨ (C 60 11 u1 ≠ 0 ∧ C 9 u1 2 = C 60 5 u1) := by rw [p2_u1]; split <;> omega
      clear p2_u1
      have e59 : u1 = m51 := nI_inj (by omega) (by omega) (z5.trans z54.symm)
      subst e59
      exact absurd z9 (z56 _ (by omega) (by omega))
    · obtain ⟨m60, z61⟩ := z21
      obtain ⟨z62, z63, z64, z65, z66⟩ := z61
      have hlt_u1 : u1 < C 60 100 29 := by omega
      obtain ⟨p0_u1, p1_u1, p2_u1, p3_u1, p5_u1⟩ := sP u1 hlt_u1
      have pt_u1 := oTc u1
      have pc_u1 : (C 60 11 u1 = 0 ∧ C 9 u1 2 = 0) ∨ (C 60 11 u1 ≠ 0 ∧ C 9 u1 2 = C 60 5 u1) := by rw [p2_u1]; split <;> omega
      clear p2_u1
      have e67 : u1 = m60 := nI_inj (by omega) (by omega) (z5.trans z63.symm)
      subst e67
      exact absurd z6 z64
    · obtain ⟨z68, z69, z70⟩ := z22
      have hlt_u1 : u1 < C 60 100 29 := by omega
      obtain ⟨p0_u1, p1_u1, p2_u1, p3_u1, p5_u1⟩ := sP u1 hlt_u1
      have pt_u1 := oTc u1
      have pc_u1 : (C 60 11 u1 = 0 ∧ C 9 u1 2 = 0) ∨ (C 60 11 u1 ≠ 0 ∧ C 9 u1 2 = C 60 5 u1) := by rw [p2_u1]; split <;> omega
      clear p2_u1
      exact absurd z5 (z68 _ (by omega))
  · unfold E6_addTray at h6
    obtain ⟨z71, z72⟩ := h6
    rcases z72 with z73 | z74 | z75 | z76
    · obtain ⟨z77, z78, z79⟩ := z73
      obtain ⟨z80, z81⟩ := h7
      rcases z81 with z82 | z83 | z84 | z85 | z86
      · obtain ⟨m87, m88, z89⟩ := z82
        obtain ⟨z90, z91, z92, z93, z94, z95, z96, z97, z98⟩ := z89
        exact absurd z91 (z78 _ (by omega))
      · obtain ⟨m99, m100, z101⟩ := z83
        obtain ⟨z102, z103, z104, z105, z106, z107, z108, z109, z110⟩ := z101
        exact absurd z103 (z78 _ (by omega))
      · obtain ⟨m111, z112⟩ := z84
        obtain ⟨z113, z114, z115, z116, z117, z118⟩ := z112
        exact absurd z114 (z78 _ (by omega))
      · obtain ⟨m119, z120⟩ := z85
        obtain ⟨z121, z122, z123, z124, z125⟩ := z120
        exact absurd z122 (z78 _ (by omega))
      · obtain ⟨z126, z127, z128⟩ := z86
        have hlo : ∀ kk : Nat, kk < 15 → C1 kk = (C) kk := fun kk h => congrFun z79.symm kk
        have hA_ : St5 A A2 := by rw [← z80]; exact w3
        rw [← z127, ← z128]
        refine ⟨agb_th hI hlo e6 e61 _ hA_, ?_⟩
        exact ⟨_, rfl, fun h => absurd h (by decide)⟩
    · obtain ⟨u129, z130⟩ := z74
      obtain ⟨z131, z132, z133, z134, z135⟩ := z130
      exact absurd z131 (by decide +kernel)
    · obtain ⟨u136, z137⟩ := z75
      obtain ⟨z138, z139, z140, z141, z142, z143⟩ := z137
      exact absurd z138 (by decide +kernel)
    · obtain ⟨u144, u145, z146⟩ := z76
      obtain ⟨z147, z148, z149, z150, z151, z152, z153, z154, z155⟩ := z146
      exact absurd z147 (by decide +kernel)
  · unfold E6_addTray at h6
    obtain ⟨z156, z157⟩ := h6
    rcases z157 with z158 | z159 | z160 | z161
    · obtain ⟨z162, z163, z164⟩ := z158
      exact absurd z162 (by decide +kernel)
    · obtain ⟨u165, z166⟩ := z159
      obtain ⟨z167, z168, z169, z170, z171⟩ := z166
      obtain ⟨z172, z173⟩ := h7
      rcases z173 with z174 | z175 | z176 | z177 | z178
      · obtain ⟨m179, m180, z181⟩ := z174
        obtain ⟨z182, z183, z184, z185, z186, z187, z188, z189, z190⟩ := z181
        have hlt_u165 : u165 < C 60 100 29 := by omega
        obtain ⟨p0_u165, p1_u165, p2_u165, p3_u165, p5_u165⟩ := sP u165 hlt_u165
        have pt_u165 := oTc u165
        have pc_u165 : (C 60 11 u165 = 0 ∧ C 9 u165 2 = 0) ∨ (C 60 11 u165 ≠ 0 ∧ C 9 u165 2 = C 60 5 u165) := by rw [p2_u165]; split <;> omega
        clear p2_u165
        have e191 : u165 = m179 := nI_inj (by omega) (by omega) (z169.trans z183.symm)
        subst e191
        exact absurd z184 z170
      · obtain ⟨m192, m193, z194⟩ := z175
        obtain ⟨z195, z196, z197, z198, z199, z200, z201, z202, z203⟩ := z194
        have hlt_u165 : u165 < C 60 100 29 := by omega
        obtain ⟨p0_u165, p1_u165, p2_u165, p3_u165, p5_u165⟩ := sP u165 hlt_u165
        have pt_u165 := oTc u165
        have pc_u165 : (C 60 11 u165 = 0 ∧ C 9 u165 2 = 0) ∨ (C 60 11 u165 ≠ 0 ∧ C 9 u165 2 = C 60 5 u165) := by rw [p2_u165]; split <;> omega
        clear p2_u165
        have e204 : u165 = m192 := nI_inj (by omega) (by omega) (z169.trans z196.symm)
        subst e204
        exact absurd z197 z170
      · obtain ⟨m205, z206⟩ := z176
        obtain ⟨z207, z208, z209, z210, z211, z212⟩ := z206
        have hlt_u165 : u165 < C 60 100 29 := by omega
        obtain ⟨p0_u165, p1_u165, p2_u165, p3_u165, p5_u165⟩ := sP u165 hlt_u165
        have pt_u165 := oTc u165
        have pc_u165 : (C 60 11 u165 = 0 ∧ C 9 u165 2 = 0) ∨ (C 60 11 u165 ≠ 0 ∧ C 9 u165 2 = C 60 5 u165) := by rw [p2_u165]; split <;> omega
        clear p2_u165
        have e213 : u165 = m205 := nI_inj (by omega) (by omega) (z169.trans z208.symm)
        subst e213
        exact absurd z209 z170
      · obtain ⟨m214, z215⟩ := z177
        obtain ⟨z216, z217, z218, z219, z220⟩ := z215
        have hlt_u165 : u165 < C 60 100 29 := by omega
        obtain ⟨p0_u165, p1_u165, p2_u165, p3_u165, p5_u165⟩ := sP u165 hlt_u165
        have pt_u165 := oTc u165
        have pc_u165 : (C 60 11 u165 = 0 ∧ C 9 u165 2 = 0) ∨ (C 60 11 u165 ≠ 0 ∧ C 9 u165 2 = C 60 5 u165) := by rw [p2_u165]; split <;> omega
        clear p2_u165
        have e221 : u165 = m214 := nI_inj (by omega) (by omega) (z169.trans z217.symm)
        subst e221
        have hlo : ∀ kk : Nat, kk < 15 → C1 kk = (C) kk := fun kk h => congrFun z171.symm kk
        have hA_ : St5 A A2 := by rw [← z172]; exact w3
        rw [← z219, ← z220]
        refine ⟨agb_th hI hlo e6 e61 _ hA_, ?_⟩
        exact ⟨_, rfl, fun h => absurd h (by decide)⟩
      · obtain ⟨z222, z223, z224⟩ := z178
        have hlt_u165 : u165 < C 60 100 29 := by omega
        obtain ⟨p0_u165, p1_u165, p2_u165, p3_u165, p5_u165⟩ := sP u165 hlt_u165
        have pt_u165 := oTc u165
        have pc_u165 : (C 60 11 u165 = 0 ∧ C 9 u165 2 = 0) ∨ (C 60 11 u165 ≠ 0 ∧ C 9 u165 2 = C 60 5 u165) := by rw [p2_u165]; split <;> omega
        clear p2_u165
        exact absurd z169 (z222 _ (by omega))
    · obtain ⟨u225, z226⟩ := z160
      obtain ⟨z227, z228, z229, z230, z231, z232⟩ := z226
      obtain ⟨z233, z234⟩ := h7
      rcases z234 with z235 | z236 | z237 | z238 | z239
      · obtain ⟨m240, m241, z242⟩ := z235
        obtain ⟨z243, z244, z245, z246, z247, z248, z249, z250, z251⟩ := z242
        have hlt_u225 : u225 < C 60 100 29 := by omega
        obtain ⟨p0_u225, p1_u225, p2_u225, p3_u225, p5_u225⟩ := sP u225 hlt_u225
        have pt_u225 := oTc u225
        have pc_u225 : (C 60 11 u225 = 0 ∧ C 9 u225 2 = 0) ∨ (C 60 11 u225 ≠ 0 ∧ C 9 u225 2 = C 60 5 u225) := by rw [p2_u225]; split <;> omega
        clear p2_u225
        have e252 : u225 = m240 := nI_inj (by omega) (by omega) (z229.trans z244.symm)
        subst e252
        exact absurd z248 (z231 _ (by omega) (by omega))
      · obtain ⟨m253, m254, z255⟩ := z236
        obtain ⟨z256, z257, z258, z259, z260, z261, z262, z263, z264⟩ := z255
        have hlt_u225 : u225 < C 60 100 29 := by omega
        obtain ⟨p0_u225, p1_u225, p2_u225, p3_u225, p5_u225⟩ := sP u225 hlt_u225
        have pt_u225 := oTc u225
        have pc_u225 : (C 60 11 u225 = 0 ∧ C 9 u225 2 = 0) ∨ (C 60 11 u225 ≠ 0 ∧ C 9 u225 2 = C 60 5 u225) := by rw [p2_u225]; split <;> omega
        clear p2_u225
        have e265 : u225 = m253 := nI_inj (by omega) (by omega) (z229.trans z257.symm)
        subst e265
        exact absurd z261 (z231 _ (by omega) (by omega))
      · obtain ⟨m266, z267⟩ := z237
        obtain ⟨z268, z269, z270, z271, z272, z273⟩ := z267
        have hlt_u225 : u225 < C 60 100 29 := by omega
        obtain ⟨p0_u225, p1_u225, p2_u225, p3_u225, p5_u225⟩ := sP u225 hlt_u225
        have pt_u225 := oTc u225
        have pc_u225 : (C 60 11 u225 = 0 ∧ C 9 u225 2 = 0) ∨ (C 60 11 u225 ≠ 0 ∧ C 9 u225 2 = C 60 5 u225) := by rw [p2_u225]; split <;> omega
        clear p2_u225
        have e274 : u225 = m266 := nI_inj (by omega) (by omega) (z229.trans z269.symm)
        subst e274
        have hlo : ∀ kk : Nat, kk < 15 → C1 kk = (C) kk := fun kk h => congrFun z232.symm kk
        have hA_ : St5 A A2 := by rw [← z233]; exact w3
        rw [← z272, ← z273]
        refine ⟨agb_th hI hlo e6 e61 _ hA_, ?_⟩
        exact ⟨_, rfl, fun h => absurd h (by decide)⟩
      · obtain ⟨m275, z276⟩ := z238
        obtain ⟨z277, z278, z279, z280, z281⟩ := z276
        have hlt_u225 : u225 < C 60 100 29 := by omega
        obtain ⟨p0_u225, p1_u225, p2_u225, p3_u225, p5_u225⟩ := sP u225 hlt_u225
        have pt_u225 := oTc u225
        have pc_u225 : (C 60 11 u225 = 0 ∧ C 9 u225 2 = 0) ∨ (C 60 11 u225 ≠ 0 ∧ C 9 u225 2 = C 60 5 u225) := by rw [p2_u225]; split <;> omega
        clear p2_u225
        have e282 : u225 = m275 := nI_inj (by omega) (by omega) (z229.trans z278.symm)
        subst e282
        exact absurd z230 z279
      · obtain ⟨z283, z284, z285⟩ := z239
        have hlt_u225 : u225 < C 60 100 29 := by omega
        obtain ⟨p0_u225, p1_u225, p2_u225, p3_u225, p5_u225⟩ := sP u225 hlt_u225
        have pt_u225 := oTc u225
        have pc_u225 : (C 60 11 u225 = 0 ∧ C 9 u225 2 = 0) ∨ (C 60 11 u225 ≠ 0 ∧ C 9 u225 2 = C 60 5 u225) := by rw [p2_u225]; split <;> omega
        clear p2_u225
        exact absurd z229 (z283 _ (by omega))
    · obtain ⟨u286, u287, z288⟩ := z161
      obtain ⟨z289, z290, z291, z292, z293, z294, z295, z296, z297⟩ := z288
      exact absurd z289 (by decide +kernel)
  · unfold E6_addTray at h6
    obtain ⟨z298, z299⟩ := h6
    rcases z299 with z300 | z301 | z302 | z303
    · obtain ⟨z304, z305, z306⟩ := z300
      exact absurd z304 (by decide +kernel)
    · obtain ⟨u307, z308⟩ := z301
      obtain ⟨z309, z310, z311, z312, z313⟩ := z308
      exact absurd z309 (by decide +kernel)
    · obtain ⟨u314, z315⟩ := z302
      obtain ⟨z316, z317, z318, z319, z320, z321⟩ := z315
      exact absurd z316 (by decide +kernel)
    · obtain ⟨u322, u323, z324⟩ := z303
      obtain ⟨z325, z326, z327, z328, z329, z330, z331, z332, z333⟩ := z324
      obtain ⟨z334, z335⟩ := h7
      rcases z335 with z336 | z337 | z338 | z339 | z340
      · obtain ⟨m341, m342, z343⟩ := z336
        obtain ⟨z344, z345, z346, z347, z348, z349, z350, z351, z352⟩ := z343
        have hlt_u322 : u322 < C 60 100 29 := by omega
        obtain ⟨p0_u322, p1_u322, p2_u322, p3_u322, p5_u322⟩ := sP u322 hlt_u322
        have pt_u322 := oTc u322
        have pc_u322 : (C 60 11 u322 = 0 ∧ C 9 u322 2 = 0) ∨ (C 60 11 u322 ≠ 0 ∧ C 9 u322 2 = C 60 5 u322) := by rw [p2_u322]; split <;> omega
        clear p2_u322
        have e353 : u322 = m341 := nI_inj (by omega) (by omega) (z327.trans z345.symm)
        subst e353
        have e354 : u323 = m342 := nI_inj (by omega) (by omega) (z331.trans z349.symm)
        subst e354
        omega
      · obtain ⟨m355, m356, z357⟩ := z337
        obtain ⟨z358, z359, z360, z361, z362, z363, z364, z365, z366⟩ := z357
        have hlt_u322 : u322 < C 60 100 29 := by omega
        obtain ⟨p0_u322, p1_u322, p2_u322, p3_u322, p5_u322⟩ := sP u322 hlt_u322
        have pt_u322 := oTc u322
        have pc_u322 : (C 60 11 u322 = 0 ∧ C 9 u322 2 = 0) ∨ (C 60 11 u322 ≠ 0 ∧ C 9 u322 2 = C 60 5 u322) := by rw [p2_u322]; split <;> omega
        clear p2_u322
        have e367 : u322 = m355 := nI_inj (by omega) (by omega) (z327.trans z359.symm)
        subst e367
        have e368 : u323 = m356 := nI_inj (by omega) (by omega) (z331.trans z363.symm)
        subst e368
        have hlo : ∀ kk : Nat, kk < 15 → C1 kk = (C) kk := fun kk h => congrFun z333.symm kk
        have hA_ : St5 A A2 := by rw [← z334]; exact w3
        rw [← z365, ← z366]
        refine ⟨agb_th hI hlo e6 e61 _ hA_, ?_⟩
        exact ⟨_, rfl, fun h => absurd h (by decide)⟩
      · obtain ⟨m369, z370⟩ := z338
        obtain ⟨z371, z372, z373, z374, z375, z376⟩ := z370
        have hlt_u322 : u322 < C 60 100 29 := by omega
        obtain ⟨p0_u322, p1_u322, p2_u322, p3_u322, p5_u322⟩ := sP u322 hlt_u322
        have pt_u322 := oTc u322
        have pc_u322 : (C 60 11 u322 = 0 ∧ C 9 u322 2 = 0) ∨ (C 60 11 u322 ≠ 0 ∧ C 9 u322 2 = C 60 5 u322) := by rw [p2_u322]; split <;> omega
        clear p2_u322
        have e377 : u322 = m369 := nI_inj (by omega) (by omega) (z327.trans z372.symm)
        subst e377
        exact absurd z331 (z374 _ (by omega) (by omega))
      · obtain ⟨m378, z379⟩ := z339
        obtain ⟨z380, z381, z382, z383, z384⟩ := z379
        have hlt_u322 : u322 < C 60 100 29 := by omega
        obtain ⟨p0_u322, p1_u322, p2_u322, p3_u322, p5_u322⟩ := sP u322 hlt_u322
        have pt_u322 := oTc u322
        have pc_u322 : (C 60 11 u322 = 0 ∧ C 9 u322 2 = 0) ∨ (C 60 11 u322 ≠ 0 ∧ C 9 u322 2 = C 60 5 u322) := by rw [p2_u322]; split <;> omega
        clear p2_u322
        have e385 : u322 = m378 := nI_inj (by omega) (by omega) (z327.trans z381.symm)
        subst e385
        exact absurd z328 z382
      · obtain ⟨z386, z387, z388⟩ := z340
        have hlt_u322 : u322 < C 60 100 29 := by omega
        obtain ⟨p0_u322, p1_u322, p2_u322, p3_u322, p5_u322⟩ := sP u322 hlt_u322
        have pt_u322 := oTc u322
        have pc_u322 : (C 60 11 u322 = 0 ∧ C 9 u322 2 = 0) ∨ (C 60 11 u322 ≠ 0 ∧ C 9 u322 2 = C 60 5 u322) := by rw [p2_u322]; split <;> omega
        clear p2_u322
        exact absurd z327 (z386 _ (by omega))
set_option maxHeartbeats 4000000 in
theorem ag_trayCount {A A1 A2 : AF} {C C1 C2 : CF} {x : Int32} {k : Nat} {v : Option Value}  (hI : Iv C) (h6 : W_trayCount A C x k A1 C1) (h7 : K7_trayCount A1 C1 x v A2 C2) : AgB A C k A2 C2 ∧ ∃ b : Int32, v = some (.int b) ∧ (k = 0 → lN (C2 70 0 0) = b.toInt64) := by
  obtain ⟨w1, w3, -⟩ := w_trayCount h6
  have e6 : C1 60 = C 60 := w1 60 (by decide) (by decide)
  have e61 : C1 61 = C 61 := w1 61 (by decide) (by decide)
  obtain ⟨hS, hM, hL⟩ := id hI
  obtain ⟨⟨c3, c4, c5, c6, c7, c8⟩, sU, sP, sT, sJ, ⟨sl, sc⟩, sE, sC, sB⟩ := id hS
  obtain ⟨oU, oP, oJ, oTc, oY, o8, o9, o10, o11, o12, o13, o14, o15, oX, oQ, oB, oK, oS, oJk, oM, oCo, oSh, oLg, oPo, oLl, oL2, oL3, oL4, oLle, oE1, oE2, oE3, oE4⟩ := id hM.1
  unfold K7_trayCount at h7
  rw [e6] at h7
  unfold W_trayCount at h6
  rcases h6 with ⟨rfl, r, o, C9, ho, hC1, h6⟩ | ⟨rfl, h6⟩
  · unfold K6_trayCount at h6
    obtain ⟨z1, z2⟩ := h6
    obtain ⟨u3, z4⟩ := z2
    obtain ⟨z5, z6, z7, z8⟩ := z4
    obtain ⟨z9, z10⟩ := h7
    rcases z10 with z11 | z12
    · obtain ⟨m13, z14⟩ := z11
      obtain ⟨z15, z16, z17, z18⟩ := z14
      have hlt_u3 : u3 < C 60 100 29 := by omega
      obtain ⟨p0_u3, p1_u3, p2_u3, p3_u3, p5_u3⟩ := sP u3 hlt_u3
      have pt_u3 := oTc u3
      have pc_u3 : (C 60 11 u3 = 0 ∧ C 9 u3 2 = 0) ∨ (C 60 11 u3 ≠ 0 ∧ C 9 u3 2 = C 60 5 u3) := by rw [p2_u3]; split <;> omega
      clear p2_u3
      have e19 : u3 = m13 := nI_inj (by omega) (by omega) (z6.trans z16.symm)
      subst e19
      have hlo : ∀ kk : Nat, kk < 15 → C1 kk = (C) kk := fun kk h => (congrFun hC1.symm kk).trans ((up3_k (by omega)).trans (congrFun z7.symm kk))
      have hA_ : St5 A A2 := by rw [← z9]; exact w3
      rw [← z17, ← z18]
      refine ⟨agb_th hI hlo e6 e61 _ hA_, ?_⟩
      cases Option.some.inj z8
      have h70_ : C1 70 0 0 = o := by rw [← hC1]; exact up3_s
      refine ⟨_, rfl, fun _ => ?_⟩
      refine (congrArg (fun g : Nat → Nat → Nat => lN (g 0 0)) (up3_k (by decide))).trans ?_
      show lN (C1 70 0 0) = _
      refine (congrArg lN h70_).trans (ho.trans ?_)
      exact congrArg (fun n => (nI n).toInt64) (show (C 9 u3 5) = (C 60 2 u3) by first | rfl | omega | (split <;> omega))
    · obtain ⟨z20, z21, z22⟩ := z12
      have hlt_u3 : u3 < C 60 100 29 := by omega
      obtain ⟨p0_u3, p1_u3, p2_u3, p3_u3, p5_u3⟩ := sP u3 hlt_u3
      have pt_u3 := oTc u3
      have pc_u3 : (C 60 11 u3 = 0 ∧ C 9 u3 2 = 0) ∨ (C 60 11 u3 ≠ 0 ∧ C 9 u3 2 = C 60 5 u3) := by rw [p2_u3]; split <;> omega
      clear p2_u3
      exact absurd z6 (z20 _ (by omega))
  · unfold E6_trayCount at h6
    obtain ⟨z23, z24⟩ := h6
    obtain ⟨z25, z26, z27⟩ := z24
    obtain ⟨z28, z29⟩ := h7
    rcases z29 with z30 | z31
    · obtain ⟨m32, z33⟩ := z30
      obtain ⟨z34, z35, z36, z37⟩ := z33
      exact absurd z35 (z26 _ (by omega))
    · obtain ⟨z38, z39, z40⟩ := z31
      have hlo : ∀ kk : Nat, kk < 15 → C1 kk = (C) kk := fun kk h => congrFun z27.symm kk
      have hA_ : St5 A A2 := by rw [← z28]; exact w3
      rw [← z39, ← z40]
      refine ⟨agb_th hI hlo e6 e61 _ hA_, ?_⟩
      exact ⟨_, rfl, fun h => absurd h (by decide)⟩
set_option maxHeartbeats 4000000 in
theorem ag_load {A A1 A2 : AF} {C C1 C2 : CF} {x : Int32} {y : Int32} {w : Int32} {k : Nat} {v : Option Value}  (hI : Iv C) (h6 : W_load A C x y w k A1 C1) (h7 : K7_load A1 C1 x y w v A2 C2) : AgB A C k A2 C2 ∧ ∃ b : Int32, v = some (.int b) ∧ (k = 0 → lN (C2 70 0 0) = b.toInt64) := by
  obtain ⟨w1, w3, -⟩ := w_load h6
  have e6 : C1 60 = C 60 := w1 60 (by decide) (by decide)
  have e61 : C1 61 = C 61 := w1 61 (by decide) (by decide)
  obtain ⟨hS, hM, hL⟩ := id hI
  obtain ⟨⟨c3, c4, c5, c6, c7, c8⟩, sU, sP, sT, sJ, ⟨sl, sc⟩, sE, sC, sB⟩ := id hS
  obtain ⟨oU, oP, oJ, oTc, oY, o8, o9, o10, o11, o12, o13, o14, o15, oX, oQ, oB, oK, oS, oJk, oM, oCo, oSh, oLg, oPo, oLl, oL2, oL3, oL4, oLle, oE1, oE2, oE3, oE4⟩ := id hM.1
  unfold K7_load at h7
  rw [e6] at h7
  unfold W_load at h6
  rcases h6 with ⟨rfl, r, o, C9, ho, hC1, h6⟩ | ⟨rfl, h6⟩ | ⟨rfl, h6⟩ | ⟨rfl, h6⟩
  · unfold K6_load at h6
    obtain ⟨z1, z2⟩ := h6
    obtain ⟨u3, u4, u5, z6⟩ := z2
    obtain ⟨z7, z8, z9, z10, z11, z12, z13, z14, z15, z16⟩ := z6
    obtain ⟨z17, z18⟩ := h7
    rcases z18 with z19 | z20 | z21 | z22
    · obtain ⟨m23, m24, m25, z26⟩ := z19
      obtain ⟨z27, z28, z29, z30, z31, z32, z33, z34, z35, z36⟩ := z26
      have hlt_u3 : u3 < C 60 100 29 := by omega
      obtain ⟨p0_u3, p1_u3, p2_u3, p3_u3, p5_u3⟩ := sP u3 hlt_u3
      have pt_u3 := oTc u3
      have pc_u3 : (C 60 11 u3 = 0 ∧ C 9 u3 2 = 0) ∨ (C 60 11 u3 ≠ 0 ∧ C 9 u3 2 = C 60 5 u3) := by rw [p2_u3]; split <;> omega
      clear p2_u3
      have hlt_u4 : u4 < C 60 2 u3 := by omega
      obtain ⟨t0_u4, t1_u4⟩ := sT u3 u4 hlt_u3 hlt_u4
      have e37 : u3 = m23 := nI_inj (by omega) (by omega) (z9.trans z29.symm)
      subst e37
      have e38 : u4 = m24 := nI_inj (by omega) (by omega) (z10.trans z30.symm)
      subst e38
      have e39 : u5 = m25 := nI_inj (by omega) (by omega) (z13.trans z33.symm)
      subst e39
      have hlo : ∀ kk : Nat, kk < 15 → C1 kk = (up3 C 12 (3 * u3 + u4) 1 ((C 12 (3 * u3 + u4) 1) + u5)) kk := fun kk h => (congrFun hC1.symm kk).trans ((up3_k (by omega)).trans (congrFun z15.symm kk))
      have hA_ : St5 A A2 := by rw [← z17]; exact w3
      have hk_ := keep_load (t := 0) (p := u3) (i0 := u4) (v := C 12 (3 * u3 + u4) 1 + u5) hS hM hL (by omega) (D2 := up3 (up3 C 60 100 27 0) 60 3 (3 * u3 + u4) (C 60 3 (3 * u3 + u4) + u5)) (by rw [t1_u4])
      rw [← z35, ← z36]
      refine ⟨agb_k hk_ ?_ ?_ (fun kk h => ?_) ?_ ?_ ?_ hA_, ?_⟩
      · funext i_ f_
        simp only [up3, e6]
      · funext i_ f_
        simp only [up3, e61]
      · rw [up3_k (by omega), up3_k (by omega)]
        exact hlo kk h
      · simp [up3]
      · simp [up3]
      · simp [up3]
      · cases Option.some.inj z16
        have h70_ : C1 70 0 0 = o := by rw [← hC1]; exact up3_s
        refine ⟨_, rfl, fun _ => ?_⟩
        refine (congrArg (fun g : Nat → Nat → Nat => lN (g 0 0)) (show _ = C1 70 from by rw [up3_k (by decide), up3_k (by decide)])).trans ?_
        show lN (C1 70 0 0) = _
        refine (congrArg lN h70_).trans (ho.trans ?_)
        exact congrArg (fun n => (nI n).toInt64) (show ((C 12 (3 * u3 + u4) 1) + u5) = ((C 60 3 ((3 * u3) + u4)) + u5) by first | rfl | omega | (split <;> omega))
    · obtain ⟨m40, m41, m42, z43⟩ := z20
      obtain ⟨z44, z45, z46, z47, z48, z49, z50, z51, z52, z53⟩ := z43
      have hlt_u3 : u3 < C 60 100 29 := by omega
      obtain ⟨p0_u3, p1_u3, p2_u3, p3_u3, p5_u3⟩ := sP u3 hlt_u3
      have pt_u3 := oTc u3
      have pc_u3 : (C 60 11 u3 = 0 ∧ C 9 u3 2 = 0) ∨ (C 60 11 u3 ≠ 0 ∧ C 9 u3 2 = C 60 5 u3) := by rw [p2_u3]; split <;> omega
      clear p2_u3
      have hlt_u4 : u4 < C 60 2 u3 := by omega
      obtain ⟨t0_u4, t1_u4⟩ := sT u3 u4 hlt_u3 hlt_u4
      have e54 : u3 = m40 := nI_inj (by omega) (by omega) (z9.trans z46.symm)
      subst e54
      have e55 : u4 = m41 := nI_inj (by omega) (by omega) (z10.trans z47.symm)
      subst e55
      have e56 : u5 = m42 := nI_inj (by omega) (by omega) (z13.trans z50.symm)
      subst e56
      omega
    · obtain ⟨m57, m58, z59⟩ := z21
      obtain ⟨z60, z61, z62, z63, z64, z65, z66⟩ := z59
      have hlt_u3 : u3 < C 60 100 29 := by omega
      obtain ⟨p0_u3, p1_u3, p2_u3, p3_u3, p5_u3⟩ := sP u3 hlt_u3
      have pt_u3 := oTc u3
      have pc_u3 : (C 60 11 u3 = 0 ∧ C 9 u3 2 = 0) ∨ (C 60 11 u3 ≠ 0 ∧ C 9 u3 2 = C 60 5 u3) := by rw [p2_u3]; split <;> omega
      clear p2_u3
      have hlt_u4 : u4 < C 60 2 u3 := by omega
      obtain ⟨t0_u4, t1_u4⟩ := sT u3 u4 hlt_u3 hlt_u4
      have e67 : u3 = m57 := nI_inj (by omega) (by omega) (z9.trans z62.symm)
      subst e67
      have e68 : u4 = m58 := nI_inj (by omega) (by omega) (z10.trans z63.symm)
      subst e68
      exact absurd z13 (z64 _ (by omega) (by omega))
    · obtain ⟨z69, z70, z71⟩ := z22
      rcases z69 with z72 | z73
      · have hlt_u3 : u3 < C 60 100 29 := by omega
        obtain ⟨p0_u3, p1_u3, p2_u3, p3_u3, p5_u3⟩ := sP u3 hlt_u3
        have pt_u3 := oTc u3
        have pc_u3 : (C 60 11 u3 = 0 ∧ C 9 u3 2 = 0) ∨ (C 60 11 u3 ≠ 0 ∧ C 9 u3 2 = C 60 5 u3) := by rw [p2_u3]; split <;> omega
        clear p2_u3
        have hlt_u4 : u4 < C 60 2 u3 := by omega
        obtain ⟨t0_u4, t1_u4⟩ := sT u3 u4 hlt_u3 hlt_u4
        exact absurd z9 (z72 _ (by omega))
      · obtain ⟨m74, z75⟩ := z73
        obtain ⟨z76, z77, z78⟩ := z75
        have hlt_u3 : u3 < C 60 100 29 := by omega
        obtain ⟨p0_u3, p1_u3, p2_u3, p3_u3, p5_u3⟩ := sP u3 hlt_u3
        have pt_u3 := oTc u3
        have pc_u3 : (C 60 11 u3 = 0 ∧ C 9 u3 2 = 0) ∨ (C 60 11 u3 ≠ 0 ∧ C 9 u3 2 = C 60 5 u3) := by rw [p2_u3]; split <;> omega
        clear p2_u3
        have hlt_u4 : u4 < C 60 2 u3 := by omega
        obtain ⟨t0_u4, t1_u4⟩ := sT u3 u4 hlt_u3 hlt_u4
        have e79 : u3 = m74 := nI_inj (by omega) (by omega) (z9.trans z77.symm)
        subst e79
        exact absurd z10 (z78 _ (by omega))
  · unfold E6_load at h6
    obtain ⟨z80, z81⟩ := h6
    rcases z81 with z82 | z83 | z84
    · obtain ⟨z85, z86, z87⟩ := z82
      rcases z86 with z88 | z89
      · obtain ⟨z90, z91⟩ := h7
        rcases z91 with z92 | z93 | z94 | z95
        · obtain ⟨m96, m97, m98, z99⟩ := z92
          obtain ⟨z100, z101, z102, z103, z104, z105, z106, z107, z108, z109⟩ := z99
          exact absurd z102 (z88 _ (by omega))
        · obtain ⟨m110, m111, m112, z113⟩ := z93
          obtain ⟨z114, z115, z116, z117, z118, z119, z120, z121, z122, z123⟩ := z113
          exact absurd z116 (z88 _ (by omega))
        · obtain ⟨m124, m125, z126⟩ := z94
          obtain ⟨z127, z128, z129, z130, z131, z132, z133⟩ := z126
          exact absurd z129 (z88 _ (by omega))
        · obtain ⟨z134, z135, z136⟩ := z95
          rcases z134 with z137 | z138
          · have hlo : ∀ kk : Nat, kk < 15 → C1 kk = (C) kk := fun kk h => congrFun z87.symm kk
            have hA_ : St5 A A2 := by rw [← z90]; exact w3
            rw [← z135, ← z136]
            refine ⟨agb_th hI hlo e6 e61 _ hA_, ?_⟩
            exact ⟨_, rfl, fun h => absurd h (by decide)⟩
          · obtain ⟨m139, z140⟩ := z138
            obtain ⟨z141, z142, z143⟩ := z140
            have hlo : ∀ kk : Nat, kk < 15 → C1 kk = (C) kk := fun kk h => congrFun z87.symm kk
            have hA_ : St5 A A2 := by rw [← z90]; exact w3
            rw [← z135, ← z136]
            refine ⟨agb_th hI hlo e6 e61 _ hA_, ?_⟩
            exact ⟨_, rfl, fun h => absurd h (by decide)⟩
      · obtain ⟨u144, z145⟩ := z89
        obtain ⟨z146, z147, z148⟩ := z145
        obtain ⟨z149, z150⟩ := h7
        rcases z150 with z151 | z152 | z153 | z154
        · obtain ⟨m155, m156, m157, z158⟩ := z151
          obtain ⟨z159, z160, z161, z162, z163, z164, z165, z166, z167, z168⟩ := z158
          have hlt_u144 : u144 < C 60 100 29 := by omega
          obtain ⟨p0_u144, p1_u144, p2_u144, p3_u144, p5_u144⟩ := sP u144 hlt_u144
          have pt_u144 := oTc u144
          have pc_u144 : (C 60 11 u144 = 0 ∧ C 9 u144 2 = 0) ∨ (C 60 11 u144 ≠ 0 ∧ C 9 u144 2 = C 60 5 u144) := by rw [p2_u144]; split <;> omega
          clear p2_u144
          have e169 : u144 = m155 := nI_inj (by omega) (by omega) (z147.trans z161.symm)
          subst e169
          exact absurd z162 (z148 _ (by omega))
        · obtain ⟨m170, m171, m172, z173⟩ := z152
          obtain ⟨z174, z175, z176, z177, z178, z179, z180, z181, z182, z183⟩ := z173
          have hlt_u144 : u144 < C 60 100 29 := by omega
          obtain ⟨p0_u144, p1_u144, p2_u144, p3_u144, p5_u144⟩ := sP u144 hlt_u144
          have pt_u144 := oTc u144
          have pc_u144 : (C 60 11 u144 = 0 ∧ C 9 u144 2 = 0) ∨ (C 60 11 u144 ≠ 0 ∧ C 9 u144 2 = C 60 5 u144) := by rw [p2_u144]; split <;> omega
          clear p2_u144
          have e184 : u144 = m170 := nI_inj (by omega) (by omega) (z147.trans z176.symm)
          subst e184
          exact absurd z177 (z148 _ (by omega))
        · obtain ⟨m185, m186, z187⟩ := z153
          obtain ⟨z188, z189, z190, z191, z192, z193, z194⟩ := z187
          have hlt_u144 : u144 < C 60 100 29 := by omega
          obtain ⟨p0_u144, p1_u144, p2_u144, p3_u144, p5_u144⟩ := sP u144 hlt_u144
          have pt_u144 := oTc u144
          have pc_u144 : (C 60 11 u144 = 0 ∧ C 9 u144 2 = 0) ∨ (C 60 11 u144 ≠ 0 ∧ C 9 u144 2 = C 60 5 u144) := by rw [p2_u144]; split <;> omega
          clear p2_u144
          have e195 : u144 = m185 := nI_inj (by omega) (by omega) (z147.trans z190.symm)
          subst e195
          exact absurd z191 (z148 _ (by omega))
        · obtain ⟨z196, z197, z198⟩ := z154
          rcases z196 with z199 | z200
          · have hlt_u144 : u144 < C 60 100 29 := by omega
            obtain ⟨p0_u144, p1_u144, p2_u144, p3_u144, p5_u144⟩ := sP u144 hlt_u144
            have pt_u144 := oTc u144
            have pc_u144 : (C 60 11 u144 = 0 ∧ C 9 u144 2 = 0) ∨ (C 60 11 u144 ≠ 0 ∧ C 9 u144 2 = C 60 5 u144) := by rw [p2_u144]; split <;> omega
            clear p2_u144
            have hlo : ∀ kk : Nat, kk < 15 → C1 kk = (C) kk := fun kk h => congrFun z87.symm kk
            have hA_ : St5 A A2 := by rw [← z149]; exact w3
            rw [← z197, ← z198]
            refine ⟨agb_th hI hlo e6 e61 _ hA_, ?_⟩
            exact ⟨_, rfl, fun h => absurd h (by decide)⟩
          · obtain ⟨m201, z202⟩ := z200
            obtain ⟨z203, z204, z205⟩ := z202
            have hlt_u144 : u144 < C 60 100 29 := by omega
            obtain ⟨p0_u144, p1_u144, p2_u144, p3_u144, p5_u144⟩ := sP u144 hlt_u144
            have pt_u144 := oTc u144
            have pc_u144 : (C 60 11 u144 = 0 ∧ C 9 u144 2 = 0) ∨ (C 60 11 u144 ≠ 0 ∧ C 9 u144 2 = C 60 5 u144) := by rw [p2_u144]; split <;> omega
            clear p2_u144
            have e206 : u144 = m201 := nI_inj (by omega) (by omega) (z147.trans z204.symm)
            subst e206
            have hlo : ∀ kk : Nat, kk < 15 → C1 kk = (C) kk := fun kk h => congrFun z87.symm kk
            have hA_ : St5 A A2 := by rw [← z149]; exact w3
            rw [← z197, ← z198]
            refine ⟨agb_th hI hlo e6 e61 _ hA_, ?_⟩
            exact ⟨_, rfl, fun h => absurd h (by decide)⟩
    · obtain ⟨u207, u208, z209⟩ := z83
      obtain ⟨z210, z211, z212, z213, z214, z215, z216⟩ := z209
      exact absurd z210 (by decide +kernel)
    · obtain ⟨u217, u218, u219, z220⟩ := z84
      obtain ⟨z221, z222, z223, z224, z225, z226, z227, z228, z229, z230⟩ := z220
      exact absurd z221 (by decide +kernel)
  · unfold E6_load at h6
    obtain ⟨z231, z232⟩ := h6
    rcases z232 with z233 | z234 | z235
    · obtain ⟨z236, z237, z238⟩ := z233
      rcases z237 with z239 | z240
      · exact absurd z236 (by decide +kernel)
      · obtain ⟨u241, z242⟩ := z240
        obtain ⟨z243, z244, z245⟩ := z242
        exact absurd z236 (by decide +kernel)
    · obtain ⟨u246, u247, z248⟩ := z234
      obtain ⟨z249, z250, z251, z252, z253, z254, z255⟩ := z248
      obtain ⟨z256, z257⟩ := h7
      rcases z257 with z258 | z259 | z260 | z261
      · obtain ⟨m262, m263, m264, z265⟩ := z258
        obtain ⟨z266, z267, z268, z269, z270, z271, z272, z273, z274, z275⟩ := z265
        have hlt_u246 : u246 < C 60 100 29 := by omega
        obtain ⟨p0_u246, p1_u246, p2_u246, p3_u246, p5_u246⟩ := sP u246 hlt_u246
        have pt_u246 := oTc u246
        have pc_u246 : (C 60 11 u246 = 0 ∧ C 9 u246 2 = 0) ∨ (C 60 11 u246 ≠ 0 ∧ C 9 u246 2 = C 60 5 u246) := by rw [p2_u246]; split <;> omega
        clear p2_u246
        have hlt_u247 : u247 < C 60 2 u246 := by omega
        obtain ⟨t0_u247, t1_u247⟩ := sT u246 u247 hlt_u246 hlt_u247
        have e276 : u246 = m262 := nI_inj (by omega) (by omega) (z252.trans z268.symm)
        subst e276
        have e277 : u247 = m263 := nI_inj (by omega) (by omega) (z253.trans z269.symm)
        subst e277
        exact absurd z272 (z254 _ (by omega) (by omega))
      · obtain ⟨m278, m279, m280, z281⟩ := z259
        obtain ⟨z282, z283, z284, z285, z286, z287, z288, z289, z290, z291⟩ := z281
        have hlt_u246 : u246 < C 60 100 29 := by omega
        obtain ⟨p0_u246, p1_u246, p2_u246, p3_u246, p5_u246⟩ := sP u246 hlt_u246
        have pt_u246 := oTc u246
        have pc_u246 : (C 60 11 u246 = 0 ∧ C 9 u246 2 = 0) ∨ (C 60 11 u246 ≠ 0 ∧ C 9 u246 2 = C 60 5 u246) := by rw [p2_u246]; split <;> omega
        clear p2_u246
        have hlt_u247 : u247 < C 60 2 u246 := by omega
        obtain ⟨t0_u247, t1_u247⟩ := sT u246 u247 hlt_u246 hlt_u247
        have e292 : u246 = m278 := nI_inj (by omega) (by omega) (z252.trans z284.symm)
        subst e292
        have e293 : u247 = m279 := nI_inj (by omega) (by omega) (z253.trans z285.symm)
        subst e293
        exact absurd z288 (z254 _ (by omega) (by omega))
      · obtain ⟨m294, m295, z296⟩ := z260
        obtain ⟨z297, z298, z299, z300, z301, z302, z303⟩ := z296
        have hlt_u246 : u246 < C 60 100 29 := by omega
        obtain ⟨p0_u246, p1_u246, p2_u246, p3_u246, p5_u246⟩ := sP u246 hlt_u246
        have pt_u246 := oTc u246
        have pc_u246 : (C 60 11 u246 = 0 ∧ C 9 u246 2 = 0) ∨ (C 60 11 u246 ≠ 0 ∧ C 9 u246 2 = C 60 5 u246) := by rw [p2_u246]; split <;> omega
        clear p2_u246
        have hlt_u247 : u247 < C 60 2 u246 := by omega
        obtain ⟨t0_u247, t1_u247⟩ := sT u246 u247 hlt_u246 hlt_u247
        have e304 : u246 = m294 := nI_inj (by omega) (by omega) (z252.trans z299.symm)
        subst e304
        have e305 : u247 = m295 := nI_inj (by omega) (by omega) (z253.trans z300.symm)
        subst e305
        have hlo : ∀ kk : Nat, kk < 15 → C1 kk = (C) kk := fun kk h => congrFun z255.symm kk
        have hA_ : St5 A A2 := by rw [← z256]; exact w3
        rw [← z302, ← z303]
        refine ⟨agb_th hI hlo e6 e61 _ hA_, ?_⟩
        exact ⟨_, rfl, fun h => absurd h (by decide)⟩
      · obtain ⟨z306, z307, z308⟩ := z261
        rcases z306 with z309 | z310
        · have hlt_u246 : u246 < C 60 100 29 := by omega
          obtain ⟨p0_u246, p1_u246, p2_u246, p3_u246, p5_u246⟩ := sP u246 hlt_u246
          have pt_u246 := oTc u246
          have pc_u246 : (C 60 11 u246 = 0 ∧ C 9 u246 2 = 0) ∨ (C 60 11 u246 ≠ 0 ∧ C 9 u246 2 = C 60 5 u246) := by rw [p2_u246]; split <;> omega
          clear p2_u246
          have hlt_u247 : u247 < C 60 2 u246 := by omega
          obtain ⟨t0_u247, t1_u247⟩ := sT u246 u247 hlt_u246 hlt_u247
          exact absurd z252 (z309 _ (by omega))
        · obtain ⟨m311, z312⟩ := z310
          obtain ⟨z313, z314, z315⟩ := z312
          have hlt_u246 : u246 < C 60 100 29 := by omega
          obtain ⟨p0_u246, p1_u246, p2_u246, p3_u246, p5_u246⟩ := sP u246 hlt_u246
          have pt_u246 := oTc u246
          have pc_u246 : (C 60 11 u246 = 0 ∧ C 9 u246 2 = 0) ∨ (C 60 11 u246 ≠ 0 ∧ C 9 u246 2 = C 60 5 u246) := by rw [p2_u246]; split <;> omega
          clear p2_u246
          have hlt_u247 : u247 < C 60 2 u246 := by omega
          obtain ⟨t0_u247, t1_u247⟩ := sT u246 u247 hlt_u246 hlt_u247
          have e316 : u246 = m311 := nI_inj (by omega) (by omega) (z252.trans z314.symm)
          subst e316
          exact absurd z253 (z315 _ (by omega))
    · obtain ⟨u317, u318, u319, z320⟩ := z235
      obtain ⟨z321, z322, z323, z324, z325, z326, z327, z328, z329, z330⟩ := z320
      exact absurd z321 (by decide +kernel)
  · unfold E6_load at h6
    obtain ⟨z331, z332⟩ := h6
    rcases z332 with z333 | z334 | z335
    · obtain ⟨z336, z337, z338⟩ := z333
      rcases z337 with z339 | z340
      · exact absurd z336 (by decide +kernel)
      · obtain ⟨u341, z342⟩ := z340
        obtain ⟨z343, z344, z345⟩ := z342
        exact absurd z336 (by decide +kernel)
    · obtain ⟨u346, u347, z348⟩ := z334
      obtain ⟨z349, z350, z351, z352, z353, z354, z355⟩ := z348
      exact absurd z349 (by decide +kernel)
    · obtain ⟨u356, u357, u358, z359⟩ := z335
      obtain ⟨z360, z361, z362, z363, z364, z365, z366, z367, z368, z369⟩ := z359
      obtain ⟨z370, z371⟩ := h7
      rcases z371 with z372 | z373 | z374 | z375
      · obtain ⟨m376, m377, m378, z379⟩ := z372
        obtain ⟨z380, z381, z382, z383, z384, z385, z386, z387, z388, z389⟩ := z379
        have hlt_u356 : u356 < C 60 100 29 := by omega
        obtain ⟨p0_u356, p1_u356, p2_u356, p3_u356, p5_u356⟩ := sP u356 hlt_u356
        have pt_u356 := oTc u356
        have pc_u356 : (C 60 11 u356 = 0 ∧ C 9 u356 2 = 0) ∨ (C 60 11 u356 ≠ 0 ∧ C 9 u356 2 = C 60 5 u356) := by rw [p2_u356]; split <;> omega
        clear p2_u356
        have hlt_u357 : u357 < C 60 2 u356 := by omega
        obtain ⟨t0_u357, t1_u357⟩ := sT u356 u357 hlt_u356 hlt_u357
        have e390 : u356 = m376 := nI_inj (by omega) (by omega) (z363.trans z382.symm)
        subst e390
        have e391 : u357 = m377 := nI_inj (by omega) (by omega) (z364.trans z383.symm)
        subst e391
        have e392 : u358 = m378 := nI_inj (by omega) (by omega) (z367.trans z386.symm)
        subst e392
        omega
      · obtain ⟨m393, m394, m395, z396⟩ := z373
        obtain ⟨z397, z398, z399, z400, z401, z402, z403, z404, z405, z406⟩ := z396
        have hlt_u356 : u356 < C 60 100 29 := by omega
        obtain ⟨p0_u356, p1_u356, p2_u356, p3_u356, p5_u356⟩ := sP u356 hlt_u356
        have pt_u356 := oTc u356
        have pc_u356 : (C 60 11 u356 = 0 ∧ C 9 u356 2 = 0) ∨ (C 60 11 u356 ≠ 0 ∧ C 9 u356 2 = C 60 5 u356) := by rw [p2_u356]; split <;> omega
        clear p2_u356
        have hlt_u357 : u357 < C 60 2 u356 := by omega
        obtain ⟨t0_u357, t1_u357⟩ := sT u356 u357 hlt_u356 hlt_u357
        have e407 : u356 = m393 := nI_inj (by omega) (by omega) (z363.trans z399.symm)
        subst e407
        have e408 : u357 = m394 := nI_inj (by omega) (by omega) (z364.trans z400.symm)
        subst e408
        have e409 : u358 = m395 := nI_inj (by omega) (by omega) (z367.trans z403.symm)
        subst e409
        have hlo : ∀ kk : Nat, kk < 15 → C1 kk = (C) kk := fun kk h => congrFun z369.symm kk
        have hA_ : St5 A A2 := by rw [← z370]; exact w3
        rw [← z405, ← z406]
        refine ⟨agb_th hI hlo e6 e61 _ hA_, ?_⟩
        exact ⟨_, rfl, fun h => absurd h (by decide)⟩
      · obtain ⟨m410, m411, z412⟩ := z374
        obtain ⟨z413, z414, z415, z416, z417, z418, z419⟩ := z412
        have hlt_u356 : u356 < C 60 100 29 := by omega
        obtain ⟨p0_u356, p1_u356, p2_u356, p3_u356, p5_u356⟩ := sP u356 hlt_u356
        have pt_u356 := oTc u356
        have pc_u356 : (C 60 11 u356 = 0 ∧ C 9 u356 2 = 0) ∨ (C 60 11 u356 ≠ 0 ∧ C 9 u356 2 = C 60 5 u356) := by rw [p2_u356]; split <;> omega
        clear p2_u356
        have hlt_u357 : u357 < C 60 2 u356 := by omega
        obtain ⟨t0_u357, t1_u357⟩ := sT u356 u357 hlt_u356 hlt_u357
        have e420 : u356 = m410 := nI_inj (by omega) (by omega) (z363.trans z415.symm)
        subst e420
        have e421 : u357 = m411 := nI_inj (by omega) (by omega) (z364.trans z416.symm)
        subst e421
        exact absurd z367 (z417 _ (by omega) (by omega))
      · obtain ⟨z422, z423, z424⟩ := z375
        rcases z422 with z425 | z426
        · have hlt_u356 : u356 < C 60 100 29 := by omega
          obtain ⟨p0_u356, p1_u356, p2_u356, p3_u356, p5_u356⟩ := sP u356 hlt_u356
          have pt_u356 := oTc u356
          have pc_u356 : (C 60 11 u356 = 0 ∧ C 9 u356 2 = 0) ∨ (C 60 11 u356 ≠ 0 ∧ C 9 u356 2 = C 60 5 u356) := by rw [p2_u356]; split <;> omega
          clear p2_u356
          have hlt_u357 : u357 < C 60 2 u356 := by omega
          obtain ⟨t0_u357, t1_u357⟩ := sT u356 u357 hlt_u356 hlt_u357
          exact absurd z363 (z425 _ (by omega))
        · obtain ⟨m427, z428⟩ := z426
          obtain ⟨z429, z430, z431⟩ := z428
          have hlt_u356 : u356 < C 60 100 29 := by omega
          obtain ⟨p0_u356, p1_u356, p2_u356, p3_u356, p5_u356⟩ := sP u356 hlt_u356
          have pt_u356 := oTc u356
          have pc_u356 : (C 60 11 u356 = 0 ∧ C 9 u356 2 = 0) ∨ (C 60 11 u356 ≠ 0 ∧ C 9 u356 2 = C 60 5 u356) := by rw [p2_u356]; split <;> omega
          clear p2_u356
          have hlt_u357 : u357 < C 60 2 u356 := by omega
          obtain ⟨t0_u357, t1_u357⟩ := sT u356 u357 hlt_u356 hlt_u357
          have e432 : u356 = m427 := nI_inj (by omega) (by omega) (z363.trans z430.symm)
          subst e432
          exact absurd z364 (z431 _ (by omega))
set_option maxHeartbeats 4000000 in
theorem ag_changePaper {A A1 A2 : AF} {C C1 C2 : CF} {x : Int32} {y : Int32} {q : Nat} {k : Nat} {v : Option Value} (hq : q < 65536) (hI : Iv C) (h6 : W_changePaper A C x y q k A1 C1) (h7 : K7_changePaper A1 C1 x y q v A2 C2) : AgB A C k A2 C2 ∧ ∃ b : Int32, v = some (.int b) ∧ (k = 0 → lN (C2 70 0 0) = b.toInt64) := by
  obtain ⟨w1, w3, -⟩ := w_changePaper h6
  have e6 : C1 60 = C 60 := w1 60 (by decide) (by decide)
  have e61 : C1 61 = C 61 := w1 61 (by decide) (by decide)
  obtain ⟨hS, hM, hL⟩ := id hI
  obtain ⟨⟨c3, c4, c5, c6, c7, c8⟩, sU, sP, sT, sJ, ⟨sl, sc⟩, sE, sC, sB⟩ := id hS
  obtain ⟨oU, oP, oJ, oTc, oY, o8, o9, o10, o11, o12, o13, o14, o15, oX, oQ, oB, oK, oS, oJk, oM, oCo, oSh, oLg, oPo, oLl, oL2, oL3, oL4, oLle, oE1, oE2, oE3, oE4⟩ := id hM.1
  unfold K7_changePaper at h7
  rw [e6] at h7
  unfold W_changePaper at h6
  rcases h6 with ⟨rfl, r, o, C9, ho, hC1, h6⟩ | ⟨rfl, h6⟩ | ⟨rfl, h6⟩ | ⟨rfl, h6⟩
  · unfold K6_changePaper at h6
    obtain ⟨z1, z2⟩ := h6
    obtain ⟨u3, u4, z5⟩ := z2
    obtain ⟨z6, z7, z8, z9, z10, z11, z12, z13⟩ := z5
    obtain ⟨z14, z15⟩ := h7
    rcases z15 with z16 | z17 | z18 | z19
    · obtain ⟨m20, m21, z22⟩ := z16
      obtain ⟨z23, z24, z25, z26, z27, z28, z29, z30⟩ := z22
      have hlt_u3 : u3 < C 60 100 29 := by omega
      obtain ⟨p0_u3, p1_u3, p2_u3, p3_u3, p5_u3⟩ := sP u3 hlt_u3
      have pt_u3 := oTc u3
      have pc_u3 : (C 60 11 u3 = 0 ∧ C 9 u3 2 = 0) ∨ (C 60 11 u3 ≠ 0 ∧ C 9 u3 2 = C 60 5 u3) := by rw [p2_u3]; split <;> omega
      clear p2_u3
      have hlt_u4 : u4 < C 60 2 u3 := by omega
      obtain ⟨t0_u4, t1_u4⟩ := sT u3 u4 hlt_u3 hlt_u4
      have e31 : u3 = m20 := nI_inj (by omega) (by omega) (z8.trans z25.symm)
      subst e31
      have e32 : u4 = m21 := nI_inj (by omega) (by omega) (z9.trans z26.symm)
      subst e32
      have hlo : ∀ kk : Nat, kk < 15 → C1 kk = (up3 C 12 (3 * u3 + u4) 0 q) kk := fun kk h => (congrFun hC1.symm kk).trans ((up3_k (by omega)).trans (congrFun z12.symm kk))
      have hA_ : St5 A A2 := by rw [← z14]; exact w3
      have hk_ := keep_changePaper (t := 0) (p := u3) (i0 := u4) (v := q) hS hM hL hq rfl
      rw [← z29, ← z30]
      refine ⟨agb_k hk_ ?_ ?_ (fun kk h => ?_) ?_ ?_ ?_ hA_, ?_⟩
      · funext i_ f_
        simp only [up3, e6]
      · funext i_ f_
        simp only [up3, e61]
      · rw [up3_k (by omega), up3_k (by omega)]
        exact hlo kk h
      · simp [up3]
      · simp [up3]
      · simp [up3]
      · cases Option.some.inj z13
        have h70_ : C1 70 0 0 = o := by rw [← hC1]; exact up3_s
        refine ⟨_, rfl, fun _ => ?_⟩
        refine (congrArg (fun g : Nat → Nat → Nat => lN (g 0 0)) (show _ = C1 70 from by rw [up3_k (by decide), up3_k (by decide)])).trans ?_
        show lN (C1 70 0 0) = _
        refine (congrArg lN h70_).trans (ho.trans ?_)
        exact congrArg (fun n => (nI n).toInt64) (show (C 12 (3 * u3 + u4) 0) = (C 60 8 ((3 * u3) + u4)) by first | rfl | omega | (split <;> omega))
    · obtain ⟨m33, m34, z35⟩ := z17
      obtain ⟨z36, z37, z38, z39, z40, z41, z42, z43⟩ := z35
      have hlt_u3 : u3 < C 60 100 29 := by omega
      obtain ⟨p0_u3, p1_u3, p2_u3, p3_u3, p5_u3⟩ := sP u3 hlt_u3
      have pt_u3 := oTc u3
      have pc_u3 : (C 60 11 u3 = 0 ∧ C 9 u3 2 = 0) ∨ (C 60 11 u3 ≠ 0 ∧ C 9 u3 2 = C 60 5 u3) := by rw [p2_u3]; split <;> omega
      clear p2_u3
      have hlt_u4 : u4 < C 60 2 u3 := by omega
      obtain ⟨t0_u4, t1_u4⟩ := sT u3 u4 hlt_u3 hlt_u4
      have e44 : u3 = m33 := nI_inj (by omega) (by omega) (z8.trans z38.symm)
      subst e44
      have e45 : u4 = m34 := nI_inj (by omega) (by omega) (z9.trans z39.symm)
      subst e45
      omega
    · obtain ⟨m46, m47, z48⟩ := z18
      obtain ⟨z49, z50, z51, z52, z53, z54, z55⟩ := z48
      have hlt_u3 : u3 < C 60 100 29 := by omega
      obtain ⟨p0_u3, p1_u3, p2_u3, p3_u3, p5_u3⟩ := sP u3 hlt_u3
      have pt_u3 := oTc u3
      have pc_u3 : (C 60 11 u3 = 0 ∧ C 9 u3 2 = 0) ∨ (C 60 11 u3 ≠ 0 ∧ C 9 u3 2 = C 60 5 u3) := by rw [p2_u3]; split <;> omega
      clear p2_u3
      have hlt_u4 : u4 < C 60 2 u3 := by omega
      obtain ⟨t0_u4, t1_u4⟩ := sT u3 u4 hlt_u3 hlt_u4
      have e56 : u3 = m46 := nI_inj (by omega) (by omega) (z8.trans z51.symm)
      subst e56
      have e57 : u4 = m47 := nI_inj (by omega) (by omega) (z9.trans z52.symm)
      subst e57
      exact absurd z10 z53
    · obtain ⟨z58, z59, z60⟩ := z19
      rcases z58 with z61 | z62
      · have hlt_u3 : u3 < C 60 100 29 := by omega
        obtain ⟨p0_u3, p1_u3, p2_u3, p3_u3, p5_u3⟩ := sP u3 hlt_u3
        have pt_u3 := oTc u3
        have pc_u3 : (C 60 11 u3 = 0 ∧ C 9 u3 2 = 0) ∨ (C 60 11 u3 ≠ 0 ∧ C 9 u3 2 = C 60 5 u3) := by rw [p2_u3]; split <;> omega
        clear p2_u3
        have hlt_u4 : u4 < C 60 2 u3 := by omega
        obtain ⟨t0_u4, t1_u4⟩ := sT u3 u4 hlt_u3 hlt_u4
        exact absurd z8 (z61 _ (by omega))
      · obtain ⟨m63, z64⟩ := z62
        obtain ⟨z65, z66, z67⟩ := z64
        have hlt_u3 : u3 < C 60 100 29 := by omega
        obtain ⟨p0_u3, p1_u3, p2_u3, p3_u3, p5_u3⟩ := sP u3 hlt_u3
        have pt_u3 := oTc u3
        have pc_u3 : (C 60 11 u3 = 0 ∧ C 9 u3 2 = 0) ∨ (C 60 11 u3 ≠ 0 ∧ C 9 u3 2 = C 60 5 u3) := by rw [p2_u3]; split <;> omega
        clear p2_u3
        have hlt_u4 : u4 < C 60 2 u3 := by omega
        obtain ⟨t0_u4, t1_u4⟩ := sT u3 u4 hlt_u3 hlt_u4
        have e68 : u3 = m63 := nI_inj (by omega) (by omega) (z8.trans z66.symm)
        subst e68
        exact absurd z9 (z67 _ (by omega))
  · unfold E6_changePaper at h6
    obtain ⟨z69, z70⟩ := h6
    rcases z70 with z71 | z72 | z73
    · obtain ⟨z74, z75, z76⟩ := z71
      rcases z75 with z77 | z78
      · obtain ⟨z79, z80⟩ := h7
        rcases z80 with z81 | z82 | z83 | z84
        · obtain ⟨m85, m86, z87⟩ := z81
          obtain ⟨z88, z89, z90, z91, z92, z93, z94, z95⟩ := z87
          exact absurd z90 (z77 _ (by omega))
        · obtain ⟨m96, m97, z98⟩ := z82
          obtain ⟨z99, z100, z101, z102, z103, z104, z105, z106⟩ := z98
          exact absurd z101 (z77 _ (by omega))
        · obtain ⟨m107, m108, z109⟩ := z83
          obtain ⟨z110, z111, z112, z113, z114, z115, z116⟩ := z109
          exact absurd z112 (z77 _ (by omega))
        · obtain ⟨z117, z118, z119⟩ := z84
          rcases z117 with z120 | z121
          · have hlo : ∀ kk : Nat, kk < 15 → C1 kk = (C) kk := fun kk h => congrFun z76.symm kk
            have hA_ : St5 A A2 := by rw [← z79]; exact w3
            rw [← z118, ← z119]
            refine ⟨agb_th hI hlo e6 e61 _ hA_, ?_⟩
            exact ⟨_, rfl, fun h => absurd h (by decide)⟩
          · obtain ⟨m122, z123⟩ := z121
            obtain ⟨z124, z125, z126⟩ := z123
            have hlo : ∀ kk : Nat, kk < 15 → C1 kk = (C) kk := fun kk h => congrFun z76.symm kk
            have hA_ : St5 A A2 := by rw [← z79]; exact w3
            rw [← z118, ← z119]
            refine ⟨agb_th hI hlo e6 e61 _ hA_, ?_⟩
            exact ⟨_, rfl, fun h => absurd h (by decide)⟩
      · obtain ⟨u127, z128⟩ := z78
        obtain ⟨z129, z130, z131⟩ := z128
        obtain ⟨z132, z133⟩ := h7
        rcases z133 with z134 | z135 | z136 | z137
        · obtain ⟨m138, m139, z140⟩ := z134
          obtain ⟨z141, z142, z143, z144, z145, z146, z147, z148⟩ := z140
          have hlt_u127 : u127 < C 60 100 29 := by omega
          obtain ⟨p0_u127, p1_u127, p2_u127, p3_u127, p5_u127⟩ := sP u127 hlt_u127
          have pt_u127 := oTc u127
          have pc_u127 : (C 60 11 u127 = 0 ∧ C 9 u127 2 = 0) ∨ (C 60 11 u127 ≠ 0 ∧ C 9 u127 2 = C 60 5 u127) := by rw [p2_u127]; split <;> omega
          clear p2_u127
          have e149 : u127 = m138 := nI_inj (by omega) (by omega) (z130.trans z143.symm)
          subst e149
          exact absurd z144 (z131 _ (by omega))
        · obtain ⟨m150, m151, z152⟩ := z135
          obtain ⟨z153, z154, z155, z156, z157, z158, z159, z160⟩ := z152
          have hlt_u127 : u127 < C 60 100 29 := by omega
          obtain ⟨p0_u127, p1_u127, p2_u127, p3_u127, p5_u127⟩ := sP u127 hlt_u127
          have pt_u127 := oTc u127
          have pc_u127 : (C 60 11 u127 = 0 ∧ C 9 u127 2 = 0) ∨ (C 60 11 u127 ≠ 0 ∧ C 9 u127 2 = C 60 5 u127) := by rw [p2_u127]; split <;> omega
          clear p2_u127
          have e161 : u127 = m150 := nI_inj (by omega) (by omega) (z130.trans z155.symm)
          subst e161
          exact absurd z156 (z131 _ (by omega))
        · obtain ⟨m162, m163, z164⟩ := z136
          obtain ⟨z165, z166, z167, z168, z169, z170, z171⟩ := z164
          have hlt_u127 : u127 < C 60 100 29 := by omega
          obtain ⟨p0_u127, p1_u127, p2_u127, p3_u127, p5_u127⟩ := sP u127 hlt_u127
          have pt_u127 := oTc u127
          have pc_u127 : (C 60 11 u127 = 0 ∧ C 9 u127 2 = 0) ∨ (C 60 11 u127 ≠ 0 ∧ C 9 u127 2 = C 60 5 u127) := by rw [p2_u127]; split <;> omega
          clear p2_u127
          have e172 : u127 = m162 := nI_inj (by omega) (by omega) (z130.trans z167.symm)
          subst e172
          exact absurd z168 (z131 _ (by omega))
        · obtain ⟨z173, z174, z175⟩ := z137
          rcases z173 with z176 | z177
          · have hlt_u127 : u127 < C 60 100 29 := by omega
            obtain ⟨p0_u127, p1_u127, p2_u127, p3_u127, p5_u127⟩ := sP u127 hlt_u127
            have pt_u127 := oTc u127
            have pc_u127 : (C 60 11 u127 = 0 ∧ C 9 u127 2 = 0) ∨ (C 60 11 u127 ≠ 0 ∧ C 9 u127 2 = C 60 5 u127) := by rw [p2_u127]; split <;> omega
            clear p2_u127
            have hlo : ∀ kk : Nat, kk < 15 → C1 kk = (C) kk := fun kk h => congrFun z76.symm kk
            have hA_ : St5 A A2 := by rw [← z132]; exact w3
            rw [← z174, ← z175]
            refine ⟨agb_th hI hlo e6 e61 _ hA_, ?_⟩
            exact ⟨_, rfl, fun h => absurd h (by decide)⟩
          · obtain ⟨m178, z179⟩ := z177
            obtain ⟨z180, z181, z182⟩ := z179
            have hlt_u127 : u127 < C 60 100 29 := by omega
            obtain ⟨p0_u127, p1_u127, p2_u127, p3_u127, p5_u127⟩ := sP u127 hlt_u127
            have pt_u127 := oTc u127
            have pc_u127 : (C 60 11 u127 = 0 ∧ C 9 u127 2 = 0) ∨ (C 60 11 u127 ≠ 0 ∧ C 9 u127 2 = C 60 5 u127) := by rw [p2_u127]; split <;> omega
            clear p2_u127
            have e183 : u127 = m178 := nI_inj (by omega) (by omega) (z130.trans z181.symm)
            subst e183
            have hlo : ∀ kk : Nat, kk < 15 → C1 kk = (C) kk := fun kk h => congrFun z76.symm kk
            have hA_ : St5 A A2 := by rw [← z132]; exact w3
            rw [← z174, ← z175]
            refine ⟨agb_th hI hlo e6 e61 _ hA_, ?_⟩
            exact ⟨_, rfl, fun h => absurd h (by decide)⟩
    · obtain ⟨u184, u185, z186⟩ := z72
      obtain ⟨z187, z188, z189, z190, z191, z192, z193⟩ := z186
      exact absurd z187 (by decide +kernel)
    · obtain ⟨u194, u195, z196⟩ := z73
      obtain ⟨z197, z198, z199, z200, z201, z202, z203, z204⟩ := z196
      exact absurd z197 (by decide +kernel)
  · unfold E6_changePaper at h6
    obtain ⟨z205, z206⟩ := h6
    rcases z206 with z207 | z208 | z209
    · obtain ⟨z210, z211, z212⟩ := z207
      rcases z211 with z213 | z214
      · exact absurd z210 (by decide +kernel)
      · obtain ⟨u215, z216⟩ := z214
        obtain ⟨z217, z218, z219⟩ := z216
        exact absurd z210 (by decide +kernel)
    · obtain ⟨u220, u221, z222⟩ := z208
      obtain ⟨z223, z224, z225, z226, z227, z228, z229⟩ := z222
      obtain ⟨z230, z231⟩ := h7
      rcases z231 with z232 | z233 | z234 | z235
      · obtain ⟨m236, m237, z238⟩ := z232
        obtain ⟨z239, z240, z241, z242, z243, z244, z245, z246⟩ := z238
        have hlt_u220 : u220 < C 60 100 29 := by omega
        obtain ⟨p0_u220, p1_u220, p2_u220, p3_u220, p5_u220⟩ := sP u220 hlt_u220
        have pt_u220 := oTc u220
        have pc_u220 : (C 60 11 u220 = 0 ∧ C 9 u220 2 = 0) ∨ (C 60 11 u220 ≠ 0 ∧ C 9 u220 2 = C 60 5 u220) := by rw [p2_u220]; split <;> omega
        clear p2_u220
        have hlt_u221 : u221 < C 60 2 u220 := by omega
        obtain ⟨t0_u221, t1_u221⟩ := sT u220 u221 hlt_u220 hlt_u221
        have e247 : u220 = m236 := nI_inj (by omega) (by omega) (z226.trans z241.symm)
        subst e247
        have e248 : u221 = m237 := nI_inj (by omega) (by omega) (z227.trans z242.symm)
        subst e248
        exact absurd z243 z228
      · obtain ⟨m249, m250, z251⟩ := z233
        obtain ⟨z252, z253, z254, z255, z256, z257, z258, z259⟩ := z251
        have hlt_u220 : u220 < C 60 100 29 := by omega
        obtain ⟨p0_u220, p1_u220, p2_u220, p3_u220, p5_u220⟩ := sP u220 hlt_u220
        have pt_u220 := oTc u220
        have pc_u220 : (C 60 11 u220 = 0 ∧ C 9 u220 2 = 0) ∨ (C 60 11 u220 ≠ 0 ∧ C 9 u220 2 = C 60 5 u220) := by rw [p2_u220]; split <;> omega
        clear p2_u220
        have hlt_u221 : u221 < C 60 2 u220 := by omega
        obtain ⟨t0_u221, t1_u221⟩ := sT u220 u221 hlt_u220 hlt_u221
        have e260 : u220 = m249 := nI_inj (by omega) (by omega) (z226.trans z254.symm)
        subst e260
        have e261 : u221 = m250 := nI_inj (by omega) (by omega) (z227.trans z255.symm)
        subst e261
        exact absurd z256 z228
      · obtain ⟨m262, m263, z264⟩ := z234
        obtain ⟨z265, z266, z267, z268, z269, z270, z271⟩ := z264
        have hlt_u220 : u220 < C 60 100 29 := by omega
        obtain ⟨p0_u220, p1_u220, p2_u220, p3_u220, p5_u220⟩ := sP u220 hlt_u220
        have pt_u220 := oTc u220
        have pc_u220 : (C 60 11 u220 = 0 ∧ C 9 u220 2 = 0) ∨ (C 60 11 u220 ≠ 0 ∧ C 9 u220 2 = C 60 5 u220) := by rw [p2_u220]; split <;> omega
        clear p2_u220
        have hlt_u221 : u221 < C 60 2 u220 := by omega
        obtain ⟨t0_u221, t1_u221⟩ := sT u220 u221 hlt_u220 hlt_u221
        have e272 : u220 = m262 := nI_inj (by omega) (by omega) (z226.trans z267.symm)
        subst e272
        have e273 : u221 = m263 := nI_inj (by omega) (by omega) (z227.trans z268.symm)
        subst e273
        have hlo : ∀ kk : Nat, kk < 15 → C1 kk = (C) kk := fun kk h => congrFun z229.symm kk
        have hA_ : St5 A A2 := by rw [← z230]; exact w3
        rw [← z270, ← z271]
        refine ⟨agb_th hI hlo e6 e61 _ hA_, ?_⟩
        exact ⟨_, rfl, fun h => absurd h (by decide)⟩
      · obtain ⟨z274, z275, z276⟩ := z235
        rcases z274 with z277 | z278
        · have hlt_u220 : u220 < C 60 100 29 := by omega
          obtain ⟨p0_u220, p1_u220, p2_u220, p3_u220, p5_u220⟩ := sP u220 hlt_u220
          have pt_u220 := oTc u220
          have pc_u220 : (C 60 11 u220 = 0 ∧ C 9 u220 2 = 0) ∨ (C 60 11 u220 ≠ 0 ∧ C 9 u220 2 = C 60 5 u220) := by rw [p2_u220]; split <;> omega
          clear p2_u220
          have hlt_u221 : u221 < C 60 2 u220 := by omega
          obtain ⟨t0_u221, t1_u221⟩ := sT u220 u221 hlt_u220 hlt_u221
          exact absurd z226 (z277 _ (by omega))
        · obtain ⟨m279, z280⟩ := z278
          obtain ⟨z281, z282, z283⟩ := z280
          have hlt_u220 : u220 < C 60 100 29 := by omega
          obtain ⟨p0_u220, p1_u220, p2_u220, p3_u220, p5_u220⟩ := sP u220 hlt_u220
          have pt_u220 := oTc u220
          have pc_u220 : (C 60 11 u220 = 0 ∧ C 9 u220 2 = 0) ∨ (C 60 11 u220 ≠ 0 ∧ C 9 u220 2 = C 60 5 u220) := by rw [p2_u220]; split <;> omega
          clear p2_u220
          have hlt_u221 : u221 < C 60 2 u220 := by omega
          obtain ⟨t0_u221, t1_u221⟩ := sT u220 u221 hlt_u220 hlt_u221
          have e284 : u220 = m279 := nI_inj (by omega) (by omega) (z226.trans z282.symm)
          subst e284
          exact absurd z227 (z283 _ (by omega))
    · obtain ⟨u285, u286, z287⟩ := z209
      obtain ⟨z288, z289, z290, z291, z292, z293, z294, z295⟩ := z287
      exact absurd z288 (by decide +kernel)
  · unfold E6_changePaper at h6
    obtain ⟨z296, z297⟩ := h6
    rcases z297 with z298 | z299 | z300
    · obtain ⟨z301, z302, z303⟩ := z298
      rcases z302 with z304 | z305
      · exact absurd z301 (by decide +kernel)
      · obtain ⟨u306, z307⟩ := z305
        obtain ⟨z308, z309, z310⟩ := z307
        exact absurd z301 (by decide +kernel)
    · obtain ⟨u311, u312, z313⟩ := z299
      obtain ⟨z314, z315, z316, z317, z318, z319, z320⟩ := z313
      exact absurd z314 (by decide +kernel)
    · obtain ⟨u321, u322, z323⟩ := z300
      obtain ⟨z324, z325, z326, z327, z328, z329, z330, z331⟩ := z323
      obtain ⟨z332, z333⟩ := h7
      rcases z333 with z334 | z335 | z336 | z337
      · obtain ⟨m338, m339, z340⟩ := z334
        obtain ⟨z341, z342, z343, z344, z345, z346, z347, z348⟩ := z340
        have hlt_u321 : u321 < C 60 100 29 := by omega
        obtain ⟨p0_u321, p1_u321, p2_u321, p3_u321, p5_u321⟩ := sP u321 hlt_u321
        have pt_u321 := oTc u321
        have pc_u321 : (C 60 11 u321 = 0 ∧ C 9 u321 2 = 0) ∨ (C 60 11 u321 ≠ 0 ∧ C 9 u321 2 = C 60 5 u321) := by rw [p2_u321]; split <;> omega
        clear p2_u321
        have hlt_u322 : u322 < C 60 2 u321 := by omega
        obtain ⟨t0_u322, t1_u322⟩ := sT u321 u322 hlt_u321 hlt_u322
        have e349 : u321 = m338 := nI_inj (by omega) (by omega) (z327.trans z343.symm)
        subst e349
        have e350 : u322 = m339 := nI_inj (by omega) (by omega) (z328.trans z344.symm)
        subst e350
        omega
      · obtain ⟨m351, m352, z353⟩ := z335
        obtain ⟨z354, z355, z356, z357, z358, z359, z360, z361⟩ := z353
        have hlt_u321 : u321 < C 60 100 29 := by omega
        obtain ⟨p0_u321, p1_u321, p2_u321, p3_u321, p5_u321⟩ := sP u321 hlt_u321
        have pt_u321 := oTc u321
        have pc_u321 : (C 60 11 u321 = 0 ∧ C 9 u321 2 = 0) ∨ (C 60 11 u321 ≠ 0 ∧ C 9 u321 2 = C 60 5 u321) := by rw [p2_u321]; split <;> omega
        clear p2_u321
        have hlt_u322 : u322 < C 60 2 u321 := by omega
        obtain ⟨t0_u322, t1_u322⟩ := sT u321 u322 hlt_u321 hlt_u322
        have e362 : u321 = m351 := nI_inj (by omega) (by omega) (z327.trans z356.symm)
        subst e362
        have e363 : u322 = m352 := nI_inj (by omega) (by omega) (z328.trans z357.symm)
        subst e363
        have hlo : ∀ kk : Nat, kk < 15 → C1 kk = (C) kk := fun kk h => congrFun z331.symm kk
        have hA_ : St5 A A2 := by rw [← z332]; exact w3
        rw [← z360, ← z361]
        refine ⟨agb_th hI hlo e6 e61 _ hA_, ?_⟩
        exact ⟨_, rfl, fun h => absurd h (by decide)⟩
      · obtain ⟨m364, m365, z366⟩ := z336
        obtain ⟨z367, z368, z369, z370, z371, z372, z373⟩ := z366
        have hlt_u321 : u321 < C 60 100 29 := by omega
        obtain ⟨p0_u321, p1_u321, p2_u321, p3_u321, p5_u321⟩ := sP u321 hlt_u321
        have pt_u321 := oTc u321
        have pc_u321 : (C 60 11 u321 = 0 ∧ C 9 u321 2 = 0) ∨ (C 60 11 u321 ≠ 0 ∧ C 9 u321 2 = C 60 5 u321) := by rw [p2_u321]; split <;> omega
        clear p2_u321
        have hlt_u322 : u322 < C 60 2 u321 := by omega
        obtain ⟨t0_u322, t1_u322⟩ := sT u321 u322 hlt_u321 hlt_u322
        have e374 : u321 = m364 := nI_inj (by omega) (by omega) (z327.trans z369.symm)
        subst e374
        have e375 : u322 = m365 := nI_inj (by omega) (by omega) (z328.trans z370.symm)
        subst e375
        exact absurd z329 z371
      · obtain ⟨z376, z377, z378⟩ := z337
        rcases z376 with z379 | z380
        · have hlt_u321 : u321 < C 60 100 29 := by omega
          obtain ⟨p0_u321, p1_u321, p2_u321, p3_u321, p5_u321⟩ := sP u321 hlt_u321
          have pt_u321 := oTc u321
          have pc_u321 : (C 60 11 u321 = 0 ∧ C 9 u321 2 = 0) ∨ (C 60 11 u321 ≠ 0 ∧ C 9 u321 2 = C 60 5 u321) := by rw [p2_u321]; split <;> omega
          clear p2_u321
          have hlt_u322 : u322 < C 60 2 u321 := by omega
          obtain ⟨t0_u322, t1_u322⟩ := sT u321 u322 hlt_u321 hlt_u322
          exact absurd z327 (z379 _ (by omega))
        · obtain ⟨m381, z382⟩ := z380
          obtain ⟨z383, z384, z385⟩ := z382
          have hlt_u321 : u321 < C 60 100 29 := by omega
          obtain ⟨p0_u321, p1_u321, p2_u321, p3_u321, p5_u321⟩ := sP u321 hlt_u321
          have pt_u321 := oTc u321
          have pc_u321 : (C 60 11 u321 = 0 ∧ C 9 u321 2 = 0) ∨ (C 60 11 u321 ≠ 0 ∧ C 9 u321 2 = C 60 5 u321) := by rw [p2_u321]; split <;> omega
          clear p2_u321
          have hlt_u322 : u322 < C 60 2 u321 := by omega
          obtain ⟨t0_u322, t1_u322⟩ := sT u321 u322 hlt_u321 hlt_u322
          have e386 : u321 = m381 := nI_inj (by omega) (by omega) (z327.trans z384.symm)
          subst e386
          exact absurd z328 (z385 _ (by omega))
set_option maxHeartbeats 4000000 in
theorem ag_sheetsIn {A A1 A2 : AF} {C C1 C2 : CF} {x : Int32} {y : Int32} {k : Nat} {v : Option Value}  (hI : Iv C) (h6 : W_sheetsIn A C x y k A1 C1) (h7 : K7_sheetsIn A1 C1 x y v A2 C2) : AgB A C k A2 C2 ∧ ∃ b : Int32, v = some (.int b) ∧ (k = 0 → lN (C2 70 0 0) = b.toInt64) := by
  obtain ⟨w1, w3, -⟩ := w_sheetsIn h6
  have e6 : C1 60 = C 60 := w1 60 (by decide) (by decide)
  have e61 : C1 61 = C 61 := w1 61 (by decide) (by decide)
  obtain ⟨hS, hM, hL⟩ := id hI
  obtain ⟨⟨c3, c4, c5, c6, c7, c8⟩, sU, sP, sT, sJ, ⟨sl, sc⟩, sE, sC, sB⟩ := id hS
  obtain ⟨oU, oP, oJ, oTc, oY, o8, o9, o10, o11, o12, o13, o14, o15, oX, oQ, oB, oK, oS, oJk, oM, oCo, oSh, oLg, oPo, oLl, oL2, oL3, oL4, oLle, oE1, oE2, oE3, oE4⟩ := id hM.1
  unfold K7_sheetsIn at h7
  rw [e6] at h7
  unfold W_sheetsIn at h6
  rcases h6 with ⟨rfl, r, o, C9, ho, hC1, h6⟩ | ⟨rfl, h6⟩
  · unfold K6_sheetsIn at h6
    obtain ⟨z1, z2⟩ := h6
    obtain ⟨u3, u4, z5⟩ := z2
    obtain ⟨z6, z7, z8, z9, z10, z11⟩ := z5
    obtain ⟨z12, z13⟩ := h7
    rcases z13 with z14 | z15
    · obtain ⟨m16, m17, z18⟩ := z14
      obtain ⟨z19, z20, z21, z22, z23, z24⟩ := z18
      have hlt_u3 : u3 < C 60 100 29 := by omega
      obtain ⟨p0_u3, p1_u3, p2_u3, p3_u3, p5_u3⟩ := sP u3 hlt_u3
      have pt_u3 := oTc u3
      have pc_u3 : (C 60 11 u3 = 0 ∧ C 9 u3 2 = 0) ∨ (C 60 11 u3 ≠ 0 ∧ C 9 u3 2 = C 60 5 u3) := by rw [p2_u3]; split <;> omega
      clear p2_u3
      have hlt_u4 : u4 < C 60 2 u3 := by omega
      obtain ⟨t0_u4, t1_u4⟩ := sT u3 u4 hlt_u3 hlt_u4
      have e25 : u3 = m16 := nI_inj (by omega) (by omega) (z8.trans z21.symm)
      subst e25
      have e26 : u4 = m17 := nI_inj (by omega) (by omega) (z9.trans z22.symm)
      subst e26
      have hlo : ∀ kk : Nat, kk < 15 → C1 kk = (C) kk := fun kk h => (congrFun hC1.symm kk).trans ((up3_k (by omega)).trans (congrFun z10.symm kk))
      have hA_ : St5 A A2 := by rw [← z12]; exact w3
      rw [← z23, ← z24]
      refine ⟨agb_th hI hlo e6 e61 _ hA_, ?_⟩
      cases Option.some.inj z11
      have h70_ : C1 70 0 0 = o := by rw [← hC1]; exact up3_s
      refine ⟨_, rfl, fun _ => ?_⟩
      refine (congrArg (fun g : Nat → Nat → Nat => lN (g 0 0)) (up3_k (by decide))).trans ?_
      show lN (C1 70 0 0) = _
      refine (congrArg lN h70_).trans (ho.trans ?_)
      exact congrArg (fun n => (nI n).toInt64) (show (C 12 (3 * u3 + u4) 1) = (C 60 3 ((3 * u3) + u4)) by first | rfl | omega | (split <;> omega))
    · obtain ⟨z27, z28, z29⟩ := z15
      rcases z27 with z30 | z31
      · have hlt_u3 : u3 < C 60 100 29 := by omega
        obtain ⟨p0_u3, p1_u3, p2_u3, p3_u3, p5_u3⟩ := sP u3 hlt_u3
        have pt_u3 := oTc u3
        have pc_u3 : (C 60 11 u3 = 0 ∧ C 9 u3 2 = 0) ∨ (C 60 11 u3 ≠ 0 ∧ C 9 u3 2 = C 60 5 u3) := by rw [p2_u3]; split <;> omega
        clear p2_u3
        have hlt_u4 : u4 < C 60 2 u3 := by omega
        obtain ⟨t0_u4, t1_u4⟩ := sT u3 u4 hlt_u3 hlt_u4
        exact absurd z8 (z30 _ (by omega))
      · obtain ⟨m32, z33⟩ := z31
        obtain ⟨z34, z35, z36⟩ := z33
        have hlt_u3 : u3 < C 60 100 29 := by omega
        obtain ⟨p0_u3, p1_u3, p2_u3, p3_u3, p5_u3⟩ := sP u3 hlt_u3
        have pt_u3 := oTc u3
        have pc_u3 : (C 60 11 u3 = 0 ∧ C 9 u3 2 = 0) ∨ (C 60 11 u3 ≠ 0 ∧ C 9 u3 2 = C 60 5 u3) := by rw [p2_u3]; split <;> omega
        clear p2_u3
        have hlt_u4 : u4 < C 60 2 u3 := by omega
        obtain ⟨t0_u4, t1_u4⟩ := sT u3 u4 hlt_u3 hlt_u4
        have e37 : u3 = m32 := nI_inj (by omega) (by omega) (z8.trans z35.symm)
        subst e37
        exact absurd z9 (z36 _ (by omega))
  · unfold E6_sheetsIn at h6
    obtain ⟨z38, z39⟩ := h6
    obtain ⟨z40, z41, z42⟩ := z39
    rcases z41 with z43 | z44
    · obtain ⟨z45, z46⟩ := h7
      rcases z46 with z47 | z48
      · obtain ⟨m49, m50, z51⟩ := z47
        obtain ⟨z52, z53, z54, z55, z56, z57⟩ := z51
        exact absurd z54 (z43 _ (by omega))
      · obtain ⟨z58, z59, z60⟩ := z48
        rcases z58 with z61 | z62
        · have hlo : ∀ kk : Nat, kk < 15 → C1 kk = (C) kk := fun kk h => congrFun z42.symm kk
          have hA_ : St5 A A2 := by rw [← z45]; exact w3
          rw [← z59, ← z60]
          refine ⟨agb_th hI hlo e6 e61 _ hA_, ?_⟩
          exact ⟨_, rfl, fun h => absurd h (by decide)⟩
        · obtain ⟨m63, z64⟩ := z62
          obtain ⟨z65, z66, z67⟩ := z64
          have hlo : ∀ kk : Nat, kk < 15 → C1 kk = (C) kk := fun kk h => congrFun z42.symm kk
          have hA_ : St5 A A2 := by rw [← z45]; exact w3
          rw [← z59, ← z60]
          refine ⟨agb_th hI hlo e6 e61 _ hA_, ?_⟩
          exact ⟨_, rfl, fun h => absurd h (by decide)⟩
    · obtain ⟨u68, z69⟩ := z44
      obtain ⟨z70, z71, z72⟩ := z69
      obtain ⟨z73, z74⟩ := h7
      rcases z74 with z75 | z76
      · obtain ⟨m77, m78, z79⟩ := z75
        obtain ⟨z80, z81, z82, z83, z84, z85⟩ := z79
        have hlt_u68 : u68 < C 60 100 29 := by omega
        obtain ⟨p0_u68, p1_u68, p2_u68, p3_u68, p5_u68⟩ := sP u68 hlt_u68
        have pt_u68 := oTc u68
        have pc_u68 : (C 60 11 u68 = 0 ∧ C 9 u68 2 = 0) ∨ (C 60 11 u68 ≠ 0 ∧ C 9 u68 2 = C 60 5 u68) := by rw [p2_u68]; split <;> omega
        clear p2_u68
        have e86 : u68 = m77 := nI_inj (by omega) (by omega) (z71.trans z82.symm)
        subst e86
        exact absurd z83 (z72 _ (by omega))
      · obtain ⟨z87, z88, z89⟩ := z76
        rcases z87 with z90 | z91
        · have hlt_u68 : u68 < C 60 100 29 := by omega
          obtain ⟨p0_u68, p1_u68, p2_u68, p3_u68, p5_u68⟩ := sP u68 hlt_u68
          have pt_u68 := oTc u68
          have pc_u68 : (C 60 11 u68 = 0 ∧ C 9 u68 2 = 0) ∨ (C 60 11 u68 ≠ 0 ∧ C 9 u68 2 = C 60 5 u68) := by rw [p2_u68]; split <;> omega
          clear p2_u68
          have hlo : ∀ kk : Nat, kk < 15 → C1 kk = (C) kk := fun kk h => congrFun z42.symm kk
          have hA_ : St5 A A2 := by rw [← z73]; exact w3
          rw [← z88, ← z89]
          refine ⟨agb_th hI hlo e6 e61 _ hA_, ?_⟩
          exact ⟨_, rfl, fun h => absurd h (by decide)⟩
        · obtain ⟨m92, z93⟩ := z91
          obtain ⟨z94, z95, z96⟩ := z93
          have hlt_u68 : u68 < C 60 100 29 := by omega
          obtain ⟨p0_u68, p1_u68, p2_u68, p3_u68, p5_u68⟩ := sP u68 hlt_u68
          have pt_u68 := oTc u68
          have pc_u68 : (C 60 11 u68 = 0 ∧ C 9 u68 2 = 0) ∨ (C 60 11 u68 ≠ 0 ∧ C 9 u68 2 = C 60 5 u68) := by rw [p2_u68]; split <;> omega
          clear p2_u68
          have e97 : u68 = m92 := nI_inj (by omega) (by omega) (z71.trans z95.symm)
          subst e97
          have hlo : ∀ kk : Nat, kk < 15 → C1 kk = (C) kk := fun kk h => congrFun z42.symm kk
          have hA_ : St5 A A2 := by rw [← z73]; exact w3
          rw [← z88, ← z89]
          refine ⟨agb_th hI hlo e6 e61 _ hA_, ?_⟩
          exact ⟨_, rfl, fun h => absurd h (by decide)⟩
set_option maxHeartbeats 4000000 in
theorem ag_paperOf {A A1 A2 : AF} {C C1 C2 : CF} {x : Int32} {y : Int32} {k : Nat} {v : Option Value}  (hI : Iv C) (h6 : W_paperOf A C x y k A1 C1) (h7 : K7_paperOf A1 C1 x y v A2 C2) : AgB A C k A2 C2 ∧ ∃ b : Int32, v = some (.int b) ∧ (k = 0 → lN (C2 70 0 0) = b.toInt64) := by
  obtain ⟨w1, w3, -⟩ := w_paperOf h6
  have e6 : C1 60 = C 60 := w1 60 (by decide) (by decide)
  have e61 : C1 61 = C 61 := w1 61 (by decide) (by decide)
  obtain ⟨hS, hM, hL⟩ := id hI
  obtain ⟨⟨c3, c4, c5, c6, c7, c8⟩, sU, sP, sT, sJ, ⟨sl, sc⟩, sE, sC, sB⟩ := id hS
  obtain ⟨oU, oP, oJ, oTc, oY, o8, o9, o10, o11, o12, o13, o14, o15, oX, oQ, oB, oK, oS, oJk, oM, oCo, oSh, oLg, oPo, oLl, oL2, oL3, oL4, oLle, oE1, oE2, oE3, oE4⟩ := id hM.1
  unfold K7_paperOf at h7
  rw [e6] at h7
  unfold W_paperOf at h6
  rcases h6 with ⟨rfl, r, o, C9, ho, hC1, h6⟩ | ⟨rfl, h6⟩
  · unfold K6_paperOf at h6
    obtain ⟨z1, z2⟩ := h6
    obtain ⟨u3, u4, z5⟩ := z2
    obtain ⟨z6, z7, z8, z9, z10, z11⟩ := z5
    obtain ⟨z12, z13⟩ := h7
    rcases z13 with z14 | z15
    · obtain ⟨m16, m17, z18⟩ := z14
      obtain ⟨z19, z20, z21, z22, z23, z24⟩ := z18
      have hlt_u3 : u3 < C 60 100 29 := by omega
      obtain ⟨p0_u3, p1_u3, p2_u3, p3_u3, p5_u3⟩ := sP u3 hlt_u3
      have pt_u3 := oTc u3
      have pc_u3 : (C 60 11 u3 = 0 ∧ C 9 u3 2 = 0) ∨ (C 60 11 u3 ≠ 0 ∧ C 9 u3 2 = C 60 5 u3) := by rw [p2_u3]; split <;> omega
      clear p2_u3
      have hlt_u4 : u4 < C 60 2 u3 := by omega
      obtain ⟨t0_u4, t1_u4⟩ := sT u3 u4 hlt_u3 hlt_u4
      have e25 : u3 = m16 := nI_inj (by omega) (by omega) (z8.trans z21.symm)
      subst e25
      have e26 : u4 = m17 := nI_inj (by omega) (by omega) (z9.trans z22.symm)
      subst e26
      have hlo : ∀ kk : Nat, kk < 15 → C1 kk = (C) kk := fun kk h => (congrFun hC1.symm kk).trans ((up3_k (by omega)).trans (congrFun z10.symm kk))
      have hA_ : St5 A A2 := by rw [← z12]; exact w3
      rw [← z23, ← z24]
      refine ⟨agb_th hI hlo e6 e61 _ hA_, ?_⟩
      cases Option.some.inj z11
      have h70_ : C1 70 0 0 = o := by rw [← hC1]; exact up3_s
      refine ⟨_, rfl, fun _ => ?_⟩
      refine (congrArg (fun g : Nat → Nat → Nat => lN (g 0 0)) (up3_k (by decide))).trans ?_
      show lN (C1 70 0 0) = _
      refine (congrArg lN h70_).trans (ho.trans ?_)
      exact congrArg (fun n => (nI n).toInt64) (show (C 12 (3 * u3 + u4) 0) = (C 60 8 ((3 * u3) + u4)) by first | rfl | omega | (split <;> omega))
    · obtain ⟨z27, z28, z29⟩ := z15
      rcases z27 with z30 | z31
      · have hlt_u3 : u3 < C 60 100 29 := by omega
        obtain ⟨p0_u3, p1_u3, p2_u3, p3_u3, p5_u3⟩ := sP u3 hlt_u3
        have pt_u3 := oTc u3
        have pc_u3 : (C 60 11 u3 = 0 ∧ C 9 u3 2 = 0) ∨ (C 60 11 u3 ≠ 0 ∧ C 9 u3 2 = C 60 5 u3) := by rw [p2_u3]; split <;> omega
        clear p2_u3
        have hlt_u4 : u4 < C 60 2 u3 := by omega
        obtain ⟨t0_u4, t1_u4⟩ := sT u3 u4 hlt_u3 hlt_u4
        exact absurd z8 (z30 _ (by omega))
      · obtain ⟨m32, z33⟩ := z31
        obtain ⟨z34, z35, z36⟩ := z33
        have hlt_u3 : u3 < C 60 100 29 := by omega
        obtain ⟨p0_u3, p1_u3, p2_u3, p3_u3, p5_u3⟩ := sP u3 hlt_u3
        have pt_u3 := oTc u3
        have pc_u3 : (C 60 11 u3 = 0 ∧ C 9 u3 2 = 0) ∨ (C 60 11 u3 ≠ 0 ∧ C 9 u3 2 = C 60 5 u3) := by rw [p2_u3]; split <;> omega
        clear p2_u3
        have hlt_u4 : u4 < C 60 2 u3 := by omega
        obtain ⟨t0_u4, t1_u4⟩ := sT u3 u4 hlt_u3 hlt_u4
        have e37 : u3 = m32 := nI_inj (by omega) (by omega) (z8.trans z35.symm)
        subst e37
        exact absurd z9 (z36 _ (by omega))
  · unfold E6_paperOf at h6
    obtain ⟨z38, z39⟩ := h6
    obtain ⟨z40, z41, z42⟩ := z39
    rcases z41 with z43 | z44
    · obtain ⟨z45, z46⟩ := h7
      rcases z46 with z47 | z48
      · obtain ⟨m49, m50, z51⟩ := z47
        obtain ⟨z52, z53, z54, z55, z56, z57⟩ := z51
        exact absurd z54 (z43 _ (by omega))
      · obtain ⟨z58, z59, z60⟩ := z48
        rcases z58 with z61 | z62
        · have hlo : ∀ kk : Nat, kk < 15 → C1 kk = (C) kk := fun kk h => congrFun z42.symm kk
          have hA_ : St5 A A2 := by rw [← z45]; exact w3
          rw [← z59, ← z60]
          refine ⟨agb_th hI hlo e6 e61 _ hA_, ?_⟩
          exact ⟨_, rfl, fun h => absurd h (by decide)⟩
        · obtain ⟨m63, z64⟩ := z62
          obtain ⟨z65, z66, z67⟩ := z64
          have hlo : ∀ kk : Nat, kk < 15 → C1 kk = (C) kk := fun kk h => congrFun z42.symm kk
          have hA_ : St5 A A2 := by rw [← z45]; exact w3
          rw [← z59, ← z60]
          refine ⟨agb_th hI hlo e6 e61 _ hA_, ?_⟩
          exact ⟨_, rfl, fun h => absurd h (by decide)⟩
    · obtain ⟨u68, z69⟩ := z44
      obtain ⟨z70, z71, z72⟩ := z69
      obtain ⟨z73, z74⟩ := h7
      rcases z74 with z75 | z76
      · obtain ⟨m77, m78, z79⟩ := z75
        obtain ⟨z80, z81, z82, z83, z84, z85⟩ := z79
        have hlt_u68 : u68 < C 60 100 29 := by omega
        obtain ⟨p0_u68, p1_u68, p2_u68, p3_u68, p5_u68⟩ := sP u68 hlt_u68
        have pt_u68 := oTc u68
        have pc_u68 : (C 60 11 u68 = 0 ∧ C 9 u68 2 = 0) ∨ (C 60 11 u68 ≠ 0 ∧ C 9 u68 2 = C 60 5 u68) := by rw [p2_u68]; split <;> omega
        clear p2_u68
        have e86 : u68 = m77 := nI_inj (by omega) (by omega) (z71.trans z82.symm)
        subst e86
        exact absurd z83 (z72 _ (by omega))
      · obtain ⟨z87, z88, z89⟩ := z76
        rcases z87 with z90 | z91
        · have hlt_u68 : u68 < C 60 100 29 := by omega
          obtain ⟨p0_u68, p1_u68, p2_u68, p3_u68, p5_u68⟩ := sP u68 hlt_u68
          have pt_u68 := oTc u68
          have pc_u68 : (C 60 11 u68 = 0 ∧ C 9 u68 2 = 0) ∨ (C 60 11 u68 ≠ 0 ∧ C 9 u68 2 = C 60 5 u68) := by rw [p2_u68]; split <;> omega
          clear p2_u68
          have hlo : ∀ kk : Nat, kk < 15 → C1 kk = (C) kk := fun kk h => congrFun z42.symm kk
          have hA_ : St5 A A2 := by rw [← z73]; exact w3
          rw [← z88, ← z89]
          refine ⟨agb_th hI hlo e6 e61 _ hA_, ?_⟩
          exact ⟨_, rfl, fun h => absurd h (by decide)⟩
        · obtain ⟨m92, z93⟩ := z91
          obtain ⟨z94, z95, z96⟩ := z93
          have hlt_u68 : u68 < C 60 100 29 := by omega
          obtain ⟨p0_u68, p1_u68, p2_u68, p3_u68, p5_u68⟩ := sP u68 hlt_u68
          have pt_u68 := oTc u68
          have pc_u68 : (C 60 11 u68 = 0 ∧ C 9 u68 2 = 0) ∨ (C 60 11 u68 ≠ 0 ∧ C 9 u68 2 = C 60 5 u68) := by rw [p2_u68]; split <;> omega
          clear p2_u68
          have e97 : u68 = m92 := nI_inj (by omega) (by omega) (z71.trans z95.symm)
          subst e97
          have hlo : ∀ kk : Nat, kk < 15 → C1 kk = (C) kk := fun kk h => congrFun z42.symm kk
          have hA_ : St5 A A2 := by rw [← z73]; exact w3
          rw [← z88, ← z89]
          refine ⟨agb_th hI hlo e6 e61 _ hA_, ?_⟩
          exact ⟨_, rfl, fun h => absurd h (by decide)⟩
set_option maxHeartbeats 4000000 in
theorem ag_setToner {A A1 A2 : AF} {C C1 C2 : CF} {x : Int32} {cb : Nat} {y : Int32} {k : Nat} {v : Option Value} (hcb : cb < 2) (hI : Iv C) (h6 : W_setToner A C x cb y k A1 C1) (h7 : K7_setToner A1 C1 x cb y v A2 C2) : AgB A C k A2 C2 ∧ ∃ b : Int32, v = some (.int b) ∧ (k = 0 → lN (C2 70 0 0) = b.toInt64) := by
  obtain ⟨w1, w3, -⟩ := w_setToner h6
  have e6 : C1 60 = C 60 := w1 60 (by decide) (by decide)
  have e61 : C1 61 = C 61 := w1 61 (by decide) (by decide)
  obtain ⟨hS, hM, hL⟩ := id hI
  obtain ⟨⟨c3, c4, c5, c6, c7, c8⟩, sU, sP, sT, sJ, ⟨sl, sc⟩, sE, sC, sB⟩ := id hS
  obtain ⟨oU, oP, oJ, oTc, oY, o8, o9, o10, o11, o12, o13, o14, o15, oX, oQ, oB, oK, oS, oJk, oM, oCo, oSh, oLg, oPo, oLl, oL2, oL3, oL4, oLle, oE1, oE2, oE3, oE4⟩ := id hM.1
  unfold K7_setToner at h7
  rw [e6] at h7
  unfold W_setToner at h6
  rcases h6 with ⟨rfl, r, o, C9, ho, hC1, h6⟩ | ⟨rfl, h6⟩ | ⟨rfl, h6⟩ | ⟨rfl, h6⟩
  · unfold K6_setToner at h6
    obtain ⟨z1, z2⟩ := h6
    rcases z2 with z3 | z4
    · obtain ⟨u5, u6, z7⟩ := z3
      obtain ⟨z8, z9, z10, z11, z12, z13, z14, z15, z16⟩ := z7
      rcases z13 with z17 | z18
      · obtain ⟨z19, z20⟩ := h7
        rcases z20 with z21 | z22 | z23 | z24 | z25
        · obtain ⟨m26, m27, z28⟩ := z21
          obtain ⟨z29, z30, z31, z32, z33, z34, z35, z36⟩ := z28
          have hlt_u5 : u5 < C 60 100 29 := by omega
          obtain ⟨p0_u5, p1_u5, p2_u5, p3_u5, p5_u5⟩ := sP u5 hlt_u5
          have pt_u5 := oTc u5
          have pc_u5 : (C 60 11 u5 = 0 ∧ C 9 u5 2 = 0) ∨ (C 60 11 u5 ≠ 0 ∧ C 9 u5 2 = C 60 5 u5) := by rw [p2_u5]; split <;> omega
          clear p2_u5
          have e37 : u5 = m26 := nI_inj (by omega) (by omega) (z9.trans z30.symm)
          subst e37
          have e38 : u6 = m27 := nI_inj (by omega) (by omega) (z12.trans z33.symm)
          subst e38
          have hlo : ∀ kk : Nat, kk < 15 → C1 kk = (up3 C 9 u5 1 u6) kk := fun kk h => (congrFun hC1.symm kk).trans ((up3_k (by omega)).trans (congrFun z15.symm kk))
          have hA_ : St5 A A2 := by rw [← z19]; exact w3
          have hk_ := keep_setBlack (t := 0) (p := u5) (v := u6) hS hM hL hlt_u5 (by omega) rfl
          rw [← z35, ← z36]
          refine ⟨agb_k hk_ ?_ ?_ (fun kk h => ?_) ?_ ?_ ?_ hA_, ?_⟩
          · funext i_ f_
            simp only [up3, e6]
          · funext i_ f_
            simp only [up3, e61]
          · rw [up3_k (by omega), up3_k (by omega)]
            exact hlo kk h
          · simp [up3]
          · simp [up3]
          · simp [up3]
          · cases Option.some.inj z16
            have h70_ : C1 70 0 0 = o := by rw [← hC1]; exact up3_s
            refine ⟨_, rfl, fun _ => ?_⟩
            refine (congrArg (fun g : Nat → Nat → Nat => lN (g 0 0)) (show _ = C1 70 from by rw [up3_k (by decide), up3_k (by decide)])).trans ?_
            show lN (C1 70 0 0) = _
            refine (congrArg lN h70_).trans (ho.trans ?_)
            exact congrArg (fun n => (nI n).toInt64) (show (if cb = 0 then C 9 u5 1 else C 9 u5 2) = (C 60 4 u5) by first | rfl | omega | (split <;> omega))
        · obtain ⟨m39, m40, z41⟩ := z22
          obtain ⟨z42, z43, z44, z45, z46, z47, z48, z49, z50⟩ := z41
          have hlt_u5 : u5 < C 60 100 29 := by omega
          obtain ⟨p0_u5, p1_u5, p2_u5, p3_u5, p5_u5⟩ := sP u5 hlt_u5
          have pt_u5 := oTc u5
          have pc_u5 : (C 60 11 u5 = 0 ∧ C 9 u5 2 = 0) ∨ (C 60 11 u5 ≠ 0 ∧ C 9 u5 2 = C 60 5 u5) := by rw [p2_u5]; split <;> omega
          clear p2_u5
          have e51 : u5 = m39 := nI_inj (by omega) (by omega) (z9.trans z43.symm)
          subst e51
          have e52 : u6 = m40 := nI_inj (by omega) (by omega) (z12.trans z46.symm)
          subst e52
          exact absurd z14 z47
        · obtain ⟨m53, m54, z55⟩ := z23
          obtain ⟨z56, z57, z58, z59, z60, z61, z62, z63, z64⟩ := z55
          have hlt_u5 : u5 < C 60 100 29 := by omega
          obtain ⟨p0_u5, p1_u5, p2_u5, p3_u5, p5_u5⟩ := sP u5 hlt_u5
          have pt_u5 := oTc u5
          have pc_u5 : (C 60 11 u5 = 0 ∧ C 9 u5 2 = 0) ∨ (C 60 11 u5 ≠ 0 ∧ C 9 u5 2 = C 60 5 u5) := by rw [p2_u5]; split <;> omega
          clear p2_u5
          have e65 : u5 = m53 := nI_inj (by omega) (by omega) (z9.trans z57.symm)
          subst e65
          have e66 : u6 = m54 := nI_inj (by omega) (by omega) (z12.trans z60.symm)
          subst e66
          omega
        · obtain ⟨m67, z68⟩ := z24
          obtain ⟨z69, z70, z71, z72, z73⟩ := z68
          have hlt_u5 : u5 < C 60 100 29 := by omega
          obtain ⟨p0_u5, p1_u5, p2_u5, p3_u5, p5_u5⟩ := sP u5 hlt_u5
          have pt_u5 := oTc u5
          have pc_u5 : (C 60 11 u5 = 0 ∧ C 9 u5 2 = 0) ∨ (C 60 11 u5 ≠ 0 ∧ C 9 u5 2 = C 60 5 u5) := by rw [p2_u5]; split <;> omega
          clear p2_u5
          have e74 : u5 = m67 := nI_inj (by omega) (by omega) (z9.trans z70.symm)
          subst e74
          exact absurd z12 (z71 _ (by omega) (by omega))
        · obtain ⟨z75, z76, z77⟩ := z25
          have hlt_u5 : u5 < C 60 100 29 := by omega
          obtain ⟨p0_u5, p1_u5, p2_u5, p3_u5, p5_u5⟩ := sP u5 hlt_u5
          have pt_u5 := oTc u5
          have pc_u5 : (C 60 11 u5 = 0 ∧ C 9 u5 2 = 0) ∨ (C 60 11 u5 ≠ 0 ∧ C 9 u5 2 = C 60 5 u5) := by rw [p2_u5]; split <;> omega
          clear p2_u5
          exact absurd z9 (z75 _ (by omega))
      · obtain ⟨z78, z79⟩ := h7
        rcases z79 with z80 | z81 | z82 | z83 | z84
        · obtain ⟨m85, m86, z87⟩ := z80
          obtain ⟨z88, z89, z90, z91, z92, z93, z94, z95⟩ := z87
          have hlt_u5 : u5 < C 60 100 29 := by omega
          obtain ⟨p0_u5, p1_u5, p2_u5, p3_u5, p5_u5⟩ := sP u5 hlt_u5
          have pt_u5 := oTc u5
          have pc_u5 : (C 60 11 u5 = 0 ∧ C 9 u5 2 = 0) ∨ (C 60 11 u5 ≠ 0 ∧ C 9 u5 2 = C 60 5 u5) := by rw [p2_u5]; split <;> omega
          clear p2_u5
          have e96 : u5 = m85 := nI_inj (by omega) (by omega) (z9.trans z89.symm)
          subst e96
          have e97 : u6 = m86 := nI_inj (by omega) (by omega) (z12.trans z92.symm)
          subst e97
          have hlo : ∀ kk : Nat, kk < 15 → C1 kk = (up3 C 9 u5 1 u6) kk := fun kk h => (congrFun hC1.symm kk).trans ((up3_k (by omega)).trans (congrFun z15.symm kk))
          have hA_ : St5 A A2 := by rw [← z78]; exact w3
          have hk_ := keep_setBlack (t := 0) (p := u5) (v := u6) hS hM hL hlt_u5 (by omega) rfl
          rw [← z94, ← z95]
          refine ⟨agb_k hk_ ?_ ?_ (fun kk h => ?_) ?_ ?_ ?_ hA_, ?_⟩
          · funext i_ f_
            simp only [up3, e6]
          · funext i_ f_
            simp only [up3, e61]
          · rw [up3_k (by omega), up3_k (by omega)]
            exact hlo kk h
          · simp [up3]
          · simp [up3]
          · simp [up3]
          · cases Option.some.inj z16
            have h70_ : C1 70 0 0 = o := by rw [← hC1]; exact up3_s
            refine ⟨_, rfl, fun _ => ?_⟩
            refine (congrArg (fun g : Nat → Nat → Nat => lN (g 0 0)) (show _ = C1 70 from by rw [up3_k (by decide), up3_k (by decide)])).trans ?_
            show lN (C1 70 0 0) = _
            refine (congrArg lN h70_).trans (ho.trans ?_)
            exact congrArg (fun n => (nI n).toInt64) (show (if cb = 0 then C 9 u5 1 else C 9 u5 2) = (C 60 4 u5) by first | rfl | omega | (split <;> omega))
        · obtain ⟨m98, m99, z100⟩ := z81
          obtain ⟨z101, z102, z103, z104, z105, z106, z107, z108, z109⟩ := z100
          have hlt_u5 : u5 < C 60 100 29 := by omega
          obtain ⟨p0_u5, p1_u5, p2_u5, p3_u5, p5_u5⟩ := sP u5 hlt_u5
          have pt_u5 := oTc u5
          have pc_u5 : (C 60 11 u5 = 0 ∧ C 9 u5 2 = 0) ∨ (C 60 11 u5 ≠ 0 ∧ C 9 u5 2 = C 60 5 u5) := by rw [p2_u5]; split <;> omega
          clear p2_u5
          have e110 : u5 = m98 := nI_inj (by omega) (by omega) (z9.trans z102.symm)
          subst e110
          have e111 : u6 = m99 := nI_inj (by omega) (by omega) (z12.trans z105.symm)
          subst e111
          exact absurd z14 z106
        · obtain ⟨m112, m113, z114⟩ := z82
          obtain ⟨z115, z116, z117, z118, z119, z120, z121, z122, z123⟩ := z114
          have hlt_u5 : u5 < C 60 100 29 := by omega
          obtain ⟨p0_u5, p1_u5, p2_u5, p3_u5, p5_u5⟩ := sP u5 hlt_u5
          have pt_u5 := oTc u5
          have pc_u5 : (C 60 11 u5 = 0 ∧ C 9 u5 2 = 0) ∨ (C 60 11 u5 ≠ 0 ∧ C 9 u5 2 = C 60 5 u5) := by rw [p2_u5]; split <;> omega
          clear p2_u5
          have e124 : u5 = m112 := nI_inj (by omega) (by omega) (z9.trans z116.symm)
          subst e124
          have e125 : u6 = m113 := nI_inj (by omega) (by omega) (z12.trans z119.symm)
          subst e125
          omega
        · obtain ⟨m126, z127⟩ := z83
          obtain ⟨z128, z129, z130, z131, z132⟩ := z127
          have hlt_u5 : u5 < C 60 100 29 := by omega
          obtain ⟨p0_u5, p1_u5, p2_u5, p3_u5, p5_u5⟩ := sP u5 hlt_u5
          have pt_u5 := oTc u5
          have pc_u5 : (C 60 11 u5 = 0 ∧ C 9 u5 2 = 0) ∨ (C 60 11 u5 ≠ 0 ∧ C 9 u5 2 = C 60 5 u5) := by rw [p2_u5]; split <;> omega
          clear p2_u5
          have e133 : u5 = m126 := nI_inj (by omega) (by omega) (z9.trans z129.symm)
          subst e133
          exact absurd z12 (z130 _ (by omega) (by omega))
        · obtain ⟨z134, z135, z136⟩ := z84
          have hlt_u5 : u5 < C 60 100 29 := by omega
          obtain ⟨p0_u5, p1_u5, p2_u5, p3_u5, p5_u5⟩ := sP u5 hlt_u5
          have pt_u5 := oTc u5
          have pc_u5 : (C 60 11 u5 = 0 ∧ C 9 u5 2 = 0) ∨ (C 60 11 u5 ≠ 0 ∧ C 9 u5 2 = C 60 5 u5) := by rw [p2_u5]; split <;> omega
          clear p2_u5
          exact absurd z9 (z134 _ (by omega))
    · obtain ⟨u137, u138, z139⟩ := z4
      obtain ⟨z140, z141, z142, z143, z144, z145, z146, z147, z148⟩ := z139
      rcases z145 with z149 | z150
      · obtain ⟨z151, z152⟩ := h7
        rcases z152 with z153 | z154 | z155 | z156 | z157
        · obtain ⟨m158, m159, z160⟩ := z153
          obtain ⟨z161, z162, z163, z164, z165, z166, z167, z168⟩ := z160
          have hlt_u137 : u137 < C 60 100 29 := by omega
          obtain ⟨p0_u137, p1_u137, p2_u137, p3_u137, p5_u137⟩ := sP u137 hlt_u137
          have pt_u137 := oTc u137
          have pc_u137 : (C 60 11 u137 = 0 ∧ C 9 u137 2 = 0) ∨ (C 60 11 u137 ≠ 0 ∧ C 9 u137 2 = C 60 5 u137) := by rw [p2_u137]; split <;> omega
          clear p2_u137
          have e169 : u137 = m158 := nI_inj (by omega) (by omega) (z141.trans z162.symm)
          subst e169
          have e170 : u138 = m159 := nI_inj (by omega) (by omega) (z144.trans z165.symm)
          subst e170
          exact absurd z166 z146
        · obtain ⟨m171, m172, z173⟩ := z154
          obtain ⟨z174, z175, z176, z177, z178, z179, z180, z181, z182⟩ := z173
          have hlt_u137 : u137 < C 60 100 29 := by omega
          obtain ⟨p0_u137, p1_u137, p2_u137, p3_u137, p5_u137⟩ := sP u137 hlt_u137
          have pt_u137 := oTc u137
          have pc_u137 : (C 60 11 u137 = 0 ∧ C 9 u137 2 = 0) ∨ (C 60 11 u137 ≠ 0 ∧ C 9 u137 2 = C 60 5 u137) := by rw [p2_u137]; split <;> omega
          clear p2_u137
          have e183 : u137 = m171 := nI_inj (by omega) (by omega) (z141.trans z175.symm)
          subst e183
          have e184 : u138 = m172 := nI_inj (by omega) (by omega) (z144.trans z178.symm)
          subst e184
          exact absurd z149 z179
        · obtain ⟨m185, m186, z187⟩ := z155
          obtain ⟨z188, z189, z190, z191, z192, z193, z194, z195, z196⟩ := z187
          have hlt_u137 : u137 < C 60 100 29 := by omega
          obtain ⟨p0_u137, p1_u137, p2_u137, p3_u137, p5_u137⟩ := sP u137 hlt_u137
          have pt_u137 := oTc u137
          have pc_u137 : (C 60 11 u137 = 0 ∧ C 9 u137 2 = 0) ∨ (C 60 11 u137 ≠ 0 ∧ C 9 u137 2 = C 60 5 u137) := by rw [p2_u137]; split <;> omega
          clear p2_u137
          have e197 : u137 = m185 := nI_inj (by omega) (by omega) (z141.trans z189.symm)
          subst e197
          have e198 : u138 = m186 := nI_inj (by omega) (by omega) (z144.trans z192.symm)
          subst e198
          omega
        · obtain ⟨m199, z200⟩ := z156
          obtain ⟨z201, z202, z203, z204, z205⟩ := z200
          have hlt_u137 : u137 < C 60 100 29 := by omega
          obtain ⟨p0_u137, p1_u137, p2_u137, p3_u137, p5_u137⟩ := sP u137 hlt_u137
          have pt_u137 := oTc u137
          have pc_u137 : (C 60 11 u137 = 0 ∧ C 9 u137 2 = 0) ∨ (C 60 11 u137 ≠ 0 ∧ C 9 u137 2 = C 60 5 u137) := by rw [p2_u137]; split <;> omega
          clear p2_u137
          have e206 : u137 = m199 := nI_inj (by omega) (by omega) (z141.trans z202.symm)
          subst e206
          exact absurd z144 (z203 _ (by omega) (by omega))
        · obtain ⟨z207, z208, z209⟩ := z157
          have hlt_u137 : u137 < C 60 100 29 := by omega
          obtain ⟨p0_u137, p1_u137, p2_u137, p3_u137, p5_u137⟩ := sP u137 hlt_u137
          have pt_u137 := oTc u137
          have pc_u137 : (C 60 11 u137 = 0 ∧ C 9 u137 2 = 0) ∨ (C 60 11 u137 ≠ 0 ∧ C 9 u137 2 = C 60 5 u137) := by rw [p2_u137]; split <;> omega
          clear p2_u137
          exact absurd z141 (z207 _ (by omega))
      · obtain ⟨z210, z211⟩ := h7
        rcases z211 with z212 | z213 | z214 | z215 | z216
        · obtain ⟨m217, m218, z219⟩ := z212
          obtain ⟨z220, z221, z222, z223, z224, z225, z226, z227⟩ := z219
          have hlt_u137 : u137 < C 60 100 29 := by omega
          obtain ⟨p0_u137, p1_u137, p2_u137, p3_u137, p5_u137⟩ := sP u137 hlt_u137
          have pt_u137 := oTc u137
          have pc_u137 : (C 60 11 u137 = 0 ∧ C 9 u137 2 = 0) ∨ (C 60 11 u137 ≠ 0 ∧ C 9 u137 2 = C 60 5 u137) := by rw [p2_u137]; split <;> omega
          clear p2_u137
          have e228 : u137 = m217 := nI_inj (by omega) (by omega) (z141.trans z221.symm)
          subst e228
          have e229 : u138 = m218 := nI_inj (by omega) (by omega) (z144.trans z224.symm)
          subst e229
          exact absurd z225 z146
        · obtain ⟨m230, m231, z232⟩ := z213
          obtain ⟨z233, z234, z235, z236, z237, z238, z239, z240, z241⟩ := z232
          have hlt_u137 : u137 < C 60 100 29 := by omega
          obtain ⟨p0_u137, p1_u137, p2_u137, p3_u137, p5_u137⟩ := sP u137 hlt_u137
          have pt_u137 := oTc u137
          have pc_u137 : (C 60 11 u137 = 0 ∧ C 9 u137 2 = 0) ∨ (C 60 11 u137 ≠ 0 ∧ C 9 u137 2 = C 60 5 u137) := by rw [p2_u137]; split <;> omega
          clear p2_u137
          have e242 : u137 = m230 := nI_inj (by omega) (by omega) (z141.trans z234.symm)
          subst e242
          have e243 : u138 = m231 := nI_inj (by omega) (by omega) (z144.trans z237.symm)
          subst e243
          have hlo : ∀ kk : Nat, kk < 15 → C1 kk = (up3 C 9 u137 2 u138) kk := fun kk h => (congrFun hC1.symm kk).trans ((up3_k (by omega)).trans (congrFun z147.symm kk))
          have hA_ : St5 A A2 := by rw [← z210]; exact w3
          have hk_ := keep_setColour (t := 0) (p := u137) (v := u138) hS hM hL hlt_u137 (by omega) (by omega) rfl
          rw [← z240, ← z241]
          refine ⟨agb_k hk_ ?_ ?_ (fun kk h => ?_) ?_ ?_ ?_ hA_, ?_⟩
          · funext i_ f_
            simp only [up3, e6]
          · funext i_ f_
            simp only [up3, e61]
          · rw [up3_k (by omega), up3_k (by omega)]
            exact hlo kk h
          · simp [up3]
          · simp [up3]
          · simp [up3]
          · cases Option.some.inj z148
            have h70_ : C1 70 0 0 = o := by rw [← hC1]; exact up3_s
            refine ⟨_, rfl, fun _ => ?_⟩
            refine (congrArg (fun g : Nat → Nat → Nat => lN (g 0 0)) (show _ = C1 70 from by rw [up3_k (by decide), up3_k (by decide)])).trans ?_
            show lN (C1 70 0 0) = _
            refine (congrArg lN h70_).trans (ho.trans ?_)
            exact congrArg (fun n => (nI n).toInt64) (show (if cb = 0 then C 9 u137 1 else C 9 u137 2) = (C 60 5 u137) by first | rfl | omega | (split <;> omega))
        · obtain ⟨m244, m245, z246⟩ := z214
          obtain ⟨z247, z248, z249, z250, z251, z252, z253, z254, z255⟩ := z246
          have hlt_u137 : u137 < C 60 100 29 := by omega
          obtain ⟨p0_u137, p1_u137, p2_u137, p3_u137, p5_u137⟩ := sP u137 hlt_u137
          have pt_u137 := oTc u137
          have pc_u137 : (C 60 11 u137 = 0 ∧ C 9 u137 2 = 0) ∨ (C 60 11 u137 ≠ 0 ∧ C 9 u137 2 = C 60 5 u137) := by rw [p2_u137]; split <;> omega
          clear p2_u137
          have e256 : u137 = m244 := nI_inj (by omega) (by omega) (z141.trans z248.symm)
          subst e256
          have e257 : u138 = m245 := nI_inj (by omega) (by omega) (z144.trans z251.symm)
          subst e257
          omega
        · obtain ⟨m258, z259⟩ := z215
          obtain ⟨z260, z261, z262, z263, z264⟩ := z259
          have hlt_u137 : u137 < C 60 100 29 := by omega
          obtain ⟨p0_u137, p1_u137, p2_u137, p3_u137, p5_u137⟩ := sP u137 hlt_u137
          have pt_u137 := oTc u137
          have pc_u137 : (C 60 11 u137 = 0 ∧ C 9 u137 2 = 0) ∨ (C 60 11 u137 ≠ 0 ∧ C 9 u137 2 = C 60 5 u137) := by rw [p2_u137]; split <;> omega
          clear p2_u137
          have e265 : u137 = m258 := nI_inj (by omega) (by omega) (z141.trans z261.symm)
          subst e265
          exact absurd z144 (z262 _ (by omega) (by omega))
        · obtain ⟨z266, z267, z268⟩ := z216
          have hlt_u137 : u137 < C 60 100 29 := by omega
          obtain ⟨p0_u137, p1_u137, p2_u137, p3_u137, p5_u137⟩ := sP u137 hlt_u137
          have pt_u137 := oTc u137
          have pc_u137 : (C 60 11 u137 = 0 ∧ C 9 u137 2 = 0) ∨ (C 60 11 u137 ≠ 0 ∧ C 9 u137 2 = C 60 5 u137) := by rw [p2_u137]; split <;> omega
          clear p2_u137
          exact absurd z141 (z266 _ (by omega))
  · unfold E6_setToner at h6
    obtain ⟨z269, z270⟩ := h6
    rcases z270 with z271 | z272 | z273
    · obtain ⟨z274, z275, z276⟩ := z271
      obtain ⟨z277, z278⟩ := h7
      rcases z278 with z279 | z280 | z281 | z282 | z283
      · obtain ⟨m284, m285, z286⟩ := z279
        obtain ⟨z287, z288, z289, z290, z291, z292, z293, z294⟩ := z286
        exact absurd z288 (z275 _ (by omega))
      · obtain ⟨m295, m296, z297⟩ := z280
        obtain ⟨z298, z299, z300, z301, z302, z303, z304, z305, z306⟩ := z297
        exact absurd z299 (z275 _ (by omega))
      · obtain ⟨m307, m308, z309⟩ := z281
        obtain ⟨z310, z311, z312, z313, z314, z315, z316, z317, z318⟩ := z309
        exact absurd z311 (z275 _ (by omega))
      · obtain ⟨m319, z320⟩ := z282
        obtain ⟨z321, z322, z323, z324, z325⟩ := z320
        exact absurd z322 (z275 _ (by omega))
      · obtain ⟨z326, z327, z328⟩ := z283
        have hlo : ∀ kk : Nat, kk < 15 → C1 kk = (C) kk := fun kk h => congrFun z276.symm kk
        have hA_ : St5 A A2 := by rw [← z277]; exact w3
        rw [← z327, ← z328]
        refine ⟨agb_th hI hlo e6 e61 _ hA_, ?_⟩
        exact ⟨_, rfl, fun h => absurd h (by decide)⟩
    · obtain ⟨u329, z330⟩ := z272
      obtain ⟨z331, z332, z333, z334, z335⟩ := z330
      exact absurd z331 (by decide +kernel)
    · obtain ⟨u336, u337, z338⟩ := z273
      obtain ⟨z339, z340, z341, z342, z343, z344, z345, z346, z347⟩ := z338
      exact absurd z339 (by decide +kernel)
  · unfold E6_setToner at h6
    obtain ⟨z348, z349⟩ := h6
    rcases z349 with z350 | z351 | z352
    · obtain ⟨z353, z354, z355⟩ := z350
      exact absurd z353 (by decide +kernel)
    · obtain ⟨u356, z357⟩ := z351
      obtain ⟨z358, z359, z360, z361, z362⟩ := z357
      obtain ⟨z363, z364⟩ := h7
      rcases z364 with z365 | z366 | z367 | z368 | z369
      · obtain ⟨m370, m371, z372⟩ := z365
        obtain ⟨z373, z374, z375, z376, z377, z378, z379, z380⟩ := z372
        have hlt_u356 : u356 < C 60 100 29 := by omega
        obtain ⟨p0_u356, p1_u356, p2_u356, p3_u356, p5_u356⟩ := sP u356 hlt_u356
        have pt_u356 := oTc u356
        have pc_u356 : (C 60 11 u356 = 0 ∧ C 9 u356 2 = 0) ∨ (C 60 11 u356 ≠ 0 ∧ C 9 u356 2 = C 60 5 u356) := by rw [p2_u356]; split <;> omega
        clear p2_u356
        have e381 : u356 = m370 := nI_inj (by omega) (by omega) (z360.trans z374.symm)
        subst e381
        exact absurd z377 (z361 _ (by omega) (by omega))
      · obtain ⟨m382, m383, z384⟩ := z366
        obtain ⟨z385, z386, z387, z388, z389, z390, z391, z392, z393⟩ := z384
        have hlt_u356 : u356 < C 60 100 29 := by omega
        obtain ⟨p0_u356, p1_u356, p2_u356, p3_u356, p5_u356⟩ := sP u356 hlt_u356
        have pt_u356 := oTc u356
        have pc_u356 : (C 60 11 u356 = 0 ∧ C 9 u356 2 = 0) ∨ (C 60 11 u356 ≠ 0 ∧ C 9 u356 2 = C 60 5 u356) := by rw [p2_u356]; split <;> omega
        clear p2_u356
        have e394 : u356 = m382 := nI_inj (by omega) (by omega) (z360.trans z386.symm)
        subst e394
        exact absurd z389 (z361 _ (by omega) (by omega))
      · obtain ⟨m395, m396, z397⟩ := z367
        obtain ⟨z398, z399, z400, z401, z402, z403, z404, z405, z406⟩ := z397
        have hlt_u356 : u356 < C 60 100 29 := by omega
        obtain ⟨p0_u356, p1_u356, p2_u356, p3_u356, p5_u356⟩ := sP u356 hlt_u356
        have pt_u356 := oTc u356
        have pc_u356 : (C 60 11 u356 = 0 ∧ C 9 u356 2 = 0) ∨ (C 60 11 u356 ≠ 0 ∧ C 9 u356 2 = C 60 5 u356) := by rw [p2_u356]; split <;> omega
        clear p2_u356
        have e407 : u356 = m395 := nI_inj (by omega) (by omega) (z360.trans z399.symm)
        subst e407
        exact absurd z402 (z361 _ (by omega) (by omega))
      · obtain ⟨m408, z409⟩ := z368
        obtain ⟨z410, z411, z412, z413, z414⟩ := z409
        have hlt_u356 : u356 < C 60 100 29 := by omega
        obtain ⟨p0_u356, p1_u356, p2_u356, p3_u356, p5_u356⟩ := sP u356 hlt_u356
        have pt_u356 := oTc u356
        have pc_u356 : (C 60 11 u356 = 0 ∧ C 9 u356 2 = 0) ∨ (C 60 11 u356 ≠ 0 ∧ C 9 u356 2 = C 60 5 u356) := by rw [p2_u356]; split <;> omega
        clear p2_u356
        have e415 : u356 = m408 := nI_inj (by omega) (by omega) (z360.trans z411.symm)
        subst e415
        have hlo : ∀ kk : Nat, kk < 15 → C1 kk = (C) kk := fun kk h => congrFun z362.symm kk
        have hA_ : St5 A A2 := by rw [← z363]; exact w3
        rw [← z413, ← z414]
        refine ⟨agb_th hI hlo e6 e61 _ hA_, ?_⟩
        exact ⟨_, rfl, fun h => absurd h (by decide)⟩
      · obtain ⟨z416, z417, z418⟩ := z369
        have hlt_u356 : u356 < C 60 100 29 := by omega
        obtain ⟨p0_u356, p1_u356, p2_u356, p3_u356, p5_u356⟩ := sP u356 hlt_u356
        have pt_u356 := oTc u356
        have pc_u356 : (C 60 11 u356 = 0 ∧ C 9 u356 2 = 0) ∨ (C 60 11 u356 ≠ 0 ∧ C 9 u356 2 = C 60 5 u356) := by rw [p2_u356]; split <;> omega
        clear p2_u356
        exact absurd z360 (z416 _ (by omega))
    · obtain ⟨u419, u420, z421⟩ := z352
      obtain ⟨z422, z423, z424, z425, z426, z427, z428, z429, z430⟩ := z421
      exact absurd z422 (by decide +kernel)
  · unfold E6_setToner at h6
    obtain ⟨z431, z432⟩ := h6
    rcases z432 with z433 | z434 | z435
    · obtain ⟨z436, z437, z438⟩ := z433
      exact absurd z436 (by decide +kernel)
    · obtain ⟨u439, z440⟩ := z434
      obtain ⟨z441, z442, z443, z444, z445⟩ := z440
      exact absurd z441 (by decide +kernel)
    · obtain ⟨u446, u447, z448⟩ := z435
      obtain ⟨z449, z450, z451, z452, z453, z454, z455, z456, z457⟩ := z448
      obtain ⟨z458, z459⟩ := h7
      rcases z459 with z460 | z461 | z462 | z463 | z464
      · obtain ⟨m465, m466, z467⟩ := z460
        obtain ⟨z468, z469, z470, z471, z472, z473, z474, z475⟩ := z467
        have hlt_u446 : u446 < C 60 100 29 := by omega
        obtain ⟨p0_u446, p1_u446, p2_u446, p3_u446, p5_u446⟩ := sP u446 hlt_u446
        have pt_u446 := oTc u446
        have pc_u446 : (C 60 11 u446 = 0 ∧ C 9 u446 2 = 0) ∨ (C 60 11 u446 ≠ 0 ∧ C 9 u446 2 = C 60 5 u446) := by rw [p2_u446]; split <;> omega
        clear p2_u446
        have e476 : u446 = m465 := nI_inj (by omega) (by omega) (z451.trans z469.symm)
        subst e476
        have e477 : u447 = m466 := nI_inj (by omega) (by omega) (z454.trans z472.symm)
        subst e477
        omega
      · obtain ⟨m478, m479, z480⟩ := z461
        obtain ⟨z481, z482, z483, z484, z485, z486, z487, z488, z489⟩ := z480
        have hlt_u446 : u446 < C 60 100 29 := by omega
        obtain ⟨p0_u446, p1_u446, p2_u446, p3_u446, p5_u446⟩ := sP u446 hlt_u446
        have pt_u446 := oTc u446
        have pc_u446 : (C 60 11 u446 = 0 ∧ C 9 u446 2 = 0) ∨ (C 60 11 u446 ≠ 0 ∧ C 9 u446 2 = C 60 5 u446) := by rw [p2_u446]; split <;> omega
        clear p2_u446
        have e490 : u446 = m478 := nI_inj (by omega) (by omega) (z451.trans z482.symm)
        subst e490
        have e491 : u447 = m479 := nI_inj (by omega) (by omega) (z454.trans z485.symm)
        subst e491
        omega
      · obtain ⟨m492, m493, z494⟩ := z462
        obtain ⟨z495, z496, z497, z498, z499, z500, z501, z502, z503⟩ := z494
        have hlt_u446 : u446 < C 60 100 29 := by omega
        obtain ⟨p0_u446, p1_u446, p2_u446, p3_u446, p5_u446⟩ := sP u446 hlt_u446
        have pt_u446 := oTc u446
        have pc_u446 : (C 60 11 u446 = 0 ∧ C 9 u446 2 = 0) ∨ (C 60 11 u446 ≠ 0 ∧ C 9 u446 2 = C 60 5 u446) := by rw [p2_u446]; split <;> omega
        clear p2_u446
        have e504 : u446 = m492 := nI_inj (by omega) (by omega) (z451.trans z496.symm)
        subst e504
        have e505 : u447 = m493 := nI_inj (by omega) (by omega) (z454.trans z499.symm)
        subst e505
        have hlo : ∀ kk : Nat, kk < 15 → C1 kk = (C) kk := fun kk h => congrFun z457.symm kk
        have hA_ : St5 A A2 := by rw [← z458]; exact w3
        rw [← z502, ← z503]
        refine ⟨agb_th hI hlo e6 e61 _ hA_, ?_⟩
        exact ⟨_, rfl, fun h => absurd h (by decide)⟩
      · obtain ⟨m506, z507⟩ := z463
        obtain ⟨z508, z509, z510, z511, z512⟩ := z507
        have hlt_u446 : u446 < C 60 100 29 := by omega
        obtain ⟨p0_u446, p1_u446, p2_u446, p3_u446, p5_u446⟩ := sP u446 hlt_u446
        have pt_u446 := oTc u446
        have pc_u446 : (C 60 11 u446 = 0 ∧ C 9 u446 2 = 0) ∨ (C 60 11 u446 ≠ 0 ∧ C 9 u446 2 = C 60 5 u446) := by rw [p2_u446]; split <;> omega
        clear p2_u446
        have e513 : u446 = m506 := nI_inj (by omega) (by omega) (z451.trans z509.symm)
        subst e513
        exact absurd z454 (z510 _ (by omega) (by omega))
      · obtain ⟨z514, z515, z516⟩ := z464
        have hlt_u446 : u446 < C 60 100 29 := by omega
        obtain ⟨p0_u446, p1_u446, p2_u446, p3_u446, p5_u446⟩ := sP u446 hlt_u446
        have pt_u446 := oTc u446
        have pc_u446 : (C 60 11 u446 = 0 ∧ C 9 u446 2 = 0) ∨ (C 60 11 u446 ≠ 0 ∧ C 9 u446 2 = C 60 5 u446) := by rw [p2_u446]; split <;> omega
        clear p2_u446
        exact absurd z451 (z514 _ (by omega))
set_option maxHeartbeats 4000000 in
theorem ag_tonerOf {A A1 A2 : AF} {C C1 C2 : CF} {x : Int32} {cb : Nat} {k : Nat} {v : Option Value} (hcb : cb < 2) (hI : Iv C) (h6 : W_tonerOf A C x cb k A1 C1) (h7 : K7_tonerOf A1 C1 x cb v A2 C2) : AgB A C k A2 C2 ∧ ∃ b : Int32, v = some (.int b) ∧ (k = 0 → lN (C2 70 0 0) = b.toInt64) := by
  obtain ⟨w1, w3, -⟩ := w_tonerOf h6
  have e6 : C1 60 = C 60 := w1 60 (by decide) (by decide)
  have e61 : C1 61 = C 61 := w1 61 (by decide) (by decide)
  obtain ⟨hS, hM, hL⟩ := id hI
  obtain ⟨⟨c3, c4, c5, c6, c7, c8⟩, sU, sP, sT, sJ, ⟨sl, sc⟩, sE, sC, sB⟩ := id hS
  obtain ⟨oU, oP, oJ, oTc, oY, o8, o9, o10, o11, o12, o13, o14, o15, oX, oQ, oB, oK, oS, oJk, oM, oCo, oSh, oLg, oPo, oLl, oL2, oL3, oL4, oLle, oE1, oE2, oE3, oE4⟩ := id hM.1
  unfold K7_tonerOf at h7
  rw [e6] at h7
  unfold W_tonerOf at h6
  rcases h6 with ⟨rfl, r, o, C9, ho, hC1, h6⟩ | ⟨rfl, h6⟩ | ⟨rfl, h6⟩
  · unfold K6_tonerOf at h6
    obtain ⟨z1, z2⟩ := h6
    obtain ⟨u3, z4⟩ := z2
    obtain ⟨z5, z6, z7, z8, z9⟩ := z4
    rcases z7 with z10 | z11
    · obtain ⟨z12, z13⟩ := h7
      rcases z13 with z14 | z15 | z16 | z17
      · obtain ⟨m18, z19⟩ := z14
        obtain ⟨z20, z21, z22, z23, z24⟩ := z19
        have hlt_u3 : u3 < C 60 100 29 := by omega
        obtain ⟨p0_u3, p1_u3, p2_u3, p3_u3, p5_u3⟩ := sP u3 hlt_u3
        have pt_u3 := oTc u3
        have pc_u3 : (C 60 11 u3 = 0 ∧ C 9 u3 2 = 0) ∨ (C 60 11 u3 ≠ 0 ∧ C 9 u3 2 = C 60 5 u3) := by rw [p2_u3]; split <;> omega
        clear p2_u3
        have e25 : u3 = m18 := nI_inj (by omega) (by omega) (z6.trans z21.symm)
        subst e25
        have hlo : ∀ kk : Nat, kk < 15 → C1 kk = (C) kk := fun kk h => (congrFun hC1.symm kk).trans ((up3_k (by omega)).trans (congrFun z8.symm kk))
        have hA_ : St5 A A2 := by rw [← z12]; exact w3
        rw [← z23, ← z24]
        refine ⟨agb_th hI hlo e6 e61 _ hA_, ?_⟩
        cases Option.some.inj z9
        have h70_ : C1 70 0 0 = o := by rw [← hC1]; exact up3_s
        refine ⟨_, rfl, fun _ => ?_⟩
        refine (congrArg (fun g : Nat → Nat → Nat => lN (g 0 0)) (up3_k (by decide))).trans ?_
        show lN (C1 70 0 0) = _
        refine (congrArg lN h70_).trans (ho.trans ?_)
        exact congrArg (fun n => (nI n).toInt64) (show (if cb = 0 then C 9 u3 1 else C 9 u3 2) = (C 60 4 u3) by first | rfl | omega | (split <;> omega))
      · obtain ⟨m26, z27⟩ := z15
        obtain ⟨z28, z29, z30, z31, z32, z33⟩ := z27
        have hlt_u3 : u3 < C 60 100 29 := by omega
        obtain ⟨p0_u3, p1_u3, p2_u3, p3_u3, p5_u3⟩ := sP u3 hlt_u3
        have pt_u3 := oTc u3
        have pc_u3 : (C 60 11 u3 = 0 ∧ C 9 u3 2 = 0) ∨ (C 60 11 u3 ≠ 0 ∧ C 9 u3 2 = C 60 5 u3) := by rw [p2_u3]; split <;> omega
        clear p2_u3
        have e34 : u3 = m26 := nI_inj (by omega) (by omega) (z6.trans z29.symm)
        subst e34
        exact absurd z10 z30
      · obtain ⟨m35, z36⟩ := z16
        obtain ⟨z37, z38, z39, z40, z41, z42⟩ := z36
        have hlt_u3 : u3 < C 60 100 29 := by omega
        obtain ⟨p0_u3, p1_u3, p2_u3, p3_u3, p5_u3⟩ := sP u3 hlt_u3
        have pt_u3 := oTc u3
        have pc_u3 : (C 60 11 u3 = 0 ∧ C 9 u3 2 = 0) ∨ (C 60 11 u3 ≠ 0 ∧ C 9 u3 2 = C 60 5 u3) := by rw [p2_u3]; split <;> omega
        clear p2_u3
        have e43 : u3 = m35 := nI_inj (by omega) (by omega) (z6.trans z38.symm)
        subst e43
        omega
      · obtain ⟨z44, z45, z46⟩ := z17
        have hlt_u3 : u3 < C 60 100 29 := by omega
        obtain ⟨p0_u3, p1_u3, p2_u3, p3_u3, p5_u3⟩ := sP u3 hlt_u3
        have pt_u3 := oTc u3
        have pc_u3 : (C 60 11 u3 = 0 ∧ C 9 u3 2 = 0) ∨ (C 60 11 u3 ≠ 0 ∧ C 9 u3 2 = C 60 5 u3) := by rw [p2_u3]; split <;> omega
        clear p2_u3
        exact absurd z6 (z44 _ (by omega))
    · obtain ⟨z47, z48⟩ := h7
      rcases z48 with z49 | z50 | z51 | z52
      · obtain ⟨m53, z54⟩ := z49
        obtain ⟨z55, z56, z57, z58, z59⟩ := z54
        have hlt_u3 : u3 < C 60 100 29 := by omega
        obtain ⟨p0_u3, p1_u3, p2_u3, p3_u3, p5_u3⟩ := sP u3 hlt_u3
        have pt_u3 := oTc u3
        have pc_u3 : (C 60 11 u3 = 0 ∧ C 9 u3 2 = 0) ∨ (C 60 11 u3 ≠ 0 ∧ C 9 u3 2 = C 60 5 u3) := by rw [p2_u3]; split <;> omega
        clear p2_u3
        have e60 : u3 = m53 := nI_inj (by omega) (by omega) (z6.trans z56.symm)
        subst e60
        have hlo : ∀ kk : Nat, kk < 15 → C1 kk = (C) kk := fun kk h => (congrFun hC1.symm kk).trans ((up3_k (by omega)).trans (congrFun z8.symm kk))
        have hA_ : St5 A A2 := by rw [← z47]; exact w3
        rw [← z58, ← z59]
        refine ⟨agb_th hI hlo e6 e61 _ hA_, ?_⟩
        cases Option.some.inj z9
        have h70_ : C1 70 0 0 = o := by rw [← hC1]; exact up3_s
        refine ⟨_, rfl, fun _ => ?_⟩
        refine (congrArg (fun g : Nat → Nat → Nat => lN (g 0 0)) (up3_k (by decide))).trans ?_
        show lN (C1 70 0 0) = _
        refine (congrArg lN h70_).trans (ho.trans ?_)
        exact congrArg (fun n => (nI n).toInt64) (show (if cb = 0 then C 9 u3 1 else C 9 u3 2) = (C 60 4 u3) by first | rfl | omega | (split <;> omega))
      · obtain ⟨m61, z62⟩ := z50
        obtain ⟨z63, z64, z65, z66, z67, z68⟩ := z62
        have hlt_u3 : u3 < C 60 100 29 := by omega
        obtain ⟨p0_u3, p1_u3, p2_u3, p3_u3, p5_u3⟩ := sP u3 hlt_u3
        have pt_u3 := oTc u3
        have pc_u3 : (C 60 11 u3 = 0 ∧ C 9 u3 2 = 0) ∨ (C 60 11 u3 ≠ 0 ∧ C 9 u3 2 = C 60 5 u3) := by rw [p2_u3]; split <;> omega
        clear p2_u3
        have e69 : u3 = m61 := nI_inj (by omega) (by omega) (z6.trans z64.symm)
        subst e69
        have hlo : ∀ kk : Nat, kk < 15 → C1 kk = (C) kk := fun kk h => (congrFun hC1.symm kk).trans ((up3_k (by omega)).trans (congrFun z8.symm kk))
        have hA_ : St5 A A2 := by rw [← z47]; exact w3
        rw [← z67, ← z68]
        refine ⟨agb_th hI hlo e6 e61 _ hA_, ?_⟩
        cases Option.some.inj z9
        have h70_ : C1 70 0 0 = o := by rw [← hC1]; exact up3_s
        refine ⟨_, rfl, fun _ => ?_⟩
        refine (congrArg (fun g : Nat → Nat → Nat => lN (g 0 0)) (up3_k (by decide))).trans ?_
        show lN (C1 70 0 0) = _
        refine (congrArg lN h70_).trans (ho.trans ?_)
        exact congrArg (fun n => (nI n).toInt64) (show (if cb = 0 then C 9 u3 1 else C 9 u3 2) = (C 60 5 u3) by first | rfl | omega | (split <;> omega))
      · obtain ⟨m70, z71⟩ := z51
        obtain ⟨z72, z73, z74, z75, z76, z77⟩ := z71
        have hlt_u3 : u3 < C 60 100 29 := by omega
        obtain ⟨p0_u3, p1_u3, p2_u3, p3_u3, p5_u3⟩ := sP u3 hlt_u3
        have pt_u3 := oTc u3
        have pc_u3 : (C 60 11 u3 = 0 ∧ C 9 u3 2 = 0) ∨ (C 60 11 u3 ≠ 0 ∧ C 9 u3 2 = C 60 5 u3) := by rw [p2_u3]; split <;> omega
        clear p2_u3
        have e78 : u3 = m70 := nI_inj (by omega) (by omega) (z6.trans z73.symm)
        subst e78
        omega
      · obtain ⟨z79, z80, z81⟩ := z52
        have hlt_u3 : u3 < C 60 100 29 := by omega
        obtain ⟨p0_u3, p1_u3, p2_u3, p3_u3, p5_u3⟩ := sP u3 hlt_u3
        have pt_u3 := oTc u3
        have pc_u3 : (C 60 11 u3 = 0 ∧ C 9 u3 2 = 0) ∨ (C 60 11 u3 ≠ 0 ∧ C 9 u3 2 = C 60 5 u3) := by rw [p2_u3]; split <;> omega
        clear p2_u3
        exact absurd z6 (z79 _ (by omega))
  · unfold E6_tonerOf at h6
    obtain ⟨z82, z83⟩ := h6
    rcases z83 with z84 | z85
    · obtain ⟨z86, z87, z88⟩ := z84
      obtain ⟨z89, z90⟩ := h7
      rcases z90 with z91 | z92 | z93 | z94
      · obtain ⟨m95, z96⟩ := z91
        obtain ⟨z97, z98, z99, z100, z101⟩ := z96
        exact absurd z98 (z87 _ (by omega))
      · obtain ⟨m102, z103⟩ := z92
        obtain ⟨z104, z105, z106, z107, z108, z109⟩ := z103
        exact absurd z105 (z87 _ (by omega))
      · obtain ⟨m110, z111⟩ := z93
        obtain ⟨z112, z113, z114, z115, z116, z117⟩ := z111
        exact absurd z113 (z87 _ (by omega))
      · obtain ⟨z118, z119, z120⟩ := z94
        have hlo : ∀ kk : Nat, kk < 15 → C1 kk = (C) kk := fun kk h => congrFun z88.symm kk
        have hA_ : St5 A A2 := by rw [← z89]; exact w3
        rw [← z119, ← z120]
        refine ⟨agb_th hI hlo e6 e61 _ hA_, ?_⟩
        exact ⟨_, rfl, fun h => absurd h (by decide)⟩
    · obtain ⟨u121, z122⟩ := z85
      obtain ⟨z123, z124, z125, z126, z127, z128⟩ := z122
      exact absurd z123 (by decide +kernel)
  · unfold E6_tonerOf at h6
    obtain ⟨z129, z130⟩ := h6
    rcases z130 with z131 | z132
    · obtain ⟨z133, z134, z135⟩ := z131
      exact absurd z133 (by decide +kernel)
    · obtain ⟨u136, z137⟩ := z132
      obtain ⟨z138, z139, z140, z141, z142, z143⟩ := z137
      obtain ⟨z144, z145⟩ := h7
      rcases z145 with z146 | z147 | z148 | z149
      · obtain ⟨m150, z151⟩ := z146
        obtain ⟨z152, z153, z154, z155, z156⟩ := z151
        have hlt_u136 : u136 < C 60 100 29 := by omega
        obtain ⟨p0_u136, p1_u136, p2_u136, p3_u136, p5_u136⟩ := sP u136 hlt_u136
        have pt_u136 := oTc u136
        have pc_u136 : (C 60 11 u136 = 0 ∧ C 9 u136 2 = 0) ∨ (C 60 11 u136 ≠ 0 ∧ C 9 u136 2 = C 60 5 u136) := by rw [p2_u136]; split <;> omega
        clear p2_u136
        have e157 : u136 = m150 := nI_inj (by omega) (by omega) (z140.trans z153.symm)
        subst e157
        omega
      · obtain ⟨m158, z159⟩ := z147
        obtain ⟨z160, z161, z162, z163, z164, z165⟩ := z159
        have hlt_u136 : u136 < C 60 100 29 := by omega
        obtain ⟨p0_u136, p1_u136, p2_u136, p3_u136, p5_u136⟩ := sP u136 hlt_u136
        have pt_u136 := oTc u136
        have pc_u136 : (C 60 11 u136 = 0 ∧ C 9 u136 2 = 0) ∨ (C 60 11 u136 ≠ 0 ∧ C 9 u136 2 = C 60 5 u136) := by rw [p2_u136]; split <;> omega
        clear p2_u136
        have e166 : u136 = m158 := nI_inj (by omega) (by omega) (z140.trans z161.symm)
        subst e166
        omega
      · obtain ⟨m167, z168⟩ := z148
        obtain ⟨z169, z170, z171, z172, z173, z174⟩ := z168
        have hlt_u136 : u136 < C 60 100 29 := by omega
        obtain ⟨p0_u136, p1_u136, p2_u136, p3_u136, p5_u136⟩ := sP u136 hlt_u136
        have pt_u136 := oTc u136
        have pc_u136 : (C 60 11 u136 = 0 ∧ C 9 u136 2 = 0) ∨ (C 60 11 u136 ≠ 0 ∧ C 9 u136 2 = C 60 5 u136) := by rw [p2_u136]; split <;> omega
        clear p2_u136
        have e175 : u136 = m167 := nI_inj (by omega) (by omega) (z140.trans z170.symm)
        subst e175
        have hlo : ∀ kk : Nat, kk < 15 → C1 kk = (C) kk := fun kk h => congrFun z143.symm kk
        have hA_ : St5 A A2 := by rw [← z144]; exact w3
        rw [← z173, ← z174]
        refine ⟨agb_th hI hlo e6 e61 _ hA_, ?_⟩
        exact ⟨_, rfl, fun h => absurd h (by decide)⟩
      · obtain ⟨z176, z177, z178⟩ := z149
        have hlt_u136 : u136 < C 60 100 29 := by omega
        obtain ⟨p0_u136, p1_u136, p2_u136, p3_u136, p5_u136⟩ := sP u136 hlt_u136
        have pt_u136 := oTc u136
        have pc_u136 : (C 60 11 u136 = 0 ∧ C 9 u136 2 = 0) ∨ (C 60 11 u136 ≠ 0 ∧ C 9 u136 2 = C 60 5 u136) := by rw [p2_u136]; split <;> omega
        clear p2_u136
        exact absurd z140 (z176 _ (by omega))
set_option maxHeartbeats 4000000 in
theorem ag_setStaples {A A1 A2 : AF} {C C1 C2 : CF} {x : Int32} {y : Int32} {k : Nat} {v : Option Value}  (hI : Iv C) (h6 : W_setStaples A C x y k A1 C1) (h7 : K7_setStaples A1 C1 x y v A2 C2) : AgB A C k A2 C2 ∧ ∃ b : Int32, v = some (.int b) ∧ (k = 0 → lN (C2 70 0 0) = b.toInt64) := by
  obtain ⟨w1, w3, -⟩ := w_setStaples h6
  have e6 : C1 60 = C 60 := w1 60 (by decide) (by decide)
  have e61 : C1 61 = C 61 := w1 61 (by decide) (by decide)
  obtain ⟨hS, hM, hL⟩ := id hI
  obtain ⟨⟨c3, c4, c5, c6, c7, c8⟩, sU, sP, sT, sJ, ⟨sl, sc⟩, sE, sC, sB⟩ := id hS
  obtain ⟨oU, oP, oJ, oTc, oY, o8, o9, o10, o11, o12, o13, o14, o15, oX, oQ, oB, oK, oS, oJk, oM, oCo, oSh, oLg, oPo, oLl, oL2, oL3, oL4, oLle, oE1, oE2, oE3, oE4⟩ := id hM.1
  unfold K7_setStaples at h7
  rw [e6] at h7
  unfold W_setStaples at h6
  rcases h6 with ⟨rfl, r, o, C9, ho, hC1, h6⟩ | ⟨rfl, h6⟩ | ⟨rfl, h6⟩
  · unfold K6_setStaples at h6
    obtain ⟨z1, z2⟩ := h6
    obtain ⟨u3, u4, z5⟩ := z2
    obtain ⟨z6, z7, z8, z9, z10, z11, z12⟩ := z5
    obtain ⟨z13, z14⟩ := h7
    rcases z14 with z15 | z16 | z17
    · obtain ⟨m18, m19, z20⟩ := z15
      obtain ⟨z21, z22, z23, z24, z25, z26, z27⟩ := z20
      have hlt_u3 : u3 < C 60 100 29 := by omega
      obtain ⟨p0_u3, p1_u3, p2_u3, p3_u3, p5_u3⟩ := sP u3 hlt_u3
      have pt_u3 := oTc u3
      have pc_u3 : (C 60 11 u3 = 0 ∧ C 9 u3 2 = 0) ∨ (C 60 11 u3 ≠ 0 ∧ C 9 u3 2 = C 60 5 u3) := by rw [p2_u3]; split <;> omega
      clear p2_u3
      have e28 : u3 = m18 := nI_inj (by omega) (by omega) (z7.trans z22.symm)
      subst e28
      have e29 : u4 = m19 := nI_inj (by omega) (by omega) (z10.trans z25.symm)
      subst e29
      have hlo : ∀ kk : Nat, kk < 15 → C1 kk = (up3 C 9 u3 3 u4) kk := fun kk h => (congrFun hC1.symm kk).trans ((up3_k (by omega)).trans (congrFun z11.symm kk))
      have hA_ : St5 A A2 := by rw [← z13]; exact w3
      have hk_ := keep_setStaples (t := 0) (p := u3) (v := u4) hS hM hL hlt_u3 (by omega) rfl
      rw [← z26, ← z27]
      refine ⟨agb_k hk_ ?_ ?_ (fun kk h => ?_) ?_ ?_ ?_ hA_, ?_⟩
      · funext i_ f_
        simp only [up3, e6]
      · funext i_ f_
        simp only [up3, e61]
      · rw [up3_k (by omega), up3_k (by omega)]
        exact hlo kk h
      · simp [up3]
      · simp [up3]
      · simp [up3]
      · cases Option.some.inj z12
        have h70_ : C1 70 0 0 = o := by rw [← hC1]; exact up3_s
        refine ⟨_, rfl, fun _ => ?_⟩
        refine (congrArg (fun g : Nat → Nat → Nat => lN (g 0 0)) (show _ = C1 70 from by rw [up3_k (by decide), up3_k (by decide)])).trans ?_
        show lN (C1 70 0 0) = _
        refine (congrArg lN h70_).trans (ho.trans ?_)
        exact congrArg (fun n => (nI n).toInt64) (show (C 9 u3 3) = (C 60 6 u3) by first | rfl | omega | (split <;> omega))
    · obtain ⟨m30, z31⟩ := z16
      obtain ⟨z32, z33, z34, z35, z36⟩ := z31
      have hlt_u3 : u3 < C 60 100 29 := by omega
      obtain ⟨p0_u3, p1_u3, p2_u3, p3_u3, p5_u3⟩ := sP u3 hlt_u3
      have pt_u3 := oTc u3
      have pc_u3 : (C 60 11 u3 = 0 ∧ C 9 u3 2 = 0) ∨ (C 60 11 u3 ≠ 0 ∧ C 9 u3 2 = C 60 5 u3) := by rw [p2_u3]; split <;> omega
      clear p2_u3
      have e37 : u3 = m30 := nI_inj (by omega) (by omega) (z7.trans z33.symm)
      subst e37
      exact absurd z10 (z34 _ (by omega) (by omega))
    · obtain ⟨z38, z39, z40⟩ := z17
      have hlt_u3 : u3 < C 60 100 29 := by omega
      obtain ⟨p0_u3, p1_u3, p2_u3, p3_u3, p5_u3⟩ := sP u3 hlt_u3
      have pt_u3 := oTc u3
      have pc_u3 : (C 60 11 u3 = 0 ∧ C 9 u3 2 = 0) ∨ (C 60 11 u3 ≠ 0 ∧ C 9 u3 2 = C 60 5 u3) := by rw [p2_u3]; split <;> omega
      clear p2_u3
      exact absurd z7 (z38 _ (by omega))
  · unfold E6_setStaples at h6
    obtain ⟨z41, z42⟩ := h6
    rcases z42 with z43 | z44
    · obtain ⟨z45, z46, z47⟩ := z43
      obtain ⟨z48, z49⟩ := h7
      rcases z49 with z50 | z51 | z52
      · obtain ⟨m53, m54, z55⟩ := z50
        obtain ⟨z56, z57, z58, z59, z60, z61, z62⟩ := z55
        exact absurd z57 (z46 _ (by omega))
      · obtain ⟨m63, z64⟩ := z51
        obtain ⟨z65, z66, z67, z68, z69⟩ := z64
        exact absurd z66 (z46 _ (by omega))
      · obtain ⟨z70, z71, z72⟩ := z52
        have hlo : ∀ kk : Nat, kk < 15 → C1 kk = (C) kk := fun kk h => congrFun z47.symm kk
        have hA_ : St5 A A2 := by rw [← z48]; exact w3
        rw [← z71, ← z72]
        refine ⟨agb_th hI hlo e6 e61 _ hA_, ?_⟩
        exact ⟨_, rfl, fun h => absurd h (by decide)⟩
    · obtain ⟨u73, z74⟩ := z44
      obtain ⟨z75, z76, z77, z78, z79⟩ := z74
      exact absurd z75 (by decide +kernel)
  · unfold E6_setStaples at h6
    obtain ⟨z80, z81⟩ := h6
    rcases z81 with z82 | z83
    · obtain ⟨z84, z85, z86⟩ := z82
      exact absurd z84 (by decide +kernel)
    · obtain ⟨u87, z88⟩ := z83
      obtain ⟨z89, z90, z91, z92, z93⟩ := z88
      obtain ⟨z94, z95⟩ := h7
      rcases z95 with z96 | z97 | z98
      · obtain ⟨m99, m100, z101⟩ := z96
        obtain ⟨z102, z103, z104, z105, z106, z107, z108⟩ := z101
        have hlt_u87 : u87 < C 60 100 29 := by omega
        obtain ⟨p0_u87, p1_u87, p2_u87, p3_u87, p5_u87⟩ := sP u87 hlt_u87
        have pt_u87 := oTc u87
        have pc_u87 : (C 60 11 u87 = 0 ∧ C 9 u87 2 = 0) ∨ (C 60 11 u87 ≠ 0 ∧ C 9 u87 2 = C 60 5 u87) := by rw [p2_u87]; split <;> omega
        clear p2_u87
        have e109 : u87 = m99 := nI_inj (by omega) (by omega) (z91.trans z103.symm)
        subst e109
        exact absurd z106 (z92 _ (by omega) (by omega))
      · obtain ⟨m110, z111⟩ := z97
        obtain ⟨z112, z113, z114, z115, z116⟩ := z111
        have hlt_u87 : u87 < C 60 100 29 := by omega
        obtain ⟨p0_u87, p1_u87, p2_u87, p3_u87, p5_u87⟩ := sP u87 hlt_u87
        have pt_u87 := oTc u87
        have pc_u87 : (C 60 11 u87 = 0 ∧ C 9 u87 2 = 0) ∨ (C 60 11 u87 ≠ 0 ∧ C 9 u87 2 = C 60 5 u87) := by rw [p2_u87]; split <;> omega
        clear p2_u87
        have e117 : u87 = m110 := nI_inj (by omega) (by omega) (z91.trans z113.symm)
        subst e117
        have hlo : ∀ kk : Nat, kk < 15 → C1 kk = (C) kk := fun kk h => congrFun z93.symm kk
        have hA_ : St5 A A2 := by rw [← z94]; exact w3
        rw [← z115, ← z116]
        refine ⟨agb_th hI hlo e6 e61 _ hA_, ?_⟩
        exact ⟨_, rfl, fun h => absurd h (by decide)⟩
      · obtain ⟨z118, z119, z120⟩ := z98
        have hlt_u87 : u87 < C 60 100 29 := by omega
        obtain ⟨p0_u87, p1_u87, p2_u87, p3_u87, p5_u87⟩ := sP u87 hlt_u87
        have pt_u87 := oTc u87
        have pc_u87 : (C 60 11 u87 = 0 ∧ C 9 u87 2 = 0) ∨ (C 60 11 u87 ≠ 0 ∧ C 9 u87 2 = C 60 5 u87) := by rw [p2_u87]; split <;> omega
        clear p2_u87
        exact absurd z91 (z118 _ (by omega))
set_option maxHeartbeats 4000000 in
theorem ag_staplesIn {A A1 A2 : AF} {C C1 C2 : CF} {x : Int32} {k : Nat} {v : Option Value}  (hI : Iv C) (h6 : W_staplesIn A C x k A1 C1) (h7 : K7_staplesIn A1 C1 x v A2 C2) : AgB A C k A2 C2 ∧ ∃ b : Int32, v = some (.int b) ∧ (k = 0 → lN (C2 70 0 0) = b.toInt64) := by
  obtain ⟨w1, w3, -⟩ := w_staplesIn h6
  have e6 : C1 60 = C 60 := w1 60 (by decide) (by decide)
  have e61 : C1 61 = C 61 := w1 61 (by decide) (by decide)
  obtain ⟨hS, hM, hL⟩ := id hI
  obtain ⟨⟨c3, c4, c5, c6, c7, c8⟩, sU, sP, sT, sJ, ⟨sl, sc⟩, sE, sC, sB⟩ := id hS
  obtain ⟨oU, oP, oJ, oTc, oY, o8, o9, o10, o11, o12, o13, o14, o15, oX, oQ, oB, oK, oS, oJk, oM, oCo, oSh, oLg, oPo, oLl, oL2, oL3, oL4, oLle, oE1, oE2, oE3, oE4⟩ := id hM.1
  unfold K7_staplesIn at h7
  rw [e6] at h7
  unfold W_staplesIn at h6
  rcases h6 with ⟨rfl, r, o, C9, ho, hC1, h6⟩ | ⟨rfl, h6⟩
  · unfold K6_staplesIn at h6
    obtain ⟨z1, z2⟩ := h6
    obtain ⟨u3, z4⟩ := z2
    obtain ⟨z5, z6, z7, z8⟩ := z4
    obtain ⟨z9, z10⟩ := h7
    rcases z10 with z11 | z12
    · obtain ⟨m13, z14⟩ := z11
      obtain ⟨z15, z16, z17, z18⟩ := z14
      have hlt_u3 : u3 < C 60 100 29 := by omega
      obtain ⟨p0_u3, p1_u3, p2_u3, p3_u3, p5_u3⟩ := sP u3 hlt_u3
      have pt_u3 := oTc u3
      have pc_u3 : (C 60 11 u3 = 0 ∧ C 9 u3 2 = 0) ∨ (C 60 11 u3 ≠ 0 ∧ C 9 u3 2 = C 60 5 u3) := by rw [p2_u3]; split <;> omega
      clear p2_u3
      have e19 : u3 = m13 := nI_inj (by omega) (by omega) (z6.trans z16.symm)
      subst e19
      have hlo : ∀ kk : Nat, kk < 15 → C1 kk = (C) kk := fun kk h => (congrFun hC1.symm kk).trans ((up3_k (by omega)).trans (congrFun z7.symm kk))
      have hA_ : St5 A A2 := by rw [← z9]; exact w3
      rw [← z17, ← z18]
      refine ⟨agb_th hI hlo e6 e61 _ hA_, ?_⟩
      cases Option.some.inj z8
      have h70_ : C1 70 0 0 = o := by rw [← hC1]; exact up3_s
      refine ⟨_, rfl, fun _ => ?_⟩
      refine (congrArg (fun g : Nat → Nat → Nat => lN (g 0 0)) (up3_k (by decide))).trans ?_
      show lN (C1 70 0 0) = _
      refine (congrArg lN h70_).trans (ho.trans ?_)
      exact congrArg (fun n => (nI n).toInt64) (show (C 9 u3 3) = (C 60 6 u3) by first | rfl | omega | (split <;> omega))
    · obtain ⟨z20, z21, z22⟩ := z12
      have hlt_u3 : u3 < C 60 100 29 := by omega
      obtain ⟨p0_u3, p1_u3, p2_u3, p3_u3, p5_u3⟩ := sP u3 hlt_u3
      have pt_u3 := oTc u3
      have pc_u3 : (C 60 11 u3 = 0 ∧ C 9 u3 2 = 0) ∨ (C 60 11 u3 ≠ 0 ∧ C 9 u3 2 = C 60 5 u3) := by rw [p2_u3]; split <;> omega
      clear p2_u3
      exact absurd z6 (z20 _ (by omega))
  · unfold E6_staplesIn at h6
    obtain ⟨z23, z24⟩ := h6
    obtain ⟨z25, z26, z27⟩ := z24
    obtain ⟨z28, z29⟩ := h7
    rcases z29 with z30 | z31
    · obtain ⟨m32, z33⟩ := z30
      obtain ⟨z34, z35, z36, z37⟩ := z33
      exact absurd z35 (z26 _ (by omega))
    · obtain ⟨z38, z39, z40⟩ := z31
      have hlo : ∀ kk : Nat, kk < 15 → C1 kk = (C) kk := fun kk h => congrFun z27.symm kk
      have hA_ : St5 A A2 := by rw [← z28]; exact w3
      rw [← z39, ← z40]
      refine ⟨agb_th hI hlo e6 e61 _ hA_, ?_⟩
      exact ⟨_, rfl, fun h => absurd h (by decide)⟩
set_option maxHeartbeats 4000000 in
theorem ag_quotaOf {A A1 A2 : AF} {C C1 C2 : CF} {x : Int32} {cb : Nat} {k : Nat} {v : Option Value} (hcb : cb < 2) (hI : Iv C) (h6 : W_quotaOf A C x cb k A1 C1) (h7 : K7_quotaOf A1 C1 x cb v A2 C2) : AgB A C k A2 C2 ∧ ∃ b : Int32, v = some (.int b) ∧ (k = 0 → lN (C2 70 0 0) = b.toInt64) := by
  obtain ⟨w1, w3, -⟩ := w_quotaOf h6
  have e6 : C1 60 = C 60 := w1 60 (by decide) (by decide)
  have e61 : C1 61 = C 61 := w1 61 (by decide) (by decide)
  obtain ⟨hS, hM, hL⟩ := id hI
  obtain ⟨⟨c3, c4, c5, c6, c7, c8⟩, sU, sP, sT, sJ, ⟨sl, sc⟩, sE, sC, sB⟩ := id hS
  obtain ⟨oU, oP, oJ, oTc, oY, o8, o9, o10, o11, o12, o13, o14, o15, oX, oQ, oB, oK, oS, oJk, oM, oCo, oSh, oLg, oPo, oLl, oL2, oL3, oL4, oLle, oE1, oE2, oE3, oE4⟩ := id hM.1
  unfold K7_quotaOf at h7
  rw [e6] at h7
  unfold W_quotaOf at h6
  rcases h6 with ⟨rfl, r, o, C9, ho, hC1, h6⟩ | ⟨rfl, h6⟩
  · unfold K6_quotaOf at h6
    obtain ⟨z1, z2⟩ := h6
    obtain ⟨u3, z4⟩ := z2
    obtain ⟨z5, z6, z7, z8⟩ := z4
    obtain ⟨z9, z10⟩ := h7
    rcases z10 with z11 | z12
    · obtain ⟨m13, z14⟩ := z11
      obtain ⟨z15, z16, z17, z18⟩ := z14
      have hlt_u3 : u3 < C 60 100 28 := by omega
      obtain ⟨q0_u3, q1_u3, q2_u3, q3_u3⟩ := sU u3 hlt_u3
      have e19 : u3 = m13 := nI_inj (by omega) (by omega) (z6.trans z16.symm)
      subst e19
      have hlo : ∀ kk : Nat, kk < 15 → C1 kk = (C) kk := fun kk h => (congrFun hC1.symm kk).trans ((up3_k (by omega)).trans (congrFun z7.symm kk))
      have hA_ : St5 A A2 := by rw [← z9]; exact w3
      rw [← z17, ← z18]
      refine ⟨agb_th hI hlo e6 e61 _ hA_, ?_⟩
      cases Option.some.inj z8
      have h70_ : C1 70 0 0 = o := by rw [← hC1]; exact up3_s
      refine ⟨_, rfl, fun _ => ?_⟩
      refine (congrArg (fun g : Nat → Nat → Nat => lN (g 0 0)) (up3_k (by decide))).trans ?_
      show lN (C1 70 0 0) = _
      refine (congrArg lN h70_).trans (ho.trans ?_)
      exact congrArg (fun n => (nI n).toInt64) (show (if cb = 0 then C 10 u3 0 else C 10 u3 1) = (C 60 0 (2 * u3 + (if cb = 0 then 0 else 1))) by first | rfl | omega | (split <;> omega))
    · obtain ⟨z20, z21, z22⟩ := z12
      have hlt_u3 : u3 < C 60 100 28 := by omega
      obtain ⟨q0_u3, q1_u3, q2_u3, q3_u3⟩ := sU u3 hlt_u3
      exact absurd z6 (z20 _ (by omega))
  · unfold E6_quotaOf at h6
    obtain ⟨z23, z24⟩ := h6
    obtain ⟨z25, z26, z27⟩ := z24
    obtain ⟨z28, z29⟩ := h7
    rcases z29 with z30 | z31
    · obtain ⟨m32, z33⟩ := z30
      obtain ⟨z34, z35, z36, z37⟩ := z33
      exact absurd z35 (z26 _ (by omega))
    · obtain ⟨z38, z39, z40⟩ := z31
      have hlo : ∀ kk : Nat, kk < 15 → C1 kk = (C) kk := fun kk h => congrFun z27.symm kk
      have hA_ : St5 A A2 := by rw [← z28]; exact w3
      rw [← z39, ← z40]
      refine ⟨agb_th hI hlo e6 e61 _ hA_, ?_⟩
      exact ⟨_, rfl, fun h => absurd h (by decide)⟩
set_option maxHeartbeats 4000000 in
theorem ag_setPrices {A A1 A2 : AF} {C C1 C2 : CF} {x : Int32} {y : Int32} {w : Int32} {k : Nat} {v : Option Value}  (hI : Iv C) (h6 : W_setPrices A C x y w k A1 C1) (h7 : K7_setPrices A1 C1 x y w v A2 C2) : AgB A C k A2 C2 ∧ ∃ b : Int32, v = some (.int b) ∧ (k = 0 → lN (C2 70 0 0) = b.toInt64) := by
  obtain ⟨w1, w3, -⟩ := w_setPrices h6
  have e6 : C1 60 = C 60 := w1 60 (by decide) (by decide)
  have e61 : C1 61 = C 61 := w1 61 (by decide) (by decide)
  obtain ⟨hS, hM, hL⟩ := id hI
  obtain ⟨⟨c3, c4, c5, c6, c7, c8⟩, sU, sP, sT, sJ, ⟨sl, sc⟩, sE, sC, sB⟩ := id hS
  obtain ⟨oU, oP, oJ, oTc, oY, o8, o9, o10, o11, o12, o13, o14, o15, oX, oQ, oB, oK, oS, oJk, oM, oCo, oSh, oLg, oPo, oLl, oL2, oL3, oL4, oLle, oE1, oE2, oE3, oE4⟩ := id hM.1
  unfold K7_setPrices at h7
  rw [e6] at h7
  unfold W_setPrices at h6
  rcases h6 with ⟨rfl, r, o, C9, ho, hC1, h6⟩ | ⟨rfl, h6⟩
  · unfold K6_setPrices at h6
    obtain ⟨z1, z2⟩ := h6
    obtain ⟨u3, u4, u5, z6⟩ := z2
    obtain ⟨z7, z8, z9, z10, z11, z12, z13, z14, z15, z16, z17⟩ := z6
    obtain ⟨z18, z19⟩ := h7
    rcases z19 with z20 | z21 | z22 | z23
    · obtain ⟨m24, m25, m26, z27⟩ := z20
      obtain ⟨z28, z29, z30, z31, z32, z33, z34, z35, z36, z37, z38⟩ := z27
      have e39 : u3 = m24 := nI_inj (by omega) (by omega) (z9.trans z30.symm)
      subst e39
      have e40 : u4 = m25 := nI_inj (by omega) (by omega) (z12.trans z33.symm)
      subst e40
      have e41 : u5 = m26 := nI_inj (by omega) (by omega) (z15.trans z36.symm)
      subst e41
      have hlo : ∀ kk : Nat, kk < 15 → C1 kk = (up3 (up3 (up3 C 0 0 6 u3) 0 0 7 u4) 0 0 8 u5) kk := fun kk h => (congrFun hC1.symm kk).trans ((up3_k (by omega)).trans (congrFun z16.symm kk))
      have hA_ : St5 A A2 := by rw [← z18]; exact w3
      have hk_ := keep_setPrices (t := 0) (a := u3) (b := u4) (s := u5) hS hM hL (by omega) (by omega) (by omega) rfl
      rw [← z37, ← z38]
      refine ⟨agb_k hk_ ?_ ?_ (fun kk h => ?_) ?_ ?_ ?_ hA_, ?_⟩
      · funext i_ f_
        simp only [up3, e6]
      · funext i_ f_
        simp only [up3, e61]
      · rw [up3_k (by omega), up3_k (by omega), up3_k (by omega), up3_k (by omega)]
        exact hlo kk h
      · simp [up3]
      · simp [up3]
      · simp [up3]
      · cases Option.some.inj z17
        have h70_ : C1 70 0 0 = o := by rw [← hC1]; exact up3_s
        refine ⟨_, rfl, fun _ => ?_⟩
        refine (congrArg (fun g : Nat → Nat → Nat => lN (g 0 0)) (show _ = C1 70 from by rw [up3_k (by decide), up3_k (by decide), up3_k (by decide), up3_k (by decide)])).trans ?_
        show lN (C1 70 0 0) = _
        refine (congrArg lN h70_).trans (ho.trans ?_)
        exact congrArg (fun n => (nI n).toInt64) (show (C 0 0 6) = (C 60 100 32) by first | rfl | omega | (split <;> omega))
    · obtain ⟨m42, m43, z44⟩ := z21
      obtain ⟨z45, z46, z47, z48, z49, z50, z51, z52, z53⟩ := z44
      have e54 : u3 = m42 := nI_inj (by omega) (by omega) (z9.trans z47.symm)
      subst e54
      have e55 : u4 = m43 := nI_inj (by omega) (by omega) (z12.trans z50.symm)
      subst e55
      exact absurd z15 (z51 _ (by omega) (by omega))
    · obtain ⟨m56, z57⟩ := z22
      obtain ⟨z58, z59, z60, z61, z62, z63⟩ := z57
      have e64 : u3 = m56 := nI_inj (by omega) (by omega) (z9.trans z60.symm)
      subst e64
      exact absurd z12 (z61 _ (by omega) (by omega))
    · obtain ⟨z65, z66, z67⟩ := z23
      exact absurd z9 (z65 _ (by omega) (by omega))
  · unfold E6_setPrices at h6
    obtain ⟨z68, z69⟩ := h6
    rcases z69 with z70 | z71 | z72
    · obtain ⟨z73, z74, z75⟩ := z70
      obtain ⟨z76, z77⟩ := h7
      rcases z77 with z78 | z79 | z80 | z81
      · obtain ⟨m82, m83, m84, z85⟩ := z78
        obtain ⟨z86, z87, z88, z89, z90, z91, z92, z93, z94, z95, z96⟩ := z85
        exact absurd z88 (z74 _ (by omega) (by omega))
      · obtain ⟨m97, m98, z99⟩ := z79
        obtain ⟨z100, z101, z102, z103, z104, z105, z106, z107, z108⟩ := z99
        have hlo : ∀ kk : Nat, kk < 15 → C1 kk = (C) kk := fun kk h => congrFun z75.symm kk
        have hA_ : St5 A A2 := by rw [← z76]; exact w3
        rw [← z107, ← z108]
        refine ⟨agb_th hI hlo e6 e61 _ hA_, ?_⟩
        exact ⟨_, rfl, fun h => absurd h (by decide)⟩
      · obtain ⟨m109, z110⟩ := z80
        obtain ⟨z111, z112, z113, z114, z115, z116⟩ := z110
        have hlo : ∀ kk : Nat, kk < 15 → C1 kk = (C) kk := fun kk h => congrFun z75.symm kk
        have hA_ : St5 A A2 := by rw [← z76]; exact w3
        rw [← z115, ← z116]
        refine ⟨agb_th hI hlo e6 e61 _ hA_, ?_⟩
        exact ⟨_, rfl, fun h => absurd h (by decide)⟩
      · obtain ⟨z117, z118, z119⟩ := z81
        have hlo : ∀ kk : Nat, kk < 15 → C1 kk = (C) kk := fun kk h => congrFun z75.symm kk
        have hA_ : St5 A A2 := by rw [← z76]; exact w3
        rw [← z118, ← z119]
        refine ⟨agb_th hI hlo e6 e61 _ hA_, ?_⟩
        exact ⟨_, rfl, fun h => absurd h (by decide)⟩
    · obtain ⟨u120, z121⟩ := z71
      obtain ⟨z122, z123, z124, z125, z126, z127⟩ := z121
      obtain ⟨z128, z129⟩ := h7
      rcases z129 with z130 | z131 | z132 | z133
      · obtain ⟨m134, m135, m136, z137⟩ := z130
        obtain ⟨z138, z139, z140, z141, z142, z143, z144, z145, z146, z147, z148⟩ := z137
        have e149 : u120 = m134 := nI_inj (by omega) (by omega) (z125.trans z140.symm)
        subst e149
        exact absurd z143 (z126 _ (by omega) (by omega))
      · obtain ⟨m150, m151, z152⟩ := z131
        obtain ⟨z153, z154, z155, z156, z157, z158, z159, z160, z161⟩ := z152
        have e162 : u120 = m150 := nI_inj (by omega) (by omega) (z125.trans z155.symm)
        subst e162
        have hlo : ∀ kk : Nat, kk < 15 → C1 kk = (C) kk := fun kk h => congrFun z127.symm kk
        have hA_ : St5 A A2 := by rw [← z128]; exact w3
        rw [← z160, ← z161]
        refine ⟨agb_th hI hlo e6 e61 _ hA_, ?_⟩
        exact ⟨_, rfl, fun h => absurd h (by decide)⟩
      · obtain ⟨m163, z164⟩ := z132
        obtain ⟨z165, z166, z167, z168, z169, z170⟩ := z164
        have e171 : u120 = m163 := nI_inj (by omega) (by omega) (z125.trans z167.symm)
        subst e171
        have hlo : ∀ kk : Nat, kk < 15 → C1 kk = (C) kk := fun kk h => congrFun z127.symm kk
        have hA_ : St5 A A2 := by rw [← z128]; exact w3
        rw [← z169, ← z170]
        refine ⟨agb_th hI hlo e6 e61 _ hA_, ?_⟩
        exact ⟨_, rfl, fun h => absurd h (by decide)⟩
      · obtain ⟨z172, z173, z174⟩ := z133
        have hlo : ∀ kk : Nat, kk < 15 → C1 kk = (C) kk := fun kk h => congrFun z127.symm kk
        have hA_ : St5 A A2 := by rw [← z128]; exact w3
        rw [← z173, ← z174]
        refine ⟨agb_th hI hlo e6 e61 _ hA_, ?_⟩
        exact ⟨_, rfl, fun h => absurd h (by decide)⟩
    · obtain ⟨u175, u176, z177⟩ := z72
      obtain ⟨z178, z179, z180, z181, z182, z183, z184, z185, z186⟩ := z177
      obtain ⟨z187, z188⟩ := h7
      rcases z188 with z189 | z190 | z191 | z192
      · obtain ⟨m193, m194, m195, z196⟩ := z189
        obtain ⟨z197, z198, z199, z200, z201, z202, z203, z204, z205, z206, z207⟩ := z196
        have e208 : u175 = m193 := nI_inj (by omega) (by omega) (z181.trans z199.symm)
        subst e208
        have e209 : u176 = m194 := nI_inj (by omega) (by omega) (z184.trans z202.symm)
        subst e209
        exact absurd z205 (z185 _ (by omega) (by omega))
      · obtain ⟨m210, m211, z212⟩ := z190
        obtain ⟨z213, z214, z215, z216, z217, z218, z219, z220, z221⟩ := z212
        have e222 : u175 = m210 := nI_inj (by omega) (by omega) (z181.trans z215.symm)
        subst e222
        have e223 : u176 = m211 := nI_inj (by omega) (by omega) (z184.trans z218.symm)
        subst e223
        have hlo : ∀ kk : Nat, kk < 15 → C1 kk = (C) kk := fun kk h => congrFun z186.symm kk
        have hA_ : St5 A A2 := by rw [← z187]; exact w3
        rw [← z220, ← z221]
        refine ⟨agb_th hI hlo e6 e61 _ hA_, ?_⟩
        exact ⟨_, rfl, fun h => absurd h (by decide)⟩
      · obtain ⟨m224, z225⟩ := z191
        obtain ⟨z226, z227, z228, z229, z230, z231⟩ := z225
        have e232 : u175 = m224 := nI_inj (by omega) (by omega) (z181.trans z228.symm)
        subst e232
        have hlo : ∀ kk : Nat, kk < 15 → C1 kk = (C) kk := fun kk h => congrFun z186.symm kk
        have hA_ : St5 A A2 := by rw [← z187]; exact w3
        rw [← z230, ← z231]
        refine ⟨agb_th hI hlo e6 e61 _ hA_, ?_⟩
        exact ⟨_, rfl, fun h => absurd h (by decide)⟩
      · obtain ⟨z233, z234, z235⟩ := z192
        have hlo : ∀ kk : Nat, kk < 15 → C1 kk = (C) kk := fun kk h => congrFun z186.symm kk
        have hA_ : St5 A A2 := by rw [← z187]; exact w3
        rw [← z234, ← z235]
        refine ⟨agb_th hI hlo e6 e61 _ hA_, ?_⟩
        exact ⟨_, rfl, fun h => absurd h (by decide)⟩
set_option maxHeartbeats 4000000 in
theorem ag_submit {A A1 A2 : AF} {C C1 C2 : CF} {x : Int32} {y : Int32} {w : Int32} {q : Nat} {cb : Nat} {db : Nat} {k : Nat} {v : Option Value} (hq : q < 65536) (hcb : cb < 2) (hdb : db < 2) (hI : Iv C) (h6 : W_submit A C x y w q cb db k A1 C1) (h7 : K7_submit A1 C1 x y w q cb db v A2 C2) : AgB A C k A2 C2 ∧ ∃ b : Int32, v = some (.int b) ∧ (k = 0 → lN (C2 70 0 0) = b.toInt64) := by
  obtain ⟨w1, w3, -⟩ := w_submit h6
  have e6 : C1 60 = C 60 := w1 60 (by decide) (by decide)
  have e61 : C1 61 = C 61 := w1 61 (by decide) (by decide)
  obtain ⟨hS, hM, hL⟩ := id hI
  obtain ⟨⟨c3, c4, c5, c6, c7, c8⟩, sU, sP, sT, sJ, ⟨sl, sc⟩, sE, sC, sB⟩ := id hS
  obtain ⟨oU, oP, oJ, oTc, oY, o8, o9, o10, o11, o12, o13, o14, o15, oX, oQ, oB, oK, oS, oJk, oM, oCo, oSh, oLg, oPo, oLl, oL2, oL3, oL4, oLle, oE1, oE2, oE3, oE4⟩ := id hM.1
  unfold K7_submit at h7
  rw [e6] at h7
  unfold W_submit at h6
  rcases h6 with ⟨rfl, r, o, C9, ho, hC1, h6⟩ | ⟨rfl, h6⟩ | ⟨rfl, h6⟩ | ⟨rfl, h6⟩
  · unfold K6_submit at h6
    obtain ⟨u1, u2, u3, z4⟩ := h6
    obtain ⟨z5, z6, z7, z8, z9, z10, z11, z12, z13, z14, z15, z16, z17⟩ := z4
    obtain ⟨u18, z19⟩ := z15
    obtain ⟨z20, z21⟩ := h7
    rcases z21 with z22 | z23 | z24 | z25 | z26 | z27
    · obtain ⟨m28, m29, m30, z31⟩ := z22
      obtain ⟨z32, z33, z34, z35, z36, z37, z38, z39, z40, z41, z42, z43⟩ := z31
      have hlt_u1 : u1 < C 60 100 28 := by omega
      obtain ⟨q0_u1, q1_u1, q2_u1, q3_u1⟩ := sU u1 hlt_u1
      have e44 : u1 = m28 := nI_inj (by omega) (by omega) (z6.trans z33.symm)
      subst e44
      have e45 : u2 = m29 := nI_inj (by omega) (by omega) (z9.trans z36.symm)
      subst e45
      have e46 : u3 = m30 := nI_inj (by omega) (by omega) (z12.trans z39.symm)
      subst e46
      have hlo : ∀ kk : Nat, kk < 15 → C1 kk = (adO C 11 (C 0 0 5) (joF (C 0 0 5) u1 u2 u3 q cb db) 5) kk := fun kk h => (congrFun hC1.symm kk).trans ((up3_k (by omega)).trans (congrFun z16.symm kk))
      have hA_ : St5 A A2 := by rw [← z20]; exact w3
      have hk_ := keep_submit (t := 0) (u := u1) (c := u2) (w := u3) (q := q) (cb := cb) (db := db) hS hM hL hlt_u1 (by omega) (by omega) (by omega) (by omega) hq hcb hdb (by omega) rfl
      rw [← z42, ← z43]
      refine ⟨agb_k hk_ ?_ ?_ (fun kk h => ?_) ?_ ?_ ?_ hA_, ?_⟩
      · funext i_ f_
        simp only [up3, e6]
      · funext i_ f_
        simp only [up3, e61]
      · rw [up3_k (by omega), up3_k (by omega), up3_k (by omega), up3_k (by omega), up3_k (by omega), up3_k (by omega), up3_k (by omega), up3_k (by omega), up3_k (by omega)]
        exact hlo kk h
      · simp [up3]
      · simp [up3]
      · simp [up3]
      · cases Option.some.inj z17
        have h70_ : C1 70 0 0 = o := by rw [← hC1]; exact up3_s
        refine ⟨_, rfl, fun _ => ?_⟩
        refine (congrArg (fun g : Nat → Nat → Nat => lN (g 0 0)) (show _ = C1 70 from by rw [up3_k (by decide), up3_k (by decide), up3_k (by decide), up3_k (by decide), up3_k (by decide), up3_k (by decide), up3_k (by decide), up3_k (by decide), up3_k (by decide)])).trans ?_
        show lN (C1 70 0 0) = _
        refine (congrArg lN h70_).trans (ho.trans ?_)
        exact congrArg (fun n => (nI n).toInt64) (show (C 0 0 5) = (((C 60 100 30) + 1) - 1) by first | rfl | omega | (split <;> omega))
    · obtain ⟨m47, m48, m49, z50⟩ := z23
      obtain ⟨z51, z52, z53, z54, z55, z56, z57, z58, z59, z60, z61, z62⟩ := z50
      have hlt_u1 : u1 < C 60 100 28 := by omega
      obtain ⟨q0_u1, q1_u1, q2_u1, q3_u1⟩ := sU u1 hlt_u1
      have e63 : u1 = m47 := nI_inj (by omega) (by omega) (z6.trans z52.symm)
      subst e63
      have e64 : u2 = m48 := nI_inj (by omega) (by omega) (z9.trans z55.symm)
      subst e64
      have e65 : u3 = m49 := nI_inj (by omega) (by omega) (z12.trans z58.symm)
      subst e65
      omega
    · obtain ⟨m66, m67, m68, z69⟩ := z24
      obtain ⟨z70, z71, z72, z73, z74, z75, z76, z77, z78, z79, z80⟩ := z69
      have hlt_u1 : u1 < C 60 100 28 := by omega
      obtain ⟨q0_u1, q1_u1, q2_u1, q3_u1⟩ := sU u1 hlt_u1
      have e81 : u1 = m66 := nI_inj (by omega) (by omega) (z6.trans z71.symm)
      subst e81
      have e82 : u2 = m67 := nI_inj (by omega) (by omega) (z9.trans z74.symm)
      subst e82
      have e83 : u3 = m68 := nI_inj (by omega) (by omega) (z12.trans z77.symm)
      subst e83
      exact absurd z13 z78
    · obtain ⟨m84, m85, z86⟩ := z25
      obtain ⟨z87, z88, z89, z90, z91, z92, z93, z94⟩ := z86
      have hlt_u1 : u1 < C 60 100 28 := by omega
      obtain ⟨q0_u1, q1_u1, q2_u1, q3_u1⟩ := sU u1 hlt_u1
      have e95 : u1 = m84 := nI_inj (by omega) (by omega) (z6.trans z88.symm)
      subst e95
      have e96 : u2 = m85 := nI_inj (by omega) (by omega) (z9.trans z91.symm)
      subst e96
      exact absurd z12 (z92 _ (by omega) (by omega))
    · obtain ⟨m97, z98⟩ := z26
      obtain ⟨z99, z100, z101, z102, z103⟩ := z98
      have hlt_u1 : u1 < C 60 100 28 := by omega
      obtain ⟨q0_u1, q1_u1, q2_u1, q3_u1⟩ := sU u1 hlt_u1
      have e104 : u1 = m97 := nI_inj (by omega) (by omega) (z6.trans z100.symm)
      subst e104
      exact absurd z9 (z101 _ (by omega) (by omega))
    · obtain ⟨z105, z106, z107⟩ := z27
      have hlt_u1 : u1 < C 60 100 28 := by omega
      obtain ⟨q0_u1, q1_u1, q2_u1, q3_u1⟩ := sU u1 hlt_u1
      exact absurd z6 (z105 _ (by omega))
  · unfold E6_submit at h6
    obtain ⟨z108, z109⟩ := h6
    rcases z109 with z110 | z111 | z112 | z113 | z114
    · obtain ⟨z115, z116, z117⟩ := z110
      obtain ⟨z118, z119⟩ := h7
      rcases z119 with z120 | z121 | z122 | z123 | z124 | z125
      · obtain ⟨m126, m127, m128, z129⟩ := z120
        obtain ⟨z130, z131, z132, z133, z134, z135, z136, z137, z138, z139, z140, z141⟩ := z129
        exact absurd z131 (z116 _ (by omega))
      · obtain ⟨m142, m143, m144, z145⟩ := z121
        obtain ⟨z146, z147, z148, z149, z150, z151, z152, z153, z154, z155, z156, z157⟩ := z145
        exact absurd z147 (z116 _ (by omega))
      · obtain ⟨m158, m159, m160, z161⟩ := z122
        obtain ⟨z162, z163, z164, z165, z166, z167, z168, z169, z170, z171, z172⟩ := z161
        exact absurd z163 (z116 _ (by omega))
      · obtain ⟨m173, m174, z175⟩ := z123
        obtain ⟨z176, z177, z178, z179, z180, z181, z182, z183⟩ := z175
        exact absurd z177 (z116 _ (by omega))
      · obtain ⟨m184, z185⟩ := z124
        obtain ⟨z186, z187, z188, z189, z190⟩ := z185
        exact absurd z187 (z116 _ (by omega))
      · obtain ⟨z191, z192, z193⟩ := z125
        have hlo : ∀ kk : Nat, kk < 15 → C1 kk = (C) kk := fun kk h => congrFun z117.symm kk
        have hA_ : St5 A A2 := by rw [← z118]; exact w3
        rw [← z192, ← z193]
        refine ⟨agb_th hI hlo e6 e61 _ hA_, ?_⟩
        exact ⟨_, rfl, fun h => absurd h (by decide)⟩
    · obtain ⟨u194, z195⟩ := z111
      obtain ⟨z196, z197, z198, z199, z200⟩ := z195
      exact absurd z196 (by decide +kernel)
    · obtain ⟨u201, u202, z203⟩ := z112
      obtain ⟨z204, z205, z206, z207, z208, z209, z210, z211⟩ := z203
      exact absurd z204 (by decide +kernel)
    · obtain ⟨u212, u213, u214, z215⟩ := z113
      obtain ⟨z216, z217, z218, z219, z220, z221, z222, z223, z224, z225, z226⟩ := z215
      exact absurd z216 (by decide +kernel)
    · obtain ⟨u227, u228, u229, z230⟩ := z114
      obtain ⟨z231, z232, z233, z234, z235, z236, z237, z238, z239, z240, z241, z242⟩ := z230
      exact absurd z231 (by decide +kernel)
  · unfold E6_submit at h6
    obtain ⟨z243, z244⟩ := h6
    rcases z244 with z245 | z246 | z247 | z248 | z249
    · obtain ⟨z250, z251, z252⟩ := z245
      exact absurd z250 (by decide +kernel)
    · obtain ⟨u253, z254⟩ := z246
      obtain ⟨z255, z256, z257, z258, z259⟩ := z254
      obtain ⟨z260, z261⟩ := h7
      rcases z261 with z262 | z263 | z264 | z265 | z266 | z267
      · obtain ⟨m268, m269, m270, z271⟩ := z262
        obtain ⟨z272, z273, z274, z275, z276, z277, z278, z279, z280, z281, z282, z283⟩ := z271
        have hlt_u253 : u253 < C 60 100 28 := by omega
        obtain ⟨q0_u253, q1_u253, q2_u253, q3_u253⟩ := sU u253 hlt_u253
        have e284 : u253 = m268 := nI_inj (by omega) (by omega) (z257.trans z273.symm)
        subst e284
        exact absurd z276 (z258 _ (by omega) (by omega))
      · obtain ⟨m285, m286, m287, z288⟩ := z263
        obtain ⟨z289, z290, z291, z292, z293, z294, z295, z296, z297, z298, z299, z300⟩ := z288
        have hlt_u253 : u253 < C 60 100 28 := by omega
        obtain ⟨q0_u253, q1_u253, q2_u253, q3_u253⟩ := sU u253 hlt_u253
        have e301 : u253 = m285 := nI_inj (by omega) (by omega) (z257.trans z290.symm)
        subst e301
        exact absurd z293 (z258 _ (by omega) (by omega))
      · obtain ⟨m302, m303, m304, z305⟩ := z264
        obtain ⟨z306, z307, z308, z309, z310, z311, z312, z313, z314, z315, z316⟩ := z305
        have hlt_u253 : u253 < C 60 100 28 := by omega
        obtain ⟨q0_u253, q1_u253, q2_u253, q3_u253⟩ := sU u253 hlt_u253
        have e317 : u253 = m302 := nI_inj (by omega) (by omega) (z257.trans z307.symm)
        subst e317
        have hlo : ∀ kk : Nat, kk < 15 → C1 kk = (C) kk := fun kk h => congrFun z259.symm kk
        have hA_ : St5 A A2 := by rw [← z260]; exact w3
        rw [← z315, ← z316]
        refine ⟨agb_th hI hlo e6 e61 _ hA_, ?_⟩
        exact ⟨_, rfl, fun h => absurd h (by decide)⟩
      · obtain ⟨m318, m319, z320⟩ := z265
        obtain ⟨z321, z322, z323, z324, z325, z326, z327, z328⟩ := z320
        have hlt_u253 : u253 < C 60 100 28 := by omega
        obtain ⟨q0_u253, q1_u253, q2_u253, q3_u253⟩ := sU u253 hlt_u253
        have e329 : u253 = m318 := nI_inj (by omega) (by omega) (z257.trans z322.symm)
        subst e329
        have hlo : ∀ kk : Nat, kk < 15 → C1 kk = (C) kk := fun kk h => congrFun z259.symm kk
        have hA_ : St5 A A2 := by rw [← z260]; exact w3
        rw [← z327, ← z328]
        refine ⟨agb_th hI hlo e6 e61 _ hA_, ?_⟩
        exact ⟨_, rfl, fun h => absurd h (by decide)⟩
      · obtain ⟨m330, z331⟩ := z266
        obtain ⟨z332, z333, z334, z335, z336⟩ := z331
        have hlt_u253 : u253 < C 60 100 28 := by omega
        obtain ⟨q0_u253, q1_u253, q2_u253, q3_u253⟩ := sU u253 hlt_u253
        have e337 : u253 = m330 := nI_inj (by omega) (by omega) (z257.trans z333.symm)
        subst e337
        have hlo : ∀ kk : Nat, kk < 15 → C1 kk = (C) kk := fun kk h => congrFun z259.symm kk
        have hA_ : St5 A A2 := by rw [← z260]; exact w3
        rw [← z335, ← z336]
        refine ⟨agb_th hI hlo e6 e61 _ hA_, ?_⟩
        exact ⟨_, rfl, fun h => absurd h (by decide)⟩
      · obtain ⟨z338, z339, z340⟩ := z267
        have hlt_u253 : u253 < C 60 100 28 := by omega
        obtain ⟨q0_u253, q1_u253, q2_u253, q3_u253⟩ := sU u253 hlt_u253
        exact absurd z257 (z338 _ (by omega))
    · obtain ⟨u341, u342, z343⟩ := z247
      obtain ⟨z344, z345, z346, z347, z348, z349, z350, z351⟩ := z343
      obtain ⟨z352, z353⟩ := h7
      rcases z353 with z354 | z355 | z356 | z357 | z358 | z359
      · obtain ⟨m360, m361, m362, z363⟩ := z354
        obtain ⟨z364, z365, z366, z367, z368, z369, z370, z371, z372, z373, z374, z375⟩ := z363
        have hlt_u341 : u341 < C 60 100 28 := by omega
        obtain ⟨q0_u341, q1_u341, q2_u341, q3_u341⟩ := sU u341 hlt_u341
        have e376 : u341 = m360 := nI_inj (by omega) (by omega) (z346.trans z365.symm)
        subst e376
        have e377 : u342 = m361 := nI_inj (by omega) (by omega) (z349.trans z368.symm)
        subst e377
        exact absurd z371 (z350 _ (by omega) (by omega))
      · obtain ⟨m378, m379, m380, z381⟩ := z355
        obtain ⟨z382, z383, z384, z385, z386, z387, z388, z389, z390, z391, z392, z393⟩ := z381
        have hlt_u341 : u341 < C 60 100 28 := by omega
        obtain ⟨q0_u341, q1_u341, q2_u341, q3_u341⟩ := sU u341 hlt_u341
        have e394 : u341 = m378 := nI_inj (by omega) (by omega) (z346.trans z383.symm)
        subst e394
        have e395 : u342 = m379 := nI_inj (by omega) (by omega) (z349.trans z386.symm)
        subst e395
        exact absurd z389 (z350 _ (by omega) (by omega))
      · obtain ⟨m396, m397, m398, z399⟩ := z356
        obtain ⟨z400, z401, z402, z403, z404, z405, z406, z407, z408, z409, z410⟩ := z399
        have hlt_u341 : u341 < C 60 100 28 := by omega
        obtain ⟨q0_u341, q1_u341, q2_u341, q3_u341⟩ := sU u341 hlt_u341
        have e411 : u341 = m396 := nI_inj (by omega) (by omega) (z346.trans z401.symm)
        subst e411
        have e412 : u342 = m397 := nI_inj (by omega) (by omega) (z349.trans z404.symm)
        subst e412
        have hlo : ∀ kk : Nat, kk < 15 → C1 kk = (C) kk := fun kk h => congrFun z351.symm kk
        have hA_ : St5 A A2 := by rw [← z352]; exact w3
        rw [← z409, ← z410]
        refine ⟨agb_th hI hlo e6 e61 _ hA_, ?_⟩
        exact ⟨_, rfl, fun h => absurd h (by decide)⟩
      · obtain ⟨m413, m414, z415⟩ := z357
        obtain ⟨z416, z417, z418, z419, z420, z421, z422, z423⟩ := z415
        have hlt_u341 : u341 < C 60 100 28 := by omega
        obtain ⟨q0_u341, q1_u341, q2_u341, q3_u341⟩ := sU u341 hlt_u341
        have e424 : u341 = m413 := nI_inj (by omega) (by omega) (z346.trans z417.symm)
        subst e424
        have e425 : u342 = m414 := nI_inj (by omega) (by omega) (z349.trans z420.symm)
        subst e425
        have hlo : ∀ kk : Nat, kk < 15 → C1 kk = (C) kk := fun kk h => congrFun z351.symm kk
        have hA_ : St5 A A2 := by rw [← z352]; exact w3
        rw [← z422, ← z423]
        refine ⟨agb_th hI hlo e6 e61 _ hA_, ?_⟩
        exact ⟨_, rfl, fun h => absurd h (by decide)⟩
      · obtain ⟨m426, z427⟩ := z358
        obtain ⟨z428, z429, z430, z431, z432⟩ := z427
        have hlt_u341 : u341 < C 60 100 28 := by omega
        obtain ⟨q0_u341, q1_u341, q2_u341, q3_u341⟩ := sU u341 hlt_u341
        have e433 : u341 = m426 := nI_inj (by omega) (by omega) (z346.trans z429.symm)
        subst e433
        have hlo : ∀ kk : Nat, kk < 15 → C1 kk = (C) kk := fun kk h => congrFun z351.symm kk
        have hA_ : St5 A A2 := by rw [← z352]; exact w3
        rw [← z431, ← z432]
        refine ⟨agb_th hI hlo e6 e61 _ hA_, ?_⟩
        exact ⟨_, rfl, fun h => absurd h (by decide)⟩
      · obtain ⟨z434, z435, z436⟩ := z359
        have hlt_u341 : u341 < C 60 100 28 := by omega
        obtain ⟨q0_u341, q1_u341, q2_u341, q3_u341⟩ := sU u341 hlt_u341
        exact absurd z346 (z434 _ (by omega))
    · obtain ⟨u437, u438, u439, z440⟩ := z248
      obtain ⟨z441, z442, z443, z444, z445, z446, z447, z448, z449, z450, z451⟩ := z440
      obtain ⟨z452, z453⟩ := h7
      rcases z453 with z454 | z455 | z456 | z457 | z458 | z459
      · obtain ⟨m460, m461, m462, z463⟩ := z454
        obtain ⟨z464, z465, z466, z467, z468, z469, z470, z471, z472, z473, z474, z475⟩ := z463
        have hlt_u437 : u437 < C 60 100 28 := by omega
        obtain ⟨q0_u437, q1_u437, q2_u437, q3_u437⟩ := sU u437 hlt_u437
        have e476 : u437 = m460 := nI_inj (by omega) (by omega) (z443.trans z465.symm)
        subst e476
        have e477 : u438 = m461 := nI_inj (by omega) (by omega) (z446.trans z468.symm)
        subst e477
        have e478 : u439 = m462 := nI_inj (by omega) (by omega) (z449.trans z471.symm)
        subst e478
        exact absurd z472 z450
      · obtain ⟨m479, m480, m481, z482⟩ := z455
        obtain ⟨z483, z484, z485, z486, z487, z488, z489, z490, z491, z492, z493, z494⟩ := z482
        have hlt_u437 : u437 < C 60 100 28 := by omega
        obtain ⟨q0_u437, q1_u437, q2_u437, q3_u437⟩ := sU u437 hlt_u437
        have e495 : u437 = m479 := nI_inj (by omega) (by omega) (z443.trans z484.symm)
        subst e495
        have e496 : u438 = m480 := nI_inj (by omega) (by omega) (z446.trans z487.symm)
        subst e496
        have e497 : u439 = m481 := nI_inj (by omega) (by omega) (z449.trans z490.symm)
        subst e497
        exact absurd z491 z450
      · obtain ⟨m498, m499, m500, z501⟩ := z456
        obtain ⟨z502, z503, z504, z505, z506, z507, z508, z509, z510, z511, z512⟩ := z501
        have hlt_u437 : u437 < C 60 100 28 := by omega
        obtain ⟨q0_u437, q1_u437, q2_u437, q3_u437⟩ := sU u437 hlt_u437
        have e513 : u437 = m498 := nI_inj (by omega) (by omega) (z443.trans z503.symm)
        subst e513
        have e514 : u438 = m499 := nI_inj (by omega) (by omega) (z446.trans z506.symm)
        subst e514
        have e515 : u439 = m500 := nI_inj (by omega) (by omega) (z449.trans z509.symm)
        subst e515
        have hlo : ∀ kk : Nat, kk < 15 → C1 kk = (C) kk := fun kk h => congrFun z451.symm kk
        have hA_ : St5 A A2 := by rw [← z452]; exact w3
        rw [← z511, ← z512]
        refine ⟨agb_th hI hlo e6 e61 _ hA_, ?_⟩
        exact ⟨_, rfl, fun h => absurd h (by decide)⟩
      · obtain ⟨m516, m517, z518⟩ := z457
        obtain ⟨z519, z520, z521, z522, z523, z524, z525, z526⟩ := z518
        have hlt_u437 : u437 < C 60 100 28 := by omega
        obtain ⟨q0_u437, q1_u437, q2_u437, q3_u437⟩ := sU u437 hlt_u437
        have e527 : u437 = m516 := nI_inj (by omega) (by omega) (z443.trans z520.symm)
        subst e527
        have e528 : u438 = m517 := nI_inj (by omega) (by omega) (z446.trans z523.symm)
        subst e528
        have hlo : ∀ kk : Nat, kk < 15 → C1 kk = (C) kk := fun kk h => congrFun z451.symm kk
        have hA_ : St5 A A2 := by rw [← z452]; exact w3
        rw [← z525, ← z526]
        refine ⟨agb_th hI hlo e6 e61 _ hA_, ?_⟩
        exact ⟨_, rfl, fun h => absurd h (by decide)⟩
      · obtain ⟨m529, z530⟩ := z458
        obtain ⟨z531, z532, z533, z534, z535⟩ := z530
        have hlt_u437 : u437 < C 60 100 28 := by omega
        obtain ⟨q0_u437, q1_u437, q2_u437, q3_u437⟩ := sU u437 hlt_u437
        have e536 : u437 = m529 := nI_inj (by omega) (by omega) (z443.trans z532.symm)
        subst e536
        have hlo : ∀ kk : Nat, kk < 15 → C1 kk = (C) kk := fun kk h => congrFun z451.symm kk
        have hA_ : St5 A A2 := by rw [← z452]; exact w3
        rw [← z534, ← z535]
        refine ⟨agb_th hI hlo e6 e61 _ hA_, ?_⟩
        exact ⟨_, rfl, fun h => absurd h (by decide)⟩
      · obtain ⟨z537, z538, z539⟩ := z459
        have hlt_u437 : u437 < C 60 100 28 := by omega
        obtain ⟨q0_u437, q1_u437, q2_u437, q3_u437⟩ := sU u437 hlt_u437
        exact absurd z443 (z537 _ (by omega))
    · obtain ⟨u540, u541, u542, z543⟩ := z249
      obtain ⟨z544, z545, z546, z547, z548, z549, z550, z551, z552, z553, z554, z555⟩ := z543
      exact absurd z544 (by decide +kernel)
  · unfold E6_submit at h6
    obtain ⟨z556, z557⟩ := h6
    rcases z557 with z558 | z559 | z560 | z561 | z562
    · obtain ⟨z563, z564, z565⟩ := z558
      exact absurd z563 (by decide +kernel)
    · obtain ⟨u566, z567⟩ := z559
      obtain ⟨z568, z569, z570, z571, z572⟩ := z567
      exact absurd z568 (by decide +kernel)
    · obtain ⟨u573, u574, z575⟩ := z560
      obtain ⟨z576, z577, z578, z579, z580, z581, z582, z583⟩ := z575
      exact absurd z576 (by decide +kernel)
    · obtain ⟨u584, u585, u586, z587⟩ := z561
      obtain ⟨z588, z589, z590, z591, z592, z593, z594, z595, z596, z597, z598⟩ := z587
      exact absurd z588 (by decide +kernel)
    · obtain ⟨u599, u600, u601, z602⟩ := z562
      obtain ⟨z603, z604, z605, z606, z607, z608, z609, z610, z611, z612, z613, z614⟩ := z602
      obtain ⟨z615, z616⟩ := h7
      rcases z616 with z617 | z618 | z619 | z620 | z621 | z622
      · obtain ⟨m623, m624, m625, z626⟩ := z617
        obtain ⟨z627, z628, z629, z630, z631, z632, z633, z634, z635, z636, z637, z638⟩ := z626
        have hlt_u599 : u599 < C 60 100 28 := by omega
        obtain ⟨q0_u599, q1_u599, q2_u599, q3_u599⟩ := sU u599 hlt_u599
        have e639 : u599 = m623 := nI_inj (by omega) (by omega) (z605.trans z628.symm)
        subst e639
        have e640 : u600 = m624 := nI_inj (by omega) (by omega) (z608.trans z631.symm)
        subst e640
        have e641 : u601 = m625 := nI_inj (by omega) (by omega) (z611.trans z634.symm)
        subst e641
        omega
      · obtain ⟨m642, m643, m644, z645⟩ := z618
        obtain ⟨z646, z647, z648, z649, z650, z651, z652, z653, z654, z655, z656, z657⟩ := z645
        have hlt_u599 : u599 < C 60 100 28 := by omega
        obtain ⟨q0_u599, q1_u599, q2_u599, q3_u599⟩ := sU u599 hlt_u599
        have e658 : u599 = m642 := nI_inj (by omega) (by omega) (z605.trans z647.symm)
        subst e658
        have e659 : u600 = m643 := nI_inj (by omega) (by omega) (z608.trans z650.symm)
        subst e659
        have e660 : u601 = m644 := nI_inj (by omega) (by omega) (z611.trans z653.symm)
        subst e660
        have hlo : ∀ kk : Nat, kk < 15 → C1 kk = (C) kk := fun kk h => congrFun z614.symm kk
        have hA_ : St5 A A2 := by rw [← z615]; exact w3
        rw [← z656, ← z657]
        refine ⟨agb_th hI hlo e6 e61 _ hA_, ?_⟩
        exact ⟨_, rfl, fun h => absurd h (by decide)⟩
      · obtain ⟨m661, m662, m663, z664⟩ := z619
        obtain ⟨z665, z666, z667, z668, z669, z670, z671, z672, z673, z674, z675⟩ := z664
        have hlt_u599 : u599 < C 60 100 28 := by omega
        obtain ⟨q0_u599, q1_u599, q2_u599, q3_u599⟩ := sU u599 hlt_u599
        have e676 : u599 = m661 := nI_inj (by omega) (by omega) (z605.trans z666.symm)
        subst e676
        have e677 : u600 = m662 := nI_inj (by omega) (by omega) (z608.trans z669.symm)
        subst e677
        have e678 : u601 = m663 := nI_inj (by omega) (by omega) (z611.trans z672.symm)
        subst e678
        exact absurd z612 z673
      · obtain ⟨m679, m680, z681⟩ := z620
        obtain ⟨z682, z683, z684, z685, z686, z687, z688, z689⟩ := z681
        have hlt_u599 : u599 < C 60 100 28 := by omega
        obtain ⟨q0_u599, q1_u599, q2_u599, q3_u599⟩ := sU u599 hlt_u599
        have e690 : u599 = m679 := nI_inj (by omega) (by omega) (z605.trans z683.symm)
        subst e690
        have e691 : u600 = m680 := nI_inj (by omega) (by omega) (z608.trans z686.symm)
        subst e691
        exact absurd z611 (z687 _ (by omega) (by omega))
      · obtain ⟨m692, z693⟩ := z621
        obtain ⟨z694, z695, z696, z697, z698⟩ := z693
        have hlt_u599 : u599 < C 60 100 28 := by omega
        obtain ⟨q0_u599, q1_u599, q2_u599, q3_u599⟩ := sU u599 hlt_u599
        have e699 : u599 = m692 := nI_inj (by omega) (by omega) (z605.trans z695.symm)
        subst e699
        exact absurd z608 (z696 _ (by omega) (by omega))
      · obtain ⟨z700, z701, z702⟩ := z622
        have hlt_u599 : u599 < C 60 100 28 := by omega
        obtain ⟨q0_u599, q1_u599, q2_u599, q3_u599⟩ := sU u599 hlt_u599
        exact absurd z605 (z700 _ (by omega))
set_option maxHeartbeats 4000000 in
theorem ag_cancel {A A1 A2 : AF} {C C1 C2 : CF} {x : Int32} {k : Nat} {v : Option Value}  (hI : Iv C) (h6 : W_cancel A C x k A1 C1) (h7 : K7_cancel A1 C1 x v A2 C2) : AgB A C k A2 C2 ∧ ∃ b : Int32, v = some (.int b) ∧ (k = 0 → lN (C2 70 0 0) = b.toInt64) := by
  obtain ⟨w1, w3, -⟩ := w_cancel h6
  have e6 : C1 60 = C 60 := w1 60 (by decide) (by decide)
  have e61 : C1 61 = C 61 := w1 61 (by decide) (by decide)
  obtain ⟨hS, hM, hL⟩ := id hI
  obtain ⟨⟨c3, c4, c5, c6, c7, c8⟩, sU, sP, sT, sJ, ⟨sl, sc⟩, sE, sC, sB⟩ := id hS
  obtain ⟨oU, oP, oJ, oTc, oY, o8, o9, o10, o11, o12, o13, o14, o15, oX, oQ, oB, oK, oS, oJk, oM, oCo, oSh, oLg, oPo, oLl, oL2, oL3, oL4, oLle, oE1, oE2, oE3, oE4⟩ := id hM.1
  unfold K7_cancel at h7
  rw [e6] at h7
  unfold W_cancel at h6
  rcases h6 with ⟨rfl, r, o, C9, ho, hC1, h6⟩ | ⟨rfl, h6⟩ | ⟨rfl, h6⟩
  · unfold K6_cancel at h6
    obtain ⟨z1, z2⟩ := h6
    obtain ⟨u3, z4⟩ := z2
    obtain ⟨z5, z6, z7, z8, z9, z10⟩ := z4
    obtain ⟨z11, z12⟩ := h7
    rcases z12 with z13 | z14 | z15 | z16
    · obtain ⟨m17, z18⟩ := z13
      obtain ⟨z19, z20, z21, z22, z23⟩ := z18
      have hlt_u3 : u3 < C 60 100 30 := by omega
      obtain ⟨j0_u3, j1_u3, j2_u3, j3_u3, j4_u3, j5_u3, j6_u3, j7_u3, j8_u3, j9_u3, j10_u3, j11_u3, j12_u3, j13_u3⟩ := sJ u3 hlt_u3
      obtain ⟨jb1_u3, jb2_u3, jb3_u3⟩ := jb hI hlt_u3
      have e24 : u3 = m17 := nI_inj (by omega) (by omega) (z6.trans z20.symm)
      subst e24
      omega
    · obtain ⟨m25, z26⟩ := z14
      obtain ⟨z27, z28, z29, z30, z31, z32⟩ := z26
      have hlt_u3 : u3 < C 60 100 30 := by omega
      obtain ⟨j0_u3, j1_u3, j2_u3, j3_u3, j4_u3, j5_u3, j6_u3, j7_u3, j8_u3, j9_u3, j10_u3, j11_u3, j12_u3, j13_u3⟩ := sJ u3 hlt_u3
      obtain ⟨jb1_u3, jb2_u3, jb3_u3⟩ := jb hI hlt_u3
      have e33 : u3 = m25 := nI_inj (by omega) (by omega) (z6.trans z28.symm)
      subst e33
      have hlo : ∀ kk : Nat, kk < 15 → C1 kk = (up3 C 11 u3 8 1) kk := fun kk h => (congrFun hC1.symm kk).trans ((up3_k (by omega)).trans (congrFun z9.symm kk))
      have hA_ : St5 A A2 := by rw [← z11]; exact w3
      have hk_ := keep_cancel (t := 0) (k := u3) hS hM hL hlt_u3 rfl
      rw [← z31, ← z32]
      refine ⟨agb_k hk_ ?_ ?_ (fun kk h => ?_) ?_ ?_ ?_ hA_, ?_⟩
      · funext i_ f_
        simp only [up3, e6]
      · funext i_ f_
        simp only [up3, e61]
      · rw [up3_k (by omega), up3_k (by omega)]
        exact hlo kk h
      · simp [up3]
      · simp [up3]
      · simp [up3]
      · cases Option.some.inj z10
        have h70_ : C1 70 0 0 = o := by rw [← hC1]; exact up3_s
        refine ⟨_, rfl, fun _ => ?_⟩
        refine (congrArg (fun g : Nat → Nat → Nat => lN (g 0 0)) (show _ = C1 70 from by rw [up3_k (by decide), up3_k (by decide)])).trans ?_
        show lN (C1 70 0 0) = _
        refine (congrArg lN h70_).trans (ho.trans ?_)
        rw [up3_f (by decide), up3_f (by decide)]
        exact congrArg (fun n => (nI n).toInt64) (by omega)
    · obtain ⟨m34, z35⟩ := z15
      obtain ⟨z36, z37, z38, z39, z40, z41⟩ := z35
      have hlt_u3 : u3 < C 60 100 30 := by omega
      obtain ⟨j0_u3, j1_u3, j2_u3, j3_u3, j4_u3, j5_u3, j6_u3, j7_u3, j8_u3, j9_u3, j10_u3, j11_u3, j12_u3, j13_u3⟩ := sJ u3 hlt_u3
      obtain ⟨jb1_u3, jb2_u3, jb3_u3⟩ := jb hI hlt_u3
      have e42 : u3 = m34 := nI_inj (by omega) (by omega) (z6.trans z37.symm)
      subst e42
      omega
    · obtain ⟨z43, z44, z45⟩ := z16
      have hlt_u3 : u3 < C 60 100 30 := by omega
      obtain ⟨j0_u3, j1_u3, j2_u3, j3_u3, j4_u3, j5_u3, j6_u3, j7_u3, j8_u3, j9_u3, j10_u3, j11_u3, j12_u3, j13_u3⟩ := sJ u3 hlt_u3
      obtain ⟨jb1_u3, jb2_u3, jb3_u3⟩ := jb hI hlt_u3
      exact absurd z6 (z43 _ (by omega))
  · unfold E6_cancel at h6
    obtain ⟨z46, z47⟩ := h6
    rcases z47 with z48 | z49
    · obtain ⟨z50, z51, z52⟩ := z48
      obtain ⟨z53, z54⟩ := h7
      rcases z54 with z55 | z56 | z57 | z58
      · obtain ⟨m59, z60⟩ := z55
        obtain ⟨z61, z62, z63, z64, z65⟩ := z60
        exact absurd z62 (z51 _ (by omega))
      · obtain ⟨m66, z67⟩ := z56
        obtain ⟨z68, z69, z70, z71, z72, z73⟩ := z67
        exact absurd z69 (z51 _ (by omega))
      · obtain ⟨m74, z75⟩ := z57
        obtain ⟨z76, z77, z78, z79, z80, z81⟩ := z75
        exact absurd z77 (z51 _ (by omega))
      · obtain ⟨z82, z83, z84⟩ := z58
        have hlo : ∀ kk : Nat, kk < 15 → C1 kk = (C) kk := fun kk h => congrFun z52.symm kk
        have hA_ : St5 A A2 := by rw [← z53]; exact w3
        rw [← z83, ← z84]
        refine ⟨agb_th hI hlo e6 e61 _ hA_, ?_⟩
        exact ⟨_, rfl, fun h => absurd h (by decide)⟩
    · obtain ⟨u85, z86⟩ := z49
      obtain ⟨z87, z88, z89, z90, z91⟩ := z86
      exact absurd z87 (by decide +kernel)
  · unfold E6_cancel at h6
    obtain ⟨z92, z93⟩ := h6
    rcases z93 with z94 | z95
    · obtain ⟨z96, z97, z98⟩ := z94
      exact absurd z96 (by decide +kernel)
    · obtain ⟨u99, z100⟩ := z95
      obtain ⟨z101, z102, z103, z104, z105⟩ := z100
      obtain ⟨z106, z107⟩ := h7
      rcases z107 with z108 | z109 | z110 | z111
      · obtain ⟨m112, z113⟩ := z108
        obtain ⟨z114, z115, z116, z117, z118⟩ := z113
        have hlt_u99 : u99 < C 60 100 30 := by omega
        obtain ⟨j0_u99, j1_u99, j2_u99, j3_u99, j4_u99, j5_u99, j6_u99, j7_u99, j8_u99, j9_u99, j10_u99, j11_u99, j12_u99, j13_u99⟩ := sJ u99 hlt_u99
        obtain ⟨jb1_u99, jb2_u99, jb3_u99⟩ := jb hI hlt_u99
        have e119 : u99 = m112 := nI_inj (by omega) (by omega) (z103.trans z115.symm)
        subst e119
        have hlo : ∀ kk : Nat, kk < 15 → C1 kk = (C) kk := fun kk h => congrFun z105.symm kk
        have hA_ : St5 A A2 := by rw [← z106]; exact w3
        rw [← z117, ← z118]
        refine ⟨agb_th hI hlo e6 e61 _ hA_, ?_⟩
        exact ⟨_, rfl, fun h => absurd h (by decide)⟩
      · obtain ⟨m120, z121⟩ := z109
        obtain ⟨z122, z123, z124, z125, z126, z127⟩ := z121
        have hlt_u99 : u99 < C 60 100 30 := by omega
        obtain ⟨j0_u99, j1_u99, j2_u99, j3_u99, j4_u99, j5_u99, j6_u99, j7_u99, j8_u99, j9_u99, j10_u99, j11_u99, j12_u99, j13_u99⟩ := sJ u99 hlt_u99
        obtain ⟨jb1_u99, jb2_u99, jb3_u99⟩ := jb hI hlt_u99
        have e128 : u99 = m120 := nI_inj (by omega) (by omega) (z103.trans z123.symm)
        subst e128
        omega
      · obtain ⟨m129, z130⟩ := z110
        obtain ⟨z131, z132, z133, z134, z135, z136⟩ := z130
        have hlt_u99 : u99 < C 60 100 30 := by omega
        obtain ⟨j0_u99, j1_u99, j2_u99, j3_u99, j4_u99, j5_u99, j6_u99, j7_u99, j8_u99, j9_u99, j10_u99, j11_u99, j12_u99, j13_u99⟩ := sJ u99 hlt_u99
        obtain ⟨jb1_u99, jb2_u99, jb3_u99⟩ := jb hI hlt_u99
        have e137 : u99 = m129 := nI_inj (by omega) (by omega) (z103.trans z132.symm)
        subst e137
        have hlo : ∀ kk : Nat, kk < 15 → C1 kk = (C) kk := fun kk h => congrFun z105.symm kk
        have hA_ : St5 A A2 := by rw [← z106]; exact w3
        rw [← z135, ← z136]
        refine ⟨agb_th hI hlo e6 e61 _ hA_, ?_⟩
        exact ⟨_, rfl, fun h => absurd h (by decide)⟩
      · obtain ⟨z138, z139, z140⟩ := z111
        have hlt_u99 : u99 < C 60 100 30 := by omega
        obtain ⟨j0_u99, j1_u99, j2_u99, j3_u99, j4_u99, j5_u99, j6_u99, j7_u99, j8_u99, j9_u99, j10_u99, j11_u99, j12_u99, j13_u99⟩ := sJ u99 hlt_u99
        obtain ⟨jb1_u99, jb2_u99, jb3_u99⟩ := jb hI hlt_u99
        exact absurd z103 (z138 _ (by omega))
set_option maxHeartbeats 4000000 in
theorem ag_stateOf {A A1 A2 : AF} {C C1 C2 : CF} {x : Int32} {k : Nat} {v : Option Value}  (hI : Iv C) (h6 : W_stateOf A C x k A1 C1) (h7 : K7_stateOf A1 C1 x v A2 C2) : AgB A C k A2 C2 ∧ ∃ b : Int32, v = some (.int b) ∧ (k = 0 → lN (C2 70 0 0) = b.toInt64) := by
  obtain ⟨w1, w3, -⟩ := w_stateOf h6
  have e6 : C1 60 = C 60 := w1 60 (by decide) (by decide)
  have e61 : C1 61 = C 61 := w1 61 (by decide) (by decide)
  obtain ⟨hS, hM, hL⟩ := id hI
  obtain ⟨⟨c3, c4, c5, c6, c7, c8⟩, sU, sP, sT, sJ, ⟨sl, sc⟩, sE, sC, sB⟩ := id hS
  obtain ⟨oU, oP, oJ, oTc, oY, o8, o9, o10, o11, o12, o13, o14, o15, oX, oQ, oB, oK, oS, oJk, oM, oCo, oSh, oLg, oPo, oLl, oL2, oL3, oL4, oLle, oE1, oE2, oE3, oE4⟩ := id hM.1
  unfold K7_stateOf at h7
  rw [e6] at h7
  unfold W_stateOf at h6
  rcases h6 with ⟨rfl, r, o, C9, ho, hC1, h6⟩ | ⟨rfl, h6⟩
  · unfold K6_stateOf at h6
    obtain ⟨z1, z2⟩ := h6
    rcases z2 with z3 | z4 | z5 | z6
    · obtain ⟨u7, z8⟩ := z3
      obtain ⟨z9, z10, z11, z12, z13, z14, z15⟩ := z8
      obtain ⟨z16, z17⟩ := h7
      rcases z17 with z18 | z19 | z20 | z21 | z22
      · obtain ⟨m23, z24⟩ := z18
        obtain ⟨z25, z26, z27, z28, z29, z30⟩ := z24
        have hlt_u7 : u7 < C 60 100 30 := by omega
        obtain ⟨j0_u7, j1_u7, j2_u7, j3_u7, j4_u7, j5_u7, j6_u7, j7_u7, j8_u7, j9_u7, j10_u7, j11_u7, j12_u7, j13_u7⟩ := sJ u7 hlt_u7
        obtain ⟨jb1_u7, jb2_u7, jb3_u7⟩ := jb hI hlt_u7
        have e31 : u7 = m23 := nI_inj (by omega) (by omega) (z10.trans z26.symm)
        subst e31
        omega
      · obtain ⟨m32, z33⟩ := z19
        obtain ⟨z34, z35, z36, z37, z38, z39, z40⟩ := z33
        have hlt_u7 : u7 < C 60 100 30 := by omega
        obtain ⟨j0_u7, j1_u7, j2_u7, j3_u7, j4_u7, j5_u7, j6_u7, j7_u7, j8_u7, j9_u7, j10_u7, j11_u7, j12_u7, j13_u7⟩ := sJ u7 hlt_u7
        obtain ⟨jb1_u7, jb2_u7, jb3_u7⟩ := jb hI hlt_u7
        have e41 : u7 = m32 := nI_inj (by omega) (by omega) (z10.trans z35.symm)
        subst e41
        omega
      · obtain ⟨m42, z43⟩ := z20
        obtain ⟨z44, z45, z46, z47, z48, z49, z50⟩ := z43
        have hlt_u7 : u7 < C 60 100 30 := by omega
        obtain ⟨j0_u7, j1_u7, j2_u7, j3_u7, j4_u7, j5_u7, j6_u7, j7_u7, j8_u7, j9_u7, j10_u7, j11_u7, j12_u7, j13_u7⟩ := sJ u7 hlt_u7
        obtain ⟨jb1_u7, jb2_u7, jb3_u7⟩ := jb hI hlt_u7
        have e51 : u7 = m42 := nI_inj (by omega) (by omega) (z10.trans z45.symm)
        subst e51
        have hlo : ∀ kk : Nat, kk < 15 → C1 kk = (C) kk := fun kk h => (congrFun hC1.symm kk).trans ((up3_k (by omega)).trans (congrFun z14.symm kk))
        have hA_ : St5 A A2 := by rw [← z16]; exact w3
        rw [← z49, ← z50]
        refine ⟨agb_th hI hlo e6 e61 _ hA_, ?_⟩
        cases Option.some.inj z15
        have h70_ : C1 70 0 0 = o := by rw [← hC1]; exact up3_s
        refine ⟨_, rfl, fun _ => ?_⟩
        refine (congrArg (fun g : Nat → Nat → Nat => lN (g 0 0)) (up3_k (by decide))).trans ?_
        show lN (C1 70 0 0) = _
        refine (congrArg lN h70_).trans (ho.trans ?_)
        exact congrArg (fun n => (nI n).toInt64) (show 112 = 112 by first | rfl | omega | (split <;> omega))
      · obtain ⟨m52, z53⟩ := z21
        obtain ⟨z54, z55, z56, z57, z58⟩ := z53
        have hlt_u7 : u7 < C 60 100 30 := by omega
        obtain ⟨j0_u7, j1_u7, j2_u7, j3_u7, j4_u7, j5_u7, j6_u7, j7_u7, j8_u7, j9_u7, j10_u7, j11_u7, j12_u7, j13_u7⟩ := sJ u7 hlt_u7
        obtain ⟨jb1_u7, jb2_u7, jb3_u7⟩ := jb hI hlt_u7
        have e59 : u7 = m52 := nI_inj (by omega) (by omega) (z10.trans z55.symm)
        subst e59
        omega
      · obtain ⟨z60, z61, z62⟩ := z22
        have hlt_u7 : u7 < C 60 100 30 := by omega
        obtain ⟨j0_u7, j1_u7, j2_u7, j3_u7, j4_u7, j5_u7, j6_u7, j7_u7, j8_u7, j9_u7, j10_u7, j11_u7, j12_u7, j13_u7⟩ := sJ u7 hlt_u7
        obtain ⟨jb1_u7, jb2_u7, jb3_u7⟩ := jb hI hlt_u7
        exact absurd z10 (z60 _ (by omega))
    · obtain ⟨u63, z64⟩ := z4
      obtain ⟨z65, z66, z67, z68, z69, z70, z71⟩ := z64
      obtain ⟨z72, z73⟩ := h7
      rcases z73 with z74 | z75 | z76 | z77 | z78
      · obtain ⟨m79, z80⟩ := z74
        obtain ⟨z81, z82, z83, z84, z85, z86⟩ := z80
        have hlt_u63 : u63 < C 60 100 30 := by omega
        obtain ⟨j0_u63, j1_u63, j2_u63, j3_u63, j4_u63, j5_u63, j6_u63, j7_u63, j8_u63, j9_u63, j10_u63, j11_u63, j12_u63, j13_u63⟩ := sJ u63 hlt_u63
        obtain ⟨jb1_u63, jb2_u63, jb3_u63⟩ := jb hI hlt_u63
        have e87 : u63 = m79 := nI_inj (by omega) (by omega) (z66.trans z82.symm)
        subst e87
        omega
      · obtain ⟨m88, z89⟩ := z75
        obtain ⟨z90, z91, z92, z93, z94, z95, z96⟩ := z89
        have hlt_u63 : u63 < C 60 100 30 := by omega
        obtain ⟨j0_u63, j1_u63, j2_u63, j3_u63, j4_u63, j5_u63, j6_u63, j7_u63, j8_u63, j9_u63, j10_u63, j11_u63, j12_u63, j13_u63⟩ := sJ u63 hlt_u63
        obtain ⟨jb1_u63, jb2_u63, jb3_u63⟩ := jb hI hlt_u63
        have e97 : u63 = m88 := nI_inj (by omega) (by omega) (z66.trans z91.symm)
        subst e97
        have hlo : ∀ kk : Nat, kk < 15 → C1 kk = (C) kk := fun kk h => (congrFun hC1.symm kk).trans ((up3_k (by omega)).trans (congrFun z70.symm kk))
        have hA_ : St5 A A2 := by rw [← z72]; exact w3
        rw [← z95, ← z96]
        refine ⟨agb_th hI hlo e6 e61 _ hA_, ?_⟩
        cases Option.some.inj z71
        have h70_ : C1 70 0 0 = o := by rw [← hC1]; exact up3_s
        refine ⟨_, rfl, fun _ => ?_⟩
        refine (congrArg (fun g : Nat → Nat → Nat => lN (g 0 0)) (up3_k (by decide))).trans ?_
        show lN (C1 70 0 0) = _
        refine (congrArg lN h70_).trans (ho.trans ?_)
        exact congrArg (fun n => (nI n).toInt64) (show 104 = 104 by first | rfl | omega | (split <;> omega))
      · obtain ⟨m98, z99⟩ := z76
        obtain ⟨z100, z101, z102, z103, z104, z105, z106⟩ := z99
        have hlt_u63 : u63 < C 60 100 30 := by omega
        obtain ⟨j0_u63, j1_u63, j2_u63, j3_u63, j4_u63, j5_u63, j6_u63, j7_u63, j8_u63, j9_u63, j10_u63, j11_u63, j12_u63, j13_u63⟩ := sJ u63 hlt_u63
        obtain ⟨jb1_u63, jb2_u63, jb3_u63⟩ := jb hI hlt_u63
        have e107 : u63 = m98 := nI_inj (by omega) (by omega) (z66.trans z101.symm)
        subst e107
        omega
      · obtain ⟨m108, z109⟩ := z77
        obtain ⟨z110, z111, z112, z113, z114⟩ := z109
        have hlt_u63 : u63 < C 60 100 30 := by omega
        obtain ⟨j0_u63, j1_u63, j2_u63, j3_u63, j4_u63, j5_u63, j6_u63, j7_u63, j8_u63, j9_u63, j10_u63, j11_u63, j12_u63, j13_u63⟩ := sJ u63 hlt_u63
        obtain ⟨jb1_u63, jb2_u63, jb3_u63⟩ := jb hI hlt_u63
        have e115 : u63 = m108 := nI_inj (by omega) (by omega) (z66.trans z111.symm)
        subst e115
        omega
      · obtain ⟨z116, z117, z118⟩ := z78
        have hlt_u63 : u63 < C 60 100 30 := by omega
        obtain ⟨j0_u63, j1_u63, j2_u63, j3_u63, j4_u63, j5_u63, j6_u63, j7_u63, j8_u63, j9_u63, j10_u63, j11_u63, j12_u63, j13_u63⟩ := sJ u63 hlt_u63
        obtain ⟨jb1_u63, jb2_u63, jb3_u63⟩ := jb hI hlt_u63
        exact absurd z66 (z116 _ (by omega))
    · obtain ⟨u119, z120⟩ := z5
      obtain ⟨z121, z122, z123, z124, z125, z126⟩ := z120
      obtain ⟨z127, z128⟩ := h7
      rcases z128 with z129 | z130 | z131 | z132 | z133
      · obtain ⟨m134, z135⟩ := z129
        obtain ⟨z136, z137, z138, z139, z140, z141⟩ := z135
        have hlt_u119 : u119 < C 60 100 30 := by omega
        obtain ⟨j0_u119, j1_u119, j2_u119, j3_u119, j4_u119, j5_u119, j6_u119, j7_u119, j8_u119, j9_u119, j10_u119, j11_u119, j12_u119, j13_u119⟩ := sJ u119 hlt_u119
        obtain ⟨jb1_u119, jb2_u119, jb3_u119⟩ := jb hI hlt_u119
        have e142 : u119 = m134 := nI_inj (by omega) (by omega) (z122.trans z137.symm)
        subst e142
        have hlo : ∀ kk : Nat, kk < 15 → C1 kk = (C) kk := fun kk h => (congrFun hC1.symm kk).trans ((up3_k (by omega)).trans (congrFun z125.symm kk))
        have hA_ : St5 A A2 := by rw [← z127]; exact w3
        rw [← z140, ← z141]
        refine ⟨agb_th hI hlo e6 e61 _ hA_, ?_⟩
        cases Option.some.inj z126
        have h70_ : C1 70 0 0 = o := by rw [← hC1]; exact up3_s
        refine ⟨_, rfl, fun _ => ?_⟩
        refine (congrArg (fun g : Nat → Nat → Nat => lN (g 0 0)) (up3_k (by decide))).trans ?_
        show lN (C1 70 0 0) = _
        refine (congrArg lN h70_).trans (ho.trans ?_)
        exact congrArg (fun n => (nI n).toInt64) (show 100 = 100 by first | rfl | omega | (split <;> omega))
      · obtain ⟨m143, z144⟩ := z130
        obtain ⟨z145, z146, z147, z148, z149, z150, z151⟩ := z144
        have hlt_u119 : u119 < C 60 100 30 := by omega
        obtain ⟨j0_u119, j1_u119, j2_u119, j3_u119, j4_u119, j5_u119, j6_u119, j7_u119, j8_u119, j9_u119, j10_u119, j11_u119, j12_u119, j13_u119⟩ := sJ u119 hlt_u119
        obtain ⟨jb1_u119, jb2_u119, jb3_u119⟩ := jb hI hlt_u119
        have e152 : u119 = m143 := nI_inj (by omega) (by omega) (z122.trans z146.symm)
        subst e152
        omega
      · obtain ⟨m153, z154⟩ := z131
        obtain ⟨z155, z156, z157, z158, z159, z160, z161⟩ := z154
        have hlt_u119 : u119 < C 60 100 30 := by omega
        obtain ⟨j0_u119, j1_u119, j2_u119, j3_u119, j4_u119, j5_u119, j6_u119, j7_u119, j8_u119, j9_u119, j10_u119, j11_u119, j12_u119, j13_u119⟩ := sJ u119 hlt_u119
        obtain ⟨jb1_u119, jb2_u119, jb3_u119⟩ := jb hI hlt_u119
        have e162 : u119 = m153 := nI_inj (by omega) (by omega) (z122.trans z156.symm)
        subst e162
        omega
      · obtain ⟨m163, z164⟩ := z132
        obtain ⟨z165, z166, z167, z168, z169⟩ := z164
        have hlt_u119 : u119 < C 60 100 30 := by omega
        obtain ⟨j0_u119, j1_u119, j2_u119, j3_u119, j4_u119, j5_u119, j6_u119, j7_u119, j8_u119, j9_u119, j10_u119, j11_u119, j12_u119, j13_u119⟩ := sJ u119 hlt_u119
        obtain ⟨jb1_u119, jb2_u119, jb3_u119⟩ := jb hI hlt_u119
        have e170 : u119 = m163 := nI_inj (by omega) (by omega) (z122.trans z166.symm)
        subst e170
        omega
      · obtain ⟨z171, z172, z173⟩ := z133
        have hlt_u119 : u119 < C 60 100 30 := by omega
        obtain ⟨j0_u119, j1_u119, j2_u119, j3_u119, j4_u119, j5_u119, j6_u119, j7_u119, j8_u119, j9_u119, j10_u119, j11_u119, j12_u119, j13_u119⟩ := sJ u119 hlt_u119
        obtain ⟨jb1_u119, jb2_u119, jb3_u119⟩ := jb hI hlt_u119
        exact absurd z122 (z171 _ (by omega))
    · obtain ⟨u174, z175⟩ := z6
      obtain ⟨z176, z177, z178, z179, z180⟩ := z175
      obtain ⟨z181, z182⟩ := h7
      rcases z182 with z183 | z184 | z185 | z186 | z187
      · obtain ⟨m188, z189⟩ := z183
        obtain ⟨z190, z191, z192, z193, z194, z195⟩ := z189
        have hlt_u174 : u174 < C 60 100 30 := by omega
        obtain ⟨j0_u174, j1_u174, j2_u174, j3_u174, j4_u174, j5_u174, j6_u174, j7_u174, j8_u174, j9_u174, j10_u174, j11_u174, j12_u174, j13_u174⟩ := sJ u174 hlt_u174
        obtain ⟨jb1_u174, jb2_u174, jb3_u174⟩ := jb hI hlt_u174
        have e196 : u174 = m188 := nI_inj (by omega) (by omega) (z177.trans z191.symm)
        subst e196
        omega
      · obtain ⟨m197, z198⟩ := z184
        obtain ⟨z199, z200, z201, z202, z203, z204, z205⟩ := z198
        have hlt_u174 : u174 < C 60 100 30 := by omega
        obtain ⟨j0_u174, j1_u174, j2_u174, j3_u174, j4_u174, j5_u174, j6_u174, j7_u174, j8_u174, j9_u174, j10_u174, j11_u174, j12_u174, j13_u174⟩ := sJ u174 hlt_u174
        obtain ⟨jb1_u174, jb2_u174, jb3_u174⟩ := jb hI hlt_u174
        have e206 : u174 = m197 := nI_inj (by omega) (by omega) (z177.trans z200.symm)
        subst e206
        omega
      · obtain ⟨m207, z208⟩ := z185
        obtain ⟨z209, z210, z211, z212, z213, z214, z215⟩ := z208
        have hlt_u174 : u174 < C 60 100 30 := by omega
        obtain ⟨j0_u174, j1_u174, j2_u174, j3_u174, j4_u174, j5_u174, j6_u174, j7_u174, j8_u174, j9_u174, j10_u174, j11_u174, j12_u174, j13_u174⟩ := sJ u174 hlt_u174
        obtain ⟨jb1_u174, jb2_u174, jb3_u174⟩ := jb hI hlt_u174
        have e216 : u174 = m207 := nI_inj (by omega) (by omega) (z177.trans z210.symm)
        subst e216
        omega
      · obtain ⟨m217, z218⟩ := z186
        obtain ⟨z219, z220, z221, z222, z223⟩ := z218
        have hlt_u174 : u174 < C 60 100 30 := by omega
        obtain ⟨j0_u174, j1_u174, j2_u174, j3_u174, j4_u174, j5_u174, j6_u174, j7_u174, j8_u174, j9_u174, j10_u174, j11_u174, j12_u174, j13_u174⟩ := sJ u174 hlt_u174
        obtain ⟨jb1_u174, jb2_u174, jb3_u174⟩ := jb hI hlt_u174
        have e224 : u174 = m217 := nI_inj (by omega) (by omega) (z177.trans z220.symm)
        subst e224
        have hlo : ∀ kk : Nat, kk < 15 → C1 kk = (C) kk := fun kk h => (congrFun hC1.symm kk).trans ((up3_k (by omega)).trans (congrFun z179.symm kk))
        have hA_ : St5 A A2 := by rw [← z181]; exact w3
        rw [← z222, ← z223]
        refine ⟨agb_th hI hlo e6 e61 _ hA_, ?_⟩
        cases Option.some.inj z180
        have h70_ : C1 70 0 0 = o := by rw [← hC1]; exact up3_s
        refine ⟨_, rfl, fun _ => ?_⟩
        refine (congrArg (fun g : Nat → Nat → Nat => lN (g 0 0)) (up3_k (by decide))).trans ?_
        show lN (C1 70 0 0) = _
        refine (congrArg lN h70_).trans (ho.trans ?_)
        exact congrArg (fun n => (nI n).toInt64) (show 120 = 120 by first | rfl | omega | (split <;> omega))
      · obtain ⟨z225, z226, z227⟩ := z187
        have hlt_u174 : u174 < C 60 100 30 := by omega
        obtain ⟨j0_u174, j1_u174, j2_u174, j3_u174, j4_u174, j5_u174, j6_u174, j7_u174, j8_u174, j9_u174, j10_u174, j11_u174, j12_u174, j13_u174⟩ := sJ u174 hlt_u174
        obtain ⟨jb1_u174, jb2_u174, jb3_u174⟩ := jb hI hlt_u174
        exact absurd z177 (z225 _ (by omega))
  · unfold E6_stateOf at h6
    obtain ⟨z228, z229⟩ := h6
    obtain ⟨z230, z231, z232⟩ := z229
    obtain ⟨z233, z234⟩ := h7
    rcases z234 with z235 | z236 | z237 | z238 | z239
    · obtain ⟨m240, z241⟩ := z235
      obtain ⟨z242, z243, z244, z245, z246, z247⟩ := z241
      exact absurd z243 (z231 _ (by omega))
    · obtain ⟨m248, z249⟩ := z236
      obtain ⟨z250, z251, z252, z253, z254, z255, z256⟩ := z249
      exact absurd z251 (z231 _ (by omega))
    · obtain ⟨m257, z258⟩ := z237
      obtain ⟨z259, z260, z261, z262, z263, z264, z265⟩ := z258
      exact absurd z260 (z231 _ (by omega))
    · obtain ⟨m266, z267⟩ := z238
      obtain ⟨z268, z269, z270, z271, z272⟩ := z267
      exact absurd z269 (z231 _ (by omega))
    · obtain ⟨z273, z274, z275⟩ := z239
      have hlo : ∀ kk : Nat, kk < 15 → C1 kk = (C) kk := fun kk h => congrFun z232.symm kk
      have hA_ : St5 A A2 := by rw [← z233]; exact w3
      rw [← z274, ← z275]
      refine ⟨agb_th hI hlo e6 e61 _ hA_, ?_⟩
      exact ⟨_, rfl, fun h => absurd h (by decide)⟩
set_option maxHeartbeats 4000000 in
theorem ag_pagesLeft {A A1 A2 : AF} {C C1 C2 : CF} {x : Int32} {k : Nat} {v : Option Value}  (hI : Iv C) (h6 : W_pagesLeft A C x k A1 C1) (h7 : K7_pagesLeft A1 C1 x v A2 C2) : AgB A C k A2 C2 ∧ ∃ b : Int32, v = some (.int b) ∧ (k = 0 → lN (C2 70 0 0) = b.toInt64) := by
  obtain ⟨w1, w3, -⟩ := w_pagesLeft h6
  have e6 : C1 60 = C 60 := w1 60 (by decide) (by decide)
  have e61 : C1 61 = C 61 := w1 61 (by decide) (by decide)
  obtain ⟨hS, hM, hL⟩ := id hI
  obtain ⟨⟨c3, c4, c5, c6, c7, c8⟩, sU, sP, sT, sJ, ⟨sl, sc⟩, sE, sC, sB⟩ := id hS
  obtain ⟨oU, oP, oJ, oTc, oY, o8, o9, o10, o11, o12, o13, o14, o15, oX, oQ, oB, oK, oS, oJk, oM, oCo, oSh, oLg, oPo, oLl, oL2, oL3, oL4, oLle, oE1, oE2, oE3, oE4⟩ := id hM.1
  unfold K7_pagesLeft at h7
  rw [e6] at h7
  unfold W_pagesLeft at h6
  rcases h6 with ⟨rfl, r, o, C9, ho, hC1, h6⟩ | ⟨rfl, h6⟩
  · unfold K6_pagesLeft at h6
    obtain ⟨z1, z2⟩ := h6
    obtain ⟨u3, z4⟩ := z2
    obtain ⟨z5, z6, z7, z8⟩ := z4
    obtain ⟨z9, z10⟩ := h7
    rcases z10 with z11 | z12
    · obtain ⟨m13, z14⟩ := z11
      obtain ⟨z15, z16, z17, z18⟩ := z14
      have hlt_u3 : u3 < C 60 100 30 := by omega
      obtain ⟨j0_u3, j1_u3, j2_u3, j3_u3, j4_u3, j5_u3, j6_u3, j7_u3, j8_u3, j9_u3, j10_u3, j11_u3, j12_u3, j13_u3⟩ := sJ u3 hlt_u3
      obtain ⟨jb1_u3, jb2_u3, jb3_u3⟩ := jb hI hlt_u3
      have e19 : u3 = m13 := nI_inj (by omega) (by omega) (z6.trans z16.symm)
      subst e19
      have hlo : ∀ kk : Nat, kk < 15 → C1 kk = (C) kk := fun kk h => (congrFun hC1.symm kk).trans ((up3_k (by omega)).trans (congrFun z7.symm kk))
      have hA_ : St5 A A2 := by rw [← z9]; exact w3
      rw [← z17, ← z18]
      refine ⟨agb_th hI hlo e6 e61 _ hA_, ?_⟩
      cases Option.some.inj z8
      have h70_ : C1 70 0 0 = o := by rw [← hC1]; exact up3_s
      refine ⟨_, rfl, fun _ => ?_⟩
      refine (congrArg (fun g : Nat → Nat → Nat => lN (g 0 0)) (up3_k (by decide))).trans ?_
      show lN (C1 70 0 0) = _
      refine (congrArg lN h70_).trans (ho.trans ?_)
      exact congrArg (fun n => (nI n).toInt64) (show (C 11 u3 3 - C 11 u3 9) = (C 60 17 u3 * C 60 18 u3 - ptoN (C 60 13 u3) (C 60 17 u3) (C 60 19 u3)) by first | rfl | omega | (split <;> omega))
    · obtain ⟨z20, z21, z22⟩ := z12
      have hlt_u3 : u3 < C 60 100 30 := by omega
      obtain ⟨j0_u3, j1_u3, j2_u3, j3_u3, j4_u3, j5_u3, j6_u3, j7_u3, j8_u3, j9_u3, j10_u3, j11_u3, j12_u3, j13_u3⟩ := sJ u3 hlt_u3
      obtain ⟨jb1_u3, jb2_u3, jb3_u3⟩ := jb hI hlt_u3
      exact absurd z6 (z20 _ (by omega))
  · unfold E6_pagesLeft at h6
    obtain ⟨z23, z24⟩ := h6
    obtain ⟨z25, z26, z27⟩ := z24
    obtain ⟨z28, z29⟩ := h7
    rcases z29 with z30 | z31
    · obtain ⟨m32, z33⟩ := z30
      obtain ⟨z34, z35, z36, z37⟩ := z33
      exact absurd z35 (z26 _ (by omega))
    · obtain ⟨z38, z39, z40⟩ := z31
      have hlo : ∀ kk : Nat, kk < 15 → C1 kk = (C) kk := fun kk h => congrFun z27.symm kk
      have hA_ : St5 A A2 := by rw [← z28]; exact w3
      rw [← z39, ← z40]
      refine ⟨agb_th hI hlo e6 e61 _ hA_, ?_⟩
      exact ⟨_, rfl, fun h => absurd h (by decide)⟩
set_option maxHeartbeats 4000000 in
theorem ag_sheetsOut {A A1 A2 : AF} {C C1 C2 : CF} {x : Int32} {k : Nat} {v : Option Value}  (hI : Iv C) (h6 : W_sheetsOut A C x k A1 C1) (h7 : K7_sheetsOut A1 C1 x v A2 C2) : AgB A C k A2 C2 ∧ ∃ b : Int32, v = some (.int b) ∧ (k = 0 → lN (C2 70 0 0) = b.toInt64) := by
  obtain ⟨w1, w3, -⟩ := w_sheetsOut h6
  have e6 : C1 60 = C 60 := w1 60 (by decide) (by decide)
  have e61 : C1 61 = C 61 := w1 61 (by decide) (by decide)
  obtain ⟨hS, hM, hL⟩ := id hI
  obtain ⟨⟨c3, c4, c5, c6, c7, c8⟩, sU, sP, sT, sJ, ⟨sl, sc⟩, sE, sC, sB⟩ := id hS
  obtain ⟨oU, oP, oJ, oTc, oY, o8, o9, o10, o11, o12, o13, o14, o15, oX, oQ, oB, oK, oS, oJk, oM, oCo, oSh, oLg, oPo, oLl, oL2, oL3, oL4, oLle, oE1, oE2, oE3, oE4⟩ := id hM.1
  unfold K7_sheetsOut at h7
  rw [e6] at h7
  unfold W_sheetsOut at h6
  rcases h6 with ⟨rfl, r, o, C9, ho, hC1, h6⟩ | ⟨rfl, h6⟩
  · unfold K6_sheetsOut at h6
    obtain ⟨z1, z2⟩ := h6
    obtain ⟨u3, z4⟩ := z2
    obtain ⟨z5, z6, z7, z8⟩ := z4
    obtain ⟨z9, z10⟩ := h7
    rcases z10 with z11 | z12
    · obtain ⟨m13, z14⟩ := z11
      obtain ⟨z15, z16, z17, z18⟩ := z14
      have hlt_u3 : u3 < C 60 100 30 := by omega
      obtain ⟨j0_u3, j1_u3, j2_u3, j3_u3, j4_u3, j5_u3, j6_u3, j7_u3, j8_u3, j9_u3, j10_u3, j11_u3, j12_u3, j13_u3⟩ := sJ u3 hlt_u3
      obtain ⟨jb1_u3, jb2_u3, jb3_u3⟩ := jb hI hlt_u3
      have e19 : u3 = m13 := nI_inj (by omega) (by omega) (z6.trans z16.symm)
      subst e19
      have hlo : ∀ kk : Nat, kk < 15 → C1 kk = (C) kk := fun kk h => (congrFun hC1.symm kk).trans ((up3_k (by omega)).trans (congrFun z7.symm kk))
      have hA_ : St5 A A2 := by rw [← z9]; exact w3
      rw [← z17, ← z18]
      refine ⟨agb_th hI hlo e6 e61 _ hA_, ?_⟩
      cases Option.some.inj z8
      have h70_ : C1 70 0 0 = o := by rw [← hC1]; exact up3_s
      refine ⟨_, rfl, fun _ => ?_⟩
      refine (congrArg (fun g : Nat → Nat → Nat => lN (g 0 0)) (up3_k (by decide))).trans ?_
      show lN (C1 70 0 0) = _
      refine (congrArg lN h70_).trans (ho.trans ?_)
      exact congrArg (fun n => (nI n).toInt64) (show (C 11 u3 11) = (C 60 19 u3) by first | rfl | omega | (split <;> omega))
    · obtain ⟨z20, z21, z22⟩ := z12
      have hlt_u3 : u3 < C 60 100 30 := by omega
      obtain ⟨j0_u3, j1_u3, j2_u3, j3_u3, j4_u3, j5_u3, j6_u3, j7_u3, j8_u3, j9_u3, j10_u3, j11_u3, j12_u3, j13_u3⟩ := sJ u3 hlt_u3
      obtain ⟨jb1_u3, jb2_u3, jb3_u3⟩ := jb hI hlt_u3
      exact absurd z6 (z20 _ (by omega))
  · unfold E6_sheetsOut at h6
    obtain ⟨z23, z24⟩ := h6
    obtain ⟨z25, z26, z27⟩ := z24
    obtain ⟨z28, z29⟩ := h7
    rcases z29 with z30 | z31
    · obtain ⟨m32, z33⟩ := z30
      obtain ⟨z34, z35, z36, z37⟩ := z33
      exact absurd z35 (z26 _ (by omega))
    · obtain ⟨z38, z39, z40⟩ := z31
      have hlo : ∀ kk : Nat, kk < 15 → C1 kk = (C) kk := fun kk h => congrFun z27.symm kk
      have hA_ : St5 A A2 := by rw [← z28]; exact w3
      rw [← z39, ← z40]
      refine ⟨agb_th hI hlo e6 e61 _ hA_, ?_⟩
      exact ⟨_, rfl, fun h => absurd h (by decide)⟩
set_option maxHeartbeats 4000000 in
theorem ag_stapledCopies {A A1 A2 : AF} {C C1 C2 : CF} {x : Int32} {k : Nat} {v : Option Value}  (hI : Iv C) (h6 : W_stapledCopies A C x k A1 C1) (h7 : K7_stapledCopies A1 C1 x v A2 C2) : AgB A C k A2 C2 ∧ ∃ b : Int32, v = some (.int b) ∧ (k = 0 → lN (C2 70 0 0) = b.toInt64) := by
  obtain ⟨w1, w3, -⟩ := w_stapledCopies h6
  have e6 : C1 60 = C 60 := w1 60 (by decide) (by decide)
  have e61 : C1 61 = C 61 := w1 61 (by decide) (by decide)
  obtain ⟨hS, hM, hL⟩ := id hI
  obtain ⟨⟨c3, c4, c5, c6, c7, c8⟩, sU, sP, sT, sJ, ⟨sl, sc⟩, sE, sC, sB⟩ := id hS
  obtain ⟨oU, oP, oJ, oTc, oY, o8, o9, o10, o11, o12, o13, o14, o15, oX, oQ, oB, oK, oS, oJk, oM, oCo, oSh, oLg, oPo, oLl, oL2, oL3, oL4, oLle, oE1, oE2, oE3, oE4⟩ := id hM.1
  unfold K7_stapledCopies at h7
  rw [e6] at h7
  unfold W_stapledCopies at h6
  rcases h6 with ⟨rfl, r, o, C9, ho, hC1, h6⟩ | ⟨rfl, h6⟩
  · unfold K6_stapledCopies at h6
    obtain ⟨z1, z2⟩ := h6
    obtain ⟨u3, z4⟩ := z2
    obtain ⟨z5, z6, z7, z8⟩ := z4
    obtain ⟨z9, z10⟩ := h7
    rcases z10 with z11 | z12
    · obtain ⟨m13, z14⟩ := z11
      obtain ⟨z15, z16, z17, z18⟩ := z14
      have hlt_u3 : u3 < C 60 100 30 := by omega
      obtain ⟨j0_u3, j1_u3, j2_u3, j3_u3, j4_u3, j5_u3, j6_u3, j7_u3, j8_u3, j9_u3, j10_u3, j11_u3, j12_u3, j13_u3⟩ := sJ u3 hlt_u3
      obtain ⟨jb1_u3, jb2_u3, jb3_u3⟩ := jb hI hlt_u3
      have e19 : u3 = m13 := nI_inj (by omega) (by omega) (z6.trans z16.symm)
      subst e19
      have hlo : ∀ kk : Nat, kk < 15 → C1 kk = (C) kk := fun kk h => (congrFun hC1.symm kk).trans ((up3_k (by omega)).trans (congrFun z7.symm kk))
      have hA_ : St5 A A2 := by rw [← z9]; exact w3
      rw [← z17, ← z18]
      refine ⟨agb_th hI hlo e6 e61 _ hA_, ?_⟩
      cases Option.some.inj z8
      have h70_ : C1 70 0 0 = o := by rw [← hC1]; exact up3_s
      refine ⟨_, rfl, fun _ => ?_⟩
      refine (congrArg (fun g : Nat → Nat → Nat => lN (g 0 0)) (up3_k (by decide))).trans ?_
      show lN (C1 70 0 0) = _
      refine (congrArg lN h70_).trans (ho.trans ?_)
      exact congrArg (fun n => (nI n).toInt64) (show (C 11 u3 12) = (C 60 20 u3) by first | rfl | omega | (split <;> omega))
    · obtain ⟨z20, z21, z22⟩ := z12
      have hlt_u3 : u3 < C 60 100 30 := by omega
      obtain ⟨j0_u3, j1_u3, j2_u3, j3_u3, j4_u3, j5_u3, j6_u3, j7_u3, j8_u3, j9_u3, j10_u3, j11_u3, j12_u3, j13_u3⟩ := sJ u3 hlt_u3
      obtain ⟨jb1_u3, jb2_u3, jb3_u3⟩ := jb hI hlt_u3
      exact absurd z6 (z20 _ (by omega))
  · unfold E6_stapledCopies at h6
    obtain ⟨z23, z24⟩ := h6
    obtain ⟨z25, z26, z27⟩ := z24
    obtain ⟨z28, z29⟩ := h7
    rcases z29 with z30 | z31
    · obtain ⟨m32, z33⟩ := z30
      obtain ⟨z34, z35, z36, z37⟩ := z33
      exact absurd z35 (z26 _ (by omega))
    · obtain ⟨z38, z39, z40⟩ := z31
      have hlo : ∀ kk : Nat, kk < 15 → C1 kk = (C) kk := fun kk h => congrFun z27.symm kk
      have hA_ : St5 A A2 := by rw [← z28]; exact w3
      rw [← z39, ← z40]
      refine ⟨agb_th hI hlo e6 e61 _ hA_, ?_⟩
      exact ⟨_, rfl, fun h => absurd h (by decide)⟩
set_option maxHeartbeats 4000000 in
theorem ag_reasonFor {A A1 A2 : AF} {C C1 C2 : CF} {x : Int32} {y : Int32} {k : Nat} {v : Option Value}  (hI : Iv C) (h6 : W_reasonFor A C x y k A1 C1) (h7 : K7_reasonFor A1 C1 x y v A2 C2) : AgB A C k A2 C2 ∧ ∃ b : Int32, v = some (.int b) ∧ (k = 0 → lN (C2 70 0 0) = b.toInt64) := by
  obtain ⟨w1, w3, -⟩ := w_reasonFor h6
  have e6 : C1 60 = C 60 := w1 60 (by decide) (by decide)
  have e61 : C1 61 = C 61 := w1 61 (by decide) (by decide)
  obtain ⟨hS, hM, hL⟩ := id hI
  obtain ⟨⟨c3, c4, c5, c6, c7, c8⟩, sU, sP, sT, sJ, ⟨sl, sc⟩, sE, sC, sB⟩ := id hS
  obtain ⟨oU, oP, oJ, oTc, oY, o8, o9, o10, o11, o12, o13, o14, o15, oX, oQ, oB, oK, oS, oJk, oM, oCo, oSh, oLg, oPo, oLl, oL2, oL3, oL4, oLle, oE1, oE2, oE3, oE4⟩ := id hM.1
  unfold K7_reasonFor at h7
  simp only [coR_q e6] at h7
  rw [e6] at h7
  unfold W_reasonFor at h6
  rcases h6 with ⟨rfl, r, o, C9, ho, hC1, h6⟩ | ⟨rfl, h6⟩
  · unfold K6_reasonFor at h6
    obtain ⟨z1, z2⟩ := h6
    obtain ⟨u3, u4, z5⟩ := z2
    obtain ⟨z6, z7, z8, z9, z10, z11⟩ := z5
    obtain ⟨z12, z13⟩ := h7
    rcases z13 with z14 | z15 | z16
    · obtain ⟨m17, m18, z19⟩ := z14
      obtain ⟨z20, z21, z22, z23, z24, z25⟩ := z19
      have hlt_u3 : u3 < C 60 100 30 := by omega
      obtain ⟨j0_u3, j1_u3, j2_u3, j3_u3, j4_u3, j5_u3, j6_u3, j7_u3, j8_u3, j9_u3, j10_u3, j11_u3, j12_u3, j13_u3⟩ := sJ u3 hlt_u3
      obtain ⟨jb1_u3, jb2_u3, jb3_u3⟩ := jb hI hlt_u3
      have hlt_u4 : u4 < C 60 100 29 := by omega
      obtain ⟨p0_u4, p1_u4, p2_u4, p3_u4, p5_u4⟩ := sP u4 hlt_u4
      have pt_u4 := oTc u4
      have pc_u4 : (C 60 11 u4 = 0 ∧ C 9 u4 2 = 0) ∨ (C 60 11 u4 ≠ 0 ∧ C 9 u4 2 = C 60 5 u4) := by rw [p2_u4]; split <;> omega
      clear p2_u4
      have e26 : u3 = m17 := nI_inj (by omega) (by omega) (z7.trans z21.symm)
      subst e26
      have e27 : u4 = m18 := nI_inj (by omega) (by omega) (z9.trans z23.symm)
      subst e27
      obtain ⟨w_, hw_⟩ := z10
      have hlo : ∀ kk : Nat, kk < 15 → C1 kk = (P6 C w_) kk := fun kk h => (congrFun hC1.symm kk).trans ((up3_k (by omega)).trans (congrFun hw_.symm kk))
      have hA_ : St5 A A2 := by rw [← z12]; exact w3
      have hsc_ : Sc (up3 C1 60 100 27 0) C2 := by rw [← z24]; exact TrS_Sc (fun t => by show C1 60 3 t ≤ 500; rw [e6]; exact oY t)
      obtain ⟨gb_, g70_⟩ := agb_sc hI hlo e6 e61 hsc_ hA_
      rw [← z25]
      refine ⟨gb_, ?_⟩
      cases Option.some.inj z11
      have h70_ : C1 70 0 0 = o := by rw [← hC1]; exact up3_s
      refine ⟨_, rfl, fun _ => ?_⟩
      refine (congrArg (fun g : Nat → Nat → Nat => lN (g 0 0)) (g70_)).trans ?_
      show lN (C1 70 0 0) = _
      refine (congrArg lN h70_).trans (ho.trans ?_)
      exact congrArg (fun n => (nI n).toInt64) (show (coR C u3 u4 0) = (coR C u3 u4 0) by first | rfl | omega | (split <;> omega))
    · obtain ⟨m28, z29⟩ := z15
      obtain ⟨z30, z31, z32, z33, z34⟩ := z29
      have hlt_u3 : u3 < C 60 100 30 := by omega
      obtain ⟨j0_u3, j1_u3, j2_u3, j3_u3, j4_u3, j5_u3, j6_u3, j7_u3, j8_u3, j9_u3, j10_u3, j11_u3, j12_u3, j13_u3⟩ := sJ u3 hlt_u3
      obtain ⟨jb1_u3, jb2_u3, jb3_u3⟩ := jb hI hlt_u3
      have hlt_u4 : u4 < C 60 100 29 := by omega
      obtain ⟨p0_u4, p1_u4, p2_u4, p3_u4, p5_u4⟩ := sP u4 hlt_u4
      have pt_u4 := oTc u4
      have pc_u4 : (C 60 11 u4 = 0 ∧ C 9 u4 2 = 0) ∨ (C 60 11 u4 ≠ 0 ∧ C 9 u4 2 = C 60 5 u4) := by rw [p2_u4]; split <;> omega
      clear p2_u4
      have e35 : u3 = m28 := nI_inj (by omega) (by omega) (z7.trans z31.symm)
      subst e35
      exact absurd z9 (z32 _ (by omega))
    · obtain ⟨z36, z37, z38⟩ := z16
      have hlt_u3 : u3 < C 60 100 30 := by omega
      obtain ⟨j0_u3, j1_u3, j2_u3, j3_u3, j4_u3, j5_u3, j6_u3, j7_u3, j8_u3, j9_u3, j10_u3, j11_u3, j12_u3, j13_u3⟩ := sJ u3 hlt_u3
      obtain ⟨jb1_u3, jb2_u3, jb3_u3⟩ := jb hI hlt_u3
      have hlt_u4 : u4 < C 60 100 29 := by omega
      obtain ⟨p0_u4, p1_u4, p2_u4, p3_u4, p5_u4⟩ := sP u4 hlt_u4
      have pt_u4 := oTc u4
      have pc_u4 : (C 60 11 u4 = 0 ∧ C 9 u4 2 = 0) ∨ (C 60 11 u4 ≠ 0 ∧ C 9 u4 2 = C 60 5 u4) := by rw [p2_u4]; split <;> omega
      clear p2_u4
      exact absurd z7 (z36 _ (by omega))
  · unfold E6_reasonFor at h6
    obtain ⟨z39, z40⟩ := h6
    rcases z40 with z41 | z42
    · obtain ⟨z43, z44, z45⟩ := z41
      obtain ⟨z46, z47⟩ := h7
      rcases z47 with z48 | z49 | z50
      · obtain ⟨m51, m52, z53⟩ := z48
        obtain ⟨z54, z55, z56, z57, z58, z59⟩ := z53
        exact absurd z55 (z44 _ (by omega))
      · obtain ⟨m60, z61⟩ := z49
        obtain ⟨z62, z63, z64, z65, z66⟩ := z61
        have hlo : ∀ kk : Nat, kk < 15 → C1 kk = (C) kk := fun kk h => congrFun z45.symm kk
        have hA_ : St5 A A2 := by rw [← z46]; exact w3
        rw [← z65, ← z66]
        refine ⟨agb_th hI hlo e6 e61 _ hA_, ?_⟩
        exact ⟨_, rfl, fun h => absurd h (by decide)⟩
      · obtain ⟨z67, z68, z69⟩ := z50
        have hlo : ∀ kk : Nat, kk < 15 → C1 kk = (C) kk := fun kk h => congrFun z45.symm kk
        have hA_ : St5 A A2 := by rw [← z46]; exact w3
        rw [← z68, ← z69]
        refine ⟨agb_th hI hlo e6 e61 _ hA_, ?_⟩
        exact ⟨_, rfl, fun h => absurd h (by decide)⟩
    · obtain ⟨u70, z71⟩ := z42
      obtain ⟨z72, z73, z74, z75, z76⟩ := z71
      obtain ⟨z77, z78⟩ := h7
      rcases z78 with z79 | z80 | z81
      · obtain ⟨m82, m83, z84⟩ := z79
        obtain ⟨z85, z86, z87, z88, z89, z90⟩ := z84
        have hlt_u70 : u70 < C 60 100 30 := by omega
        obtain ⟨j0_u70, j1_u70, j2_u70, j3_u70, j4_u70, j5_u70, j6_u70, j7_u70, j8_u70, j9_u70, j10_u70, j11_u70, j12_u70, j13_u70⟩ := sJ u70 hlt_u70
        obtain ⟨jb1_u70, jb2_u70, jb3_u70⟩ := jb hI hlt_u70
        have e91 : u70 = m82 := nI_inj (by omega) (by omega) (z74.trans z86.symm)
        subst e91
        exact absurd z88 (z75 _ (by omega))
      · obtain ⟨m92, z93⟩ := z80
        obtain ⟨z94, z95, z96, z97, z98⟩ := z93
        have hlt_u70 : u70 < C 60 100 30 := by omega
        obtain ⟨j0_u70, j1_u70, j2_u70, j3_u70, j4_u70, j5_u70, j6_u70, j7_u70, j8_u70, j9_u70, j10_u70, j11_u70, j12_u70, j13_u70⟩ := sJ u70 hlt_u70
        obtain ⟨jb1_u70, jb2_u70, jb3_u70⟩ := jb hI hlt_u70
        have e99 : u70 = m92 := nI_inj (by omega) (by omega) (z74.trans z95.symm)
        subst e99
        have hlo : ∀ kk : Nat, kk < 15 → C1 kk = (C) kk := fun kk h => congrFun z76.symm kk
        have hA_ : St5 A A2 := by rw [← z77]; exact w3
        rw [← z97, ← z98]
        refine ⟨agb_th hI hlo e6 e61 _ hA_, ?_⟩
        exact ⟨_, rfl, fun h => absurd h (by decide)⟩
      · obtain ⟨z100, z101, z102⟩ := z81
        have hlt_u70 : u70 < C 60 100 30 := by omega
        obtain ⟨j0_u70, j1_u70, j2_u70, j3_u70, j4_u70, j5_u70, j6_u70, j7_u70, j8_u70, j9_u70, j10_u70, j11_u70, j12_u70, j13_u70⟩ := sJ u70 hlt_u70
        obtain ⟨jb1_u70, jb2_u70, jb3_u70⟩ := jb hI hlt_u70
        have hlo : ∀ kk : Nat, kk < 15 → C1 kk = (C) kk := fun kk h => congrFun z76.symm kk
        have hA_ : St5 A A2 := by rw [← z77]; exact w3
        rw [← z101, ← z102]
        refine ⟨agb_th hI hlo e6 e61 _ hA_, ?_⟩
        exact ⟨_, rfl, fun h => absurd h (by decide)⟩
set_option maxHeartbeats 4000000 in
theorem ag_wouldPrint {A A1 A2 : AF} {C C1 C2 : CF} {x : Int32} {y : Int32} {k : Nat} {v : Option Value}  (hI : Iv C) (h6 : W_wouldPrint A C x y k A1 C1) (h7 : K7_wouldPrint A1 C1 x y v A2 C2) : AgB A C k A2 C2 ∧ ∃ b : Int32, v = some (.int b) ∧ (k = 0 → lN (C2 70 0 0) = b.toInt64) := by
  obtain ⟨w1, w3, -⟩ := w_wouldPrint h6
  have e6 : C1 60 = C 60 := w1 60 (by decide) (by decide)
  have e61 : C1 61 = C 61 := w1 61 (by decide) (by decide)
  obtain ⟨hS, hM, hL⟩ := id hI
  obtain ⟨⟨c3, c4, c5, c6, c7, c8⟩, sU, sP, sT, sJ, ⟨sl, sc⟩, sE, sC, sB⟩ := id hS
  obtain ⟨oU, oP, oJ, oTc, oY, o8, o9, o10, o11, o12, o13, o14, o15, oX, oQ, oB, oK, oS, oJk, oM, oCo, oSh, oLg, oPo, oLl, oL2, oL3, oL4, oLle, oE1, oE2, oE3, oE4⟩ := id hM.1
  unfold K7_wouldPrint at h7
  simp only [pgR_q e6] at h7
  rw [e6] at h7
  unfold W_wouldPrint at h6
  rcases h6 with ⟨rfl, r, o, C9, ho, hC1, h6⟩ | ⟨rfl, h6⟩
  · unfold K6_wouldPrint at h6
    obtain ⟨z1, z2⟩ := h6
    obtain ⟨u3, u4, z5⟩ := z2
    obtain ⟨z6, z7, z8, z9, z10, z11⟩ := z5
    obtain ⟨z12, z13⟩ := h7
    rcases z13 with z14 | z15 | z16
    · obtain ⟨m17, m18, z19⟩ := z14
      obtain ⟨z20, z21, z22, z23, z24, z25⟩ := z19
      have hlt_u3 : u3 < C 60 100 30 := by omega
      obtain ⟨j0_u3, j1_u3, j2_u3, j3_u3, j4_u3, j5_u3, j6_u3, j7_u3, j8_u3, j9_u3, j10_u3, j11_u3, j12_u3, j13_u3⟩ := sJ u3 hlt_u3
      obtain ⟨jb1_u3, jb2_u3, jb3_u3⟩ := jb hI hlt_u3
      have hlt_u4 : u4 < C 60 100 29 := by omega
      obtain ⟨p0_u4, p1_u4, p2_u4, p3_u4, p5_u4⟩ := sP u4 hlt_u4
      have pt_u4 := oTc u4
      have pc_u4 : (C 60 11 u4 = 0 ∧ C 9 u4 2 = 0) ∨ (C 60 11 u4 ≠ 0 ∧ C 9 u4 2 = C 60 5 u4) := by rw [p2_u4]; split <;> omega
      clear p2_u4
      have e26 : u3 = m17 := nI_inj (by omega) (by omega) (z7.trans z21.symm)
      subst e26
      have e27 : u4 = m18 := nI_inj (by omega) (by omega) (z9.trans z23.symm)
      subst e27
      obtain ⟨w_, hw_⟩ := z10
      have hlo : ∀ kk : Nat, kk < 15 → C1 kk = (P6 C w_) kk := fun kk h => (congrFun hC1.symm kk).trans ((up3_k (by omega)).trans (congrFun hw_.symm kk))
      have hA_ : St5 A A2 := by rw [← z12]; exact w3
      obtain ⟨gb_, g70_⟩ := agb_sc hI hlo e6 e61 z24 hA_
      rw [← z25]
      refine ⟨gb_, ?_⟩
      cases Option.some.inj z11
      have h70_ : C1 70 0 0 = o := by rw [← hC1]; exact up3_s
      refine ⟨_, rfl, fun _ => ?_⟩
      refine (congrArg (fun g : Nat → Nat → Nat => lN (g 0 0)) (g70_)).trans ?_
      show lN (C1 70 0 0) = _
      refine (congrArg lN h70_).trans (ho.trans ?_)
      exact congrArg (fun n => (nI n).toInt64) (show (pgR C u3 u4) = (pgR C u3 u4) by first | rfl | omega | (split <;> omega))
    · obtain ⟨m28, z29⟩ := z15
      obtain ⟨z30, z31, z32, z33, z34⟩ := z29
      have hlt_u3 : u3 < C 60 100 30 := by omega
      obtain ⟨j0_u3, j1_u3, j2_u3, j3_u3, j4_u3, j5_u3, j6_u3, j7_u3, j8_u3, j9_u3, j10_u3, j11_u3, j12_u3, j13_u3⟩ := sJ u3 hlt_u3
      obtain ⟨jb1_u3, jb2_u3, jb3_u3⟩ := jb hI hlt_u3
      have hlt_u4 : u4 < C 60 100 29 := by omega
      obtain ⟨p0_u4, p1_u4, p2_u4, p3_u4, p5_u4⟩ := sP u4 hlt_u4
      have pt_u4 := oTc u4
      have pc_u4 : (C 60 11 u4 = 0 ∧ C 9 u4 2 = 0) ∨ (C 60 11 u4 ≠ 0 ∧ C 9 u4 2 = C 60 5 u4) := by rw [p2_u4]; split <;> omega
      clear p2_u4
      have e35 : u3 = m28 := nI_inj (by omega) (by omega) (z7.trans z31.symm)
      subst e35
      exact absurd z9 (z32 _ (by omega))
    · obtain ⟨z36, z37, z38⟩ := z16
      have hlt_u3 : u3 < C 60 100 30 := by omega
      obtain ⟨j0_u3, j1_u3, j2_u3, j3_u3, j4_u3, j5_u3, j6_u3, j7_u3, j8_u3, j9_u3, j10_u3, j11_u3, j12_u3, j13_u3⟩ := sJ u3 hlt_u3
      obtain ⟨jb1_u3, jb2_u3, jb3_u3⟩ := jb hI hlt_u3
      have hlt_u4 : u4 < C 60 100 29 := by omega
      obtain ⟨p0_u4, p1_u4, p2_u4, p3_u4, p5_u4⟩ := sP u4 hlt_u4
      have pt_u4 := oTc u4
      have pc_u4 : (C 60 11 u4 = 0 ∧ C 9 u4 2 = 0) ∨ (C 60 11 u4 ≠ 0 ∧ C 9 u4 2 = C 60 5 u4) := by rw [p2_u4]; split <;> omega
      clear p2_u4
      exact absurd z7 (z36 _ (by omega))
  · unfold E6_wouldPrint at h6
    obtain ⟨z39, z40⟩ := h6
    rcases z40 with z41 | z42
    · obtain ⟨z43, z44, z45⟩ := z41
      obtain ⟨z46, z47⟩ := h7
      rcases z47 with z48 | z49 | z50
      · obtain ⟨m51, m52, z53⟩ := z48
        obtain ⟨z54, z55, z56, z57, z58, z59⟩ := z53
        exact absurd z55 (z44 _ (by omega))
      · obtain ⟨m60, z61⟩ := z49
        obtain ⟨z62, z63, z64, z65, z66⟩ := z61
        have hlo : ∀ kk : Nat, kk < 15 → C1 kk = (C) kk := fun kk h => congrFun z45.symm kk
        have hA_ : St5 A A2 := by rw [← z46]; exact w3
        rw [← z65, ← z66]
        refine ⟨agb_th hI hlo e6 e61 _ hA_, ?_⟩
        exact ⟨_, rfl, fun h => absurd h (by decide)⟩
      · obtain ⟨z67, z68, z69⟩ := z50
        have hlo : ∀ kk : Nat, kk < 15 → C1 kk = (C) kk := fun kk h => congrFun z45.symm kk
        have hA_ : St5 A A2 := by rw [← z46]; exact w3
        rw [← z68, ← z69]
        refine ⟨agb_th hI hlo e6 e61 _ hA_, ?_⟩
        exact ⟨_, rfl, fun h => absurd h (by decide)⟩
    · obtain ⟨u70, z71⟩ := z42
      obtain ⟨z72, z73, z74, z75, z76⟩ := z71
      obtain ⟨z77, z78⟩ := h7
      rcases z78 with z79 | z80 | z81
      · obtain ⟨m82, m83, z84⟩ := z79
        obtain ⟨z85, z86, z87, z88, z89, z90⟩ := z84
        have hlt_u70 : u70 < C 60 100 30 := by omega
        obtain ⟨j0_u70, j1_u70, j2_u70, j3_u70, j4_u70, j5_u70, j6_u70, j7_u70, j8_u70, j9_u70, j10_u70, j11_u70, j12_u70, j13_u70⟩ := sJ u70 hlt_u70
        obtain ⟨jb1_u70, jb2_u70, jb3_u70⟩ := jb hI hlt_u70
        have e91 : u70 = m82 := nI_inj (by omega) (by omega) (z74.trans z86.symm)
        subst e91
        exact absurd z88 (z75 _ (by omega))
      · obtain ⟨m92, z93⟩ := z80
        obtain ⟨z94, z95, z96, z97, z98⟩ := z93
        have hlt_u70 : u70 < C 60 100 30 := by omega
        obtain ⟨j0_u70, j1_u70, j2_u70, j3_u70, j4_u70, j5_u70, j6_u70, j7_u70, j8_u70, j9_u70, j10_u70, j11_u70, j12_u70, j13_u70⟩ := sJ u70 hlt_u70
        obtain ⟨jb1_u70, jb2_u70, jb3_u70⟩ := jb hI hlt_u70
        have e99 : u70 = m92 := nI_inj (by omega) (by omega) (z74.trans z95.symm)
        subst e99
        have hlo : ∀ kk : Nat, kk < 15 → C1 kk = (C) kk := fun kk h => congrFun z76.symm kk
        have hA_ : St5 A A2 := by rw [← z77]; exact w3
        rw [← z97, ← z98]
        refine ⟨agb_th hI hlo e6 e61 _ hA_, ?_⟩
        exact ⟨_, rfl, fun h => absurd h (by decide)⟩
      · obtain ⟨z100, z101, z102⟩ := z81
        have hlt_u70 : u70 < C 60 100 30 := by omega
        obtain ⟨j0_u70, j1_u70, j2_u70, j3_u70, j4_u70, j5_u70, j6_u70, j7_u70, j8_u70, j9_u70, j10_u70, j11_u70, j12_u70, j13_u70⟩ := sJ u70 hlt_u70
        obtain ⟨jb1_u70, jb2_u70, jb3_u70⟩ := jb hI hlt_u70
        have hlo : ∀ kk : Nat, kk < 15 → C1 kk = (C) kk := fun kk h => congrFun z76.symm kk
        have hA_ : St5 A A2 := by rw [← z77]; exact w3
        rw [← z101, ← z102]
        refine ⟨agb_th hI hlo e6 e61 _ hA_, ?_⟩
        exact ⟨_, rfl, fun h => absurd h (by decide)⟩
set_option maxHeartbeats 4000000 in
theorem ag_stopOf {A A1 A2 : AF} {C C1 C2 : CF} {x : Int32} {k : Nat} {v : Option Value}  (hI : Iv C) (h6 : W_stopOf A C x k A1 C1) (h7 : K7_stopOf A1 C1 x v A2 C2) : AgB A C k A2 C2 ∧ ∃ b : Int32, v = some (.int b) ∧ (k = 0 → lN (C2 70 0 0) = b.toInt64) := by
  obtain ⟨w1, w3, -⟩ := w_stopOf h6
  have e6 : C1 60 = C 60 := w1 60 (by decide) (by decide)
  have e61 : C1 61 = C 61 := w1 61 (by decide) (by decide)
  obtain ⟨hS, hM, hL⟩ := id hI
  obtain ⟨⟨c3, c4, c5, c6, c7, c8⟩, sU, sP, sT, sJ, ⟨sl, sc⟩, sE, sC, sB⟩ := id hS
  obtain ⟨oU, oP, oJ, oTc, oY, o8, o9, o10, o11, o12, o13, o14, o15, oX, oQ, oB, oK, oS, oJk, oM, oCo, oSh, oLg, oPo, oLl, oL2, oL3, oL4, oLle, oE1, oE2, oE3, oE4⟩ := id hM.1
  unfold K7_stopOf at h7
  rw [e6] at h7
  unfold W_stopOf at h6
  rcases h6 with ⟨rfl, r, o, C9, ho, hC1, h6⟩ | ⟨rfl, h6⟩ | ⟨rfl, h6⟩
  · unfold K6_stopOf at h6
    obtain ⟨z1, z2⟩ := h6
    obtain ⟨u3, z4⟩ := z2
    obtain ⟨z5, z6, z7, z8, z9⟩ := z4
    obtain ⟨z10, z11⟩ := h7
    rcases z11 with z12 | z13 | z14
    · obtain ⟨m15, z16⟩ := z12
      obtain ⟨z17, z18, z19, z20, z21⟩ := z16
      have hlt_u3 : u3 < C 60 100 30 := by omega
      obtain ⟨j0_u3, j1_u3, j2_u3, j3_u3, j4_u3, j5_u3, j6_u3, j7_u3, j8_u3, j9_u3, j10_u3, j11_u3, j12_u3, j13_u3⟩ := sJ u3 hlt_u3
      obtain ⟨jb1_u3, jb2_u3, jb3_u3⟩ := jb hI hlt_u3
      have e22 : u3 = m15 := nI_inj (by omega) (by omega) (z6.trans z18.symm)
      subst e22
      have hlo : ∀ kk : Nat, kk < 15 → C1 kk = (C) kk := fun kk h => (congrFun hC1.symm kk).trans ((up3_k (by omega)).trans (congrFun z8.symm kk))
      have hA_ : St5 A A2 := by rw [← z10]; exact w3
      rw [← z20, ← z21]
      refine ⟨agb_th hI hlo e6 e61 _ hA_, ?_⟩
      cases Option.some.inj z9
      have h70_ : C1 70 0 0 = o := by rw [← hC1]; exact up3_s
      refine ⟨_, rfl, fun _ => ?_⟩
      refine (congrArg (fun g : Nat → Nat → Nat => lN (g 0 0)) (up3_k (by decide))).trans ?_
      show lN (C1 70 0 0) = _
      refine (congrArg lN h70_).trans (ho.trans ?_)
      exact congrArg (fun n => (nI n).toInt64) (show (C 11 u3 13) = (C 60 10 u3) by first | rfl | omega | (split <;> omega))
    · obtain ⟨m23, z24⟩ := z13
      obtain ⟨z25, z26, z27, z28, z29⟩ := z24
      have hlt_u3 : u3 < C 60 100 30 := by omega
      obtain ⟨j0_u3, j1_u3, j2_u3, j3_u3, j4_u3, j5_u3, j6_u3, j7_u3, j8_u3, j9_u3, j10_u3, j11_u3, j12_u3, j13_u3⟩ := sJ u3 hlt_u3
      obtain ⟨jb1_u3, jb2_u3, jb3_u3⟩ := jb hI hlt_u3
      have e30 : u3 = m23 := nI_inj (by omega) (by omega) (z6.trans z26.symm)
      subst e30
      omega
    · obtain ⟨z31, z32, z33⟩ := z14
      have hlt_u3 : u3 < C 60 100 30 := by omega
      obtain ⟨j0_u3, j1_u3, j2_u3, j3_u3, j4_u3, j5_u3, j6_u3, j7_u3, j8_u3, j9_u3, j10_u3, j11_u3, j12_u3, j13_u3⟩ := sJ u3 hlt_u3
      obtain ⟨jb1_u3, jb2_u3, jb3_u3⟩ := jb hI hlt_u3
      exact absurd z6 (z31 _ (by omega))
  · unfold E6_stopOf at h6
    obtain ⟨z34, z35⟩ := h6
    rcases z35 with z36 | z37
    · obtain ⟨z38, z39, z40⟩ := z36
      obtain ⟨z41, z42⟩ := h7
      rcases z42 with z43 | z44 | z45
      · obtain ⟨m46, z47⟩ := z43
        obtain ⟨z48, z49, z50, z51, z52⟩ := z47
        exact absurd z49 (z39 _ (by omega))
      · obtain ⟨m53, z54⟩ := z44
        obtain ⟨z55, z56, z57, z58, z59⟩ := z54
        exact absurd z56 (z39 _ (by omega))
      · obtain ⟨z60, z61, z62⟩ := z45
        have hlo : ∀ kk : Nat, kk < 15 → C1 kk = (C) kk := fun kk h => congrFun z40.symm kk
        have hA_ : St5 A A2 := by rw [← z41]; exact w3
        rw [← z61, ← z62]
        refine ⟨agb_th hI hlo e6 e61 _ hA_, ?_⟩
        exact ⟨_, rfl, fun h => absurd h (by decide)⟩
    · obtain ⟨u63, z64⟩ := z37
      obtain ⟨z65, z66, z67, z68, z69⟩ := z64
      exact absurd z65 (by decide +kernel)
  · unfold E6_stopOf at h6
    obtain ⟨z70, z71⟩ := h6
    rcases z71 with z72 | z73
    · obtain ⟨z74, z75, z76⟩ := z72
      exact absurd z74 (by decide +kernel)
    · obtain ⟨u77, z78⟩ := z73
      obtain ⟨z79, z80, z81, z82, z83⟩ := z78
      obtain ⟨z84, z85⟩ := h7
      rcases z85 with z86 | z87 | z88
      · obtain ⟨m89, z90⟩ := z86
        obtain ⟨z91, z92, z93, z94, z95⟩ := z90
        have hlt_u77 : u77 < C 60 100 30 := by omega
        obtain ⟨j0_u77, j1_u77, j2_u77, j3_u77, j4_u77, j5_u77, j6_u77, j7_u77, j8_u77, j9_u77, j10_u77, j11_u77, j12_u77, j13_u77⟩ := sJ u77 hlt_u77
        obtain ⟨jb1_u77, jb2_u77, jb3_u77⟩ := jb hI hlt_u77
        have e96 : u77 = m89 := nI_inj (by omega) (by omega) (z81.trans z92.symm)
        subst e96
        omega
      · obtain ⟨m97, z98⟩ := z87
        obtain ⟨z99, z100, z101, z102, z103⟩ := z98
        have hlt_u77 : u77 < C 60 100 30 := by omega
        obtain ⟨j0_u77, j1_u77, j2_u77, j3_u77, j4_u77, j5_u77, j6_u77, j7_u77, j8_u77, j9_u77, j10_u77, j11_u77, j12_u77, j13_u77⟩ := sJ u77 hlt_u77
        obtain ⟨jb1_u77, jb2_u77, jb3_u77⟩ := jb hI hlt_u77
        have e104 : u77 = m97 := nI_inj (by omega) (by omega) (z81.trans z100.symm)
        subst e104
        have hlo : ∀ kk : Nat, kk < 15 → C1 kk = (C) kk := fun kk h => congrFun z83.symm kk
        have hA_ : St5 A A2 := by rw [← z84]; exact w3
        rw [← z102, ← z103]
        refine ⟨agb_th hI hlo e6 e61 _ hA_, ?_⟩
        exact ⟨_, rfl, fun h => absurd h (by decide)⟩
      · obtain ⟨z105, z106, z107⟩ := z88
        have hlt_u77 : u77 < C 60 100 30 := by omega
        obtain ⟨j0_u77, j1_u77, j2_u77, j3_u77, j4_u77, j5_u77, j6_u77, j7_u77, j8_u77, j9_u77, j10_u77, j11_u77, j12_u77, j13_u77⟩ := sJ u77 hlt_u77
        obtain ⟨jb1_u77, jb2_u77, jb3_u77⟩ := jb hI hlt_u77
        exact absurd z81 (z105 _ (by omega))
set_option maxHeartbeats 4000000 in
theorem ag_bestPrinter {A A1 A2 : AF} {C C1 C2 : CF} {x : Int32} {k : Nat} {v : Option Value}  (hI : Iv C) (h6 : W_bestPrinter A C x k A1 C1) (h7 : K7_bestPrinter A1 C1 x v A2 C2) : AgB A C k A2 C2 ∧ ∃ b : Int32, v = some (.int b) ∧ (k = 0 → lN (C2 70 0 0) = b.toInt64) := by
  obtain ⟨w1, w3, -⟩ := w_bestPrinter h6
  have e6 : C1 60 = C 60 := w1 60 (by decide) (by decide)
  have e61 : C1 61 = C 61 := w1 61 (by decide) (by decide)
  obtain ⟨hS, hM, hL⟩ := id hI
  obtain ⟨⟨c3, c4, c5, c6, c7, c8⟩, sU, sP, sT, sJ, ⟨sl, sc⟩, sE, sC, sB⟩ := id hS
  obtain ⟨oU, oP, oJ, oTc, oY, o8, o9, o10, o11, o12, o13, o14, o15, oX, oQ, oB, oK, oS, oJk, oM, oCo, oSh, oLg, oPo, oLl, oL2, oL3, oL4, oLle, oE1, oE2, oE3, oE4⟩ := id hM.1
  unfold K7_bestPrinter at h7
  simp only [bsR_q e6] at h7
  rw [e6] at h7
  unfold W_bestPrinter at h6
  rcases h6 with ⟨rfl, r, o, C9, ho, hC1, h6⟩ | ⟨rfl, h6⟩ | ⟨rfl, h6⟩
  · unfold K6_bestPrinter at h6
    obtain ⟨z1, z2⟩ := h6
    obtain ⟨u3, z4⟩ := z2
    obtain ⟨z5, z6, z7, z8, z9⟩ := z4
    obtain ⟨z10, z11⟩ := h7
    rcases z11 with z12 | z13 | z14
    · obtain ⟨m15, z16⟩ := z12
      obtain ⟨z17, z18, z19, z20, z21⟩ := z16
      have hlt_u3 : u3 < C 60 100 30 := by omega
      obtain ⟨j0_u3, j1_u3, j2_u3, j3_u3, j4_u3, j5_u3, j6_u3, j7_u3, j8_u3, j9_u3, j10_u3, j11_u3, j12_u3, j13_u3⟩ := sJ u3 hlt_u3
      obtain ⟨jb1_u3, jb2_u3, jb3_u3⟩ := jb hI hlt_u3
      have e22 : u3 = m15 := nI_inj (by omega) (by omega) (z6.trans z18.symm)
      subst e22
      omega
    · obtain ⟨m23, z24⟩ := z13
      obtain ⟨z25, z26, z27, z28, z29⟩ := z24
      have hlt_u3 : u3 < C 60 100 30 := by omega
      obtain ⟨j0_u3, j1_u3, j2_u3, j3_u3, j4_u3, j5_u3, j6_u3, j7_u3, j8_u3, j9_u3, j10_u3, j11_u3, j12_u3, j13_u3⟩ := sJ u3 hlt_u3
      obtain ⟨jb1_u3, jb2_u3, jb3_u3⟩ := jb hI hlt_u3
      have e30 : u3 = m23 := nI_inj (by omega) (by omega) (z6.trans z26.symm)
      subst e30
      obtain ⟨w_, hw_⟩ := z8
      have hlo : ∀ kk : Nat, kk < 15 → C1 kk = (P6 C w_) kk := fun kk h => (congrFun hC1.symm kk).trans ((up3_k (by omega)).trans (congrFun hw_.symm kk))
      have hA_ : St5 A A2 := by rw [← z10]; exact w3
      have hsc_ := z28
      rw [up3_w] at hsc_
      obtain ⟨gb_, g70_⟩ := agb_sc hI hlo e6 e61 hsc_ hA_
      rw [← z29]
      refine ⟨gb_, ?_⟩
      cases Option.some.inj z9
      have h70_ : C1 70 0 0 = o := by rw [← hC1]; exact up3_s
      refine ⟨_, rfl, fun _ => ?_⟩
      refine (congrArg (fun g : Nat → Nat → Nat => lN (g 0 0)) (g70_)).trans ?_
      show lN (C1 70 0 0) = _
      refine (congrArg lN h70_).trans (ho.trans ?_)
      exact congrArg (fun n => (nI n).toInt64) (show ((bsR C u3 (C 60 100 29)).1 - 1) = ((bsR C u3 (C 60 100 29)).1 - 1) by first | rfl | omega | (split <;> omega))
    · obtain ⟨z31, z32, z33⟩ := z14
      have hlt_u3 : u3 < C 60 100 30 := by omega
      obtain ⟨j0_u3, j1_u3, j2_u3, j3_u3, j4_u3, j5_u3, j6_u3, j7_u3, j8_u3, j9_u3, j10_u3, j11_u3, j12_u3, j13_u3⟩ := sJ u3 hlt_u3
      obtain ⟨jb1_u3, jb2_u3, jb3_u3⟩ := jb hI hlt_u3
      exact absurd z6 (z31 _ (by omega))
  · unfold E6_bestPrinter at h6
    obtain ⟨z34, z35⟩ := h6
    rcases z35 with z36 | z37
    · obtain ⟨z38, z39, z40⟩ := z36
      obtain ⟨z41, z42⟩ := h7
      rcases z42 with z43 | z44 | z45
      · obtain ⟨m46, z47⟩ := z43
        obtain ⟨z48, z49, z50, z51, z52⟩ := z47
        exact absurd z49 (z39 _ (by omega))
      · obtain ⟨m53, z54⟩ := z44
        obtain ⟨z55, z56, z57, z58, z59⟩ := z54
        exact absurd z56 (z39 _ (by omega))
      · obtain ⟨z60, z61, z62⟩ := z45
        have hlo : ∀ kk : Nat, kk < 15 → C1 kk = (C) kk := fun kk h => congrFun z40.symm kk
        have hA_ : St5 A A2 := by rw [← z41]; exact w3
        rw [← z61, ← z62]
        refine ⟨agb_th hI hlo e6 e61 _ hA_, ?_⟩
        exact ⟨_, rfl, fun h => absurd h (by decide)⟩
    · obtain ⟨u63, z64⟩ := z37
      obtain ⟨z65, z66, z67, z68, z69⟩ := z64
      exact absurd z65 (by decide +kernel)
  · unfold E6_bestPrinter at h6
    obtain ⟨z70, z71⟩ := h6
    rcases z71 with z72 | z73
    · obtain ⟨z74, z75, z76⟩ := z72
      exact absurd z74 (by decide +kernel)
    · obtain ⟨u77, z78⟩ := z73
      obtain ⟨z79, z80, z81, z82, z83⟩ := z78
      obtain ⟨z84, z85⟩ := h7
      rcases z85 with z86 | z87 | z88
      · obtain ⟨m89, z90⟩ := z86
        obtain ⟨z91, z92, z93, z94, z95⟩ := z90
        have hlt_u77 : u77 < C 60 100 30 := by omega
        obtain ⟨j0_u77, j1_u77, j2_u77, j3_u77, j4_u77, j5_u77, j6_u77, j7_u77, j8_u77, j9_u77, j10_u77, j11_u77, j12_u77, j13_u77⟩ := sJ u77 hlt_u77
        obtain ⟨jb1_u77, jb2_u77, jb3_u77⟩ := jb hI hlt_u77
        have e96 : u77 = m89 := nI_inj (by omega) (by omega) (z81.trans z92.symm)
        subst e96
        obtain ⟨w_, hw_⟩ := z83
        have hlo : ∀ kk : Nat, kk < 15 → C1 kk = (P6 C w_) kk := fun kk h => congrFun hw_.symm kk
        have hA_ : St5 A A2 := by rw [← z84]; exact w3
        have hsc_ := z94
        rw [up3_w] at hsc_
        obtain ⟨gb_, g70_⟩ := agb_sc hI hlo e6 e61 hsc_ hA_
        rw [← z95]
        refine ⟨gb_, ?_⟩
        exact ⟨_, rfl, fun h => absurd h (by decide)⟩
      · obtain ⟨m97, z98⟩ := z87
        obtain ⟨z99, z100, z101, z102, z103⟩ := z98
        have hlt_u77 : u77 < C 60 100 30 := by omega
        obtain ⟨j0_u77, j1_u77, j2_u77, j3_u77, j4_u77, j5_u77, j6_u77, j7_u77, j8_u77, j9_u77, j10_u77, j11_u77, j12_u77, j13_u77⟩ := sJ u77 hlt_u77
        obtain ⟨jb1_u77, jb2_u77, jb3_u77⟩ := jb hI hlt_u77
        have e104 : u77 = m97 := nI_inj (by omega) (by omega) (z81.trans z100.symm)
        subst e104
        omega
      · obtain ⟨z105, z106, z107⟩ := z88
        have hlt_u77 : u77 < C 60 100 30 := by omega
        obtain ⟨j0_u77, j1_u77, j2_u77, j3_u77, j4_u77, j5_u77, j6_u77, j7_u77, j8_u77, j9_u77, j10_u77, j11_u77, j12_u77, j13_u77⟩ := sJ u77 hlt_u77
        obtain ⟨jb1_u77, jb2_u77, jb3_u77⟩ := jb hI hlt_u77
        exact absurd z81 (z105 _ (by omega))
set_option maxHeartbeats 4000000 in
theorem ag_queueLength {A A1 A2 : AF} {C C1 C2 : CF} {x : Int32} {k : Nat} {v : Option Value}  (hI : Iv C) (h6 : W_queueLength A C x k A1 C1) (h7 : K7_queueLength A1 C1 x v A2 C2) : AgB A C k A2 C2 ∧ ∃ b : Int32, v = some (.int b) ∧ (k = 0 → lN (C2 70 0 0) = b.toInt64) := by
  obtain ⟨w1, w3, -⟩ := w_queueLength h6
  have e6 : C1 60 = C 60 := w1 60 (by decide) (by decide)
  have e61 : C1 61 = C 61 := w1 61 (by decide) (by decide)
  obtain ⟨hS, hM, hL⟩ := id hI
  obtain ⟨⟨c3, c4, c5, c6, c7, c8⟩, sU, sP, sT, sJ, ⟨sl, sc⟩, sE, sC, sB⟩ := id hS
  obtain ⟨oU, oP, oJ, oTc, oY, o8, o9, o10, o11, o12, o13, o14, o15, oX, oQ, oB, oK, oS, oJk, oM, oCo, oSh, oLg, oPo, oLl, oL2, oL3, oL4, oLle, oE1, oE2, oE3, oE4⟩ := id hM.1
  unfold K7_queueLength at h7
  simp only [qdR_q e6] at h7
  rw [e6] at h7
  unfold W_queueLength at h6
  rcases h6 with ⟨rfl, r, o, C9, ho, hC1, h6⟩ | ⟨rfl, h6⟩
  · unfold K6_queueLength at h6
    obtain ⟨z1, z2⟩ := h6
    obtain ⟨u3, z4⟩ := z2
    obtain ⟨z5, z6, z7, z8⟩ := z4
    obtain ⟨z9, z10⟩ := h7
    rcases z10 with z11 | z12
    · obtain ⟨m13, z14⟩ := z11
      obtain ⟨z15, z16, z17, z18⟩ := z14
      have hlt_u3 : u3 < C 60 100 29 := by omega
      obtain ⟨p0_u3, p1_u3, p2_u3, p3_u3, p5_u3⟩ := sP u3 hlt_u3
      have pt_u3 := oTc u3
      have pc_u3 : (C 60 11 u3 = 0 ∧ C 9 u3 2 = 0) ∨ (C 60 11 u3 ≠ 0 ∧ C 9 u3 2 = C 60 5 u3) := by rw [p2_u3]; split <;> omega
      clear p2_u3
      have e19 : u3 = m13 := nI_inj (by omega) (by omega) (z6.trans z16.symm)
      subst e19
      obtain ⟨w_, hw_⟩ := z7
      have hlo : ∀ kk : Nat, kk < 15 → C1 kk = (P6 C w_) kk := fun kk h => (congrFun hC1.symm kk).trans ((up3_k (by omega)).trans (congrFun hw_.symm kk))
      have hA_ : St5 A A2 := by rw [← z9]; exact w3
      obtain ⟨gb_, g70_⟩ := agb_sc hI hlo e6 e61 z17 hA_
      rw [← z18]
      refine ⟨gb_, ?_⟩
      cases Option.some.inj z8
      have h70_ : C1 70 0 0 = o := by rw [← hC1]; exact up3_s
      refine ⟨_, rfl, fun _ => ?_⟩
      refine (congrArg (fun g : Nat → Nat → Nat => lN (g 0 0)) (g70_)).trans ?_
      show lN (C1 70 0 0) = _
      refine (congrArg lN h70_).trans (ho.trans ?_)
      exact congrArg (fun n => (nI n).toInt64) (show (qdR C u3 (C 60 100 30)) = (qdR C u3 (C 60 100 30)) by first | rfl | omega | (split <;> omega))
    · obtain ⟨z20, z21, z22⟩ := z12
      have hlt_u3 : u3 < C 60 100 29 := by omega
      obtain ⟨p0_u3, p1_u3, p2_u3, p3_u3, p5_u3⟩ := sP u3 hlt_u3
      have pt_u3 := oTc u3
      have pc_u3 : (C 60 11 u3 = 0 ∧ C 9 u3 2 = 0) ∨ (C 60 11 u3 ≠ 0 ∧ C 9 u3 2 = C 60 5 u3) := by rw [p2_u3]; split <;> omega
      clear p2_u3
      exact absurd z6 (z20 _ (by omega))
  · unfold E6_queueLength at h6
    obtain ⟨z23, z24⟩ := h6
    obtain ⟨z25, z26, z27⟩ := z24
    obtain ⟨z28, z29⟩ := h7
    rcases z29 with z30 | z31
    · obtain ⟨m32, z33⟩ := z30
      obtain ⟨z34, z35, z36, z37⟩ := z33
      exact absurd z35 (z26 _ (by omega))
    · obtain ⟨z38, z39, z40⟩ := z31
      have hlo : ∀ kk : Nat, kk < 15 → C1 kk = (C) kk := fun kk h => congrFun z27.symm kk
      have hA_ : St5 A A2 := by rw [← z28]; exact w3
      rw [← z39, ← z40]
      refine ⟨agb_th hI hlo e6 e61 _ hA_, ?_⟩
      exact ⟨_, rfl, fun h => absurd h (by decide)⟩
set_option maxHeartbeats 4000000 in
theorem ag_logJob {A A1 A2 : AF} {C C1 C2 : CF} {x : Int32} {k : Nat} {v : Option Value}  (hI : Iv C) (h6 : W_logJob A C x k A1 C1) (h7 : K7_logJob A1 C1 x v A2 C2) : AgB A C k A2 C2 ∧ ∃ b : Int32, v = some (.int b) ∧ (k = 0 → lN (C2 70 0 0) = b.toInt64) := by
  obtain ⟨w1, w3, -⟩ := w_logJob h6
  have e6 : C1 60 = C 60 := w1 60 (by decide) (by decide)
  have e61 : C1 61 = C 61 := w1 61 (by decide) (by decide)
  obtain ⟨hS, hM, hL⟩ := id hI
  obtain ⟨⟨c3, c4, c5, c6, c7, c8⟩, sU, sP, sT, sJ, ⟨sl, sc⟩, sE, sC, sB⟩ := id hS
  obtain ⟨oU, oP, oJ, oTc, oY, o8, o9, o10, o11, o12, o13, o14, o15, oX, oQ, oB, oK, oS, oJk, oM, oCo, oSh, oLg, oPo, oLl, oL2, oL3, oL4, oLle, oE1, oE2, oE3, oE4⟩ := id hM.1
  unfold K7_logJob at h7
  rw [e6] at h7
  unfold W_logJob at h6
  rcases h6 with ⟨rfl, r, o, C9, ho, hC1, h6⟩ | ⟨rfl, h6⟩
  · unfold K6_logJob at h6
    obtain ⟨z1, z2⟩ := h6
    obtain ⟨u3, z4⟩ := z2
    obtain ⟨z5, z6, z7, z8⟩ := z4
    obtain ⟨z9, z10⟩ := h7
    rcases z10 with z11 | z12
    · obtain ⟨m13, z14⟩ := z11
      obtain ⟨z15, z16, z17, z18⟩ := z14
      have hlt_u3 : u3 < C 60 100 31 := by omega
      obtain ⟨g0_u3, g1_u3, g2_u3, g3_u3, g4_u3, g5_u3⟩ := sE u3 hlt_u3
      have e19 : u3 = m13 := nI_inj (by omega) (by omega) (z6.trans z16.symm)
      subst e19
      have hlo : ∀ kk : Nat, kk < 15 → C1 kk = (C) kk := fun kk h => (congrFun hC1.symm kk).trans ((up3_k (by omega)).trans (congrFun z7.symm kk))
      have hA_ : St5 A A2 := by rw [← z9]; exact w3
      rw [← z17, ← z18]
      refine ⟨agb_th hI hlo e6 e61 _ hA_, ?_⟩
      cases Option.some.inj z8
      have h70_ : C1 70 0 0 = o := by rw [← hC1]; exact up3_s
      refine ⟨_, rfl, fun _ => ?_⟩
      refine (congrArg (fun g : Nat → Nat → Nat => lN (g 0 0)) (up3_k (by decide))).trans ?_
      show lN (C1 70 0 0) = _
      refine (congrArg lN h70_).trans (ho.trans ?_)
      exact congrArg (fun n => (nI n).toInt64) (show (C 13 u3 0) = (C 60 21 u3) by first | rfl | omega | (split <;> omega))
    · obtain ⟨z20, z21, z22⟩ := z12
      have hlt_u3 : u3 < C 60 100 31 := by omega
      obtain ⟨g0_u3, g1_u3, g2_u3, g3_u3, g4_u3, g5_u3⟩ := sE u3 hlt_u3
      exact absurd z6 (z20 _ (by omega))
  · unfold E6_logJob at h6
    obtain ⟨z23, z24⟩ := h6
    obtain ⟨z25, z26, z27⟩ := z24
    obtain ⟨z28, z29⟩ := h7
    rcases z29 with z30 | z31
    · obtain ⟨m32, z33⟩ := z30
      obtain ⟨z34, z35, z36, z37⟩ := z33
      exact absurd z35 (z26 _ (by omega))
    · obtain ⟨z38, z39, z40⟩ := z31
      have hlo : ∀ kk : Nat, kk < 15 → C1 kk = (C) kk := fun kk h => congrFun z27.symm kk
      have hA_ : St5 A A2 := by rw [← z28]; exact w3
      rw [← z39, ← z40]
      refine ⟨agb_th hI hlo e6 e61 _ hA_, ?_⟩
      exact ⟨_, rfl, fun h => absurd h (by decide)⟩
set_option maxHeartbeats 4000000 in
theorem ag_logPrinter {A A1 A2 : AF} {C C1 C2 : CF} {x : Int32} {k : Nat} {v : Option Value}  (hI : Iv C) (h6 : W_logPrinter A C x k A1 C1) (h7 : K7_logPrinter A1 C1 x v A2 C2) : AgB A C k A2 C2 ∧ ∃ b : Int32, v = some (.int b) ∧ (k = 0 → lN (C2 70 0 0) = b.toInt64) := by
  obtain ⟨w1, w3, -⟩ := w_logPrinter h6
  have e6 : C1 60 = C 60 := w1 60 (by decide) (by decide)
  have e61 : C1 61 = C 61 := w1 61 (by decide) (by decide)
  obtain ⟨hS, hM, hL⟩ := id hI
  obtain ⟨⟨c3, c4, c5, c6, c7, c8⟩, sU, sP, sT, sJ, ⟨sl, sc⟩, sE, sC, sB⟩ := id hS
  obtain ⟨oU, oP, oJ, oTc, oY, o8, o9, o10, o11, o12, o13, o14, o15, oX, oQ, oB, oK, oS, oJk, oM, oCo, oSh, oLg, oPo, oLl, oL2, oL3, oL4, oLle, oE1, oE2, oE3, oE4⟩ := id hM.1
  unfold K7_logPrinter at h7
  rw [e6] at h7
  unfold W_logPrinter at h6
  rcases h6 with ⟨rfl, r, o, C9, ho, hC1, h6⟩ | ⟨rfl, h6⟩
  · unfold K6_logPrinter at h6
    obtain ⟨z1, z2⟩ := h6
    obtain ⟨u3, z4⟩ := z2
    obtain ⟨z5, z6, z7, z8⟩ := z4
    obtain ⟨z9, z10⟩ := h7
    rcases z10 with z11 | z12
    · obtain ⟨m13, z14⟩ := z11
      obtain ⟨z15, z16, z17, z18⟩ := z14
      have hlt_u3 : u3 < C 60 100 31 := by omega
      obtain ⟨g0_u3, g1_u3, g2_u3, g3_u3, g4_u3, g5_u3⟩ := sE u3 hlt_u3
      have e19 : u3 = m13 := nI_inj (by omega) (by omega) (z6.trans z16.symm)
      subst e19
      have hlo : ∀ kk : Nat, kk < 15 → C1 kk = (C) kk := fun kk h => (congrFun hC1.symm kk).trans ((up3_k (by omega)).trans (congrFun z7.symm kk))
      have hA_ : St5 A A2 := by rw [← z9]; exact w3
      rw [← z17, ← z18]
      refine ⟨agb_th hI hlo e6 e61 _ hA_, ?_⟩
      cases Option.some.inj z8
      have h70_ : C1 70 0 0 = o := by rw [← hC1]; exact up3_s
      refine ⟨_, rfl, fun _ => ?_⟩
      refine (congrArg (fun g : Nat → Nat → Nat => lN (g 0 0)) (up3_k (by decide))).trans ?_
      show lN (C1 70 0 0) = _
      refine (congrArg lN h70_).trans (ho.trans ?_)
      exact congrArg (fun n => (nI n).toInt64) (show (C 13 u3 2) = (C 60 22 u3) by first | rfl | omega | (split <;> omega))
    · obtain ⟨z20, z21, z22⟩ := z12
      have hlt_u3 : u3 < C 60 100 31 := by omega
      obtain ⟨g0_u3, g1_u3, g2_u3, g3_u3, g4_u3, g5_u3⟩ := sE u3 hlt_u3
      exact absurd z6 (z20 _ (by omega))
  · unfold E6_logPrinter at h6
    obtain ⟨z23, z24⟩ := h6
    obtain ⟨z25, z26, z27⟩ := z24
    obtain ⟨z28, z29⟩ := h7
    rcases z29 with z30 | z31
    · obtain ⟨m32, z33⟩ := z30
      obtain ⟨z34, z35, z36, z37⟩ := z33
      exact absurd z35 (z26 _ (by omega))
    · obtain ⟨z38, z39, z40⟩ := z31
      have hlo : ∀ kk : Nat, kk < 15 → C1 kk = (C) kk := fun kk h => congrFun z27.symm kk
      have hA_ : St5 A A2 := by rw [← z28]; exact w3
      rw [← z39, ← z40]
      refine ⟨agb_th hI hlo e6 e61 _ hA_, ?_⟩
      exact ⟨_, rfl, fun h => absurd h (by decide)⟩
set_option maxHeartbeats 4000000 in
theorem ag_logPages {A A1 A2 : AF} {C C1 C2 : CF} {x : Int32} {k : Nat} {v : Option Value}  (hI : Iv C) (h6 : W_logPages A C x k A1 C1) (h7 : K7_logPages A1 C1 x v A2 C2) : AgB A C k A2 C2 ∧ ∃ b : Int32, v = some (.int b) ∧ (k = 0 → lN (C2 70 0 0) = b.toInt64) := by
  obtain ⟨w1, w3, -⟩ := w_logPages h6
  have e6 : C1 60 = C 60 := w1 60 (by decide) (by decide)
  have e61 : C1 61 = C 61 := w1 61 (by decide) (by decide)
  obtain ⟨hS, hM, hL⟩ := id hI
  obtain ⟨⟨c3, c4, c5, c6, c7, c8⟩, sU, sP, sT, sJ, ⟨sl, sc⟩, sE, sC, sB⟩ := id hS
  obtain ⟨oU, oP, oJ, oTc, oY, o8, o9, o10, o11, o12, o13, o14, o15, oX, oQ, oB, oK, oS, oJk, oM, oCo, oSh, oLg, oPo, oLl, oL2, oL3, oL4, oLle, oE1, oE2, oE3, oE4⟩ := id hM.1
  unfold K7_logPages at h7
  rw [e6] at h7
  unfold W_logPages at h6
  rcases h6 with ⟨rfl, r, o, C9, ho, hC1, h6⟩ | ⟨rfl, h6⟩
  · unfold K6_logPages at h6
    obtain ⟨z1, z2⟩ := h6
    obtain ⟨u3, z4⟩ := z2
    obtain ⟨z5, z6, z7, z8⟩ := z4
    obtain ⟨z9, z10⟩ := h7
    rcases z10 with z11 | z12
    · obtain ⟨m13, z14⟩ := z11
      obtain ⟨z15, z16, z17, z18⟩ := z14
      have hlt_u3 : u3 < C 60 100 31 := by omega
      obtain ⟨g0_u3, g1_u3, g2_u3, g3_u3, g4_u3, g5_u3⟩ := sE u3 hlt_u3
      have e19 : u3 = m13 := nI_inj (by omega) (by omega) (z6.trans z16.symm)
      subst e19
      have hlo : ∀ kk : Nat, kk < 15 → C1 kk = (C) kk := fun kk h => (congrFun hC1.symm kk).trans ((up3_k (by omega)).trans (congrFun z7.symm kk))
      have hA_ : St5 A A2 := by rw [← z9]; exact w3
      rw [← z17, ← z18]
      refine ⟨agb_th hI hlo e6 e61 _ hA_, ?_⟩
      cases Option.some.inj z8
      have h70_ : C1 70 0 0 = o := by rw [← hC1]; exact up3_s
      refine ⟨_, rfl, fun _ => ?_⟩
      refine (congrArg (fun g : Nat → Nat → Nat => lN (g 0 0)) (up3_k (by decide))).trans ?_
      show lN (C1 70 0 0) = _
      refine (congrArg lN h70_).trans (ho.trans ?_)
      exact congrArg (fun n => (nI n).toInt64) (show (C 13 u3 3) = (C 60 23 u3) by first | rfl | omega | (split <;> omega))
    · obtain ⟨z20, z21, z22⟩ := z12
      have hlt_u3 : u3 < C 60 100 31 := by omega
      obtain ⟨g0_u3, g1_u3, g2_u3, g3_u3, g4_u3, g5_u3⟩ := sE u3 hlt_u3
      exact absurd z6 (z20 _ (by omega))
  · unfold E6_logPages at h6
    obtain ⟨z23, z24⟩ := h6
    obtain ⟨z25, z26, z27⟩ := z24
    obtain ⟨z28, z29⟩ := h7
    rcases z29 with z30 | z31
    · obtain ⟨m32, z33⟩ := z30
      obtain ⟨z34, z35, z36, z37⟩ := z33
      exact absurd z35 (z26 _ (by omega))
    · obtain ⟨z38, z39, z40⟩ := z31
      have hlo : ∀ kk : Nat, kk < 15 → C1 kk = (C) kk := fun kk h => congrFun z27.symm kk
      have hA_ : St5 A A2 := by rw [← z28]; exact w3
      rw [← z39, ← z40]
      refine ⟨agb_th hI hlo e6 e61 _ hA_, ?_⟩
      exact ⟨_, rfl, fun h => absurd h (by decide)⟩
set_option maxHeartbeats 4000000 in
theorem ag_logSheets {A A1 A2 : AF} {C C1 C2 : CF} {x : Int32} {k : Nat} {v : Option Value}  (hI : Iv C) (h6 : W_logSheets A C x k A1 C1) (h7 : K7_logSheets A1 C1 x v A2 C2) : AgB A C k A2 C2 ∧ ∃ b : Int32, v = some (.int b) ∧ (k = 0 → lN (C2 70 0 0) = b.toInt64) := by
  obtain ⟨w1, w3, -⟩ := w_logSheets h6
  have e6 : C1 60 = C 60 := w1 60 (by decide) (by decide)
  have e61 : C1 61 = C 61 := w1 61 (by decide) (by decide)
  obtain ⟨hS, hM, hL⟩ := id hI
  obtain ⟨⟨c3, c4, c5, c6, c7, c8⟩, sU, sP, sT, sJ, ⟨sl, sc⟩, sE, sC, sB⟩ := id hS
  obtain ⟨oU, oP, oJ, oTc, oY, o8, o9, o10, o11, o12, o13, o14, o15, oX, oQ, oB, oK, oS, oJk, oM, oCo, oSh, oLg, oPo, oLl, oL2, oL3, oL4, oLle, oE1, oE2, oE3, oE4⟩ := id hM.1
  unfold K7_logSheets at h7
  rw [e6] at h7
  unfold W_logSheets at h6
  rcases h6 with ⟨rfl, r, o, C9, ho, hC1, h6⟩ | ⟨rfl, h6⟩
  · unfold K6_logSheets at h6
    obtain ⟨z1, z2⟩ := h6
    obtain ⟨u3, z4⟩ := z2
    obtain ⟨z5, z6, z7, z8⟩ := z4
    obtain ⟨z9, z10⟩ := h7
    rcases z10 with z11 | z12
    · obtain ⟨m13, z14⟩ := z11
      obtain ⟨z15, z16, z17, z18⟩ := z14
      have hlt_u3 : u3 < C 60 100 31 := by omega
      obtain ⟨g0_u3, g1_u3, g2_u3, g3_u3, g4_u3, g5_u3⟩ := sE u3 hlt_u3
      have e19 : u3 = m13 := nI_inj (by omega) (by omega) (z6.trans z16.symm)
      subst e19
      have hlo : ∀ kk : Nat, kk < 15 → C1 kk = (C) kk := fun kk h => (congrFun hC1.symm kk).trans ((up3_k (by omega)).trans (congrFun z7.symm kk))
      have hA_ : St5 A A2 := by rw [← z9]; exact w3
      rw [← z17, ← z18]
      refine ⟨agb_th hI hlo e6 e61 _ hA_, ?_⟩
      cases Option.some.inj z8
      have h70_ : C1 70 0 0 = o := by rw [← hC1]; exact up3_s
      refine ⟨_, rfl, fun _ => ?_⟩
      refine (congrArg (fun g : Nat → Nat → Nat => lN (g 0 0)) (up3_k (by decide))).trans ?_
      show lN (C1 70 0 0) = _
      refine (congrArg lN h70_).trans (ho.trans ?_)
      exact congrArg (fun n => (nI n).toInt64) (show (C 13 u3 4) = (C 60 24 u3) by first | rfl | omega | (split <;> omega))
    · obtain ⟨z20, z21, z22⟩ := z12
      have hlt_u3 : u3 < C 60 100 31 := by omega
      obtain ⟨g0_u3, g1_u3, g2_u3, g3_u3, g4_u3, g5_u3⟩ := sE u3 hlt_u3
      exact absurd z6 (z20 _ (by omega))
  · unfold E6_logSheets at h6
    obtain ⟨z23, z24⟩ := h6
    obtain ⟨z25, z26, z27⟩ := z24
    obtain ⟨z28, z29⟩ := h7
    rcases z29 with z30 | z31
    · obtain ⟨m32, z33⟩ := z30
      obtain ⟨z34, z35, z36, z37⟩ := z33
      exact absurd z35 (z26 _ (by omega))
    · obtain ⟨z38, z39, z40⟩ := z31
      have hlo : ∀ kk : Nat, kk < 15 → C1 kk = (C) kk := fun kk h => congrFun z27.symm kk
      have hA_ : St5 A A2 := by rw [← z28]; exact w3
      rw [← z39, ← z40]
      refine ⟨agb_th hI hlo e6 e61 _ hA_, ?_⟩
      exact ⟨_, rfl, fun h => absurd h (by decide)⟩
set_option maxHeartbeats 4000000 in
theorem ag_pagesOf {A A1 A2 : AF} {C C1 C2 : CF} {x : Int32} {k : Nat} {v : Option Value}  (hI : Iv C) (h6 : W_pagesOf A C x k A1 C1) (h7 : K7_pagesOf A1 C1 x v A2 C2) : AgB A C k A2 C2 ∧ ∃ b : Int32, v = some (.int b) ∧ (k = 0 → lN (C2 70 0 0) = b.toInt64) := by
  obtain ⟨w1, w3, -⟩ := w_pagesOf h6
  have e6 : C1 60 = C 60 := w1 60 (by decide) (by decide)
  have e61 : C1 61 = C 61 := w1 61 (by decide) (by decide)
  obtain ⟨hS, hM, hL⟩ := id hI
  obtain ⟨⟨c3, c4, c5, c6, c7, c8⟩, sU, sP, sT, sJ, ⟨sl, sc⟩, sE, sC, sB⟩ := id hS
  obtain ⟨oU, oP, oJ, oTc, oY, o8, o9, o10, o11, o12, o13, o14, o15, oX, oQ, oB, oK, oS, oJk, oM, oCo, oSh, oLg, oPo, oLl, oL2, oL3, oL4, oLle, oE1, oE2, oE3, oE4⟩ := id hM.1
  unfold K7_pagesOf at h7
  rw [e6] at h7
  unfold W_pagesOf at h6
  rcases h6 with ⟨rfl, r, o, C9, ho, hC1, h6⟩ | ⟨rfl, h6⟩
  · unfold K6_pagesOf at h6
    obtain ⟨z1, z2⟩ := h6
    obtain ⟨u3, z4⟩ := z2
    obtain ⟨z5, z6, z7, z8⟩ := z4
    obtain ⟨z9, z10⟩ := h7
    rcases z10 with z11 | z12
    · obtain ⟨m13, z14⟩ := z11
      obtain ⟨z15, z16, z17, z18⟩ := z14
      have hlt_u3 : u3 < C 60 100 28 := by omega
      obtain ⟨q0_u3, q1_u3, q2_u3, q3_u3⟩ := sU u3 hlt_u3
      have e19 : u3 = m13 := nI_inj (by omega) (by omega) (z6.trans z16.symm)
      subst e19
      have hlo : ∀ kk : Nat, kk < 15 → C1 kk = (C) kk := fun kk h => (congrFun hC1.symm kk).trans ((up3_k (by omega)).trans (congrFun z7.symm kk))
      have hA_ : St5 A A2 := by rw [← z9]; exact w3
      rw [← z17, ← z18]
      refine ⟨agb_th hI hlo e6 e61 _ hA_, ?_⟩
      cases Option.some.inj z8
      have h70_ : C1 70 0 0 = o := by rw [← hC1]; exact up3_s
      refine ⟨_, rfl, fun _ => ?_⟩
      refine (congrArg (fun g : Nat → Nat → Nat => lN (g 0 0)) (up3_k (by decide))).trans ?_
      show lN (C1 70 0 0) = _
      refine (congrArg lN h70_).trans (ho.trans ?_)
      exact congrArg (fun n => (nI n).toInt64) (show (C 10 u3 2) = (C 60 1 u3) by first | rfl | omega | (split <;> omega))
    · obtain ⟨z20, z21, z22⟩ := z12
      have hlt_u3 : u3 < C 60 100 28 := by omega
      obtain ⟨q0_u3, q1_u3, q2_u3, q3_u3⟩ := sU u3 hlt_u3
      exact absurd z6 (z20 _ (by omega))
  · unfold E6_pagesOf at h6
    obtain ⟨z23, z24⟩ := h6
    obtain ⟨z25, z26, z27⟩ := z24
    obtain ⟨z28, z29⟩ := h7
    rcases z29 with z30 | z31
    · obtain ⟨m32, z33⟩ := z30
      obtain ⟨z34, z35, z36, z37⟩ := z33
      exact absurd z35 (z26 _ (by omega))
    · obtain ⟨z38, z39, z40⟩ := z31
      have hlo : ∀ kk : Nat, kk < 15 → C1 kk = (C) kk := fun kk h => congrFun z27.symm kk
      have hA_ : St5 A A2 := by rw [← z28]; exact w3
      rw [← z39, ← z40]
      refine ⟨agb_th hI hlo e6 e61 _ hA_, ?_⟩
      exact ⟨_, rfl, fun h => absurd h (by decide)⟩
set_option maxHeartbeats 4000000 in
theorem ag_pagesByLog {A A1 A2 : AF} {C C1 C2 : CF} {x : Int32} {k : Nat} {v : Option Value}  (hI : Iv C) (h6 : W_pagesByLog A C x k A1 C1) (h7 : K7_pagesByLog A1 C1 x v A2 C2) : AgB A C k A2 C2 ∧ ∃ b : Int32, v = some (.int b) ∧ (k = 0 → lN (C2 70 0 0) = b.toInt64) := by
  obtain ⟨w1, w3, -⟩ := w_pagesByLog h6
  have e6 : C1 60 = C 60 := w1 60 (by decide) (by decide)
  have e61 : C1 61 = C 61 := w1 61 (by decide) (by decide)
  obtain ⟨hS, hM, hL⟩ := id hI
  obtain ⟨⟨c3, c4, c5, c6, c7, c8⟩, sU, sP, sT, sJ, ⟨sl, sc⟩, sE, sC, sB⟩ := id hS
  obtain ⟨oU, oP, oJ, oTc, oY, o8, o9, o10, o11, o12, o13, o14, o15, oX, oQ, oB, oK, oS, oJk, oM, oCo, oSh, oLg, oPo, oLl, oL2, oL3, oL4, oLle, oE1, oE2, oE3, oE4⟩ := id hM.1
  unfold K7_pagesByLog at h7
  rw [e6] at h7
  unfold W_pagesByLog at h6
  rcases h6 with ⟨rfl, r, o, C9, ho, hC1, h6⟩ | ⟨rfl, h6⟩
  · unfold K6_pagesByLog at h6
    obtain ⟨z1, z2⟩ := h6
    obtain ⟨u3, z4⟩ := z2
    obtain ⟨z5, z6, z7, z8⟩ := z4
    obtain ⟨z9, z10⟩ := h7
    rcases z10 with z11 | z12
    · obtain ⟨m13, z14⟩ := z11
      obtain ⟨z15, z16, z17, z18⟩ := z14
      have hlt_u3 : u3 < C 60 100 28 := by omega
      obtain ⟨q0_u3, q1_u3, q2_u3, q3_u3⟩ := sU u3 hlt_u3
      have e19 : u3 = m13 := nI_inj (by omega) (by omega) (z6.trans z16.symm)
      subst e19
      have hlo : ∀ kk : Nat, kk < 15 → C1 kk = (C) kk := fun kk h => (congrFun hC1.symm kk).trans ((up3_k (by omega)).trans (congrFun z7.symm kk))
      have hA_ : St5 A A2 := by rw [← z9]; exact w3
      rw [← z17, ← z18]
      refine ⟨agb_th hI hlo e6 e61 _ hA_, ?_⟩
      cases Option.some.inj z8
      have h70_ : C1 70 0 0 = o := by rw [← hC1]; exact up3_s
      refine ⟨_, rfl, fun _ => ?_⟩
      refine (congrArg (fun g : Nat → Nat → Nat => lN (g 0 0)) (up3_k (by decide))).trans ?_
      show lN (C1 70 0 0) = _
      refine (congrArg lN h70_).trans (ho.trans ?_)
      exact congrArg (fun n => (nI n).toInt64) (show (C 60 1 u3) = (C 60 1 u3) by first | rfl | omega | (split <;> omega))
    · obtain ⟨z20, z21, z22⟩ := z12
      have hlt_u3 : u3 < C 60 100 28 := by omega
      obtain ⟨q0_u3, q1_u3, q2_u3, q3_u3⟩ := sU u3 hlt_u3
      exact absurd z6 (z20 _ (by omega))
  · unfold E6_pagesByLog at h6
    obtain ⟨z23, z24⟩ := h6
    obtain ⟨z25, z26, z27⟩ := z24
    obtain ⟨z28, z29⟩ := h7
    rcases z29 with z30 | z31
    · obtain ⟨m32, z33⟩ := z30
      obtain ⟨z34, z35, z36, z37⟩ := z33
      exact absurd z35 (z26 _ (by omega))
    · obtain ⟨z38, z39, z40⟩ := z31
      have hlo : ∀ kk : Nat, kk < 15 → C1 kk = (C) kk := fun kk h => congrFun z27.symm kk
      have hA_ : St5 A A2 := by rw [← z28]; exact w3
      rw [← z39, ← z40]
      refine ⟨agb_th hI hlo e6 e61 _ hA_, ?_⟩
      exact ⟨_, rfl, fun h => absurd h (by decide)⟩
set_option maxHeartbeats 4000000 in
theorem ag_billOf {A A1 A2 : AF} {C C1 C2 : CF} {x : Int32} {k : Nat} {v : Option Value}  (hI : Iv C) (h6 : W_billOf A C x k A1 C1) (h7 : K7_billOf A1 C1 x v A2 C2) : AgB A C k A2 C2 ∧ ∃ b : Int64, v = some (.long b) ∧ (k = 0 → lN (C2 70 0 0) = b) := by
  obtain ⟨w1, w3, -⟩ := w_billOf h6
  have e6 : C1 60 = C 60 := w1 60 (by decide) (by decide)
  have e61 : C1 61 = C 61 := w1 61 (by decide) (by decide)
  obtain ⟨hS, hM, hL⟩ := id hI
  obtain ⟨⟨c3, c4, c5, c6, c7, c8⟩, sU, sP, sT, sJ, ⟨sl, sc⟩, sE, sC, sB⟩ := id hS
  obtain ⟨oU, oP, oJ, oTc, oY, o8, o9, o10, o11, o12, o13, o14, o15, oX, oQ, oB, oK, oS, oJk, oM, oCo, oSh, oLg, oPo, oLl, oL2, oL3, oL4, oLle, oE1, oE2, oE3, oE4⟩ := id hM.1
  unfold K7_billOf at h7
  rw [e6] at h7
  unfold W_billOf at h6
  rcases h6 with ⟨rfl, r, o, C9, ho, hC1, h6⟩ | ⟨rfl, h6⟩
  · unfold K6_billOf at h6
    obtain ⟨z1, z2⟩ := h6
    obtain ⟨u3, z4⟩ := z2
    obtain ⟨z5, z6, z7, z8⟩ := z4
    obtain ⟨z9, z10⟩ := h7
    rcases z10 with z11 | z12
    · obtain ⟨m13, z14⟩ := z11
      obtain ⟨z15, z16, z17, z18⟩ := z14
      have hlt_u3 : u3 < C 60 100 28 := by omega
      obtain ⟨q0_u3, q1_u3, q2_u3, q3_u3⟩ := sU u3 hlt_u3
      have e19 : u3 = m13 := nI_inj (by omega) (by omega) (z6.trans z16.symm)
      subst e19
      have hlo : ∀ kk : Nat, kk < 15 → C1 kk = (C) kk := fun kk h => (congrFun hC1.symm kk).trans ((up3_k (by omega)).trans (congrFun z7.symm kk))
      have hA_ : St5 A A2 := by rw [← z9]; exact w3
      rw [← z17, ← z18]
      refine ⟨agb_th hI hlo e6 e61 _ hA_, ?_⟩
      cases Option.some.inj z8
      have h70_ : C1 70 0 0 = o := by rw [← hC1]; exact up3_s
      refine ⟨_, rfl, fun _ => ?_⟩
      refine (congrArg (fun g : Nat → Nat → Nat => lN (g 0 0)) (up3_k (by decide))).trans ?_
      show lN (C1 70 0 0) = _
      refine (congrArg lN h70_).trans (ho.trans ?_)
      exact congrArg lN (show (C 10 u3 3) = (C 60 7 u3) by first | rfl | omega)
    · obtain ⟨z20, z21, z22⟩ := z12
      have hlt_u3 : u3 < C 60 100 28 := by omega
      obtain ⟨q0_u3, q1_u3, q2_u3, q3_u3⟩ := sU u3 hlt_u3
      exact absurd z6 (z20 _ (by omega))
  · unfold E6_billOf at h6
    obtain ⟨z23, z24⟩ := h6
    obtain ⟨z25, z26, z27⟩ := z24
    obtain ⟨z28, z29⟩ := h7
    rcases z29 with z30 | z31
    · obtain ⟨m32, z33⟩ := z30
      obtain ⟨z34, z35, z36, z37⟩ := z33
      exact absurd z35 (z26 _ (by omega))
    · obtain ⟨z38, z39, z40⟩ := z31
      have hlo : ∀ kk : Nat, kk < 15 → C1 kk = (C) kk := fun kk h => congrFun z27.symm kk
      have hA_ : St5 A A2 := by rw [← z28]; exact w3
      rw [← z39, ← z40]
      refine ⟨agb_th hI hlo e6 e61 _ hA_, ?_⟩
      exact ⟨_, rfl, fun h => absurd h (by decide)⟩
set_option maxHeartbeats 4000000 in
theorem ag_billByLog {A A1 A2 : AF} {C C1 C2 : CF} {x : Int32} {k : Nat} {v : Option Value}  (hI : Iv C) (h6 : W_billByLog A C x k A1 C1) (h7 : K7_billByLog A1 C1 x v A2 C2) : AgB A C k A2 C2 ∧ ∃ b : Int64, v = some (.long b) ∧ (k = 0 → lN (C2 70 0 0) = b) := by
  obtain ⟨w1, w3, -⟩ := w_billByLog h6
  have e6 : C1 60 = C 60 := w1 60 (by decide) (by decide)
  have e61 : C1 61 = C 61 := w1 61 (by decide) (by decide)
  obtain ⟨hS, hM, hL⟩ := id hI
  obtain ⟨⟨c3, c4, c5, c6, c7, c8⟩, sU, sP, sT, sJ, ⟨sl, sc⟩, sE, sC, sB⟩ := id hS
  obtain ⟨oU, oP, oJ, oTc, oY, o8, o9, o10, o11, o12, o13, o14, o15, oX, oQ, oB, oK, oS, oJk, oM, oCo, oSh, oLg, oPo, oLl, oL2, oL3, oL4, oLle, oE1, oE2, oE3, oE4⟩ := id hM.1
  unfold K7_billByLog at h7
  rw [e6] at h7
  unfold W_billByLog at h6
  rcases h6 with ⟨rfl, r, o, C9, ho, hC1, h6⟩ | ⟨rfl, h6⟩
  · unfold K6_billByLog at h6
    obtain ⟨z1, z2⟩ := h6
    obtain ⟨u3, z4⟩ := z2
    obtain ⟨z5, z6, z7, z8⟩ := z4
    obtain ⟨z9, z10⟩ := h7
    rcases z10 with z11 | z12
    · obtain ⟨m13, z14⟩ := z11
      obtain ⟨z15, z16, z17, z18⟩ := z14
      have hlt_u3 : u3 < C 60 100 28 := by omega
      obtain ⟨q0_u3, q1_u3, q2_u3, q3_u3⟩ := sU u3 hlt_u3
      have e19 : u3 = m13 := nI_inj (by omega) (by omega) (z6.trans z16.symm)
      subst e19
      have hlo : ∀ kk : Nat, kk < 15 → C1 kk = (C) kk := fun kk h => (congrFun hC1.symm kk).trans ((up3_k (by omega)).trans (congrFun z7.symm kk))
      have hA_ : St5 A A2 := by rw [← z9]; exact w3
      rw [← z17, ← z18]
      refine ⟨agb_th hI hlo e6 e61 _ hA_, ?_⟩
      cases Option.some.inj z8
      have h70_ : C1 70 0 0 = o := by rw [← hC1]; exact up3_s
      refine ⟨_, rfl, fun _ => ?_⟩
      refine (congrArg (fun g : Nat → Nat → Nat => lN (g 0 0)) (up3_k (by decide))).trans ?_
      show lN (C1 70 0 0) = _
      refine (congrArg lN h70_).trans (ho.trans ?_)
      exact congrArg lN (show (C 60 7 u3) = (C 60 7 u3) by first | rfl | omega)
    · obtain ⟨z20, z21, z22⟩ := z12
      have hlt_u3 : u3 < C 60 100 28 := by omega
      obtain ⟨q0_u3, q1_u3, q2_u3, q3_u3⟩ := sU u3 hlt_u3
      exact absurd z6 (z20 _ (by omega))
  · unfold E6_billByLog at h6
    obtain ⟨z23, z24⟩ := h6
    obtain ⟨z25, z26, z27⟩ := z24
    obtain ⟨z28, z29⟩ := h7
    rcases z29 with z30 | z31
    · obtain ⟨m32, z33⟩ := z30
      obtain ⟨z34, z35, z36, z37⟩ := z33
      exact absurd z35 (z26 _ (by omega))
    · obtain ⟨z38, z39, z40⟩ := z31
      have hlo : ∀ kk : Nat, kk < 15 → C1 kk = (C) kk := fun kk h => congrFun z27.symm kk
      have hA_ : St5 A A2 := by rw [← z28]; exact w3
      rw [← z39, ← z40]
      refine ⟨agb_th hI hlo e6 e61 _ hA_, ?_⟩
      exact ⟨_, rfl, fun h => absurd h (by decide)⟩
end KAG
theorem q2R_mono (C : CF) (p r a : Nat) : ∀ d : Nat, q2R C p r a ≤ q2R C p r (a + d)
  | 0 => Nat.le_refl _
  | d + 1 => Nat.le_trans (q2R_mono C p r a d) (Nat.le_add_right _ _)
theorem q2R_lt {C : CF} {p r a n : Nat} (h : rkR C a p = r) (hn : a < n) : q2R C p r a < q2R C p r n := by
  have h1 := q2R_1 (C := C) (p := p) h
  have h2 := q2R_mono C p r (a + 1) (n - (a + 1))
  rw [show a + 1 + (n - (a + 1)) = n by omega] at h2
  omega
theorem q2R_inj {C : CF} {p r a b : Nat} (ha : rkR C a p = r) (hb : rkR C b p = r) (h : q2R C p r a = q2R C p r b) : a = b := by
  rcases Nat.lt_trichotomy a b with z | z | z
  · have := q2R_lt ha z
    omega
  · exact z
  · have := q2R_lt hb z
    omega
set_option maxHeartbeats 4000000 in
theorem ag_queueAt {A A1 A2 : AF} {C C1 C2 : CF} {x : Int32} {y : Int32} {k : Nat} {v : Option Value}  (hI : Iv C) (h6 : W_queueAt A C x y k A1 C1) (h7 : K7_queueAt A1 C1 x y v A2 C2) : AgB A C k A2 C2 ∧ ∃ b : Int32, v = some (.int b) ∧ (k = 0 → lN (C2 70 0 0) = b.toInt64) := by
  obtain ⟨w1, w3, -⟩ := w_queueAt h6
  have e6 : C1 60 = C 60 := w1 60 (by decide) (by decide)
  have e61 : C1 61 = C 61 := w1 61 (by decide) (by decide)
  obtain ⟨hS, hM, hL⟩ := id hI
  obtain ⟨⟨c3, c4, c5, c6, c7, c8⟩, sU, sP, sT, sJ, ⟨sl, sc⟩, sE, sC, sB⟩ := id hS
  obtain ⟨oU, oP, oJ, oTc, oY, o8, o9, o10, o11, o12, o13, o14, o15, oX, oQ, oB, oK, oS, oJk, oM, oCo, oSh, oLg, oPo, oLl, oL2, oL3, oL4, oLle, oE1, oE2, oE3, oE4⟩ := id hM.1
  unfold K7_queueAt at h7
  simp only [qdR_q e6, q2R_q e6, rkR_q e6] at h7
  rw [e6] at h7
  unfold W_queueAt at h6
  rcases h6 with ⟨rfl, r, o, C9, ho, hC1, h6⟩ | ⟨rfl, h6⟩ | ⟨rfl, h6⟩
  · unfold K6_queueAt at h6
    obtain ⟨z1, z2⟩ := h6
    rcases z2 with z3 | z4
    · obtain ⟨u5, u6, z7⟩ := z3
      obtain ⟨z8, z9, z10, z11, z12, z13, z14⟩ := z7
      obtain ⟨z15, z16⟩ := h7
      rcases z16 with z17 | z18 | z19 | z20
      · obtain ⟨m21, m22, m23, z24⟩ := z17
        obtain ⟨z25, z26, z27, z28, z29, z30, z31, z32, z33⟩ := z24
        have hlt_u5 : u5 < C 60 100 29 := by omega
        obtain ⟨p0_u5, p1_u5, p2_u5, p3_u5, p5_u5⟩ := sP u5 hlt_u5
        have pt_u5 := oTc u5
        have pc_u5 : (C 60 11 u5 = 0 ∧ C 9 u5 2 = 0) ∨ (C 60 11 u5 ≠ 0 ∧ C 9 u5 2 = C 60 5 u5) := by rw [p2_u5]; split <;> omega
        clear p2_u5
        have hlt_u6 : u6 < C 60 100 30 := by omega
        obtain ⟨j0_u6, j1_u6, j2_u6, j3_u6, j4_u6, j5_u6, j6_u6, j7_u6, j8_u6, j9_u6, j10_u6, j11_u6, j12_u6, j13_u6⟩ := sJ u6 hlt_u6
        obtain ⟨jb1_u6, jb2_u6, jb3_u6⟩ := jb hI hlt_u6
        have e34 : u5 = m21 := nI_inj (by omega) (by omega) (z9.trans z26.symm)
        subst e34
        have l6_ := q2R_lt z11 z10
        have b1_ := q2R_le C u5 1 (C 60 100 30)
        have b2_ := q2R_le C u5 2 (C 60 100 30)
        have b3_ := q12 C u5 (C 60 100 30)
        have l7_ := q2R_lt z29 z30
        have hw_ := nI_inj (by omega) (by omega) (z12.trans z28.symm)
        have e35 : u6 = m23 := q2R_inj z11 z29 (by omega)
        subst e35
        obtain ⟨w_, hw_⟩ := z13
        have hlo : ∀ kk : Nat, kk < 15 → C1 kk = (P6 C w_) kk := fun kk h => (congrFun hC1.symm kk).trans ((up3_k (by omega)).trans (congrFun hw_.symm kk))
        have hA_ : St5 A A2 := by rw [← z15]; exact w3
        obtain ⟨gb_, g70_⟩ := agb_sc hI hlo e6 e61 z32 hA_
        rw [← z33]
        refine ⟨gb_, ?_⟩
        cases Option.some.inj z14
        have h70_ : C1 70 0 0 = o := by rw [← hC1]; exact up3_s
        refine ⟨_, rfl, fun _ => ?_⟩
        refine (congrArg (fun g : Nat → Nat → Nat => lN (g 0 0)) (g70_)).trans ?_
        show lN (C1 70 0 0) = _
        refine (congrArg lN h70_).trans (ho.trans ?_)
        rfl
      · obtain ⟨m36, m37, m38, z39⟩ := z18
        obtain ⟨z40, z41, z42, z43, z44, z45, z46, z47, z48⟩ := z39
        have hlt_u5 : u5 < C 60 100 29 := by omega
        obtain ⟨p0_u5, p1_u5, p2_u5, p3_u5, p5_u5⟩ := sP u5 hlt_u5
        have pt_u5 := oTc u5
        have pc_u5 : (C 60 11 u5 = 0 ∧ C 9 u5 2 = 0) ∨ (C 60 11 u5 ≠ 0 ∧ C 9 u5 2 = C 60 5 u5) := by rw [p2_u5]; split <;> omega
        clear p2_u5
        have hlt_u6 : u6 < C 60 100 30 := by omega
        obtain ⟨j0_u6, j1_u6, j2_u6, j3_u6, j4_u6, j5_u6, j6_u6, j7_u6, j8_u6, j9_u6, j10_u6, j11_u6, j12_u6, j13_u6⟩ := sJ u6 hlt_u6
        obtain ⟨jb1_u6, jb2_u6, jb3_u6⟩ := jb hI hlt_u6
        have e49 : u5 = m36 := nI_inj (by omega) (by omega) (z9.trans z41.symm)
        subst e49
        have l6_ := q2R_lt z11 z10
        have b1_ := q2R_le C u5 1 (C 60 100 30)
        have b2_ := q2R_le C u5 2 (C 60 100 30)
        have b3_ := q12 C u5 (C 60 100 30)
        have l7_ := q2R_lt z44 z45
        have hw_ := nI_inj (by omega) (by omega) (z12.trans z43.symm)
        omega
      · obtain ⟨m50, z51⟩ := z19
        obtain ⟨z52, z53, z54, z55, z56⟩ := z51
        have hlt_u5 : u5 < C 60 100 29 := by omega
        obtain ⟨p0_u5, p1_u5, p2_u5, p3_u5, p5_u5⟩ := sP u5 hlt_u5
        have pt_u5 := oTc u5
        have pc_u5 : (C 60 11 u5 = 0 ∧ C 9 u5 2 = 0) ∨ (C 60 11 u5 ≠ 0 ∧ C 9 u5 2 = C 60 5 u5) := by rw [p2_u5]; split <;> omega
        clear p2_u5
        have hlt_u6 : u6 < C 60 100 30 := by omega
        obtain ⟨j0_u6, j1_u6, j2_u6, j3_u6, j4_u6, j5_u6, j6_u6, j7_u6, j8_u6, j9_u6, j10_u6, j11_u6, j12_u6, j13_u6⟩ := sJ u6 hlt_u6
        obtain ⟨jb1_u6, jb2_u6, jb3_u6⟩ := jb hI hlt_u6
        have e57 : u5 = m50 := nI_inj (by omega) (by omega) (z9.trans z53.symm)
        subst e57
        have l6_ := q2R_lt z11 z10
        have b1_ := q2R_le C u5 1 (C 60 100 30)
        have b2_ := q2R_le C u5 2 (C 60 100 30)
        have b3_ := q12 C u5 (C 60 100 30)
        exact absurd z12 (z54 _ (by omega))
      · obtain ⟨z58, z59, z60⟩ := z20
        have hlt_u5 : u5 < C 60 100 29 := by omega
        obtain ⟨p0_u5, p1_u5, p2_u5, p3_u5, p5_u5⟩ := sP u5 hlt_u5
        have pt_u5 := oTc u5
        have pc_u5 : (C 60 11 u5 = 0 ∧ C 9 u5 2 = 0) ∨ (C 60 11 u5 ≠ 0 ∧ C 9 u5 2 = C 60 5 u5) := by rw [p2_u5]; split <;> omega
        clear p2_u5
        have hlt_u6 : u6 < C 60 100 30 := by omega
        obtain ⟨j0_u6, j1_u6, j2_u6, j3_u6, j4_u6, j5_u6, j6_u6, j7_u6, j8_u6, j9_u6, j10_u6, j11_u6, j12_u6, j13_u6⟩ := sJ u6 hlt_u6
        obtain ⟨jb1_u6, jb2_u6, jb3_u6⟩ := jb hI hlt_u6
        exact absurd z9 (z58 _ (by omega))
    · obtain ⟨u61, u62, z63⟩ := z4
      obtain ⟨z64, z65, z66, z67, z68, z69, z70⟩ := z63
      obtain ⟨z71, z72⟩ := h7
      rcases z72 with z73 | z74 | z75 | z76
      · obtain ⟨m77, m78, m79, z80⟩ := z73
        obtain ⟨z81, z82, z83, z84, z85, z86, z87, z88, z89⟩ := z80
        have hlt_u61 : u61 < C 60 100 29 := by omega
        obtain ⟨p0_u61, p1_u61, p2_u61, p3_u61, p5_u61⟩ := sP u61 hlt_u61
        have pt_u61 := oTc u61
        have pc_u61 : (C 60 11 u61 = 0 ∧ C 9 u61 2 = 0) ∨ (C 60 11 u61 ≠ 0 ∧ C 9 u61 2 = C 60 5 u61) := by rw [p2_u61]; split <;> omega
        clear p2_u61
        have hlt_u62 : u62 < C 60 100 30 := by omega
        obtain ⟨j0_u62, j1_u62, j2_u62, j3_u62, j4_u62, j5_u62, j6_u62, j7_u62, j8_u62, j9_u62, j10_u62, j11_u62, j12_u62, j13_u62⟩ := sJ u62 hlt_u62
        obtain ⟨jb1_u62, jb2_u62, jb3_u62⟩ := jb hI hlt_u62
        have e90 : u61 = m77 := nI_inj (by omega) (by omega) (z65.trans z82.symm)
        subst e90
        have l6_ := q2R_lt z67 z66
        have b1_ := q2R_le C u61 1 (C 60 100 30)
        have b2_ := q2R_le C u61 2 (C 60 100 30)
        have b3_ := q12 C u61 (C 60 100 30)
        have l7_ := q2R_lt z85 z86
        have hw_ := nI_inj (by omega) (by omega) (z68.trans z84.symm)
        omega
      · obtain ⟨m91, m92, m93, z94⟩ := z74
        obtain ⟨z95, z96, z97, z98, z99, z100, z101, z102, z103⟩ := z94
        have hlt_u61 : u61 < C 60 100 29 := by omega
        obtain ⟨p0_u61, p1_u61, p2_u61, p3_u61, p5_u61⟩ := sP u61 hlt_u61
        have pt_u61 := oTc u61
        have pc_u61 : (C 60 11 u61 = 0 ∧ C 9 u61 2 = 0) ∨ (C 60 11 u61 ≠ 0 ∧ C 9 u61 2 = C 60 5 u61) := by rw [p2_u61]; split <;> omega
        clear p2_u61
        have hlt_u62 : u62 < C 60 100 30 := by omega
        obtain ⟨j0_u62, j1_u62, j2_u62, j3_u62, j4_u62, j5_u62, j6_u62, j7_u62, j8_u62, j9_u62, j10_u62, j11_u62, j12_u62, j13_u62⟩ := sJ u62 hlt_u62
        obtain ⟨jb1_u62, jb2_u62, jb3_u62⟩ := jb hI hlt_u62
        have e104 : u61 = m91 := nI_inj (by omega) (by omega) (z65.trans z96.symm)
        subst e104
        have l6_ := q2R_lt z67 z66
        have b1_ := q2R_le C u61 1 (C 60 100 30)
        have b2_ := q2R_le C u61 2 (C 60 100 30)
        have b3_ := q12 C u61 (C 60 100 30)
        have l7_ := q2R_lt z99 z100
        have hw_ := nI_inj (by omega) (by omega) (z68.trans z98.symm)
        have e105 : u62 = m93 := q2R_inj z67 z99 (by omega)
        subst e105
        obtain ⟨w_, hw_⟩ := z69
        have hlo : ∀ kk : Nat, kk < 15 → C1 kk = (P6 C w_) kk := fun kk h => (congrFun hC1.symm kk).trans ((up3_k (by omega)).trans (congrFun hw_.symm kk))
        have hA_ : St5 A A2 := by rw [← z71]; exact w3
        obtain ⟨gb_, g70_⟩ := agb_sc hI hlo e6 e61 z102 hA_
        rw [← z103]
        refine ⟨gb_, ?_⟩
        cases Option.some.inj z70
        have h70_ : C1 70 0 0 = o := by rw [← hC1]; exact up3_s
        refine ⟨_, rfl, fun _ => ?_⟩
        refine (congrArg (fun g : Nat → Nat → Nat => lN (g 0 0)) (g70_)).trans ?_
        show lN (C1 70 0 0) = _
        refine (congrArg lN h70_).trans (ho.trans ?_)
        rfl
      · obtain ⟨m106, z107⟩ := z75
        obtain ⟨z108, z109, z110, z111, z112⟩ := z107
        have hlt_u61 : u61 < C 60 100 29 := by omega
        obtain ⟨p0_u61, p1_u61, p2_u61, p3_u61, p5_u61⟩ := sP u61 hlt_u61
        have pt_u61 := oTc u61
        have pc_u61 : (C 60 11 u61 = 0 ∧ C 9 u61 2 = 0) ∨ (C 60 11 u61 ≠ 0 ∧ C 9 u61 2 = C 60 5 u61) := by rw [p2_u61]; split <;> omega
        clear p2_u61
        have hlt_u62 : u62 < C 60 100 30 := by omega
        obtain ⟨j0_u62, j1_u62, j2_u62, j3_u62, j4_u62, j5_u62, j6_u62, j7_u62, j8_u62, j9_u62, j10_u62, j11_u62, j12_u62, j13_u62⟩ := sJ u62 hlt_u62
        obtain ⟨jb1_u62, jb2_u62, jb3_u62⟩ := jb hI hlt_u62
        have e113 : u61 = m106 := nI_inj (by omega) (by omega) (z65.trans z109.symm)
        subst e113
        have l6_ := q2R_lt z67 z66
        have b1_ := q2R_le C u61 1 (C 60 100 30)
        have b2_ := q2R_le C u61 2 (C 60 100 30)
        have b3_ := q12 C u61 (C 60 100 30)
        exact absurd z68 (z110 _ (by omega))
      · obtain ⟨z114, z115, z116⟩ := z76
        have hlt_u61 : u61 < C 60 100 29 := by omega
        obtain ⟨p0_u61, p1_u61, p2_u61, p3_u61, p5_u61⟩ := sP u61 hlt_u61
        have pt_u61 := oTc u61
        have pc_u61 : (C 60 11 u61 = 0 ∧ C 9 u61 2 = 0) ∨ (C 60 11 u61 ≠ 0 ∧ C 9 u61 2 = C 60 5 u61) := by rw [p2_u61]; split <;> omega
        clear p2_u61
        have hlt_u62 : u62 < C 60 100 30 := by omega
        obtain ⟨j0_u62, j1_u62, j2_u62, j3_u62, j4_u62, j5_u62, j6_u62, j7_u62, j8_u62, j9_u62, j10_u62, j11_u62, j12_u62, j13_u62⟩ := sJ u62 hlt_u62
        obtain ⟨jb1_u62, jb2_u62, jb3_u62⟩ := jb hI hlt_u62
        exact absurd z65 (z114 _ (by omega))
  · unfold E6_queueAt at h6
    obtain ⟨z117, z118⟩ := h6
    rcases z118 with z119 | z120
    · obtain ⟨z121, z122, z123⟩ := z119
      obtain ⟨z124, z125⟩ := h7
      rcases z125 with z126 | z127 | z128 | z129
      · obtain ⟨m130, m131, m132, z133⟩ := z126
        obtain ⟨z134, z135, z136, z137, z138, z139, z140, z141, z142⟩ := z133
        exact absurd z135 (z122 _ (by omega))
      · obtain ⟨m143, m144, m145, z146⟩ := z127
        obtain ⟨z147, z148, z149, z150, z151, z152, z153, z154, z155⟩ := z146
        exact absurd z148 (z122 _ (by omega))
      · obtain ⟨m156, z157⟩ := z128
        obtain ⟨z158, z159, z160, z161, z162⟩ := z157
        exact absurd z159 (z122 _ (by omega))
      · obtain ⟨z163, z164, z165⟩ := z129
        have hlo : ∀ kk : Nat, kk < 15 → C1 kk = (C) kk := fun kk h => congrFun z123.symm kk
        have hA_ : St5 A A2 := by rw [← z124]; exact w3
        rw [← z164, ← z165]
        refine ⟨agb_th hI hlo e6 e61 _ hA_, ?_⟩
        exact ⟨_, rfl, fun h => absurd h (by decide)⟩
    · obtain ⟨u166, z167⟩ := z120
      obtain ⟨z168, z169, z170, z171, z172⟩ := z167
      exact absurd z168 (by decide +kernel)
  · unfold E6_queueAt at h6
    obtain ⟨z173, z174⟩ := h6
    rcases z174 with z175 | z176
    · obtain ⟨z177, z178, z179⟩ := z175
      exact absurd z177 (by decide +kernel)
    · obtain ⟨u180, z181⟩ := z176
      obtain ⟨z182, z183, z184, z185, z186⟩ := z181
      obtain ⟨z187, z188⟩ := h7
      rcases z188 with z189 | z190 | z191 | z192
      · obtain ⟨m193, m194, m195, z196⟩ := z189
        obtain ⟨z197, z198, z199, z200, z201, z202, z203, z204, z205⟩ := z196
        have hlt_u180 : u180 < C 60 100 29 := by omega
        obtain ⟨p0_u180, p1_u180, p2_u180, p3_u180, p5_u180⟩ := sP u180 hlt_u180
        have pt_u180 := oTc u180
        have pc_u180 : (C 60 11 u180 = 0 ∧ C 9 u180 2 = 0) ∨ (C 60 11 u180 ≠ 0 ∧ C 9 u180 2 = C 60 5 u180) := by rw [p2_u180]; split <;> omega
        clear p2_u180
        have e206 : u180 = m193 := nI_inj (by omega) (by omega) (z184.trans z198.symm)
        subst e206
        exact absurd z200 (z185 _ z199)
      · obtain ⟨m207, m208, m209, z210⟩ := z190
        obtain ⟨z211, z212, z213, z214, z215, z216, z217, z218, z219⟩ := z210
        have hlt_u180 : u180 < C 60 100 29 := by omega
        obtain ⟨p0_u180, p1_u180, p2_u180, p3_u180, p5_u180⟩ := sP u180 hlt_u180
        have pt_u180 := oTc u180
        have pc_u180 : (C 60 11 u180 = 0 ∧ C 9 u180 2 = 0) ∨ (C 60 11 u180 ≠ 0 ∧ C 9 u180 2 = C 60 5 u180) := by rw [p2_u180]; split <;> omega
        clear p2_u180
        have e220 : u180 = m207 := nI_inj (by omega) (by omega) (z184.trans z212.symm)
        subst e220
        exact absurd z214 (z185 _ z213)
      · obtain ⟨m221, z222⟩ := z191
        obtain ⟨z223, z224, z225, z226, z227⟩ := z222
        have hlt_u180 : u180 < C 60 100 29 := by omega
        obtain ⟨p0_u180, p1_u180, p2_u180, p3_u180, p5_u180⟩ := sP u180 hlt_u180
        have pt_u180 := oTc u180
        have pc_u180 : (C 60 11 u180 = 0 ∧ C 9 u180 2 = 0) ∨ (C 60 11 u180 ≠ 0 ∧ C 9 u180 2 = C 60 5 u180) := by rw [p2_u180]; split <;> omega
        clear p2_u180
        have e228 : u180 = m221 := nI_inj (by omega) (by omega) (z184.trans z224.symm)
        subst e228
        obtain ⟨w_, hw_⟩ := z186
        have hlo : ∀ kk : Nat, kk < 15 → C1 kk = (P6 C w_) kk := fun kk h => congrFun hw_.symm kk
        have hA_ : St5 A A2 := by rw [← z187]; exact w3
        obtain ⟨gb_, g70_⟩ := agb_sc hI hlo e6 e61 z226 hA_
        rw [← z227]
        refine ⟨gb_, ?_⟩
        exact ⟨_, rfl, fun h => absurd h (by decide)⟩
      · obtain ⟨z229, z230, z231⟩ := z192
        have hlt_u180 : u180 < C 60 100 29 := by omega
        obtain ⟨p0_u180, p1_u180, p2_u180, p3_u180, p5_u180⟩ := sP u180 hlt_u180
        have pt_u180 := oTc u180
        have pc_u180 : (C 60 11 u180 = 0 ∧ C 9 u180 2 = 0) ∨ (C 60 11 u180 ≠ 0 ∧ C 9 u180 2 = C 60 5 u180) := by rw [p2_u180]; split <;> omega
        clear p2_u180
        exact absurd z184 (z229 _ (by omega))
set_option maxHeartbeats 4000000 in
theorem ag_grant {A A1 A2 : AF} {C C1 C2 : CF} {x : Int32} {cb : Nat} {y : Int32} {k : Nat} {v : Option Value} (hcb : cb < 2) (hI : Iv C) (h6 : W_grant A C x cb y k A1 C1) (h7 : K7_grant A1 C1 x cb y v A2 C2) : AgB A C k A2 C2 ∧ ∃ b : Int32, v = some (.int b) ∧ (k = 0 → lN (C2 70 0 0) = b.toInt64) := by
  obtain ⟨w1, w3, -⟩ := w_grant h6
  have e6 : C1 60 = C 60 := w1 60 (by decide) (by decide)
  have e61 : C1 61 = C 61 := w1 61 (by decide) (by decide)
  obtain ⟨hS, hM, hL⟩ := id hI
  obtain ⟨⟨c3, c4, c5, c6, c7, c8⟩, sU, sP, sT, sJ, ⟨sl, sc⟩, sE, sC, sB⟩ := id hS
  obtain ⟨oU, oP, oJ, oTc, oY, o8, o9, o10, o11, o12, o13, o14, o15, oX, oQ, oB, oK, oS, oJk, oM, oCo, oSh, oLg, oPo, oLl, oL2, oL3, oL4, oLle, oE1, oE2, oE3, oE4⟩ := id hM.1
  unfold K7_grant at h7
  rw [e6] at h7
  by_cases hc : cb = 0
  · have i0 : (if cb = 0 then (0 : Nat) else 1) = 0 := if_pos hc
    have i6 : ∀ a b : Nat, (if cb = 0 then a else b) = a := fun a b => if_pos hc
    simp only [i0, Nat.add_zero] at h7
    unfold W_grant at h6
    rcases h6 with ⟨rfl, r, o, C9, ho, hC1, h6⟩ | ⟨rfl, h6⟩ | ⟨rfl, h6⟩ | ⟨rfl, h6⟩
    · unfold K6_grant at h6
      simp only [i6] at h6
      obtain ⟨z1, z2⟩ := h6
      rcases z2 with z3 | z4
      · obtain ⟨u5, u6, z7⟩ := z3
        obtain ⟨z8, z9, z10, z11, z12, z13, z14, z15, z16⟩ := z7
        obtain ⟨z17, z18⟩ := h7
        rcases z18 with z19 | z20 | z21 | z22
        · obtain ⟨m23, m24, z25⟩ := z19
          obtain ⟨z26, z27, z28, z29, z30, z31, z32, z33⟩ := z25
          have hlt_u5 : u5 < C 60 100 28 := by omega
          obtain ⟨q0_u5, q1_u5, q2_u5, q3_u5⟩ := sU u5 hlt_u5
          have e34 : u5 = m23 := nI_inj (by omega) (by omega) (z9.trans z27.symm)
          subst e34
          have e35 : u6 = m24 := nI_inj (by omega) (by omega) (z12.trans z30.symm)
          subst e35
          have hlo : ∀ kk : Nat, kk < 15 → C1 kk = (up3 C 10 u5 0 (C 10 u5 0 + u6)) kk := fun kk h => (congrFun hC1.symm kk).trans ((up3_k (by omega)).trans (congrFun z15.symm kk))
          have hA_ : St5 A A2 := by rw [← z17]; exact w3
          have hk_ := keep_grant0 (t := 0) (u0 := u5) (v := C 10 u5 0 + u6) hS hM hL (by omega) (D2 := up3 (up3 C 60 100 27 0) 60 0 (2 * u5) (C 60 0 (2 * u5) + u6)) (by rw [q0_u5])
          rw [← z32, ← z33]
          refine ⟨agb_k hk_ ?_ ?_ (fun kk h => ?_) ?_ ?_ ?_ hA_, ?_⟩
          · funext i_ f_
            simp only [up3, e6]
          · funext i_ f_
            simp only [up3, e61]
          · rw [up3_k (by omega), up3_k (by omega)]
            exact hlo kk h
          · simp [up3]
          · simp [up3]
          · simp [up3]
          · cases Option.some.inj z16
            have h70_ : C1 70 0 0 = o := by rw [← hC1]; exact up3_s
            refine ⟨_, rfl, fun _ => ?_⟩
            refine (congrArg (fun g : Nat → Nat → Nat => lN (g 0 0)) (show _ = C1 70 from by rw [up3_k (by decide), up3_k (by decide)])).trans ?_
            show lN (C1 70 0 0) = _
            refine (congrArg lN h70_).trans (ho.trans ?_)
            rw [up3_s]
            exact congrArg (fun n => (nI n).toInt64) (by omega)
        · obtain ⟨m36, m37, z38⟩ := z20
          obtain ⟨z39, z40, z41, z42, z43, z44, z45, z46⟩ := z38
          have hlt_u5 : u5 < C 60 100 28 := by omega
          obtain ⟨q0_u5, q1_u5, q2_u5, q3_u5⟩ := sU u5 hlt_u5
          have e47 : u5 = m36 := nI_inj (by omega) (by omega) (z9.trans z40.symm)
          subst e47
          have e48 : u6 = m37 := nI_inj (by omega) (by omega) (z12.trans z43.symm)
          subst e48
          omega
        · obtain ⟨m49, z50⟩ := z21
          obtain ⟨z51, z52, z53, z54, z55⟩ := z50
          have hlt_u5 : u5 < C 60 100 28 := by omega
          obtain ⟨q0_u5, q1_u5, q2_u5, q3_u5⟩ := sU u5 hlt_u5
          have e56 : u5 = m49 := nI_inj (by omega) (by omega) (z9.trans z52.symm)
          subst e56
          exact absurd z12 (z53 _ (by omega) (by omega))
        · obtain ⟨z57, z58, z59⟩ := z22
          have hlt_u5 : u5 < C 60 100 28 := by omega
          obtain ⟨q0_u5, q1_u5, q2_u5, q3_u5⟩ := sU u5 hlt_u5
          exact absurd z9 (z57 _ (by omega))
      · obtain ⟨u60, u61, z62⟩ := z4
        obtain ⟨z63, z64, z65, z66, z67, z68, z69, z70, z71⟩ := z62
        obtain ⟨z72, z73⟩ := h7
        rcases z73 with z74 | z75 | z76 | z77
        · obtain ⟨m78, m79, z80⟩ := z74
          obtain ⟨z81, z82, z83, z84, z85, z86, z87, z88⟩ := z80
          have hlt_u60 : u60 < C 60 100 28 := by omega
          obtain ⟨q0_u60, q1_u60, q2_u60, q3_u60⟩ := sU u60 hlt_u60
          have e89 : u60 = m78 := nI_inj (by omega) (by omega) (z64.trans z82.symm)
          subst e89
          have e90 : u61 = m79 := nI_inj (by omega) (by omega) (z67.trans z85.symm)
          subst e90
          exact absurd hc z69
        · obtain ⟨m91, m92, z93⟩ := z75
          obtain ⟨z94, z95, z96, z97, z98, z99, z100, z101⟩ := z93
          have hlt_u60 : u60 < C 60 100 28 := by omega
          obtain ⟨q0_u60, q1_u60, q2_u60, q3_u60⟩ := sU u60 hlt_u60
          have e102 : u60 = m91 := nI_inj (by omega) (by omega) (z64.trans z95.symm)
          subst e102
          have e103 : u61 = m92 := nI_inj (by omega) (by omega) (z67.trans z98.symm)
          subst e103
          omega
        · obtain ⟨m104, z105⟩ := z76
          obtain ⟨z106, z107, z108, z109, z110⟩ := z105
          have hlt_u60 : u60 < C 60 100 28 := by omega
          obtain ⟨q0_u60, q1_u60, q2_u60, q3_u60⟩ := sU u60 hlt_u60
          have e111 : u60 = m104 := nI_inj (by omega) (by omega) (z64.trans z107.symm)
          subst e111
          exact absurd z67 (z108 _ (by omega) (by omega))
        · obtain ⟨z112, z113, z114⟩ := z77
          have hlt_u60 : u60 < C 60 100 28 := by omega
          obtain ⟨q0_u60, q1_u60, q2_u60, q3_u60⟩ := sU u60 hlt_u60
          exact absurd z64 (z112 _ (by omega))
    · unfold E6_grant at h6
      simp only [i6] at h6
      obtain ⟨z115, z116⟩ := h6
      rcases z116 with z117 | z118 | z119
      · obtain ⟨z120, z121, z122⟩ := z117
        obtain ⟨z123, z124⟩ := h7
        rcases z124 with z125 | z126 | z127 | z128
        · obtain ⟨m129, m130, z131⟩ := z125
          obtain ⟨z132, z133, z134, z135, z136, z137, z138, z139⟩ := z131
          exact absurd z133 (z121 _ (by omega))
        · obtain ⟨m140, m141, z142⟩ := z126
          obtain ⟨z143, z144, z145, z146, z147, z148, z149, z150⟩ := z142
          exact absurd z144 (z121 _ (by omega))
        · obtain ⟨m151, z152⟩ := z127
          obtain ⟨z153, z154, z155, z156, z157⟩ := z152
          exact absurd z154 (z121 _ (by omega))
        · obtain ⟨z158, z159, z160⟩ := z128
          have hlo : ∀ kk : Nat, kk < 15 → C1 kk = (C) kk := fun kk h => congrFun z122.symm kk
          have hA_ : St5 A A2 := by rw [← z123]; exact w3
          rw [← z159, ← z160]
          refine ⟨agb_th hI hlo e6 e61 _ hA_, ?_⟩
          exact ⟨_, rfl, fun h => absurd h (by decide)⟩
      · obtain ⟨u161, z162⟩ := z118
        obtain ⟨z163, z164, z165, z166, z167⟩ := z162
        exact absurd z163 (by decide +kernel)
      · obtain ⟨u168, u169, z170⟩ := z119
        obtain ⟨z171, z172, z173, z174, z175, z176, z177, z178⟩ := z170
        exact absurd z171 (by decide +kernel)
    · unfold E6_grant at h6
      simp only [i6] at h6
      obtain ⟨z179, z180⟩ := h6
      rcases z180 with z181 | z182 | z183
      · obtain ⟨z184, z185, z186⟩ := z181
        exact absurd z184 (by decide +kernel)
      · obtain ⟨u187, z188⟩ := z182
        obtain ⟨z189, z190, z191, z192, z193⟩ := z188
        obtain ⟨z194, z195⟩ := h7
        rcases z195 with z196 | z197 | z198 | z199
        · obtain ⟨m200, m201, z202⟩ := z196
          obtain ⟨z203, z204, z205, z206, z207, z208, z209, z210⟩ := z202
          have hlt_u187 : u187 < C 60 100 28 := by omega
          obtain ⟨q0_u187, q1_u187, q2_u187, q3_u187⟩ := sU u187 hlt_u187
          have e211 : u187 = m200 := nI_inj (by omega) (by omega) (z191.trans z204.symm)
          subst e211
          exact absurd z207 (z192 _ (by omega) (by omega))
        · obtain ⟨m212, m213, z214⟩ := z197
          obtain ⟨z215, z216, z217, z218, z219, z220, z221, z222⟩ := z214
          have hlt_u187 : u187 < C 60 100 28 := by omega
          obtain ⟨q0_u187, q1_u187, q2_u187, q3_u187⟩ := sU u187 hlt_u187
          have e223 : u187 = m212 := nI_inj (by omega) (by omega) (z191.trans z216.symm)
          subst e223
          exact absurd z219 (z192 _ (by omega) (by omega))
        · obtain ⟨m224, z225⟩ := z198
          obtain ⟨z226, z227, z228, z229, z230⟩ := z225
          have hlt_u187 : u187 < C 60 100 28 := by omega
          obtain ⟨q0_u187, q1_u187, q2_u187, q3_u187⟩ := sU u187 hlt_u187
          have e231 : u187 = m224 := nI_inj (by omega) (by omega) (z191.trans z227.symm)
          subst e231
          have hlo : ∀ kk : Nat, kk < 15 → C1 kk = (C) kk := fun kk h => congrFun z193.symm kk
          have hA_ : St5 A A2 := by rw [← z194]; exact w3
          rw [← z229, ← z230]
          refine ⟨agb_th hI hlo e6 e61 _ hA_, ?_⟩
          exact ⟨_, rfl, fun h => absurd h (by decide)⟩
        · obtain ⟨z232, z233, z234⟩ := z199
          have hlt_u187 : u187 < C 60 100 28 := by omega
          obtain ⟨q0_u187, q1_u187, q2_u187, q3_u187⟩ := sU u187 hlt_u187
          exact absurd z191 (z232 _ (by omega))
      · obtain ⟨u235, u236, z237⟩ := z183
        obtain ⟨z238, z239, z240, z241, z242, z243, z244, z245⟩ := z237
        exact absurd z238 (by decide +kernel)
    · unfold E6_grant at h6
      simp only [i6] at h6
      obtain ⟨z246, z247⟩ := h6
      rcases z247 with z248 | z249 | z250
      · obtain ⟨z251, z252, z253⟩ := z248
        exact absurd z251 (by decide +kernel)
      · obtain ⟨u254, z255⟩ := z249
        obtain ⟨z256, z257, z258, z259, z260⟩ := z255
        exact absurd z256 (by decide +kernel)
      · obtain ⟨u261, u262, z263⟩ := z250
        obtain ⟨z264, z265, z266, z267, z268, z269, z270, z271⟩ := z263
        obtain ⟨z272, z273⟩ := h7
        rcases z273 with z274 | z275 | z276 | z277
        · obtain ⟨m278, m279, z280⟩ := z274
          obtain ⟨z281, z282, z283, z284, z285, z286, z287, z288⟩ := z280
          have hlt_u261 : u261 < C 60 100 28 := by omega
          obtain ⟨q0_u261, q1_u261, q2_u261, q3_u261⟩ := sU u261 hlt_u261
          have e289 : u261 = m278 := nI_inj (by omega) (by omega) (z266.trans z282.symm)
          subst e289
          have e290 : u262 = m279 := nI_inj (by omega) (by omega) (z269.trans z285.symm)
          subst e290
          omega
        · obtain ⟨m291, m292, z293⟩ := z275
          obtain ⟨z294, z295, z296, z297, z298, z299, z300, z301⟩ := z293
          have hlt_u261 : u261 < C 60 100 28 := by omega
          obtain ⟨q0_u261, q1_u261, q2_u261, q3_u261⟩ := sU u261 hlt_u261
          have e302 : u261 = m291 := nI_inj (by omega) (by omega) (z266.trans z295.symm)
          subst e302
          have e303 : u262 = m292 := nI_inj (by omega) (by omega) (z269.trans z298.symm)
          subst e303
          have hlo : ∀ kk : Nat, kk < 15 → C1 kk = (C) kk := fun kk h => congrFun z271.symm kk
          have hA_ : St5 A A2 := by rw [← z272]; exact w3
          rw [← z300, ← z301]
          refine ⟨agb_th hI hlo e6 e61 _ hA_, ?_⟩
          exact ⟨_, rfl, fun h => absurd h (by decide)⟩
        · obtain ⟨m304, z305⟩ := z276
          obtain ⟨z306, z307, z308, z309, z310⟩ := z305
          have hlt_u261 : u261 < C 60 100 28 := by omega
          obtain ⟨q0_u261, q1_u261, q2_u261, q3_u261⟩ := sU u261 hlt_u261
          have e311 : u261 = m304 := nI_inj (by omega) (by omega) (z266.trans z307.symm)
          subst e311
          exact absurd z269 (z308 _ (by omega) (by omega))
        · obtain ⟨z312, z313, z314⟩ := z277
          have hlt_u261 : u261 < C 60 100 28 := by omega
          obtain ⟨q0_u261, q1_u261, q2_u261, q3_u261⟩ := sU u261 hlt_u261
          exact absurd z266 (z312 _ (by omega))
  · have i0 : (if cb = 0 then (0 : Nat) else 1) = 1 := if_neg hc
    have i6 : ∀ a b : Nat, (if cb = 0 then a else b) = b := fun a b => if_neg hc
    simp only [i0] at h7
    unfold W_grant at h6
    rcases h6 with ⟨rfl, r, o, C9, ho, hC1, h6⟩ | ⟨rfl, h6⟩ | ⟨rfl, h6⟩ | ⟨rfl, h6⟩
    · unfold K6_grant at h6
      simp only [i6] at h6
      obtain ⟨z315, z316⟩ := h6
      rcases z316 with z317 | z318
      · obtain ⟨u319, u320, z321⟩ := z317
        obtain ⟨z322, z323, z324, z325, z326, z327, z328, z329, z330⟩ := z321
        obtain ⟨z331, z332⟩ := h7
        rcases z332 with z333 | z334 | z335 | z336
        · obtain ⟨m337, m338, z339⟩ := z333
          obtain ⟨z340, z341, z342, z343, z344, z345, z346, z347⟩ := z339
          have hlt_u319 : u319 < C 60 100 28 := by omega
          obtain ⟨q0_u319, q1_u319, q2_u319, q3_u319⟩ := sU u319 hlt_u319
          have e348 : u319 = m337 := nI_inj (by omega) (by omega) (z323.trans z341.symm)
          subst e348
          have e349 : u320 = m338 := nI_inj (by omega) (by omega) (z326.trans z344.symm)
          subst e349
          exact absurd z328 hc
        · obtain ⟨m350, m351, z352⟩ := z334
          obtain ⟨z353, z354, z355, z356, z357, z358, z359, z360⟩ := z352
          have hlt_u319 : u319 < C 60 100 28 := by omega
          obtain ⟨q0_u319, q1_u319, q2_u319, q3_u319⟩ := sU u319 hlt_u319
          have e361 : u319 = m350 := nI_inj (by omega) (by omega) (z323.trans z354.symm)
          subst e361
          have e362 : u320 = m351 := nI_inj (by omega) (by omega) (z326.trans z357.symm)
          subst e362
          omega
        · obtain ⟨m363, z364⟩ := z335
          obtain ⟨z365, z366, z367, z368, z369⟩ := z364
          have hlt_u319 : u319 < C 60 100 28 := by omega
          obtain ⟨q0_u319, q1_u319, q2_u319, q3_u319⟩ := sU u319 hlt_u319
          have e370 : u319 = m363 := nI_inj (by omega) (by omega) (z323.trans z366.symm)
          subst e370
          exact absurd z326 (z367 _ (by omega) (by omega))
        · obtain ⟨z371, z372, z373⟩ := z336
          have hlt_u319 : u319 < C 60 100 28 := by omega
          obtain ⟨q0_u319, q1_u319, q2_u319, q3_u319⟩ := sU u319 hlt_u319
          exact absurd z323 (z371 _ (by omega))
      · obtain ⟨u374, u375, z376⟩ := z318
        obtain ⟨z377, z378, z379, z380, z381, z382, z383, z384, z385⟩ := z376
        obtain ⟨z386, z387⟩ := h7
        rcases z387 with z388 | z389 | z390 | z391
        · obtain ⟨m392, m393, z394⟩ := z388
          obtain ⟨z395, z396, z397, z398, z399, z400, z401, z402⟩ := z394
          have hlt_u374 : u374 < C 60 100 28 := by omega
          obtain ⟨q0_u374, q1_u374, q2_u374, q3_u374⟩ := sU u374 hlt_u374
          have e403 : u374 = m392 := nI_inj (by omega) (by omega) (z378.trans z396.symm)
          subst e403
          have e404 : u375 = m393 := nI_inj (by omega) (by omega) (z381.trans z399.symm)
          subst e404
          have hlo : ∀ kk : Nat, kk < 15 → C1 kk = (up3 C 10 u374 1 (C 10 u374 1 + u375)) kk := fun kk h => (congrFun hC1.symm kk).trans ((up3_k (by omega)).trans (congrFun z384.symm kk))
          have hA_ : St5 A A2 := by rw [← z386]; exact w3
          have hk_ := keep_grant1 (t := 0) (u0 := u374) (v := C 10 u374 1 + u375) hS hM hL (by omega) (D2 := up3 (up3 C 60 100 27 0) 60 0 (2 * u374 + 1) (C 60 0 (2 * u374 + 1) + u375)) (by rw [q1_u374])
          rw [← z401, ← z402]
          refine ⟨agb_k hk_ ?_ ?_ (fun kk h => ?_) ?_ ?_ ?_ hA_, ?_⟩
          · funext i_ f_
            simp only [up3, e6]
          · funext i_ f_
            simp only [up3, e61]
          · rw [up3_k (by omega), up3_k (by omega)]
            exact hlo kk h
          · simp [up3]
          · simp [up3]
          · simp [up3]
          · cases Option.some.inj z385
            have h70_ : C1 70 0 0 = o := by rw [← hC1]; exact up3_s
            refine ⟨_, rfl, fun _ => ?_⟩
            refine (congrArg (fun g : Nat → Nat → Nat => lN (g 0 0)) (show _ = C1 70 from by rw [up3_k (by decide), up3_k (by decide)])).trans ?_
            show lN (C1 70 0 0) = _
            refine (congrArg lN h70_).trans (ho.trans ?_)
            rw [up3_s]
            exact congrArg (fun n => (nI n).toInt64) (by omega)
        · obtain ⟨m405, m406, z407⟩ := z389
          obtain ⟨z408, z409, z410, z411, z412, z413, z414, z415⟩ := z407
          have hlt_u374 : u374 < C 60 100 28 := by omega
          obtain ⟨q0_u374, q1_u374, q2_u374, q3_u374⟩ := sU u374 hlt_u374
          have e416 : u374 = m405 := nI_inj (by omega) (by omega) (z378.trans z409.symm)
          subst e416
          have e417 : u375 = m406 := nI_inj (by omega) (by omega) (z381.trans z412.symm)
          subst e417
          omega
        · obtain ⟨m418, z419⟩ := z390
          obtain ⟨z420, z421, z422, z423, z424⟩ := z419
          have hlt_u374 : u374 < C 60 100 28 := by omega
          obtain ⟨q0_u374, q1_u374, q2_u374, q3_u374⟩ := sU u374 hlt_u374
          have e425 : u374 = m418 := nI_inj (by omega) (by omega) (z378.trans z421.symm)
          subst e425
          exact absurd z381 (z422 _ (by omega) (by omega))
        · obtain ⟨z426, z427, z428⟩ := z391
          have hlt_u374 : u374 < C 60 100 28 := by omega
          obtain ⟨q0_u374, q1_u374, q2_u374, q3_u374⟩ := sU u374 hlt_u374
          exact absurd z378 (z426 _ (by omega))
    · unfold E6_grant at h6
      simp only [i6] at h6
      obtain ⟨z429, z430⟩ := h6
      rcases z430 with z431 | z432 | z433
      · obtain ⟨z434, z435, z436⟩ := z431
        obtain ⟨z437, z438⟩ := h7
        rcases z438 with z439 | z440 | z441 | z442
        · obtain ⟨m443, m444, z445⟩ := z439
          obtain ⟨z446, z447, z448, z449, z450, z451, z452, z453⟩ := z445
          exact absurd z447 (z435 _ (by omega))
        · obtain ⟨m454, m455, z456⟩ := z440
          obtain ⟨z457, z458, z459, z460, z461, z462, z463, z464⟩ := z456
          exact absurd z458 (z435 _ (by omega))
        · obtain ⟨m465, z466⟩ := z441
          obtain ⟨z467, z468, z469, z470, z471⟩ := z466
          exact absurd z468 (z435 _ (by omega))
        · obtain ⟨z472, z473, z474⟩ := z442
          have hlo : ∀ kk : Nat, kk < 15 → C1 kk = (C) kk := fun kk h => congrFun z436.symm kk
          have hA_ : St5 A A2 := by rw [← z437]; exact w3
          rw [← z473, ← z474]
          refine ⟨agb_th hI hlo e6 e61 _ hA_, ?_⟩
          exact ⟨_, rfl, fun h => absurd h (by decide)⟩
      · obtain ⟨u475, z476⟩ := z432
        obtain ⟨z477, z478, z479, z480, z481⟩ := z476
        exact absurd z477 (by decide +kernel)
      · obtain ⟨u482, u483, z484⟩ := z433
        obtain ⟨z485, z486, z487, z488, z489, z490, z491, z492⟩ := z484
        exact absurd z485 (by decide +kernel)
    · unfold E6_grant at h6
      simp only [i6] at h6
      obtain ⟨z493, z494⟩ := h6
      rcases z494 with z495 | z496 | z497
      · obtain ⟨z498, z499, z500⟩ := z495
        exact absurd z498 (by decide +kernel)
      · obtain ⟨u501, z502⟩ := z496
        obtain ⟨z503, z504, z505, z506, z507⟩ := z502
        obtain ⟨z508, z509⟩ := h7
        rcases z509 with z510 | z511 | z512 | z513
        · obtain ⟨m514, m515, z516⟩ := z510
          obtain ⟨z517, z518, z519, z520, z521, z522, z523, z524⟩ := z516
          have hlt_u501 : u501 < C 60 100 28 := by omega
          obtain ⟨q0_u501, q1_u501, q2_u501, q3_u501⟩ := sU u501 hlt_u501
          have e525 : u501 = m514 := nI_inj (by omega) (by omega) (z505.trans z518.symm)
          subst e525
          exact absurd z521 (z506 _ (by omega) (by omega))
        · obtain ⟨m526, m527, z528⟩ := z511
          obtain ⟨z529, z530, z531, z532, z533, z534, z535, z536⟩ := z528
          have hlt_u501 : u501 < C 60 100 28 := by omega
          obtain ⟨q0_u501, q1_u501, q2_u501, q3_u501⟩ := sU u501 hlt_u501
          have e537 : u501 = m526 := nI_inj (by omega) (by omega) (z505.trans z530.symm)
          subst e537
          exact absurd z533 (z506 _ (by omega) (by omega))
        · obtain ⟨m538, z539⟩ := z512
          obtain ⟨z540, z541, z542, z543, z544⟩ := z539
          have hlt_u501 : u501 < C 60 100 28 := by omega
          obtain ⟨q0_u501, q1_u501, q2_u501, q3_u501⟩ := sU u501 hlt_u501
          have e545 : u501 = m538 := nI_inj (by omega) (by omega) (z505.trans z541.symm)
          subst e545
          have hlo : ∀ kk : Nat, kk < 15 → C1 kk = (C) kk := fun kk h => congrFun z507.symm kk
          have hA_ : St5 A A2 := by rw [← z508]; exact w3
          rw [← z543, ← z544]
          refine ⟨agb_th hI hlo e6 e61 _ hA_, ?_⟩
          exact ⟨_, rfl, fun h => absurd h (by decide)⟩
        · obtain ⟨z546, z547, z548⟩ := z513
          have hlt_u501 : u501 < C 60 100 28 := by omega
          obtain ⟨q0_u501, q1_u501, q2_u501, q3_u501⟩ := sU u501 hlt_u501
          exact absurd z505 (z546 _ (by omega))
      · obtain ⟨u549, u550, z551⟩ := z497
        obtain ⟨z552, z553, z554, z555, z556, z557, z558, z559⟩ := z551
        exact absurd z552 (by decide +kernel)
    · unfold E6_grant at h6
      simp only [i6] at h6
      obtain ⟨z560, z561⟩ := h6
      rcases z561 with z562 | z563 | z564
      · obtain ⟨z565, z566, z567⟩ := z562
        exact absurd z565 (by decide +kernel)
      · obtain ⟨u568, z569⟩ := z563
        obtain ⟨z570, z571, z572, z573, z574⟩ := z569
        exact absurd z570 (by decide +kernel)
      · obtain ⟨u575, u576, z577⟩ := z564
        obtain ⟨z578, z579, z580, z581, z582, z583, z584, z585⟩ := z577
        obtain ⟨z586, z587⟩ := h7
        rcases z587 with z588 | z589 | z590 | z591
        · obtain ⟨m592, m593, z594⟩ := z588
          obtain ⟨z595, z596, z597, z598, z599, z600, z601, z602⟩ := z594
          have hlt_u575 : u575 < C 60 100 28 := by omega
          obtain ⟨q0_u575, q1_u575, q2_u575, q3_u575⟩ := sU u575 hlt_u575
          have e603 : u575 = m592 := nI_inj (by omega) (by omega) (z580.trans z596.symm)
          subst e603
          have e604 : u576 = m593 := nI_inj (by omega) (by omega) (z583.trans z599.symm)
          subst e604
          omega
        · obtain ⟨m605, m606, z607⟩ := z589
          obtain ⟨z608, z609, z610, z611, z612, z613, z614, z615⟩ := z607
          have hlt_u575 : u575 < C 60 100 28 := by omega
          obtain ⟨q0_u575, q1_u575, q2_u575, q3_u575⟩ := sU u575 hlt_u575
          have e616 : u575 = m605 := nI_inj (by omega) (by omega) (z580.trans z609.symm)
          subst e616
          have e617 : u576 = m606 := nI_inj (by omega) (by omega) (z583.trans z612.symm)
          subst e617
          have hlo : ∀ kk : Nat, kk < 15 → C1 kk = (C) kk := fun kk h => congrFun z585.symm kk
          have hA_ : St5 A A2 := by rw [← z586]; exact w3
          rw [← z614, ← z615]
          refine ⟨agb_th hI hlo e6 e61 _ hA_, ?_⟩
          exact ⟨_, rfl, fun h => absurd h (by decide)⟩
        · obtain ⟨m618, z619⟩ := z590
          obtain ⟨z620, z621, z622, z623, z624⟩ := z619
          have hlt_u575 : u575 < C 60 100 28 := by omega
          obtain ⟨q0_u575, q1_u575, q2_u575, q3_u575⟩ := sU u575 hlt_u575
          have e625 : u575 = m618 := nI_inj (by omega) (by omega) (z580.trans z621.symm)
          subst e625
          exact absurd z583 (z622 _ (by omega) (by omega))
        · obtain ⟨z626, z627, z628⟩ := z591
          have hlt_u575 : u575 < C 60 100 28 := by omega
          obtain ⟨q0_u575, q1_u575, q2_u575, q3_u575⟩ := sU u575 hlt_u575
          exact absurd z580 (z626 _ (by omega))
set_option maxHeartbeats 4000000 in
theorem ag_setStapled {A A1 A2 : AF} {C C1 C2 : CF} {x : Int32} {cb : Nat} {k : Nat} {v : Option Value} (hcb : cb < 2) (hI : Iv C) (h6 : W_setStapled A C x cb k A1 C1) (h7 : K7_setStapled A1 C1 x cb v A2 C2) : AgB A C k A2 C2 ∧ ∃ b : Int32, v = some (.int b) ∧ (k = 0 → lN (C2 70 0 0) = if b = 0 then lN 0 else lN 1) := by
  obtain ⟨w1, w3, -⟩ := w_setStapled h6
  have e6 : C1 60 = C 60 := w1 60 (by decide) (by decide)
  have e61 : C1 61 = C 61 := w1 61 (by decide) (by decide)
  obtain ⟨hS, hM, hL⟩ := id hI
  obtain ⟨⟨c3, c4, c5, c6, c7, c8⟩, sU, sP, sT, sJ, ⟨sl, sc⟩, sE, sC, sB⟩ := id hS
  obtain ⟨oU, oP, oJ, oTc, oY, o8, o9, o10, o11, o12, o13, o14, o15, oX, oQ, oB, oK, oS, oJk, oM, oCo, oSh, oLg, oPo, oLl, oL2, oL3, oL4, oLle, oE1, oE2, oE3, oE4⟩ := id hM.1
  unfold K7_setStapled at h7
  rw [e6] at h7
  unfold W_setStapled at h6
  rcases h6 with ⟨rfl, r, o, C9, ho, hC1, h6⟩ | ⟨rfl, h6⟩
  · unfold K6_setStapled at h6
    obtain ⟨z1, z2⟩ := h6
    obtain ⟨u3, z4⟩ := z2
    obtain ⟨z5, z6, z7, z8⟩ := z4
    obtain ⟨z9, z10⟩ := h7
    rcases z10 with z11 | z12
    · obtain ⟨m13, z14⟩ := z11
      obtain ⟨z15, z16, z17, z18⟩ := z14
      have hlt_u3 : u3 < C 60 100 30 := by omega
      obtain ⟨j0_u3, j1_u3, j2_u3, j3_u3, j4_u3, j5_u3, j6_u3, j7_u3, j8_u3, j9_u3, j10_u3, j11_u3, j12_u3, j13_u3⟩ := sJ u3 hlt_u3
      obtain ⟨jb1_u3, jb2_u3, jb3_u3⟩ := jb hI hlt_u3
      have e19 : u3 = m13 := nI_inj (by omega) (by omega) (z6.trans z16.symm)
      subst e19
      have hlo : ∀ kk : Nat, kk < 15 → C1 kk = (up3 C 11 u3 7 cb) kk := fun kk h => (congrFun hC1.symm kk).trans ((up3_k (by omega)).trans (congrFun z7.symm kk))
      have hA_ : St5 A A2 := by rw [← z9]; exact w3
      have hk_ := keep_setStapled (t := 0) (k := u3) (v := cb) hS hM hL hlt_u3 hcb rfl
      rw [← z17, ← z18]
      refine ⟨agb_k hk_ ?_ ?_ (fun kk h => ?_) ?_ ?_ ?_ hA_, ?_⟩
      · funext i_ f_
        simp only [up3, e6]
      · funext i_ f_
        simp only [up3, e61]
      · rw [up3_k (by omega), up3_k (by omega)]
        exact hlo kk h
      · simp [up3]
      · simp [up3]
      · simp [up3]
      · cases Option.some.inj z8
        have h70_ : C1 70 0 0 = o := by rw [← hC1]; exact up3_s
        refine ⟨_, rfl, fun _ => ?_⟩
        refine (congrArg (fun g : Nat → Nat → Nat => lN (g 0 0)) (show _ = C1 70 from by rw [up3_k (by decide), up3_k (by decide)])).trans ?_
        show lN (C1 70 0 0) = _
        rw [h70_]
        rw [j7_u3] at ho
        rcases ho with ⟨ha, rfl⟩ | ⟨ha, rfl⟩
        · rw [if_pos ha]
        · rw [if_neg ha]
    · obtain ⟨z20, z21, z22⟩ := z12
      have hlt_u3 : u3 < C 60 100 30 := by omega
      obtain ⟨j0_u3, j1_u3, j2_u3, j3_u3, j4_u3, j5_u3, j6_u3, j7_u3, j8_u3, j9_u3, j10_u3, j11_u3, j12_u3, j13_u3⟩ := sJ u3 hlt_u3
      obtain ⟨jb1_u3, jb2_u3, jb3_u3⟩ := jb hI hlt_u3
      exact absurd z6 (z20 _ (by omega))
  · unfold E6_setStapled at h6
    obtain ⟨z23, z24⟩ := h6
    obtain ⟨z25, z26, z27⟩ := z24
    obtain ⟨z28, z29⟩ := h7
    rcases z29 with z30 | z31
    · obtain ⟨m32, z33⟩ := z30
      obtain ⟨z34, z35, z36, z37⟩ := z33
      exact absurd z35 (z26 _ (by omega))
    · obtain ⟨z38, z39, z40⟩ := z31
      have hlo : ∀ kk : Nat, kk < 15 → C1 kk = (C) kk := fun kk h => congrFun z27.symm kk
      have hA_ : St5 A A2 := by rw [← z28]; exact w3
      rw [← z39, ← z40]
      refine ⟨agb_th hI hlo e6 e61 _ hA_, ?_⟩
      exact ⟨_, rfl, fun h => absurd h (by decide)⟩
set_option maxHeartbeats 4000000 in
theorem ag_lineAt {A A1 A2 : AF} {C C1 C2 : CF} {x : Int32} {k : Nat} {v : Option Value}  (hI : Iv C) (h6 : W_lineAt A C x k A1 C1) (h7 : K7_lineAt A1 C1 x v A2 C2) : AgB A C k A2 C2 ∧ ∃ b : Int32, v = some (.int b) ∧ (k = 0 → lN (C2 70 0 0) = b.toInt64) := by
  obtain ⟨w1, w3, -⟩ := w_lineAt h6
  have e6 : C1 60 = C 60 := w1 60 (by decide) (by decide)
  have e61 : C1 61 = C 61 := w1 61 (by decide) (by decide)
  obtain ⟨hS, hM, hL⟩ := id hI
  obtain ⟨⟨c3, c4, c5, c6, c7, c8⟩, sU, sP, sT, sJ, ⟨sl, sc⟩, sE, sC, sB⟩ := id hS
  obtain ⟨oU, oP, oJ, oTc, oY, o8, o9, o10, o11, o12, o13, o14, o15, oX, oQ, oB, oK, oS, oJk, oM, oCo, oSh, oLg, oPo, oLl, oL2, oL3, oL4, oLle, oE1, oE2, oE3, oE4⟩ := id hM.1
  unfold K7_lineAt at h7
  rw [e6] at h7
  rw [e61] at h7
  obtain ⟨b1, b2, b3, b4, b5, b6⟩ := id sB
  unfold W_lineAt at h6
  rcases h6 with ⟨rfl, r, o, C9, ho, hC1, h6⟩ | ⟨rfl, h6⟩
  · unfold K6_lineAt at h6
    obtain ⟨z1, z2⟩ := h6
    obtain ⟨u3, z4⟩ := z2
    obtain ⟨z5, z6, z7, z8⟩ := z4
    obtain ⟨z9, z10⟩ := h7
    rcases z10 with z11 | z12
    · obtain ⟨m13, z14⟩ := z11
      obtain ⟨z15, z16, z17, z18⟩ := z14
      have e19 : u3 = m13 := nI_inj (by omega) (by omega) (z6.trans z16.symm)
      subst e19
      have hlo : ∀ kk : Nat, kk < 15 → C1 kk = (C) kk := fun kk h => (congrFun hC1.symm kk).trans ((up3_k (by omega)).trans (congrFun z7.symm kk))
      have hA_ : St5 A A2 := by rw [← z9]; exact w3
      rw [← z17, ← z18]
      refine ⟨agb_th hI hlo e6 e61 _ hA_, ?_⟩
      cases Option.some.inj z8
      have h70_ : C1 70 0 0 = o := by rw [← hC1]; exact up3_s
      refine ⟨_, rfl, fun _ => ?_⟩
      refine (congrArg (fun g : Nat → Nat → Nat => lN (g 0 0)) (up3_k (by decide))).trans ?_
      show lN (C1 70 0 0) = _
      refine (congrArg lN h70_).trans (ho.trans ?_)
      rw [b6 _ (by omega)]
    · obtain ⟨z20, z21, z22⟩ := z12
      exact absurd z6 (z20 _ (by omega))
  · unfold E6_lineAt at h6
    obtain ⟨z23, z24⟩ := h6
    rcases z24 with z25 | z26
    · obtain ⟨z27, z28, z29⟩ := z25
      obtain ⟨z30, z31⟩ := h7
      rcases z31 with z32 | z33
      · obtain ⟨m34, z35⟩ := z32
        obtain ⟨z36, z37, z38, z39⟩ := z35
        exact absurd z37 (z28 _ (by omega))
      · obtain ⟨z40, z41, z42⟩ := z33
        have hlo : ∀ kk : Nat, kk < 15 → C1 kk = (C) kk := fun kk h => congrFun z29.symm kk
        have hA_ : St5 A A2 := by rw [← z30]; exact w3
        rw [← z41, ← z42]
        refine ⟨agb_th hI hlo e6 e61 _ hA_, ?_⟩
        exact ⟨_, rfl, fun h => absurd h (by decide)⟩
    · obtain ⟨z43, z44, z45⟩ := z26
      obtain ⟨z46, z47⟩ := h7
      rcases z47 with z48 | z49
      · obtain ⟨m50, z51⟩ := z48
        obtain ⟨z52, z53, z54, z55⟩ := z51
        exact absurd z53 (z44 _ (by omega))
      · obtain ⟨z56, z57, z58⟩ := z49
        have hlo : ∀ kk : Nat, kk < 15 → C1 kk = (C) kk := fun kk h => congrFun z45.symm kk
        have hA_ : St5 A A2 := by rw [← z46]; exact w3
        rw [← z57, ← z58]
        refine ⟨agb_th hI hlo e6 e61 _ hA_, ?_⟩
        exact ⟨_, rfl, fun h => absurd h (by decide)⟩
set_option maxHeartbeats 4000000 in
theorem ag_writeJob {A A1 A2 : AF} {C C1 C2 : CF} {x : Int32} {k : Nat} {v : Option Value}  (hI : Iv C) (h6 : W_writeJob A C x k A1 C1) (h7 : K7_writeJob A1 C1 x v A2 C2) : AgB A C k A2 C2 ∧ ∃ b : Int32, v = some (.int b) ∧ (k = 0 → lN (C2 70 0 0) = b.toInt64) := by
  obtain ⟨w1, w3, -⟩ := w_writeJob h6
  have e6 : C1 60 = C 60 := w1 60 (by decide) (by decide)
  have e61 : C1 61 = C 61 := w1 61 (by decide) (by decide)
  obtain ⟨hS, hM, hL⟩ := id hI
  obtain ⟨⟨c3, c4, c5, c6, c7, c8⟩, sU, sP, sT, sJ, ⟨sl, sc⟩, sE, sC, sB⟩ := id hS
  obtain ⟨oU, oP, oJ, oTc, oY, o8, o9, o10, o11, o12, o13, o14, o15, oX, oQ, oB, oK, oS, oJk, oM, oCo, oSh, oLg, oPo, oLl, oL2, oL3, oL4, oLle, oE1, oE2, oE3, oE4⟩ := id hM.1
  unfold K7_writeJob at h7
  simp only [lnN_q e6, lnT_q e6] at h7
  rw [e6] at h7
  unfold W_writeJob at h6
  rcases h6 with ⟨rfl, r, o, C9, ho, hC1, h6⟩ | ⟨rfl, h6⟩
  · unfold K6_writeJob at h6
    obtain ⟨u1, z2⟩ := h6
    obtain ⟨z3, z4, z5⟩ := z2
    obtain ⟨u6, u7, u8, u9, z10⟩ := z5
    obtain ⟨z11, z12, z13, z14, z15, z16, z17, z18⟩ := z10
    rcases h7 with z19 | z20
    · obtain ⟨z21, z22⟩ := z19
      obtain ⟨z23, z24, z25⟩ := z22
      have hlt_u1 : u1 < C 60 100 30 := by omega
      obtain ⟨j0_u1, j1_u1, j2_u1, j3_u1, j4_u1, j5_u1, j6_u1, j7_u1, j8_u1, j9_u1, j10_u1, j11_u1, j12_u1, j13_u1⟩ := sJ u1 hlt_u1
      obtain ⟨jb1_u1, jb2_u1, jb3_u1⟩ := jb hI hlt_u1
      exact absurd z4 (z23 _ (by omega))
    · obtain ⟨m26, z27⟩ := z20
      obtain ⟨z28, z29, z30⟩ := z27
      obtain ⟨m31, m32, m33, z34⟩ := z30
      obtain ⟨z35, z36, z37, z38, z39, z40⟩ := z34
      have hlt_u1 : u1 < C 60 100 30 := by omega
      obtain ⟨j0_u1, j1_u1, j2_u1, j3_u1, j4_u1, j5_u1, j6_u1, j7_u1, j8_u1, j9_u1, j10_u1, j11_u1, j12_u1, j13_u1⟩ := sJ u1 hlt_u1
      obtain ⟨jb1_u1, jb2_u1, jb3_u1⟩ := jb hI hlt_u1
      have e41 : u1 = m26 := nI_inj (by omega) (by omega) (z4.trans z29.symm)
      subst e41
      have hlo : ∀ kk : Nat, kk < 15 → C1 kk = (lnC C u7 (lnN C u1) u8 u9) kk := fun kk h => (congrFun hC1.symm kk).trans ((up3_k (by omega)).trans (congrFun z12.symm kk))
      have hA_ : St5 A A2 := by rw [← z35]; exact w3.trans ⟨⟨rfl, rfl, rfl, rfl⟩, rfl⟩
      have hk_ := keep_writeJob (t := 0) (x := u7) (n := lnN C u1) (cap := u8) (g := m33) (g2 := u9) hS hM hL z13 z14 z15 z16 (fun j hj => (z17 j hj).trans (z38 j hj).symm) rfl
      rw [← z36, ← z40]
      refine ⟨agb_k hk_ ?_ ?_ (fun kk h => ?_) ?_ ?_ ?_ hA_, ?_⟩
      · funext i_ f_
        simp only [up3, lnR, e6]
      · funext i_ f_
        simp only [up3, lnR, e61]
      · rw [← hlo kk h]
        funext i_ f_
        simp only [lnR]
        rw [if_neg (by omega), if_neg (by omega), up3_k (by omega)]
      · simp [up3, lnR]
      · simp [up3, lnR]
      · simp [up3, lnR]
      · cases Option.some.inj z18
        have h70_ : C1 70 0 0 = o := by rw [← hC1]; exact up3_s
        refine ⟨_, rfl, fun _ => ?_⟩
        refine (congrArg (fun g : Nat → Nat → Nat => lN (g 0 0)) (show _ = C1 70 from by funext i_ f_; simp [lnR, up3])).trans ?_
        show lN (C1 70 0 0) = _
        refine (congrArg lN h70_).trans (ho.trans ?_)
        rfl
  · unfold E6_writeJob at h6
    obtain ⟨z42, z43⟩ := h6
    obtain ⟨z44, z45, z46⟩ := z43
    rcases h7 with z47 | z48
    · obtain ⟨z49, z50⟩ := z47
      obtain ⟨z51, z52, z53⟩ := z50
      have hlo : ∀ kk : Nat, kk < 15 → C1 kk = (C) kk := fun kk h => congrFun z46.symm kk
      have hA_ : St5 A A2 := by rw [← z49]; exact w3
      rw [← z52, ← z53]
      refine ⟨agb_th hI hlo e6 e61 _ hA_, ?_⟩
      exact ⟨_, rfl, fun h => absurd h (by decide)⟩
    · obtain ⟨m54, z55⟩ := z48
      obtain ⟨z56, z57, z58⟩ := z55
      obtain ⟨m59, m60, m61, z62⟩ := z58
      obtain ⟨z63, z64, z65, z66, z67, z68⟩ := z62
      exact absurd z57 (z45 _ (by omega))
set_option maxHeartbeats 4000000 in
theorem ag_meanPages {A A1 A2 : AF} {C C1 C2 : CF}  {k : Nat} {v : Option Value}  (hI : Iv C) (h6 : W_meanPages A C k A1 C1) (h7 : K7_meanPages A1 C1 v A2 C2) : AgB A C k A2 C2 ∧ ∃ b : UInt64, v = some (.double b) ∧ (k = 0 → UInt64.ofNat (C2 70 1 0) = b ∧ Jvm.FP.Core.dIsNaN b = false) := by
  obtain ⟨w1, w3, -⟩ := w_meanPages h6
  have e6 : C1 60 = C 60 := w1 60 (by decide) (by decide)
  have e61 : C1 61 = C 61 := w1 61 (by decide) (by decide)
  obtain ⟨hS, hM, hL⟩ := id hI
  obtain ⟨⟨c3, c4, c5, c6, c7, c8⟩, sU, sP, sT, sJ, ⟨sl, sc⟩, sE, sC, sB⟩ := id hS
  obtain ⟨oU, oP, oJ, oTc, oY, o8, o9, o10, o11, o12, o13, o14, o15, oX, oQ, oB, oK, oS, oJk, oM, oCo, oSh, oLg, oPo, oLl, oL2, oL3, oL4, oLle, oE1, oE2, oE3, oE4⟩ := id hM.1
  unfold K7_meanPages at h7
  simp only [ouN_q e6] at h7
  rw [e6] at h7
  unfold W_meanPages at h6
  rcases h6 with ⟨rfl, r, o, C9, ho, hC1, h6⟩ | ⟨rfl, h6⟩
  · unfold K6_meanPages at h6
    obtain ⟨z1, z2⟩ := h6
    obtain ⟨z3, z4, z5⟩ := z2
    obtain ⟨z6, z7⟩ := h7
    rcases z7 with z8 | z9
    · obtain ⟨z10, z11, z12⟩ := z8
      omega
    · obtain ⟨z13, z14, z15⟩ := z9
      have hlo : ∀ kk : Nat, kk < 15 → C1 kk = (C) kk := fun kk h => (congrFun hC1.symm kk).trans ((up3_k (by omega)).trans (congrFun z4.symm kk))
      have hA_ : St5 A A2 := by rw [← z6]; exact w3
      rw [← z14, ← z15]
      refine ⟨agb_th hI hlo e6 e61 _ hA_, ?_⟩
      cases Option.some.inj z5
      have h70_ : C1 70 1 0 = o := by rw [← hC1]; exact up3_s
      refine ⟨_, rfl, fun _ => ⟨?_, fp_ddivN (by omega) (by omega)⟩⟩
      refine (congrArg (fun g : Nat → Nat → Nat => UInt64.ofNat (g 1 0)) (up3_k (by decide))).trans ?_
      show UInt64.ofNat (C1 70 1 0) = _
      refine (congrArg UInt64.ofNat h70_).trans (ho.trans ?_)
      rfl
  · unfold E6_meanPages at h6
    obtain ⟨z16, z17⟩ := h6
    obtain ⟨z18, z19, z20⟩ := z17
    obtain ⟨z21, z22⟩ := h7
    rcases z22 with z23 | z24
    · obtain ⟨z25, z26, z27⟩ := z23
      have hlo : ∀ kk : Nat, kk < 15 → C1 kk = (C) kk := fun kk h => congrFun z20.symm kk
      have hA_ : St5 A A2 := by rw [← z21]; exact w3
      rw [← z26, ← z27]
      refine ⟨agb_th hI hlo e6 e61 _ hA_, ?_⟩
      exact ⟨_, rfl, fun h => absurd h (by decide)⟩
    · obtain ⟨z28, z29, z30⟩ := z24
      omega
set_option maxHeartbeats 4000000 in
theorem ag_colourShare {A A1 A2 : AF} {C C1 C2 : CF}  {k : Nat} {v : Option Value}  (hI : Iv C) (h6 : W_colourShare A C k A1 C1) (h7 : K7_colourShare A1 C1 v A2 C2) : AgB A C k A2 C2 ∧ ∃ b : UInt32, v = some (.float b) ∧ (k = 0 → UInt64.ofNat (C2 70 1 0) = FP.f2d b ∧ Jvm.FP.Core.fIsNaN b = false) := by
  obtain ⟨w1, w3, -⟩ := w_colourShare h6
  have e6 : C1 60 = C 60 := w1 60 (by decide) (by decide)
  have e61 : C1 61 = C 61 := w1 61 (by decide) (by decide)
  obtain ⟨hS, hM, hL⟩ := id hI
  obtain ⟨⟨c3, c4, c5, c6, c7, c8⟩, sU, sP, sT, sJ, ⟨sl, sc⟩, sE, sC, sB⟩ := id hS
  obtain ⟨oU, oP, oJ, oTc, oY, o8, o9, o10, o11, o12, o13, o14, o15, oX, oQ, oB, oK, oS, oJk, oM, oCo, oSh, oLg, oPo, oLl, oL2, oL3, oL4, oLle, oE1, oE2, oE3, oE4⟩ := id hM.1
  unfold K7_colourShare at h7
  simp only [ouN_q e6] at h7
  rw [e6] at h7
  have hou := ouN_le (C := C) (b := 0) oE3 (C 60 100 31)
  unfold W_colourShare at h6
  rcases h6 with ⟨rfl, r, o, C9, ho, hC1, h6⟩ | ⟨rfl, h6⟩
  · unfold K6_colourShare at h6
    obtain ⟨z1, z2⟩ := h6
    obtain ⟨z3, z4, z5⟩ := z2
    obtain ⟨z6, z7⟩ := h7
    rcases z7 with z8 | z9
    · obtain ⟨z10, z11, z12⟩ := z8
      omega
    · obtain ⟨z13, z14, z15⟩ := z9
      have hlo : ∀ kk : Nat, kk < 15 → C1 kk = (C) kk := fun kk h => (congrFun hC1.symm kk).trans ((up3_k (by omega)).trans (congrFun z4.symm kk))
      have hA_ : St5 A A2 := by rw [← z6]; exact w3
      rw [← z14, ← z15]
      refine ⟨agb_th hI hlo e6 e61 _ hA_, ?_⟩
      cases Option.some.inj z5
      have h70_ : C1 70 1 0 = o := by rw [← hC1]; exact up3_s
      refine ⟨_, rfl, fun _ => ⟨?_, fp_fdivN (by omega) (by omega)⟩⟩
      refine (congrArg (fun g : Nat → Nat → Nat => UInt64.ofNat (g 1 0)) (up3_k (by decide))).trans ?_
      show UInt64.ofNat (C1 70 1 0) = _
      refine (congrArg UInt64.ofNat h70_).trans (ho.trans ?_)
      rfl
  · unfold E6_colourShare at h6
    obtain ⟨z16, z17⟩ := h6
    obtain ⟨z18, z19, z20⟩ := z17
    obtain ⟨z21, z22⟩ := h7
    rcases z22 with z23 | z24
    · obtain ⟨z25, z26, z27⟩ := z23
      have hlo : ∀ kk : Nat, kk < 15 → C1 kk = (C) kk := fun kk h => congrFun z20.symm kk
      have hA_ : St5 A A2 := by rw [← z21]; exact w3
      rw [← z26, ← z27]
      refine ⟨agb_th hI hlo e6 e61 _ hA_, ?_⟩
      exact ⟨_, rfl, fun h => absurd h (by decide)⟩
    · obtain ⟨z28, z29, z30⟩ := z24
      omega
