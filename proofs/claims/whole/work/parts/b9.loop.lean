/-! THE CLAIM OUT OF ONE WALK OF THE LAW'S BODY. Your part is whole_start (and what it stands on); all else here is the same for every law, but numbers. -/
def R_law : String := "SpoolFarmLaw"
def lw_P (b : Addr) (xs : List Int32) (args : Array Value) (s : State) : Prop := args = #[.ref b] ∧ s.IntsAt b xs ∧ xs.length ≤ 3584 ∧ (Jvm.Cond.and given_1 narrow_1).before args s = true
/-- what a walk over the start with the record d0 says of its end, said of the start itself -/
theorem lw_closed {s t : State} {o : Outcome} {d0 : Drawn} {L : List Loc} {k n : Nat} (hd0 : s.drawn.sameBut d0 lw_cs) (hv : ∃ v, o = .returned v) (hW : (s.setDrawn d0).WarmedH t.vm) (hs : (s.setDrawn d0).sameButNew ({ t with vm := s.vm } : State) L k n) : State.butDraws s t lw_cs (fun t1 => Framed s o t1 L k n) := by
  have h2 : t.drawn = d0 := congrArg State.drawn hs.1
  refine ⟨⟨hv, hW, State.sameButNew.setDrawn hs s.drawn⟩, ?_, by decide⟩
  rw [h2]
  exact hd0
def lw_Q (_ : Array Value) (s : State) (o : Outcome) (t : State) : Prop := o = .returned (some (.int 1)) ∧ State.butDraws s t lw_cs (fun t1 => Framed s o t1 [] 678332 6993525)
def lw_Z (below : List Frame) (a : Array Value) (s : State) : State → Prop := fun t => ∃ o, t.status = .running ∧ Ended t below o ∧ lw_Q a s o t
/-- the law's own end, with 1 on the stack, nothing written that was there before, its room as the claim has it; d0: the record of draws at this point (at the entry s.drawn: begin with 'refine W.base ?_' and 'have hd0 := Drawn.sameBut.refl s.drawn lw_cs') -/
theorem lw_ret {p : Program} {l : Launch} {e : Env} {s : State} {m : MethodId} {below : List Frame} {meth : Method} {c : Code} {b : Nat} {d0 : Drawn} (hd0 : s.drawn.sameBut d0 lw_cs) (hx : p.tables.exec = Jvm.exec) (hb : c.code = code) (hr : meth.sig.returnType = ret) (hlocks : meth.locks = false) {pc : Nat} {H : Heap} {ls : Array Slot} (hdg : decode code pc = .ok (.ireturn, 1)) : W p l e room_1 (s.setDrawn d0) m #[Value.ref b] below meth c H [] 678332 6993525 (lw_Z below #[Value.ref b] s) (F0 m pc ls [.int 1]) := by
  intro T hT X
  obtain ⟨fs, hret, hrun, hended, hW, hframe⟩ := X.leave (v := some (.int 1)) (hlocks := hlocks) (fun h => by rw [hr] at h; cases h)
  have hmeth' : T.vm.method? m = some meth := X.method'
  refine ⟨T.setFrames fs, ?_, .returned (some (.int 1)), hrun, hended, rfl, lw_closed hd0 ⟨_, rfl⟩ hW hframe⟩
  jvm_step X.here [X.here.top, hx, hb, hdg, hmeth', hr, ret, narrow_b1]
  (try refine ⟨rfl, ?_⟩); (try refine ⟨rfl, ?_⟩)
  first | (intro acts; rw [hret _ acts rfl rfl rfl]) | rw [hret _ _ rfl rfl rfl]
  exact Steps.refl _
/-- what holds at the law's entry: the machine, the code, the tables' words (any of lw_tbl by 'hts w (by decide +kernel)'), the script of L ints xs at the cell b, what the Statement gives of the start (any of its parts by flat_of_before) -/
def lw_At (p : Program) (s : State) (m : MethodId) (meth : Method) (c : Code) (b L : Nat) (xs : Nat → Int32) : Prop :=
  p.tables.exec = Jvm.exec ∧ c.code = code ∧ meth.sig.returnType = ret ∧ c.maxLocals = 9 ∧ s.vm.findClass R_law = some m.cls ∧ (∀ w ∈ lw_tbl, w.before #[Value.ref b] s = true) ∧ va_X b L xs s s.heap ∧ b < s.heap.size ∧ meth.locks = false ∧ (Jvm.Cond.and given_1 narrow_1).before #[Value.ref b] s = true
section LAWLOOP
theorem and63 (x : Int32) : ∃ k : Nat, k < 64 ∧ x &&& nI 63 = nI k := by
  refine ⟨(x &&& nI 63).toBitVec.toNat, ?_, ?_⟩
  · rw [Int32.toBitVec_and, BitVec.toNat_and]
    have h : (nI 63).toBitVec.toNat = 63 := by decide
    rw [h]
    exact Nat.lt_succ_of_le Nat.and_le_right
  · exact (Int32.ofNat_bitVecToNat (x &&& nI 63).toBitVec).symm
set_option maxHeartbeats 4000000 in
set_option maxRecDepth 100000 in
/-- the choice of the call -/
theorem law_switch {Z : Zp} {p : Program} {l : Launch} {e : Env} {s : State} {m : MethodId} {args : Array Value} {below : List Frame} {meth : Method} {c : Code} {Q : State → Prop} {M0 : Wd} {A : AF} {C : CF} {b N n : Nat} {xs : Nat → Int32} (S : CallFix p m c cL_law 9 s args wsL_law RL) (hz : Stat Z s) (hml : c.maxLocals = 9) (hfl : l.stackTraces = false) (hX : Scr b N xs Z s) (hN : N ≤ 3584) (hn : 7 * n + 7 ≤ N) (h0 : LI Z n A C) (kk : ∀ (A2 : AF) (C2 : CF), LI Z (n + 1) A2 C2 → LGS Z p l e s m args below meth c Q (bC (n + 1) C2) (bS (n + 1) C2) M0 A2 C2 3146 (Ll b n A2) []) : LGS Z p l e s m args below meth c Q (bC n C) (bS n C) M0 A C 38 (Ll b n A) [] := by
  refine s_aload_n (pc := 38) S 1 dL_law_38 rfl rfl ?_
  refine s_iload (pc := 39) S 0 dL_law_39 rfl ?_
  refine s_sld (pc := 41) S hX (j := 7 * n) (by omega) (by omega) dL_law_41 ?_
  refine s_bipush (pc := 42) S (v := nI 63) dL_law_42 (by decide) ?_
  refine s_iand (pc := 44) S dL_law_44 ?_
  obtain ⟨k, hk, hx⟩ := and63 (xs (7 * n))
  refine s_top (u := .int (nI k)) (congrArg Value.int hx) ?_
  clear hx
  by_cases hk2 : k < 44
  · have hk3 : k = 0 ∨ k = 1 ∨ k = 2 ∨ k = 3 ∨ k = 4 ∨ k = 5 ∨ k = 6 ∨ k = 7 ∨ k = 8 ∨ k = 9 ∨ k = 10 ∨ k = 11 ∨ k = 12 ∨ k = 13 ∨ k = 14 ∨ k = 15 ∨ k = 16 ∨ k = 17 ∨ k = 18 ∨ k = 19 ∨ k = 20 ∨ k = 21 ∨ k = 22 ∨ k = 23 ∨ k = 24 ∨ k = 25 ∨ k = 26 ∨ k = 27 ∨ k = 28 ∨ k = 29 ∨ k = 30 ∨ k = 31 ∨ k = 32 ∨ k = 33 ∨ k = 34 ∨ k = 35 ∨ k = 36 ∨ k = 37 ∨ k = 38 ∨ k = 39 ∨ k = 40 ∨ k = 41 ∨ k = 42 ∨ k = 43 := by omega
    rcases hk3 with rfl | rfl | rfl | rfl | rfl | rfl | rfl | rfl | rfl | rfl | rfl | rfl | rfl | rfl | rfl | rfl | rfl | rfl | rfl | rfl | rfl | rfl | rfl | rfl | rfl | rfl | rfl | rfl | rfl | rfl | rfl | rfl | rfl | rfl | rfl | rfl | rfl | rfl | rfl | rfl | rfl | rfl | rfl | rfl
    · exact s_tabIn (pc := 45) S 236 dL_law_45 (by decide) (by decide) (off := 191) (by decide +kernel) (by decide) (lc_addUser S hz hml hfl hX hN hn h0 kk)
    · exact s_tabIn (pc := 45) S 304 dL_law_45 (by decide) (by decide) (off := 259) (by decide +kernel) (by decide) (lc_addPrinter S hz hml hfl hX hN hn h0 kk)
    · exact s_tabIn (pc := 45) S 400 dL_law_45 (by decide) (by decide) (off := 355) (by decide +kernel) (by decide) (lc_addTray S hz hml hfl hX hN hn h0 kk)
    · exact s_tabIn (pc := 45) S 482 dL_law_45 (by decide) (by decide) (off := 437) (by decide +kernel) (by decide) (lc_trayCount S hz hml hfl hX hN hn h0 kk)
    · exact s_tabIn (pc := 45) S 538 dL_law_45 (by decide) (by decide) (off := 493) (by decide +kernel) (by decide) (lc_load S hz hml hfl hX hN hn h0 kk)
    · exact s_tabIn (pc := 45) S 618 dL_law_45 (by decide) (by decide) (off := 573) (by decide +kernel) (by decide) (lc_changePaper S hz hml hfl hX hN hn h0 kk)
    · exact s_tabIn (pc := 45) S 700 dL_law_45 (by decide) (by decide) (off := 655) (by decide +kernel) (by decide) (lc_sheetsIn S hz hml hfl hX hN hn h0 kk)
    · exact s_tabIn (pc := 45) S 768 dL_law_45 (by decide) (by decide) (off := 723) (by decide +kernel) (by decide) (lc_paperOf S hz hml hfl hX hN hn h0 kk)
    · exact s_tabIn (pc := 45) S 836 dL_law_45 (by decide) (by decide) (off := 791) (by decide +kernel) (by decide) (lc_setToner S hz hml hfl hX hN hn h0 kk)
    · exact s_tabIn (pc := 45) S 932 dL_law_45 (by decide) (by decide) (off := 887) (by decide +kernel) (by decide) (lc_tonerOf S hz hml hfl hX hN hn h0 kk)
    · exact s_tabIn (pc := 45) S 1016 dL_law_45 (by decide) (by decide) (off := 971) (by decide +kernel) (by decide) (lc_setStaples S hz hml hfl hX hN hn h0 kk)
    · exact s_tabIn (pc := 45) S 1084 dL_law_45 (by decide) (by decide) (off := 1039) (by decide +kernel) (by decide) (lc_staplesIn S hz hml hfl hX hN hn h0 kk)
    · exact s_tabIn (pc := 45) S 1140 dL_law_45 (by decide) (by decide) (off := 1095) (by decide +kernel) (by decide) (lc_grant S hz hml hfl hX hN hn h0 kk)
    · exact s_tabIn (pc := 45) S 1236 dL_law_45 (by decide) (by decide) (off := 1191) (by decide +kernel) (by decide) (lc_quotaOf S hz hml hfl hX hN hn h0 kk)
    · exact s_tabIn (pc := 45) S 1320 dL_law_45 (by decide) (by decide) (off := 1275) (by decide +kernel) (by decide) (lc_setPrices S hz hml hfl hX hN hn h0 kk)
    · exact s_tabIn (pc := 45) S 1400 dL_law_45 (by decide) (by decide) (off := 1355) (by decide +kernel) (by decide) (lc_submit S hz hml hfl hX hN hn h0 kk)
    · exact s_tabIn (pc := 45) S 1552 dL_law_45 (by decide) (by decide) (off := 1507) (by decide +kernel) (by decide) (lc_setStapled S hz hml hfl hX hN hn h0 kk)
    · exact s_tabIn (pc := 45) S 1643 dL_law_45 (by decide) (by decide) (off := 1598) (by decide +kernel) (by decide) (lc_cancel S hz hml hfl hX hN hn h0 kk)
    · exact s_tabIn (pc := 45) S 1699 dL_law_45 (by decide) (by decide) (off := 1654) (by decide +kernel) (by decide) (lc_stateOf S hz hml hfl hX hN hn h0 kk)
    · exact s_tabIn (pc := 45) S 1755 dL_law_45 (by decide) (by decide) (off := 1710) (by decide +kernel) (by decide) (lc_pagesLeft S hz hml hfl hX hN hn h0 kk)
    · exact s_tabIn (pc := 45) S 1811 dL_law_45 (by decide) (by decide) (off := 1766) (by decide +kernel) (by decide) (lc_sheetsOut S hz hml hfl hX hN hn h0 kk)
    · exact s_tabIn (pc := 45) S 1867 dL_law_45 (by decide) (by decide) (off := 1822) (by decide +kernel) (by decide) (lc_stapledCopies S hz hml hfl hX hN hn h0 kk)
    · exact s_tabIn (pc := 45) S 1923 dL_law_45 (by decide) (by decide) (off := 1878) (by decide +kernel) (by decide) (lc_reasonFor S hz hml hfl hX hN hn h0 kk)
    · exact s_tabIn (pc := 45) S 1991 dL_law_45 (by decide) (by decide) (off := 1946) (by decide +kernel) (by decide) (lc_wouldPrint S hz hml hfl hX hN hn h0 kk)
    · exact s_tabIn (pc := 45) S 2059 dL_law_45 (by decide) (by decide) (off := 2014) (by decide +kernel) (by decide) (lc_release S hz hml hfl hX hN hn h0 kk)
    · exact s_tabIn (pc := 45) S 2127 dL_law_45 (by decide) (by decide) (off := 2082) (by decide +kernel) (by decide) (lc_releaseAll S hz hml hfl hX hN hn h0 kk)
    · exact s_tabIn (pc := 45) S 2195 dL_law_45 (by decide) (by decide) (off := 2150) (by decide +kernel) (by decide) (lc_stopOf S hz hml hfl hX hN hn h0 kk)
    · exact s_tabIn (pc := 45) S 2251 dL_law_45 (by decide) (by decide) (off := 2206) (by decide +kernel) (by decide) (lc_bestPrinter S hz hml hfl hX hN hn h0 kk)
    · exact s_tabIn (pc := 45) S 2307 dL_law_45 (by decide) (by decide) (off := 2262) (by decide +kernel) (by decide) (lc_queueLength S hz hml hfl hX hN hn h0 kk)
    · exact s_tabIn (pc := 45) S 2363 dL_law_45 (by decide) (by decide) (off := 2318) (by decide +kernel) (by decide) (lc_queueAt S hz hml hfl hX hN hn h0 kk)
    · exact s_tabIn (pc := 45) S 2431 dL_law_45 (by decide) (by decide) (off := 2386) (by decide +kernel) (by decide) (lc_logSize S hz hml hfl hX hN hn h0 kk)
    · exact s_tabIn (pc := 45) S 2444 dL_law_45 (by decide) (by decide) (off := 2399) (by decide +kernel) (by decide) (lc_logJob S hz hml hfl hX hN hn h0 kk)
    · exact s_tabIn (pc := 45) S 2500 dL_law_45 (by decide) (by decide) (off := 2455) (by decide +kernel) (by decide) (lc_logPrinter S hz hml hfl hX hN hn h0 kk)
    · exact s_tabIn (pc := 45) S 2556 dL_law_45 (by decide) (by decide) (off := 2511) (by decide +kernel) (by decide) (lc_logPages S hz hml hfl hX hN hn h0 kk)
    · exact s_tabIn (pc := 45) S 2612 dL_law_45 (by decide) (by decide) (off := 2567) (by decide +kernel) (by decide) (lc_logSheets S hz hml hfl hX hN hn h0 kk)
    · exact s_tabIn (pc := 45) S 2668 dL_law_45 (by decide) (by decide) (off := 2623) (by decide +kernel) (by decide) (lc_pagesOf S hz hml hfl hX hN hn h0 kk)
    · exact s_tabIn (pc := 45) S 2724 dL_law_45 (by decide) (by decide) (off := 2679) (by decide +kernel) (by decide) (lc_pagesByLog S hz hml hfl hX hN hn h0 kk)
    · exact s_tabIn (pc := 45) S 2780 dL_law_45 (by decide) (by decide) (off := 2735) (by decide +kernel) (by decide) (lc_billOf S hz hml hfl hX hN hn h0 kk)
    · exact s_tabIn (pc := 45) S 2835 dL_law_45 (by decide) (by decide) (off := 2790) (by decide +kernel) (by decide) (lc_billByLog S hz hml hfl hX hN hn h0 kk)
    · exact s_tabIn (pc := 45) S 2890 dL_law_45 (by decide) (by decide) (off := 2845) (by decide +kernel) (by decide) (lc_meanPages S hz hml hfl hX hN hn h0 kk)
    · exact s_tabIn (pc := 45) S 2955 dL_law_45 (by decide) (by decide) (off := 2910) (by decide +kernel) (by decide) (lc_colourShare S hz hml hfl hX hN hn h0 kk)
    · exact s_tabIn (pc := 45) S 3021 dL_law_45 (by decide) (by decide) (off := 2976) (by decide +kernel) (by decide) (lc_isConsistent S hz hml hfl hX hN hn h0 kk)
    · exact s_tabIn (pc := 45) S 3034 dL_law_45 (by decide) (by decide) (off := 2989) (by decide +kernel) (by decide) (lc_writeJob S hz hml hfl hX hN hn h0 kk)
    · exact s_tabIn (pc := 45) S 3090 dL_law_45 (by decide) (by decide) (off := 3045) (by decide +kernel) (by decide) (lc_lineAt S hz hml hfl hX hN hn h0 kk)
  · refine s_tabOut (pc := 45) S 3146 dL_law_45 (Or.inr ?_) (by decide) ?_
    · rw [nI_toInt (by omega)]
      omega
    · have h31 := h0.2.2
      exact s_widen (by unfold bC; omega) (by unfold bS; omega) (kk A C ⟨h0.1, h0.2.1, by omega⟩)
set_option maxHeartbeats 4000000 in
set_option maxRecDepth 100000 in
/-- the law's loop: from its head, n calls done, to its end -/
theorem law_loop {Z : Zp} {p : Program} {l : Launch} {e : Env} {s : State} {m : MethodId} {args : Array Value} {below : List Frame} {meth : Method} {c : Code} {Q : State → Prop} {M0 : Wd} {b N : Nat} {xs : Nat → Int32} (S : CallFix p m c cL_law 9 s args wsL_law RL) (hz : Stat Z s) (hml : c.maxLocals = 9) (hfl : l.stackTraces = false) (hX : Scr b N xs Z s) (hN : N ≤ 3584)
    (fin : ∀ (A : AF) (C : CF) (L : List (Nat × Value)), LGS Z p l e s m args below meth c Q 678332 6993525 M0 A C 3153 L [.int 1]) : ∀ (r n : Nat) (A : AF) (C : CF), N + 1 ≤ 7 * n + r → 7 * n ≤ N → LI Z n A C → LGS Z p l e s m args below meth c Q (bC n C) (bS n C) M0 A C 28 (Ll b n A) [] := by
  intro r
  induction r with
  | zero => intro n A C h1 h2; omega
  | succ r ih =>
    intro n A C h1 h2 h0
    refine s_iload (pc := 28) S 0 dL_law_28 rfl ?_
    refine s_aload_n (pc := 30) S 1 dL_law_30 rfl rfl ?_
    refine s_slen (pc := 31) S hX dL_law_31 ?_
    refine s_bipush (pc := 32) S (v := nI 7) dL_law_32 (by decide) ?_
    refine s_isub (pc := 34) S dL_law_34 ?_
    have e1 := pk_sub_toInt (a := N) (b := 7) (by omega) (by decide)
    have e2 : (nI (7 * n)).toInt = ((7 * n : Nat) : Int) := nI_toInt (by omega)
    refine s_icmp_gt (pc := 35) S 3152 dL_law_35 (by decide) (fun hc => ?_) (fun hc => ?_)
    · refine s_iconst (pc := 3152) S (v := 1) dL_law_3152 (by decide) ?_
      have hcap := h0.cap (by omega)
      rw [show room_1.cells = 678332 from rfl, show room_1.slots = 6993525 from rfl] at hcap
      exact s_widen (by omega) (by omega) (fin A C _)
    · rw [Int32.lt_iff_toInt_lt, e1, e2] at hc
      have hn : 7 * n + 7 ≤ N := by omega
      refine law_switch S hz hml hfl hX hN hn h0 (fun A2 C2 hL2 => ?_)
      refine s_iinc (pc := 3146) S 0 [(5, .int (nI (7 * n + 7))), (0, .ref b), (1, .ref (A2 0 0)), (2, .ref (A2 60 100)), (3, .ref (A2 70 0)), (4, .ref (A2 70 1))] dL_law_3146 rfl (nI_add _ 7) (by decide) rfl ?_
      refine s_goto (pc := 3149) S 28 dL_law_3149 (by decide) ?_
      exact ih (n + 1) A2 C2 (by omega) (by omega) hL2
end LAWLOOP
