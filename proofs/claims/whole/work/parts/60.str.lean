section ZSTR
variable {Z : Zp} {p : Program} {l : Launch} {e : Env} {R : Room} {s : State} {m : MethodId} {args : Array Value} {below : List Frame} {meth : Method} {c : Code} {Q : State → Prop} {cells slots nL : Nat} {M : Wd} {pc : Nat} {L : List (Nat × Value)} {st rest : List Value}
variable {cc : ByteArray} {Ts : List Cond} {own : String}
/-- a text of the start: its object, its bytes -/
def zS (Z : Zp) (q b n : Nat) (tx : Nat → Nat) (U : State) : Prop := va_O "java/lang/String" q (AZ Z) U U.heap ∧ va_OF "java/lang/String" "coder" "B" (.int 0) q (AZ Z) U U.heap ∧ va_OF "java/lang/String" "value" "[B" (.ref b) q (AZ Z) U U.heap ∧ va_T .byte b n (fun j => .int (nI (tx j))) (AZ Z) U U.heap
/-- where a class's text lies -/
theorem Stat.kr (h : Stat Z s) {ow tx : String} {k : Nat} (h1 : Cond.stringRef ow k tx ∈ lw_tbl) (h2 : Cond.exactly (.string ow k) "java/lang/String" ∈ flatC (Jvm.Cond.and given_1 narrow_1)) : vk_R ow k tx (Z.2.2.2 (.string ow k)) s := by
  obtain ⟨U0, e1, ⟨-, eW, eT⟩, e3, e4, e5, e6, e7⟩ := h
  obtain ⟨a, c, cA, kA, q1, -⟩ := Cond.exactly_spec (args := #[Value.ref Z.2.2.1]) (first := U0) (o := none) (s := U0) (idx := []) (t := .string ow k) (cls := "java/lang/String") (flat_of_before _ e4 _ h2)
  rw [eT _ _ q1]
  exact vk_R.warm eW (vk_R.of (e3 _ h1) q1)
theorem Stat.zs (h : Stat Z s) {ow : String} {k N : Nat} {f : Nat → Nat} (hN : N < 2 ^ 31) (h1 : Cond.exactly (.string ow k) "java/lang/String" ∈ flatC (Jvm.Cond.and given_1 narrow_1)) (h2 : Cond.eq (.field (.string ow k) "java/lang/String" "coder" "B") (.int 0) ∈ flatC (Jvm.Cond.and given_1 narrow_1)) (h3 : Cond.arrayOf (.field (.string ow k) "java/lang/String" "value" "[B") .byte ∈ flatC (Jvm.Cond.and given_1 narrow_1)) (h4 : Cond.eq (.length (.field (.string ow k) "java/lang/String" "value" "[B")) (.int (Int32.ofNat N)) ∈ flatC (Jvm.Cond.and given_1 narrow_1)) (h5 : ∀ j : Nat, j < N → Cond.eq (.elem (.field (.string ow k) "java/lang/String" "value" "[B") (.int (Int32.ofNat j))) (.int (nI (f j))) ∈ flatC (Jvm.Cond.and given_1 narrow_1)) :
    zS Z (Z.2.2.2 (.string ow k)) (Z.2.2.2 (.field (.string ow k) "java/lang/String" "value" "[B")) N f s := by
  obtain ⟨U0, e1, ⟨-, eW, eT⟩, e3, e4, e5, e6, e7⟩ := h
  have hA : ∀ a : Nat, a < U0.heap.size → ¬ AZ Z a := fun a ha => Nat.not_le.mpr (e1 ▸ ha)
  obtain ⟨a, c, cA, kA, q1, q2, q3, q4, q5, q6, -⟩ := Cond.exactly_spec (args := #[Value.ref Z.2.2.1]) (first := U0) (o := none) (s := U0) (idx := []) (t := .string ow k) (cls := "java/lang/String") (flat_of_before _ e4 _ h1)
  obtain ⟨t, ht, hT⟩ := va_Tof (f := fun j => .int (nI (f j))) (A := AZ Z) hN (flat_of_before _ e4 _ h3) (va_eqt (flat_of_before _ e4 _ h4)) (fun j hj => va_eqt (flat_of_before _ e4 _ (h5 j hj))) hA
  have hO : va_O "java/lang/String" a (AZ Z) U0 U0.heap := ⟨cA, q3, q5, by rw [q6]; exact q2, hA a (Array.getElem?_eq_some_iff.mp q3).1⟩
  have hC : va_OF "java/lang/String" "coder" "B" (.int 0) a (AZ Z) U0 U0.heap := vk_OFof q1 (va_eqt (flat_of_before _ e4 _ h2)) hA
  have hV : va_OF "java/lang/String" "value" "[B" (.ref t) a (AZ Z) U0 U0.heap := vk_OFof q1 ht hA
  have hk : ∀ a : Nat, a < U0.heap.size → ¬ AZ Z a → s.heap[a]? = U0.heap[a]? := fun a ha _ => e7 a (e1 ▸ ha)
  rw [eT _ _ q1, eT _ _ ht]
  exact ⟨(va_O.moved e5 hO).kept hk, (va_OF.moved e5 hC).kept hk, (va_OF.moved e5 hV).kept hk, (va_T.moved e5 hT).kept hk⟩
/-- a word of the tables, wherever the walk stands -/
theorem Stat.word (h : Stat Z s) {w : Cond} {A : Array Value} (h1 : w ∈ lw_tbl) (h2 : (w.onTables && w.keepsFace) = true) : w.before A s = true := by
  obtain ⟨U0, e1, ⟨-, eW, eT⟩, e3, e4, e5, e6, e7⟩ := h
  simp only [Bool.and_eq_true] at h2
  have h3 := Cond.onTables_warmFace (T := s) (args' := A) eW h2.1 h2.2 (e3 _ h1)
  rwa [State.setVm_self] at h3
theorem Stat.words (h : Stat Z s) {L : List Cond} {A : Array Value} (h1 : L.all (fun w => decide (w ∈ lw_tbl) && (w.onTables && w.keepsFace)) = true) : ∀ w ∈ L, w.before A s = true := by
  intro w hw
  have h2 := List.all_eq_true.mp h1 w hw
  rw [Bool.and_eq_true] at h2
  exact h.word (of_decide_eq_true h2.1) h2.2
theorem g_sget (S : CallFix p m c cc nL s args Ts own) {o n d ref : String} {q index : Nat} {v : Value} (hE : va_OF o n d v q (AZ Z) s s.heap) (hlink : Cond.fieldLink own index ref n d ∈ Ts) (hsame : ∀ x, s.fieldFound? o n d = some x → s.fieldFound? ref n d = some x) (hd : decode cc pc = .ok (.getfield index, 3)) (kk : G Z p l e R s m args below meth c Q cells slots nL M (pc + 3) L (v :: rest)) : G Z p l e R s m args below meth c Q cells slots nL M pc L (.ref q :: rest) :=
  fun H locs ls hP hS hl => vk_getf S.1 S.2.1 hE hS S.2.2.2.1 (S.2.2.2.2 _ hlink) hsame hd (kk H locs ls hP hS hl)
theorem g_tlen (S : CallFix p m c cc nL s args Ts own) {ty : FieldType} {t N : Nat} {f : Nat → Value} (hT : va_T ty t N f (AZ Z) s s.heap) (hd : decode cc pc = .ok (.arraylength, 1)) (kk : G Z p l e R s m args below meth c Q cells slots nL M (pc + 1) L (.int (nI N) :: rest)) : G Z p l e R s m args below meth c Q cells slots nL M pc L (.ref t :: rest) :=
  fun H locs ls hP hS hl => va_tlen S.1 S.2.1 hT hS (v := nI N) rfl hd (kk H locs ls hP hS hl)
theorem g_ldcS (S : CallFix p m c cc nL s args Ts own) {tx : String} {index q : Nat} (hZ : vk_R own index tx q s) (hd : decode cc pc = .ok (.ldc index, 2)) (kk : G Z p l e R s m args below meth c Q cells slots nL M (pc + 2) L (.ref q :: rest)) : G Z p l e R s m args below meth c Q cells slots nL M pc L rest :=
  fun H locs ls hP hS hl => va_ldcS S.1 S.2.1 S.2.2.2.1 hZ hd (kk H locs ls hP hS hl)
theorem g_ldcSW (S : CallFix p m c cc nL s args Ts own) {tx : String} {index q : Nat} (hZ : vk_R own index tx q s) (hd : decode cc pc = .ok (.ldc_w index, 3)) (kk : G Z p l e R s m args below meth c Q cells slots nL M (pc + 3) L (.ref q :: rest)) : G Z p l e R s m args below meth c Q cells slots nL M pc L rest := by
  intro H locs ls hP hS hl T hT X
  obtain ⟨t, a1, b1⟩ := kk H locs ls hP hS hl T hT X
  exact ⟨t, X.ldcStringW S.1 S.2.2.2.1 (text := tx) (a := q) hZ.1 hZ.2 (g := F0 m pc ls rest) rfl (by rw [S.2.1]; exact hd) t a1, b1⟩
/-- a call at an object of the start -/
theorem g_callVS (S : CallFix p m c cc nL s args Ts own) (hz : Stat Z s) (hml2 : c.maxLocals = nL) {y : MethodName} {bytes : ByteArray} {maxL n index : Nat} {ret : Option FieldType} {ws : List Cond} {rm : Room} {mc ms : Nat} {post : Option Value → Wd → Prop} {C : String} {a : Nat} (As : List Value) (hM : Ct Z l y ws rm (.ref a :: As) M mc ms post (fun _ _ => False)) (cw : CallW R s args own C index y bytes maxL ret ws rm mc ms n) (ho : va_O C a (AZ Z) s s.heap) (hst : st = As.reverse ++ .ref a :: rest) (hn : As.length = n) (hcat : (rest.map fun v => v.category).sum ≤ 8) (hd : decode cc pc = .ok (.invokevirtual index, 3)) (hf : cells + mc ≤ R.cells ∧ slots + ms ≤ R.slots) (kk : ∀ (v : Option Value) (M2 : Wd), post v M2 → G Z p l e R s m args below meth c Q (cells + mc) (slots + ms) nL M2 (pc + 3) L (v.toList ++ rest)) : G Z p l e R s m args below meth c Q cells slots nL M pc L st := by
  subst hst
  intro H locs ls hP hS hl T hT X
  have hrv : ∃ cell : Cell, H[a]? = some cell ∧ cell.vm.isStatics = false ∧ s.vm.findClass C = some cell.cls := by
    obtain ⟨cell, h1, h2, h3, -⟩ := ho.kept hS.2.1
    exact ⟨cell, h1, h2, h3⟩
  obtain ⟨v, st₀, t, T', LL, h0, X', hL, e1, e2, ⟨⟨v2, M', hv, hpo, hi⟩, hF⟩, st⟩ := va_runV (g := F0 m pc ls (As.reverse ++ .ref a :: rest)) S hM.met cw ⟨pre_blind, hrv, pre_inv hz hP hS⟩ rfl hn (hl.1.trans (hml2.symm.trans S.2.2.1)) rfl (lv_room hcat) hd hf T hT X
  cases hv
  obtain ⟨k1, k2, k3⟩ := vx_keep h0 e1 hS (fun q _ h => h) (fun q h => h) hL hF
  have hal : t.vm.Alike s.vm := by rw [← e2]; exact X'.warmed.alike.symm
  obtain ⟨t2, a1, b1⟩ := kk v M' hpo T'.heap (locs ++ LL) ls (by rw [e1]; exact hi.2.moved hal) k3 hl T' rfl X'
  exact ⟨t2, st t2 a1, b1⟩
theorem Stat.zqs (h : Stat Z s) {C n d : String} (h1 : Cond.laysStatic C n d ∈ lw_tbl) (h2 : Cond.initialized C ∈ lw_tbl) (h3 : Cond.isRef (.static C n d) ∈ flatC (Jvm.Cond.and given_1 narrow_1)) : va_Zq C n d (AZ Z) s s.heap := by
  obtain ⟨U0, e1, -, e3, e4, e5, e6, e7⟩ := h
  have hq := va_Zqof (A := AZ Z) (e3 _ h1) (e3 _ h2) (flat_of_before _ e4 _ h3) (fun a ha => Nat.not_le.mpr (e1 ▸ ha))
  exact (va_Zq.moved e5 hq).kept (fun a ha _ => e7 a (e1 ▸ ha))
theorem g_getsN (S : CallFix p m c cc nL s args Ts own) {C n d ref : String} {index : Nat} (hZ : va_Z C n d .null (AZ Z) s s.heap) (hlink : Cond.fieldLink own index ref n d ∈ Ts) (hsame : ∀ x, s.fieldFound? C n d = some x → s.fieldFound? ref n d = some x) (hd : decode cc pc = .ok (.getstatic index, 3)) (kk : G Z p l e R s m args below meth c Q cells slots nL M (pc + 3) L (.null :: rest)) : G Z p l e R s m args below meth c Q cells slots nL M pc L rest :=
  fun H locs ls hP hS hl => va_gets S.1 S.2.1 hZ hS S.2.2.2.1 (S.2.2.2.2 _ hlink) hsame hd (kk H locs ls hP hS hl)
/-- a row of bytes copied whole -/
theorem g_cloneB (S : CallFix p m c cc nL s args Ts own) (hz : Stat Z s) (hml2 : c.maxLocals = nL) {a n index : Nat} {g : Nat → Nat} {r : Role} (r2 : Role) (hm : M r = some (a, aN .byte n g)) (hb : ∀ j : Nat, j < n → g j < 128) (hlink : Cond.methodLink own index ⟨"[B", "clone", "()Ljava/lang/Object;"⟩ ∈ Ts) (hsame : Cond.sameMethod "[B" "java/lang/Object" "clone" "()Ljava/lang/Object;" ∈ Ts) (hnat : Cond.native ⟨"java/lang/Object", "clone", "()Ljava/lang/Object;"⟩ ∈ Ts) (hinst : Cond.instanceMethod ⟨"java/lang/Object", "clone", "()Ljava/lang/Object;"⟩ ∈ Ts) (hsel : Cond.selects "[B" ⟨"[B", "clone", "()Ljava/lang/Object;"⟩ ⟨"java/lang/Object", "clone", "()Ljava/lang/Object;"⟩ ∈ Ts) (hcl : (Cond.castable "[B" "java/lang/Cloneable").before args s = true)
    (hframes : 1 ≤ R.frames) (hlocals : (rest.map fun v => v.category).sum + 14 ≤ R.locals) (hcells : cells + 1 ≤ R.cells) (hslots : slots + n ≤ R.slots) (hd : decode cc pc = .ok (.invokevirtual index, 3))
    (kk : ∀ (q : Nat) (M2 : Wd), (∀ r3 : Role, r3 ≠ r2 → M2 r3 = M r3) → M2 r2 = some (q, aN .byte n g) → G Z p l e R s m args below meth c Q (cells + 1) (slots + n) nL M2 (pc + 3) L (.ref q :: rest)) : G Z p l e R s m args below meth c Q cells slots nL M pc L (.ref a :: rest) := by
  intro H locs ls hP hS hl T hT X
  obtain ⟨cA, h1, h2, h3⟩ := (hP.1 _ _ _ hm).1
  have hnm : s.vm.findClass "[B" = some cA := h3
  have hsz : (vp_cell cA (n, .inl (fun j => nI (g j)))).slots.size = n := arrV_size _ _ _
  have hcellE : ({ cls := (vp_cell cA (n, .inl (fun j => nI (g j)))).cls, slots := (vp_cell cA (n, .inl (fun j => nI (g j)))).slots } : Cell) = vp_cell cA (n, .inl (fun j => nI (g j))) := rfl
  obtain ⟨c0, t0', f1, f2, f3⟩ := Cond.castable_spec hcl
  cases hnm.symm.trans f1
  have hcellT : T.heap[a]? = some (vp_cell cA (n, .inl (fun j => nI (g j)))) := by rw [hT]; exact h1
  obtain ⟨-, kA, hkA, comp, hkind⟩ := State.isArrayOf_alike X.warmed.alike (h2 0 (fun _ => .null))
  obtain ⟨-, kS, hkS, compS, hkindS⟩ := h2 0 (fun _ => .null)
  obtain ⟨vm', X', st⟩ := X.cloneArray S.1 S.2.2.2.1 (S.2.2.2.2 _ hlink) (S.2.2.2.2 _ hsame) (S.2.2.2.2 _ hnat) (S.2.2.2.2 _ hinst) (S.2.2.2.2 _ hsel) (a := a) (cell := vp_cell cA (n, .inl (fun j => nI (g j)))) hcellT (fun k h => by cases h) (fun h => by cases h) hnm f2 f3
    (fun i v hv => by
      have hk' : T.vm.classes[cA]? = some kA := hkA
      have hi : i < n := by
        have h9 := (Array.getElem?_eq_some_iff.mp hv).1
        rw [hsz] at h9
        exact h9
      have hv2 : v = .int (nI (g i)) := by
        have h9 : (arrV cA n (fun j => .int (nI (g j)))).slots[i]? = some v := hv
        rw [arrV_read _ _ hi] at h9
        exact (Option.some.inj h9).symm
      have hf : fits .byte v = true := by rw [hv2]; exact fit_b (hb i hi)
      have hcl0 : (vp_cell cA (n, .inl (fun j => nI (g j)))).cls = cA := rfl
      simpa [State.fitsSlot, State.slotType?, hcl0, hk', hkind] using hf)
    (g := F0 m pc ls (.ref a :: rest)) rfl (by rw [hml2]; exact hl.1) rfl (by rw [S.2.1]; exact hd) hframes (by show 2 * 0 + _ + 14 ≤ _; omega) hcells (by rw [hsz]; exact hslots) (hloader := Vm.clonesLoader_of_array hkS hkindS)
  rw [hcellE, hsz] at X'
  generalize hH1 : H.push (vp_cell cA (n, .inl (fun j => nI (g j)))) = H1
  have z1 : H1.size = H.size + 1 := by rw [← hH1, Array.size_push]
  have e1 : H1[H.size]? = some (vp_cell cA (n, .inl (fun j => nI (g j)))) := by rw [← hH1, Array.getElem?_push_size]
  have o1 : ∀ q : Nat, q < H.size → H1[q]? = H[q]? := fun q hq => by rw [← hH1, Array.getElem?_push, if_neg (Nat.ne_of_lt hq)]
  obtain ⟨t, b1, b2⟩ := kk H.size (wup M r2 H.size (aN .byte n g)) (fun r3 h => wup_n h) wup_s H1 locs ls (hP.new r2 (Nat.le_trans hz.le hS.1) ⟨cA, e1, h2, h3⟩ o1) (hS.new z1 o1) hl ((T.setVm vm').pushCell (vp_cell cA (n, .inl (fun j => nI (g j))))) (by rw [← hH1, ← hT]; rfl) X'
  refine ⟨t, st t ?_, b2⟩
  rw [hcellE, hT]
  exact b1
theorem g_castB (S : CallFix p m c cc nL s args Ts own) {a n index : Nat} {g : Nat → Nat} {r : Role} (hm : M r = some (a, aN .byte n g)) (hlink : Cond.classLink own index "[B" ∈ Ts) (hd : decode cc pc = .ok (.checkcast index, 3)) (kk : G Z p l e R s m args below meth c Q cells slots nL M (pc + 3) L (.ref a :: rest)) : G Z p l e R s m args below meth c Q cells slots nL M pc L (.ref a :: rest) := by
  intro H locs ls hP hS hl
  obtain ⟨cA, h1, h2, h3⟩ := (hP.1 _ _ _ hm).1
  refine va_castA (D := Z.1) (cl := vwCl) (ws := [(a, .inl (cA, (n, .inl (fun j => nI (g j)))))]) S.1 S.2.1 S.2.2.2.1 (S.2.2.2.2 _ hlink) (fun k q hk => ?_) 0 rfl h3 hd (kk H locs ls hP hS hl)
  have hz : k < 1 := (List.getElem?_eq_some_iff.mp hk).1
  rw [show k = 0 by omega] at hk
  cases hk
  exact h1
theorem nar_b0 {x : Nat} (h : x < 128) : narrow .byte (.int (nI x)) = .int (nI x) := by
  have := pk_nb (nI x)
  rw [nI_by x h] at this
  exact this
set_option maxHeartbeats 1000000 in
/-- System.arraycopy of bytes of the start -/
theorem g_copyS (S : CallFix p m c cc nL s args Ts own) {n0 n1 a0 a index : Nat} {f g : Nat → Nat} {r : Role} (hX : va_T .byte a0 n0 (fun j => .int (nI (f j))) (AZ Z) s s.heap) (hm : M r = some (a, aN .byte n1 g)) {sp dp n : Nat} (h4 : sp + n ≤ n0) (h5 : dp + n ≤ n1) (hb0 : n0 < 2 ^ 31) (hb1 : n1 < 2 ^ 31) (hfit : ∀ i, i < n → fits .byte (.int (nI (f (sp + i)))) = true)
    (hlink : Cond.methodLink own index arraycopyName ∈ Ts) (hnat : Cond.native arraycopyName ∈ Ts) (hstat : Cond.static arraycopyName ∈ Ts) (hini : Cond.initialized "java/lang/System" ∈ Ts) (hml2 : c.maxLocals = nL) (hframes : 1 ≤ R.frames) (hlocals : (rest.map fun v => v.category).sum + (nativeFrameWords "java/lang/System" "arraycopy" 5 + 11) ≤ R.locals) (hd : decode cc pc = .ok (.invokestatic index, 3))
    (kk : ∀ M2 : Wd, (∀ r2 : Role, r2 ≠ r → M2 r2 = M r2) → M2 r = some (a, aN .byte n1 (cpN f g sp dp n)) → G Z p l e R s m args below meth c Q cells slots nL M2 (pc + 3) L rest) : G Z p l e R s m args below meth c Q cells slots nL M pc L (.int (nI n) :: .int (nI dp) :: .ref a :: .int (nI sp) :: .ref a0 :: rest) := by
  intro H locs ls hP hS hl T hT X
  obtain ⟨scr, hs1, hs2, hs3, hs4, -, hs5, hs7⟩ := hX
  have x1 : H[a0]? = some scr := by rw [hS.2.1 a0 (Array.getElem?_eq_some_iff.mp hs1).1 hs7]; exact hs1
  obtain ⟨c1, y1, y2, y3⟩ := (hP.1 _ _ _ hm).1
  obtain ⟨hs6, k0, hk0, cm0, hkk0⟩ := hs2
  obtain ⟨-, k1, hk1, cm1, hkk1⟩ := y2 n1 (fun j => .int (nI (g j)))
  have es : (nI sp).toNatClampNeg = sp := nI_clamp (by omega)
  have ed : (nI dp).toNatClampNeg = dp := nI_clamp (by omega)
  have en : (nI n).toNatClampNeg = n := nI_clamp (by omega)
  obtain ⟨vm', X', step⟩ := X.arraycopy S.1 S.2.2.2.1 (S.2.2.2.2 _ hlink) (S.2.2.2.2 _ hnat) (S.2.2.2.2 _ hstat) (S.2.2.2.2 _ hini) (src := a0) (dst := a) (cs := scr) (cd := vp_cell c1 (n1, .inl (fun j => nI (g j)))) (srcPos := nI sp) (destPos := nI dp) (n := nI n) (by rw [hT]; exact x1) (by rw [hT]; exact y1)
    hs6 (fun _ h => by cases h) hs3 (fun h => by cases h) hk0 hk1 hkk0 hkk1 (by simp [refKind]) (nI_pos (by omega)) (nI_pos (by omega)) (nI_pos (by omega))
    (by rw [nI_toInt (show sp < 2 ^ 31 by omega), nI_toInt (show n < 2 ^ 31 by omega)]; omega)
    (by rw [nI_toInt (show dp < 2 ^ 31 by omega), nI_toInt (show n < 2 ^ 31 by omega)]; show ¬ _ > ((arrV c1 n1 (fun j => .int (nI (g j)))).slots.size : Int); rw [arrV_size]; omega)
    (fun vm₁ _ i hi => by
      rw [en] at hi
      rw [es]
      have e0 : scr.slots.getD (sp + i) .null = .int (nI (f (sp + i))) := by
        rw [Array.getD_eq_getD_getElem?, hs5 _ (by omega)]
        rfl
      rw [e0]
      exact ⟨hfit i hi, trivial⟩)
    (g := F0 m pc ls (.int (nI n) :: .int (nI dp) :: .ref a :: .int (nI sp) :: .ref a0 :: rest)) rfl (by rw [hml2]; exact hl.1) (rest := rest) rfl (by rw [S.2.1]; exact hd) hframes (by show 2 * 0 + _ + _ ≤ _; omega)
  have e1 : copied scr (vp_cell c1 (n1, .inl (fun j => nI (g j)))) (nI sp) (nI dp) (nI n) = vp_cell c1 (n1, .inl (fun j => nI (cpN f g sp dp n j))) := by
    show (arrV c1 n1 (fun j => .int (nI (g j)))).storeRun (nI dp).toNatClampNeg (scr.stretch (nI sp).toNatClampNeg (nI n).toNatClampNeg) = arrV c1 n1 (fun j => .int (nI (cpN f g sp dp n j)))
    rw [es, ed, en, va_copiedX (fun z => .int z) scr c1 (fun j => nI (f j)) (fun j => nI (g j)) hs5 h4, cpN_cpy]
  rw [e1] at X' step
  have hl2 : a < H.size := (Array.getElem?_eq_some_iff.mp y1).1
  have o1 : ∀ q : Nat, q ≠ a → (H.setIfInBounds a (vp_cell c1 (n1, .inl (fun j => nI (cpN f g sp dp n j)))))[q]? = H[q]? := fun q hq => by simp [Array.getElem?_setIfInBounds, Ne.symm hq]
  have z1 : (H.setIfInBounds a (vp_cell c1 (n1, .inl (fun j => nI (cpN f g sp dp n j))))).size = H.size := by simp
  have hge : Z.2.1 ≤ a := (hP.1 _ _ _ hm).2
  obtain ⟨t, a1, b1⟩ := kk (wup M r a (aN .byte n1 (cpN f g sp dp n))) (fun r2 h => wup_n h) wup_s (H.setIfInBounds a (vp_cell c1 (n1, .inl (fun j => nI (cpN f g sp dp n j))))) _ ls (hP.put hm ⟨c1, by simp [Array.getElem?_setIfInBounds, hl2], y2, y3⟩ o1) ⟨by rw [z1]; exact hS.1, fun q g1 g2 => (o1 q (fun z => g2 (by rw [z]; exact hge))).trans (hS.2.1 q g1 g2), fun q hq => by
      rcases List.mem_append.mp hq with h | h
      · exact hS.2.2 q h
      · obtain ⟨z, -, hzz⟩ := List.mem_map.mp h
        rw [← hzz]
        exact (hP.1 _ _ _ hm).2⟩ hl _ (by rw [← hT]; rfl) X'
  exact ⟨t, step t a1, b1⟩
end ZSTR
