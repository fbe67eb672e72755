/-! ===== the world as a function: a role (kind, number) tells an address and what lies there ===== -/
section CORE
abbrev Role : Type := Nat × Nat
abbrev Ev : Type := (FieldType × vp_A) ⊕ (Nat × List Value)
abbrev Wd : Type := Role → Option (Nat × Ev)
abbrev Zp : Type := va_G × Nat × Addr × (Term → Nat)
def eAt (D : va_G) (U : State) (H : Heap) (a : Nat) (e : Ev) : Prop := match e with
  | .inl x => ∃ cA : ClassId, H[a]? = some (vp_cell cA x.2) ∧ ArrOfT U cA x.1 ∧ va_RA U cA x.1
  | .inr o => va_at D vwCl (a, .inr o) H
theorem eAt.kept {D : va_G} {U : State} {H H1 : Heap} {a : Nat} {e : Ev} (h : eAt D U H a e) (hq : H1[a]? = H[a]?) : eAt D U H1 a e := by
  cases e with
  | inl x =>
    obtain ⟨cA, h1, h2⟩ := h
    exact ⟨cA, hq.trans h1, h2⟩
  | inr o => exact va_at.kept (q := (a, .inr o)) (show va_at D vwCl (a, .inr o) H from h) hq
theorem eAt.lt {D : va_G} {U : State} {H : Heap} {a : Nat} {e : Ev} (h : eAt D U H a e) : a < H.size := by
  cases e with
  | inl x =>
    obtain ⟨cA, h1, h2⟩ := h
    exact (Array.getElem?_eq_some_iff.mp h1).1
  | inr o => exact va_at.lt (q := (a, .inr o)) (show va_at D vwCl (a, .inr o) H from h)
theorem eAt_obj {D : va_G} {U : State} {H : Heap} {a : Nat} {o : Nat × List Value} {r : vw_C} (h1 : vwCl[o.1]? = some r) (h2 : t_OB a (D.1 o.1) r.2.2 (D.2 o.1) H (vp_V o.2)) : eAt D U H a (.inr o) := ⟨r, h1, h2⟩
theorem eAt.moved {D : va_G} {u U : State} {H : Heap} {a : Nat} {e : Ev} (hvm : u.vm.Alike U.vm) (h : eAt D u H a e) : eAt D U H a e := by
  cases e with
  | inl x =>
    obtain ⟨cA, h1, h2, h3⟩ := h
    exact ⟨cA, h1, arrOfT_moved hvm h2, h3.moved hvm⟩
  | inr o => exact h
def HP (Z : Zp) (U : State) (M : Wd) (H : Heap) : Prop :=
  (∀ (r : Role) (a : Nat) (e : Ev), M r = some (a, e) → eAt Z.1 U H a e ∧ Z.2.1 ≤ a) ∧ ∀ (r r' : Role) (a : Nat) (e e' : Ev), M r = some (a, e) → M r' = some (a, e') → r = r'
def wup (M : Wd) (r : Role) (a : Nat) (e : Ev) : Wd := fun r' => if r' = r then some (a, e) else M r'
theorem wup_s {M : Wd} {r : Role} {a : Nat} {e : Ev} : wup M r a e r = some (a, e) := by simp [wup]
theorem wup_n {M : Wd} {r r' : Role} {a : Nat} {e : Ev} (h : r' ≠ r) : wup M r a e r' = M r' := by simp [wup, h]
theorem HP.moved {Z : Zp} {u U : State} {M : Wd} {H : Heap} (hvm : u.vm.Alike U.vm) (h : HP Z u M H) : HP Z U M H := ⟨fun r a e hr => ⟨(h.1 r a e hr).1.moved hvm, (h.1 r a e hr).2⟩, h.2⟩
theorem HP.put {Z : Zp} {U : State} {M : Wd} {H H1 : Heap} {r : Role} {a : Nat} {e0 e : Ev} (h : HP Z U M H) (hr : M r = some (a, e0)) (he : eAt Z.1 U H1 a e) (oq : ∀ q : Nat, q ≠ a → H1[q]? = H[q]?) : HP Z U (wup M r a e) H1 := by
  have key : ∀ (r' : Role) (a' : Nat) (e' : Ev), wup M r a e r' = some (a', e') → ∃ e2, M r' = some (a', e2) := by
    intro r' a' e' hh
    by_cases hrr : r' = r
    · subst hrr
      rw [wup_s] at hh
      cases hh
      exact ⟨e0, hr⟩
    · rw [wup_n hrr] at hh
      exact ⟨e', hh⟩
  refine ⟨fun r' a' e' hh => ?_, fun r1 r2 a' e1 e2 h1 h2 => ?_⟩
  · by_cases hrr : r' = r
    · subst hrr
      rw [wup_s] at hh
      cases hh
      exact ⟨he, (h.1 _ _ _ hr).2⟩
    · rw [wup_n hrr] at hh
      have hne : a' ≠ a := fun z => hrr (h.2 r' r a' e' e0 hh (by rw [z]; exact hr))
      exact ⟨(h.1 _ _ _ hh).1.kept (oq a' hne), (h.1 _ _ _ hh).2⟩
  · obtain ⟨x1, g1⟩ := key r1 a' e1 h1
    obtain ⟨x2, g2⟩ := key r2 a' e2 h2
    exact h.2 r1 r2 a' x1 x2 g1 g2
theorem HP.new {Z : Zp} {U : State} {M : Wd} {H H1 : Heap} (r : Role) {e : Ev} (h : HP Z U M H) (hN : Z.2.1 ≤ H.size) (he : eAt Z.1 U H1 H.size e) (oq : ∀ q : Nat, q < H.size → H1[q]? = H[q]?) : HP Z U (wup M r H.size e) H1 := by
  refine ⟨fun r' a' e' hh => ?_, fun r1 r2 a' e1 e2 h1 h2 => ?_⟩
  · by_cases hrr : r' = r
    · subst hrr
      rw [wup_s] at hh
      cases hh
      exact ⟨he, hN⟩
    · rw [wup_n hrr] at hh
      have hl := (h.1 _ _ _ hh).1.lt
      exact ⟨(h.1 _ _ _ hh).1.kept (oq a' hl), (h.1 _ _ _ hh).2⟩
  · by_cases hr1 : r1 = r
    · by_cases hr2 : r2 = r
      · rw [hr1, hr2]
      · subst hr1
        rw [wup_s] at h1
        cases h1
        rw [wup_n hr2] at h2
        exact absurd (h.1 _ _ _ h2).1.lt (Nat.lt_irrefl _)
    · rw [wup_n hr1] at h1
      by_cases hr2 : r2 = r
      · subst hr2
        rw [wup_s] at h2
        cases h2
        exact absurd (h.1 _ _ _ h1).1.lt (Nat.lt_irrefl _)
      · rw [wup_n hr2] at h2
        exact h.2 r1 r2 a' e1 e2 h1 h2
/-- the state grew out of the law's start: what lay there lies there still -/
def Stat (Z : Zp) (U : State) : Prop := ∃ U0 : State, U0.heap.size = Z.2.1 ∧ (va_K Z.1 vwCl [] U0 ∧ U0.WarmedH U.vm ∧ ∀ (tm : Term) (q : Nat), tm.eval #[Value.ref Z.2.2.1] U0 none [] U0 = some (.ref q) → Z.2.2.2 tm = q) ∧ (∀ w ∈ lw_tbl, w.before #[Value.ref Z.2.2.1] U0 = true) ∧ (Jvm.Cond.and given_1 narrow_1).before #[Value.ref Z.2.2.1] U0 = true ∧ U0.vm.Alike U.vm ∧ Z.2.1 ≤ U.heap.size ∧ ∀ q : Nat, q < Z.2.1 → U.heap[q]? = U0.heap[q]?
theorem Stat.le {Z : Zp} {U : State} (h : Stat Z U) : Z.2.1 ≤ U.heap.size := by
  obtain ⟨U0, -, -, -, -, -, h6, -⟩ := h
  exact h6
theorem Stat.K {Z : Zp} {U : State} (h : Stat Z U) : va_K Z.1 vwCl [] U := by
  obtain ⟨U0, -, h2, -, -, h5, -⟩ := h
  exact h2.1.moved h5
theorem Stat.go {Z : Zp} {U U1 : State} (h : Stat Z U) (hvm : U.WarmedH U1.vm) (hz : U.heap.size ≤ U1.heap.size) (hq : ∀ q : Nat, q < U.heap.size → ¬ Z.2.1 ≤ q → U1.heap[q]? = U.heap[q]?) : Stat Z U1 := by
  obtain ⟨U0, h1, h2, h3, h4, h5, h6, h7⟩ := h
  exact ⟨U0, h1, ⟨h2.1, h2.2.1.trans hvm, h2.2.2⟩, h3, h4, h5.trans hvm.alike, Nat.le_trans h6 hz, fun q hl => (hq q (Nat.lt_of_lt_of_le hl h6) (Nat.not_le.mpr hl)).trans (h7 q hl)⟩
def Inv (Z : Zp) (M : Wd) (U : State) : Prop := Stat Z U ∧ HP Z U M U.heap
def InvE (Z : Zp) (M : Wd) (U : State) : Prop := True ∧ HP Z U M U.heap
abbrev AZ (Z : Zp) : Nat → Prop := fun q => Z.2.1 ≤ q
/-- the same, but for the frame on top -/
theorem Inv.blind {Z : Zp} {M : Wd} {U : State} {g : JFrame} {mk : MethodId} {a : Array Value} (h : Inv Z M U) : Inv Z M (U.calling g mk a) := ⟨h.1.go (U1 := U.calling g mk a) (State.WarmedH.refl U) (Nat.le_refl _) (fun _ _ _ => rfl), h.2.moved (U := U.calling g mk a) (Vm.Alike.refl U.vm)⟩
/-- a method's contract: from a world M it returns as 'post' says, or throws as 'px' says -/
def Ct (Z : Zp) (l : Launch) (y : MethodName) (ws : List Cond) (rm : Room) (av : List Value) (M : Wd) (mc ms : Nat) (post : Option Value → Wd → Prop) (px : String → Wd → Prop) : Prop :=
  vx_Met l y ws rm (va_Pc av (fun U => Inv Z M U)) (fun _ st oc t => (∃ (v : Option Value) (M' : Wd), oc = .returned v ∧ post v M' ∧ InvE Z M' t) ∧ va_F (AZ Z) st t) (fun E st t => (∃ M' : Wd, px E M' ∧ InvE Z M' t) ∧ va_F (AZ Z) st t) mc ms (AZ Z)
abbrev QZ (Z : Zp) (below : List Frame) (args : Array Value) (s : State) (mc ms : Nat) (post : Option Value → Wd → Prop) (px : String → Wd → Prop) : State → Prop :=
  vx_MQ below (fun _ st oc t => (∃ (v : Option Value) (M' : Wd), oc = .returned v ∧ post v M' ∧ InvE Z M' t) ∧ va_F (AZ Z) st t) (fun E st t => (∃ M' : Wd, px E M' ∧ InvE Z M' t) ∧ va_F (AZ Z) st t) args s mc ms (AZ Z)
def G (Z : Zp) (p : Program) (l : Launch) (e : Env) (R : Room) (s : State) (m : MethodId) (args : Array Value) (below : List Frame) (meth : Method) (c : Code) (Q : State → Prop) (cells slots nL : Nat) (M : Wd) (pc : Nat) (L : List (Nat × Value)) (st : List Value) : Prop :=
  ∀ (H : Heap) (locs : List Loc) (ls : Array Slot), HP Z s M H → va_S (AZ Z) s.heap H locs → lv_has ls nL L → W p l e R s m args below meth c H locs cells slots Q (F0 m pc ls st)
def GX (Z : Zp) (p : Program) (l : Launch) (e : Env) (R : Room) (s : State) (m : MethodId) (args : Array Value) (below : List Frame) (meth : Method) (c : Code) (Q : State → Prop) (cells slots nL : Nat) (M : Wd) (pc : Nat) (L : List (Nat × Value)) (E : String) : Prop :=
  ∀ (H : Heap) (locs : List Loc) (ls : Array Slot) (rest : List Value) (q : Nat) (ce : Cell), HP Z s M H → va_S (AZ Z) s.heap H locs → lv_has ls nL L → H[q]? = some ce → ce.vm = .none → s.vm.findClass E = some ce.cls → vx_W p l e R s m args below meth c H locs cells slots Q (F0 m pc ls rest) q
section ROWS
variable {Z : Zp} {p : Program} {l : Launch} {e : Env} {R : Room} {s : State} {m : MethodId} {args : Array Value} {below : List Frame} {meth : Method} {c : Code} {Q : State → Prop} {cells slots nL : Nat} {M : Wd} {pc : Nat} {L : List (Nat × Value)} {st rest : List Value}
variable {cc : ByteArray} {Ts : List Cond} {own : String}

theorem g_iconst (S : CallFix p m c cc nL s args Ts own) {n : Int} {v : Int32} (hd : decode cc pc = .ok (.iconst n, 1)) (hv : Int32.ofInt n = v) (k : G Z p l e R s m args below meth c Q cells slots nL M (pc + 1) L (.int v :: rest)) : G Z p l e R s m args below meth c Q cells slots nL M pc L (rest) := fun H locs ls hP hS hl => lv_iconst S.1 S.2.1 hd hv (k H locs ls hP hS hl)
theorem g_bipush (S : CallFix p m c cc nL s args Ts own) {n : Int} {v : Int32} (hd : decode cc pc = .ok (.bipush n, 2)) (hv : (Int8.ofInt n).toInt32 = v) (k : G Z p l e R s m args below meth c Q cells slots nL M (pc + 2) L (.int v :: rest)) : G Z p l e R s m args below meth c Q cells slots nL M pc L (rest) := fun H locs ls hP hS hl => lv_bipush S.1 S.2.1 hd hv (k H locs ls hP hS hl)
theorem g_sipush (S : CallFix p m c cc nL s args Ts own) {n : Int} {v : Int32} (hd : decode cc pc = .ok (.sipush n, 3)) (hv : (Int16.ofInt n).toInt32 = v) (k : G Z p l e R s m args below meth c Q cells slots nL M (pc + 3) L (.int v :: rest)) : G Z p l e R s m args below meth c Q cells slots nL M pc L (rest) := fun H locs ls hP hS hl => lv_sipush S.1 S.2.1 hd hv (k H locs ls hP hS hl)
theorem g_lconst (S : CallFix p m c cc nL s args Ts own) {n : Fin 2} {v : Int64} (hd : decode cc pc = .ok (.lconst n, 1)) (hv : Int64.ofNat (n : Nat) = v) (k : G Z p l e R s m args below meth c Q cells slots nL M (pc + 1) L (.long v :: rest)) : G Z p l e R s m args below meth c Q cells slots nL M pc L (rest) := fun H locs ls hP hS hl => lv_lconst S.1 S.2.1 hd hv (k H locs ls hP hS hl)
theorem g_iload_n (S : CallFix p m c cc nL s args Ts own) {k : Fin 4} {i : Nat} {x : Int32} (j : Nat) (hd : decode cc pc = .ok (.iload_n k, 1)) (hi : (k : Nat) = i) (hL : L[j]? = some (i, .int x)) (k : G Z p l e R s m args below meth c Q cells slots nL M (pc + 1) L (.int x :: rest)) : G Z p l e R s m args below meth c Q cells slots nL M pc L (rest) := fun H locs ls hP hS hl => lv_iload_n S.1 S.2.1 hd hi (lv_at hl j hL) (k H locs ls hP hS hl)
theorem g_iload (S : CallFix p m c cc nL s args Ts own) {i : Nat} {x : Int32} (j : Nat) (hd : decode cc pc = .ok (.iload i, 2)) (hL : L[j]? = some (i, .int x)) (k : G Z p l e R s m args below meth c Q cells slots nL M (pc + 2) L (.int x :: rest)) : G Z p l e R s m args below meth c Q cells slots nL M pc L (rest) := fun H locs ls hP hS hl => lv_iload S.1 S.2.1 hd (lv_at hl j hL) (k H locs ls hP hS hl)
theorem g_istore_n (S : CallFix p m c cc nL s args Ts own) {k : Fin 4} {i : Nat} {x : Int32} (L2 : List (Nat × Value)) (hd : decode cc pc = .ok (.istore_n k, 1)) (hi : (k : Nat) = i) (hn : i < nL) (hL : (i, Value.int x) :: L.filter (fun q => !(q.1 == i) && !(q.1 + 1 == i && q.2.category == 2)) = L2) (k : G Z p l e R s m args below meth c Q cells slots nL M (pc + 1) L2 rest) : G Z p l e R s m args below meth c Q cells slots nL M pc L (.int x :: rest) := fun H locs ls hP hS hl => lv_istore_n S.1 S.2.1 hd hi hl hn hL (fun ls2 hl2 => k H locs ls2 hP hS hl2)
theorem g_istore (S : CallFix p m c cc nL s args Ts own) {i : Nat} {x : Int32} (L2 : List (Nat × Value)) (hd : decode cc pc = .ok (.istore i, 2)) (hn : i < nL) (hL : (i, Value.int x) :: L.filter (fun q => !(q.1 == i) && !(q.1 + 1 == i && q.2.category == 2)) = L2) (k : G Z p l e R s m args below meth c Q cells slots nL M (pc + 2) L2 rest) : G Z p l e R s m args below meth c Q cells slots nL M pc L (.int x :: rest) := fun H locs ls hP hS hl => lv_istore S.1 S.2.1 hd hl hn hL (fun ls2 hl2 => k H locs ls2 hP hS hl2)
theorem g_lload_n (S : CallFix p m c cc nL s args Ts own) {k : Fin 4} {i : Nat} {x : Int64} (j : Nat) (hd : decode cc pc = .ok (.lload_n k, 1)) (hi : (k : Nat) = i) (hL : L[j]? = some (i, .long x)) (k : G Z p l e R s m args below meth c Q cells slots nL M (pc + 1) L (.long x :: rest)) : G Z p l e R s m args below meth c Q cells slots nL M pc L (rest) := fun H locs ls hP hS hl => lv_lload_n S.1 S.2.1 hd hi (lv_at hl j hL) (k H locs ls hP hS hl)
theorem g_lload (S : CallFix p m c cc nL s args Ts own) {i : Nat} {x : Int64} (j : Nat) (hd : decode cc pc = .ok (.lload i, 2)) (hL : L[j]? = some (i, .long x)) (k : G Z p l e R s m args below meth c Q cells slots nL M (pc + 2) L (.long x :: rest)) : G Z p l e R s m args below meth c Q cells slots nL M pc L (rest) := fun H locs ls hP hS hl => lv_lload S.1 S.2.1 hd (lv_at hl j hL) (k H locs ls hP hS hl)
theorem g_lstore_n (S : CallFix p m c cc nL s args Ts own) {k : Fin 4} {i : Nat} {x : Int64} (L2 : List (Nat × Value)) (hd : decode cc pc = .ok (.lstore_n k, 1)) (hi : (k : Nat) = i) (hn : i + 1 < nL) (hL : (i, Value.long x) :: L.filter (fun q => !(q.1 == i) && (!(q.1 == i + 1) && !(q.1 + 1 == i && q.2.category == 2))) = L2) (k : G Z p l e R s m args below meth c Q cells slots nL M (pc + 1) L2 rest) : G Z p l e R s m args below meth c Q cells slots nL M pc L (.long x :: rest) := fun H locs ls hP hS hl => lv_lstore_n S.1 S.2.1 hd hi hl hn hL (fun ls2 hl2 => k H locs ls2 hP hS hl2)
theorem g_lstore (S : CallFix p m c cc nL s args Ts own) {i : Nat} {x : Int64} (L2 : List (Nat × Value)) (hd : decode cc pc = .ok (.lstore i, 2)) (hn : i + 1 < nL) (hL : (i, Value.long x) :: L.filter (fun q => !(q.1 == i) && (!(q.1 == i + 1) && !(q.1 + 1 == i && q.2.category == 2))) = L2) (k : G Z p l e R s m args below meth c Q cells slots nL M (pc + 2) L2 rest) : G Z p l e R s m args below meth c Q cells slots nL M pc L (.long x :: rest) := fun H locs ls hP hS hl => lv_lstore S.1 S.2.1 hd hl hn hL (fun ls2 hl2 => k H locs ls2 hP hS hl2)
theorem g_fload_n (S : CallFix p m c cc nL s args Ts own) {k : Fin 4} {i : Nat} {x : UInt32} (j : Nat) (hd : decode cc pc = .ok (.fload_n k, 1)) (hi : (k : Nat) = i) (hL : L[j]? = some (i, .float x)) (k : G Z p l e R s m args below meth c Q cells slots nL M (pc + 1) L (.float x :: rest)) : G Z p l e R s m args below meth c Q cells slots nL M pc L (rest) := fun H locs ls hP hS hl => lv_fload_n S.1 S.2.1 hd hi (lv_at hl j hL) (k H locs ls hP hS hl)
theorem g_fload (S : CallFix p m c cc nL s args Ts own) {i : Nat} {x : UInt32} (j : Nat) (hd : decode cc pc = .ok (.fload i, 2)) (hL : L[j]? = some (i, .float x)) (k : G Z p l e R s m args below meth c Q cells slots nL M (pc + 2) L (.float x :: rest)) : G Z p l e R s m args below meth c Q cells slots nL M pc L (rest) := fun H locs ls hP hS hl => lv_fload S.1 S.2.1 hd (lv_at hl j hL) (k H locs ls hP hS hl)
theorem g_fstore_n (S : CallFix p m c cc nL s args Ts own) {k : Fin 4} {i : Nat} {x : UInt32} (L2 : List (Nat × Value)) (hd : decode cc pc = .ok (.fstore_n k, 1)) (hi : (k : Nat) = i) (hn : i < nL) (hL : (i, Value.float x) :: L.filter (fun q => !(q.1 == i) && !(q.1 + 1 == i && q.2.category == 2)) = L2) (k : G Z p l e R s m args below meth c Q cells slots nL M (pc + 1) L2 rest) : G Z p l e R s m args below meth c Q cells slots nL M pc L (.float x :: rest) := fun H locs ls hP hS hl => lv_fstore_n S.1 S.2.1 hd hi hl hn hL (fun ls2 hl2 => k H locs ls2 hP hS hl2)
theorem g_fstore (S : CallFix p m c cc nL s args Ts own) {i : Nat} {x : UInt32} (L2 : List (Nat × Value)) (hd : decode cc pc = .ok (.fstore i, 2)) (hn : i < nL) (hL : (i, Value.float x) :: L.filter (fun q => !(q.1 == i) && !(q.1 + 1 == i && q.2.category == 2)) = L2) (k : G Z p l e R s m args below meth c Q cells slots nL M (pc + 2) L2 rest) : G Z p l e R s m args below meth c Q cells slots nL M pc L (.float x :: rest) := fun H locs ls hP hS hl => lv_fstore S.1 S.2.1 hd hl hn hL (fun ls2 hl2 => k H locs ls2 hP hS hl2)
theorem g_dload_n (S : CallFix p m c cc nL s args Ts own) {k : Fin 4} {i : Nat} {x : UInt64} (j : Nat) (hd : decode cc pc = .ok (.dload_n k, 1)) (hi : (k : Nat) = i) (hL : L[j]? = some (i, .double x)) (k : G Z p l e R s m args below meth c Q cells slots nL M (pc + 1) L (.double x :: rest)) : G Z p l e R s m args below meth c Q cells slots nL M pc L (rest) := fun H locs ls hP hS hl => lv_dload_n S.1 S.2.1 hd hi (lv_at hl j hL) (k H locs ls hP hS hl)
theorem g_dload (S : CallFix p m c cc nL s args Ts own) {i : Nat} {x : UInt64} (j : Nat) (hd : decode cc pc = .ok (.dload i, 2)) (hL : L[j]? = some (i, .double x)) (k : G Z p l e R s m args below meth c Q cells slots nL M (pc + 2) L (.double x :: rest)) : G Z p l e R s m args below meth c Q cells slots nL M pc L (rest) := fun H locs ls hP hS hl => lv_dload S.1 S.2.1 hd (lv_at hl j hL) (k H locs ls hP hS hl)
theorem g_dstore_n (S : CallFix p m c cc nL s args Ts own) {k : Fin 4} {i : Nat} {x : UInt64} (L2 : List (Nat × Value)) (hd : decode cc pc = .ok (.dstore_n k, 1)) (hi : (k : Nat) = i) (hn : i + 1 < nL) (hL : (i, Value.double x) :: L.filter (fun q => !(q.1 == i) && (!(q.1 == i + 1) && !(q.1 + 1 == i && q.2.category == 2))) = L2) (k : G Z p l e R s m args below meth c Q cells slots nL M (pc + 1) L2 rest) : G Z p l e R s m args below meth c Q cells slots nL M pc L (.double x :: rest) := fun H locs ls hP hS hl => lv_dstore_n S.1 S.2.1 hd hi hl hn hL (fun ls2 hl2 => k H locs ls2 hP hS hl2)
theorem g_dstore (S : CallFix p m c cc nL s args Ts own) {i : Nat} {x : UInt64} (L2 : List (Nat × Value)) (hd : decode cc pc = .ok (.dstore i, 2)) (hn : i + 1 < nL) (hL : (i, Value.double x) :: L.filter (fun q => !(q.1 == i) && (!(q.1 == i + 1) && !(q.1 + 1 == i && q.2.category == 2))) = L2) (k : G Z p l e R s m args below meth c Q cells slots nL M (pc + 2) L2 rest) : G Z p l e R s m args below meth c Q cells slots nL M pc L (.double x :: rest) := fun H locs ls hP hS hl => lv_dstore S.1 S.2.1 hd hl hn hL (fun ls2 hl2 => k H locs ls2 hP hS hl2)
theorem g_aload_n (S : CallFix p m c cc nL s args Ts own) {k : Fin 4} {i : Nat} {x : Nat} (j : Nat) (hd : decode cc pc = .ok (.aload_n k, 1)) (hi : (k : Nat) = i) (hL : L[j]? = some (i, .ref x)) (k : G Z p l e R s m args below meth c Q cells slots nL M (pc + 1) L (.ref x :: rest)) : G Z p l e R s m args below meth c Q cells slots nL M pc L (rest) := fun H locs ls hP hS hl => lv_aload_n S.1 S.2.1 hd hi (lv_at hl j hL) (k H locs ls hP hS hl)
theorem g_aload (S : CallFix p m c cc nL s args Ts own) {i : Nat} {x : Nat} (j : Nat) (hd : decode cc pc = .ok (.aload i, 2)) (hL : L[j]? = some (i, .ref x)) (k : G Z p l e R s m args below meth c Q cells slots nL M (pc + 2) L (.ref x :: rest)) : G Z p l e R s m args below meth c Q cells slots nL M pc L (rest) := fun H locs ls hP hS hl => lv_aload S.1 S.2.1 hd (lv_at hl j hL) (k H locs ls hP hS hl)
theorem g_astore_n (S : CallFix p m c cc nL s args Ts own) {k : Fin 4} {i : Nat} {x : Nat} (L2 : List (Nat × Value)) (hd : decode cc pc = .ok (.astore_n k, 1)) (hi : (k : Nat) = i) (hn : i < nL) (hL : (i, Value.ref x) :: L.filter (fun q => !(q.1 == i) && !(q.1 + 1 == i && q.2.category == 2)) = L2) (k : G Z p l e R s m args below meth c Q cells slots nL M (pc + 1) L2 rest) : G Z p l e R s m args below meth c Q cells slots nL M pc L (.ref x :: rest) := fun H locs ls hP hS hl => lv_astore_n S.1 S.2.1 hd hi hl hn hL (fun ls2 hl2 => k H locs ls2 hP hS hl2)
theorem g_astore (S : CallFix p m c cc nL s args Ts own) {i : Nat} {x : Nat} (L2 : List (Nat × Value)) (hd : decode cc pc = .ok (.astore i, 2)) (hn : i < nL) (hL : (i, Value.ref x) :: L.filter (fun q => !(q.1 == i) && !(q.1 + 1 == i && q.2.category == 2)) = L2) (k : G Z p l e R s m args below meth c Q cells slots nL M (pc + 2) L2 rest) : G Z p l e R s m args below meth c Q cells slots nL M pc L (.ref x :: rest) := fun H locs ls hP hS hl => lv_astore S.1 S.2.1 hd hl hn hL (fun ls2 hl2 => k H locs ls2 hP hS hl2)
theorem g_aload_nN (S : CallFix p m c cc nL s args Ts own) {k : Fin 4} {i : Nat} (j : Nat) (hd : decode cc pc = .ok (.aload_n k, 1)) (hi : (k : Nat) = i) (hL : L[j]? = some (i, .null)) (k : G Z p l e R s m args below meth c Q cells slots nL M (pc + 1) L (.null :: rest)) : G Z p l e R s m args below meth c Q cells slots nL M pc L (rest) := fun H locs ls hP hS hl => lv_aload_nN S.1 S.2.1 hd hi (lv_at hl j hL) (k H locs ls hP hS hl)
theorem g_aloadN (S : CallFix p m c cc nL s args Ts own) {i : Nat} (j : Nat) (hd : decode cc pc = .ok (.aload i, 2)) (hL : L[j]? = some (i, .null)) (k : G Z p l e R s m args below meth c Q cells slots nL M (pc + 2) L (.null :: rest)) : G Z p l e R s m args below meth c Q cells slots nL M pc L (rest) := fun H locs ls hP hS hl => lv_aloadN S.1 S.2.1 hd (lv_at hl j hL) (k H locs ls hP hS hl)
theorem g_astore_nN (S : CallFix p m c cc nL s args Ts own) {k : Fin 4} {i : Nat} (L2 : List (Nat × Value)) (hd : decode cc pc = .ok (.astore_n k, 1)) (hi : (k : Nat) = i) (hn : i < nL) (hL : (i, Value.null) :: L.filter (fun q => !(q.1 == i) && !(q.1 + 1 == i && q.2.category == 2)) = L2) (k : G Z p l e R s m args below meth c Q cells slots nL M (pc + 1) L2 rest) : G Z p l e R s m args below meth c Q cells slots nL M pc L (.null :: rest) := fun H locs ls hP hS hl => lv_astore_nN S.1 S.2.1 hd hi hl hn hL (fun ls2 hl2 => k H locs ls2 hP hS hl2)
theorem g_astoreN (S : CallFix p m c cc nL s args Ts own) {i : Nat} (L2 : List (Nat × Value)) (hd : decode cc pc = .ok (.astore i, 2)) (hn : i < nL) (hL : (i, Value.null) :: L.filter (fun q => !(q.1 == i) && !(q.1 + 1 == i && q.2.category == 2)) = L2) (k : G Z p l e R s m args below meth c Q cells slots nL M (pc + 2) L2 rest) : G Z p l e R s m args below meth c Q cells slots nL M pc L (.null :: rest) := fun H locs ls hP hS hl => lv_astoreN S.1 S.2.1 hd hl hn hL (fun ls2 hl2 => k H locs ls2 hP hS hl2)
theorem g_iinc (S : CallFix p m c cc nL s args Ts own) {i : Nat} {n : Int} {x v : Int32} (j : Nat) (L2 : List (Nat × Value)) (hd : decode cc pc = .ok (.iinc i n, 3)) (hk : L[j]? = some (i, .int x)) (hv : x + Int32.ofInt n = v) (hn : i < nL) (hL : (i, Value.int v) :: L.filter (fun q => !(q.1 == i) && !(q.1 + 1 == i && q.2.category == 2)) = L2) (k : G Z p l e R s m args below meth c Q cells slots nL M (pc + 3) L2 rest) : G Z p l e R s m args below meth c Q cells slots nL M pc L rest := fun H locs ls hP hS hl => lv_iinc S.1 S.2.1 hd hl hk hv hn hL (fun ls2 hl2 => k H locs ls2 hP hS hl2)
theorem g_iadd (S : CallFix p m c cc nL s args Ts own) {x y : Int32} (hd : decode cc pc = .ok (.iadd, 1))  (k : G Z p l e R s m args below meth c Q cells slots nL M (pc + 1) L (.int (x + y) :: rest)) : G Z p l e R s m args below meth c Q cells slots nL M pc L (.int y :: .int x :: rest) := fun H locs ls hP hS hl => lv_iadd S.1 S.2.1 hd (k H locs ls hP hS hl)
theorem g_isub (S : CallFix p m c cc nL s args Ts own) {x y : Int32} (hd : decode cc pc = .ok (.isub, 1))  (k : G Z p l e R s m args below meth c Q cells slots nL M (pc + 1) L (.int (x - y) :: rest)) : G Z p l e R s m args below meth c Q cells slots nL M pc L (.int y :: .int x :: rest) := fun H locs ls hP hS hl => lv_isub S.1 S.2.1 hd (k H locs ls hP hS hl)
theorem g_imul (S : CallFix p m c cc nL s args Ts own) {x y : Int32} (hd : decode cc pc = .ok (.imul, 1))  (k : G Z p l e R s m args below meth c Q cells slots nL M (pc + 1) L (.int (x * y) :: rest)) : G Z p l e R s m args below meth c Q cells slots nL M pc L (.int y :: .int x :: rest) := fun H locs ls hP hS hl => lv_imul S.1 S.2.1 hd (k H locs ls hP hS hl)
theorem g_iand (S : CallFix p m c cc nL s args Ts own) {x y : Int32} (hd : decode cc pc = .ok (.iand, 1))  (k : G Z p l e R s m args below meth c Q cells slots nL M (pc + 1) L (.int (x &&& y) :: rest)) : G Z p l e R s m args below meth c Q cells slots nL M pc L (.int y :: .int x :: rest) := fun H locs ls hP hS hl => lv_iand S.1 S.2.1 hd (k H locs ls hP hS hl)
theorem g_ior (S : CallFix p m c cc nL s args Ts own) {x y : Int32} (hd : decode cc pc = .ok (.ior, 1))  (k : G Z p l e R s m args below meth c Q cells slots nL M (pc + 1) L (.int (x ||| y) :: rest)) : G Z p l e R s m args below meth c Q cells slots nL M pc L (.int y :: .int x :: rest) := fun H locs ls hP hS hl => lv_ior S.1 S.2.1 hd (k H locs ls hP hS hl)
theorem g_idiv (S : CallFix p m c cc nL s args Ts own) {x y : Int32} (hd : decode cc pc = .ok (.idiv, 1)) (hne : ¬ y = 0) (k : G Z p l e R s m args below meth c Q cells slots nL M (pc + 1) L (.int (x / y) :: rest)) : G Z p l e R s m args below meth c Q cells slots nL M pc L (.int y :: .int x :: rest) := fun H locs ls hP hS hl => lv_idiv S.1 S.2.1 hd hne (k H locs ls hP hS hl)
theorem g_irem (S : CallFix p m c cc nL s args Ts own) {x y : Int32} (hd : decode cc pc = .ok (.irem, 1)) (hne : ¬ y = 0) (k : G Z p l e R s m args below meth c Q cells slots nL M (pc + 1) L (.int (x - x / y * y) :: rest)) : G Z p l e R s m args below meth c Q cells slots nL M pc L (.int y :: .int x :: rest) := fun H locs ls hP hS hl => lv_irem S.1 S.2.1 hd hne (k H locs ls hP hS hl)
theorem g_ineg (S : CallFix p m c cc nL s args Ts own) {x : Int32} (hd : decode cc pc = .ok (.ineg, 1))  (k : G Z p l e R s m args below meth c Q cells slots nL M (pc + 1) L (.int (-x) :: rest)) : G Z p l e R s m args below meth c Q cells slots nL M pc L (.int x :: rest) := fun H locs ls hP hS hl => lv_ineg S.1 S.2.1 hd (k H locs ls hP hS hl)
theorem g_ladd (S : CallFix p m c cc nL s args Ts own) {x y : Int64} (hd : decode cc pc = .ok (.ladd, 1))  (k : G Z p l e R s m args below meth c Q cells slots nL M (pc + 1) L (.long (x + y) :: rest)) : G Z p l e R s m args below meth c Q cells slots nL M pc L (.long y :: .long x :: rest) := fun H locs ls hP hS hl => lv_ladd S.1 S.2.1 hd (k H locs ls hP hS hl)
theorem g_ishl (S : CallFix p m c cc nL s args Ts own) {x y : Int32} (hd : decode cc pc = .ok (.ishl, 1))  (k : G Z p l e R s m args below meth c Q cells slots nL M (pc + 1) L (.int (x <<< (y &&& 31)) :: rest)) : G Z p l e R s m args below meth c Q cells slots nL M pc L (.int y :: .int x :: rest) := fun H locs ls hP hS hl => lv_ishl S.1 S.2.1 hd (k H locs ls hP hS hl)
theorem g_ishr (S : CallFix p m c cc nL s args Ts own) {x y : Int32} (hd : decode cc pc = .ok (.ishr, 1))  (k : G Z p l e R s m args below meth c Q cells slots nL M (pc + 1) L (.int (x >>> (y &&& 31)) :: rest)) : G Z p l e R s m args below meth c Q cells slots nL M pc L (.int y :: .int x :: rest) := fun H locs ls hP hS hl => lv_ishr S.1 S.2.1 hd (k H locs ls hP hS hl)
theorem g_i2l (S : CallFix p m c cc nL s args Ts own) {x : Int32} {v : Int64} (hd : decode cc pc = .ok (.i2l, 1)) (hv : x.toInt64 = v) (k : G Z p l e R s m args below meth c Q cells slots nL M (pc + 1) L (.long v :: rest)) : G Z p l e R s m args below meth c Q cells slots nL M pc L (.int x :: rest) := fun H locs ls hP hS hl => lv_i2l S.1 S.2.1 hd hv (k H locs ls hP hS hl)
theorem g_i2b (S : CallFix p m c cc nL s args Ts own) {x v : Int32} (hd : decode cc pc = .ok (.i2b, 1)) (hv : x.toInt8.toInt32 = v) (k : G Z p l e R s m args below meth c Q cells slots nL M (pc + 1) L (.int v :: rest)) : G Z p l e R s m args below meth c Q cells slots nL M pc L (.int x :: rest) := fun H locs ls hP hS hl => lv_i2b S.1 S.2.1 hd hv (k H locs ls hP hS hl)
theorem g_i2c (S : CallFix p m c cc nL s args Ts own) {x v : Int32} (hd : decode cc pc = .ok (.i2c, 1)) (hv : (x.toUInt32 % 65536).toInt32 = v) (k : G Z p l e R s m args below meth c Q cells slots nL M (pc + 1) L (.int v :: rest)) : G Z p l e R s m args below meth c Q cells slots nL M pc L (.int x :: rest) := fun H locs ls hP hS hl => lv_i2c S.1 S.2.1 hd hv (k H locs ls hP hS hl)
theorem g_lcmp (S : CallFix p m c cc nL s args Ts own) {x y : Int64} (hd : decode cc pc = .ok (.lcmp, 1))  (k : G Z p l e R s m args below meth c Q cells slots nL M (pc + 1) L (.int (lg_cmp x y) :: rest)) : G Z p l e R s m args below meth c Q cells slots nL M pc L (.long y :: .long x :: rest) := fun H locs ls hP hS hl => W.lcmp S.1 S.2.1 hd (k H locs ls hP hS hl)
theorem g_dup (S : CallFix p m c cc nL s args Ts own) {v : Value} (hd : decode cc pc = .ok (.dup, 1)) (h1 : v.category = 1) (k : G Z p l e R s m args below meth c Q cells slots nL M (pc + 1) L (v :: v :: rest)) : G Z p l e R s m args below meth c Q cells slots nL M pc L (v :: rest) := fun H locs ls hP hS hl => lv_dup S.1 S.2.1 hd h1 (k H locs ls hP hS hl)
theorem g_pop (S : CallFix p m c cc nL s args Ts own) {v : Value} (hd : decode cc pc = .ok (.pop, 1)) (h1 : v.category = 1) (k : G Z p l e R s m args below meth c Q cells slots nL M (pc + 1) L (rest)) : G Z p l e R s m args below meth c Q cells slots nL M pc L (v :: rest) := fun H locs ls hP hS hl => lv_pop S.1 S.2.1 hd h1 (k H locs ls hP hS hl)
theorem g_dup_x1 (S : CallFix p m c cc nL s args Ts own) {v u : Value} (hd : decode cc pc = .ok (.dup_x1, 1)) (h1 : v.category = 1) (h2 : u.category = 1) (k : G Z p l e R s m args below meth c Q cells slots nL M (pc + 1) L (v :: u :: v :: rest)) : G Z p l e R s m args below meth c Q cells slots nL M pc L (v :: u :: rest) := fun H locs ls hP hS hl => lv_dup_x1 S.1 S.2.1 hd h1 h2 (k H locs ls hP hS hl)
theorem g_dup2 (S : CallFix p m c cc nL s args Ts own) {v u : Value} (hd : decode cc pc = .ok (.dup2, 1)) (h1 : v.category = 1) (h2 : u.category = 1) (k : G Z p l e R s m args below meth c Q cells slots nL M (pc + 1) L (v :: u :: v :: u :: rest)) : G Z p l e R s m args below meth c Q cells slots nL M pc L (v :: u :: rest) := fun H locs ls hP hS hl => lv_dup2_11 S.1 S.2.1 hd h1 h2 (k H locs ls hP hS hl)
theorem g_null (S : CallFix p m c cc nL s args Ts own)  (hd : decode cc pc = .ok (.aconst_null, 1))  (k : G Z p l e R s m args below meth c Q cells slots nL M (pc + 1) L (.null :: rest)) : G Z p l e R s m args below meth c Q cells slots nL M pc L (rest) := fun H locs ls hP hS hl => lv_null S.1 S.2.1 hd (k H locs ls hP hS hl)
theorem g_i2d (S : CallFix p m c cc nL s args Ts own) {x : Int32} (hd : decode cc pc = .ok (.i2d, 1))  (k : G Z p l e R s m args below meth c Q cells slots nL M (pc + 1) L (.double (FP.i2d x) :: rest)) : G Z p l e R s m args below meth c Q cells slots nL M pc L (.int x :: rest) := fun H locs ls hP hS hl => lv_i2d S.1 S.2.1 hd (k H locs ls hP hS hl)
theorem g_i2f (S : CallFix p m c cc nL s args Ts own) {x : Int32} (hd : decode cc pc = .ok (.i2f, 1))  (k : G Z p l e R s m args below meth c Q cells slots nL M (pc + 1) L (.float (FP.i2f x) :: rest)) : G Z p l e R s m args below meth c Q cells slots nL M pc L (.int x :: rest) := fun H locs ls hP hS hl => lv_i2f S.1 S.2.1 hd (k H locs ls hP hS hl)
theorem g_ddiv (S : CallFix p m c cc nL s args Ts own) {x y : UInt64} (hd : decode cc pc = .ok (.ddiv, 1)) (hne : vf_n64 (FP.ddiv x y)) (k : G Z p l e R s m args below meth c Q cells slots nL M (pc + 1) L (.double (FP.ddiv x y) :: rest)) : G Z p l e R s m args below meth c Q cells slots nL M pc L (.double y :: .double x :: rest) := fun H locs ls hP hS hl => lv_ddiv S.1 S.2.1 hd hne (k H locs ls hP hS hl)
theorem g_fdiv (S : CallFix p m c cc nL s args Ts own) {x y : UInt32} (hd : decode cc pc = .ok (.fdiv, 1)) (hne : vf_n32 (FP.fdiv x y)) (k : G Z p l e R s m args below meth c Q cells slots nL M (pc + 1) L (.float (FP.fdiv x y) :: rest)) : G Z p l e R s m args below meth c Q cells slots nL M pc L (.float y :: .float x :: rest) := fun H locs ls hP hS hl => lv_fdiv S.1 S.2.1 hd hne (k H locs ls hP hS hl)
theorem g_f2d (S : CallFix p m c cc nL s args Ts own) {x : UInt32} (hd : decode cc pc = .ok (.f2d, 1)) (hne : vf_n64 (FP.f2d x)) (k : G Z p l e R s m args below meth c Q cells slots nL M (pc + 1) L (.double (FP.f2d x) :: rest)) : G Z p l e R s m args below meth c Q cells slots nL M pc L (.float x :: rest) := fun H locs ls hP hS hl => lv_f2d S.1 S.2.1 hd hne (k H locs ls hP hS hl)
theorem g_dconst0 (S : CallFix p m c cc nL s args Ts own)  (hd : decode cc pc = .ok (.dconst 0, 1))  (k : G Z p l e R s m args below meth c Q cells slots nL M (pc + 1) L (.double FP.dconst0 :: rest)) : G Z p l e R s m args below meth c Q cells slots nL M pc L (rest) := fun H locs ls hP hS hl => lv_dconst0 S.1 S.2.1 hd (k H locs ls hP hS hl)
theorem g_fconst0 (S : CallFix p m c cc nL s args Ts own)  (hd : decode cc pc = .ok (.fconst 0, 1))  (k : G Z p l e R s m args below meth c Q cells slots nL M (pc + 1) L (.float FP.fconst0 :: rest)) : G Z p l e R s m args below meth c Q cells slots nL M pc L (rest) := fun H locs ls hP hS hl => lv_fconst0 S.1 S.2.1 hd (k H locs ls hP hS hl)
theorem g_fcmp (S : CallFix p m c cc nL s args Ts own) {x y : UInt32} {op : CmpOp} (hd : decode cc pc = .ok (.fcmp op, 1))  (k : G Z p l e R s m args below meth c Q cells slots nL M (pc + 1) L (.int (Op.cmpValue (FP.fcmp x y) op) :: rest)) : G Z p l e R s m args below meth c Q cells slots nL M pc L (.float y :: .float x :: rest) := fun H locs ls hP hS hl => lv_fcmp S.1 S.2.1 hd (k H locs ls hP hS hl)
theorem g_dcmp (S : CallFix p m c cc nL s args Ts own) {x y : UInt64} {op : CmpOp} (hd : decode cc pc = .ok (.dcmp op, 1))  (k : G Z p l e R s m args below meth c Q cells slots nL M (pc + 1) L (.int (Op.cmpValue (FP.dcmp x y) op) :: rest)) : G Z p l e R s m args below meth c Q cells slots nL M pc L (.double y :: .double x :: rest) := fun H locs ls hP hS hl => lv_dcmp S.1 S.2.1 hd (k H locs ls hP hS hl)
theorem g_ifnull (S : CallFix p m c cc nL s args Ts own) {x : Nat} {off : Int} (hd : decode cc pc = .ok (.ifnull off, 3))  (k : G Z p l e R s m args below meth c Q cells slots nL M (pc + 3) L (rest)) : G Z p l e R s m args below meth c Q cells slots nL M pc L (.ref x :: rest) := fun H locs ls hP hS hl => lv_ifnull S.1 S.2.1 hd (k H locs ls hP hS hl)
theorem g_ifnonnullN (S : CallFix p m c cc nL s args Ts own) {off : Int} (hd : decode cc pc = .ok (.ifnonnull off, 3))  (k : G Z p l e R s m args below meth c Q cells slots nL M (pc + 3) L (rest)) : G Z p l e R s m args below meth c Q cells slots nL M pc L (.null :: rest) := fun H locs ls hP hS hl => lv_ifnonnullN S.1 S.2.1 hd (k H locs ls hP hS hl)
theorem g_goto (S : CallFix p m c cc nL s args Ts own) {off : Int} (tgt : Nat) (hd : decode cc pc = .ok (.goto off, 3)) (ht : (pc : Int) + off = (tgt : Int)) (k : G Z p l e R s m args below meth c Q cells slots nL M tgt L st) : G Z p l e R s m args below meth c Q cells slots nL M pc L st := fun H locs ls hP hS hl => lv_goto S.1 S.2.1 hd ht (k H locs ls hP hS hl)
theorem g_ifnonnull (S : CallFix p m c cc nL s args Ts own) {x : Nat} {off : Int} (tgt : Nat) (hd : decode cc pc = .ok (.ifnonnull off, 3)) (ht : (pc : Int) + off = (tgt : Int)) (k : G Z p l e R s m args below meth c Q cells slots nL M tgt L rest) : G Z p l e R s m args below meth c Q cells slots nL M pc L (.ref x :: rest) := fun H locs ls hP hS hl => lv_ifnonnull S.1 S.2.1 hd ht (k H locs ls hP hS hl)
theorem g_ifnullN (S : CallFix p m c cc nL s args Ts own) {off : Int} (tgt : Nat) (hd : decode cc pc = .ok (.ifnull off, 3)) (ht : (pc : Int) + off = (tgt : Int)) (k : G Z p l e R s m args below meth c Q cells slots nL M tgt L rest) : G Z p l e R s m args below meth c Q cells slots nL M pc L (.null :: rest) := fun H locs ls hP hS hl => lv_ifnullN S.1 S.2.1 hd ht (k H locs ls hP hS hl)
theorem g_if_eq (S : CallFix p m c cc nL s args Ts own) {x : Int32} {off : Int} (tgt : Nat) (hd : decode cc pc = .ok (.ifCond .eq off, 3)) (ht : (pc : Int) + off = (tgt : Int)) (kt : x = 0 → G Z p l e R s m args below meth c Q cells slots nL M tgt L rest) (kf : ¬ x = 0 → G Z p l e R s m args below meth c Q cells slots nL M (pc + 3) L rest) : G Z p l e R s m args below meth c Q cells slots nL M pc L (.int x :: rest) := fun H locs ls hP hS hl => lv_if_eq S.1 S.2.1 hd ht (fun h => kt h H locs ls hP hS hl) (fun h => kf h H locs ls hP hS hl)
theorem g_icmp_eq (S : CallFix p m c cc nL s args Ts own) {x y : Int32} {off : Int} (tgt : Nat) (hd : decode cc pc = .ok (.if_icmp .eq off, 3)) (ht : (pc : Int) + off = (tgt : Int)) (kt : x = y → G Z p l e R s m args below meth c Q cells slots nL M tgt L rest) (kf : ¬ x = y → G Z p l e R s m args below meth c Q cells slots nL M (pc + 3) L rest) : G Z p l e R s m args below meth c Q cells slots nL M pc L (.int y :: .int x :: rest) := fun H locs ls hP hS hl => lv_icmp_eq S.1 S.2.1 hd ht (fun h => kt h H locs ls hP hS hl) (fun h => kf h H locs ls hP hS hl)
theorem g_if_ne (S : CallFix p m c cc nL s args Ts own) {x : Int32} {off : Int} (tgt : Nat) (hd : decode cc pc = .ok (.ifCond .ne off, 3)) (ht : (pc : Int) + off = (tgt : Int)) (kt : ¬ x = 0 → G Z p l e R s m args below meth c Q cells slots nL M tgt L rest) (kf : x = 0 → G Z p l e R s m args below meth c Q cells slots nL M (pc + 3) L rest) : G Z p l e R s m args below meth c Q cells slots nL M pc L (.int x :: rest) := fun H locs ls hP hS hl => lv_if_ne S.1 S.2.1 hd ht (fun h => kt h H locs ls hP hS hl) (fun h => kf h H locs ls hP hS hl)
theorem g_icmp_ne (S : CallFix p m c cc nL s args Ts own) {x y : Int32} {off : Int} (tgt : Nat) (hd : decode cc pc = .ok (.if_icmp .ne off, 3)) (ht : (pc : Int) + off = (tgt : Int)) (kt : ¬ x = y → G Z p l e R s m args below meth c Q cells slots nL M tgt L rest) (kf : x = y → G Z p l e R s m args below meth c Q cells slots nL M (pc + 3) L rest) : G Z p l e R s m args below meth c Q cells slots nL M pc L (.int y :: .int x :: rest) := fun H locs ls hP hS hl => lv_icmp_ne S.1 S.2.1 hd ht (fun h => kt h H locs ls hP hS hl) (fun h => kf h H locs ls hP hS hl)
theorem g_if_lt (S : CallFix p m c cc nL s args Ts own) {x : Int32} {off : Int} (tgt : Nat) (hd : decode cc pc = .ok (.ifCond .lt off, 3)) (ht : (pc : Int) + off = (tgt : Int)) (kt : x < 0 → G Z p l e R s m args below meth c Q cells slots nL M tgt L rest) (kf : ¬ x < 0 → G Z p l e R s m args below meth c Q cells slots nL M (pc + 3) L rest) : G Z p l e R s m args below meth c Q cells slots nL M pc L (.int x :: rest) := fun H locs ls hP hS hl => lv_if_lt S.1 S.2.1 hd ht (fun h => kt h H locs ls hP hS hl) (fun h => kf h H locs ls hP hS hl)
theorem g_icmp_lt (S : CallFix p m c cc nL s args Ts own) {x y : Int32} {off : Int} (tgt : Nat) (hd : decode cc pc = .ok (.if_icmp .lt off, 3)) (ht : (pc : Int) + off = (tgt : Int)) (kt : x < y → G Z p l e R s m args below meth c Q cells slots nL M tgt L rest) (kf : ¬ x < y → G Z p l e R s m args below meth c Q cells slots nL M (pc + 3) L rest) : G Z p l e R s m args below meth c Q cells slots nL M pc L (.int y :: .int x :: rest) := fun H locs ls hP hS hl => lv_icmp_lt S.1 S.2.1 hd ht (fun h => kt h H locs ls hP hS hl) (fun h => kf h H locs ls hP hS hl)
theorem g_if_ge (S : CallFix p m c cc nL s args Ts own) {x : Int32} {off : Int} (tgt : Nat) (hd : decode cc pc = .ok (.ifCond .ge off, 3)) (ht : (pc : Int) + off = (tgt : Int)) (kt : 0 ≤ x → G Z p l e R s m args below meth c Q cells slots nL M tgt L rest) (kf : ¬ 0 ≤ x → G Z p l e R s m args below meth c Q cells slots nL M (pc + 3) L rest) : G Z p l e R s m args below meth c Q cells slots nL M pc L (.int x :: rest) := fun H locs ls hP hS hl => lv_if_ge S.1 S.2.1 hd ht (fun h => kt h H locs ls hP hS hl) (fun h => kf h H locs ls hP hS hl)
theorem g_icmp_ge (S : CallFix p m c cc nL s args Ts own) {x y : Int32} {off : Int} (tgt : Nat) (hd : decode cc pc = .ok (.if_icmp .ge off, 3)) (ht : (pc : Int) + off = (tgt : Int)) (kt : y ≤ x → G Z p l e R s m args below meth c Q cells slots nL M tgt L rest) (kf : ¬ y ≤ x → G Z p l e R s m args below meth c Q cells slots nL M (pc + 3) L rest) : G Z p l e R s m args below meth c Q cells slots nL M pc L (.int y :: .int x :: rest) := fun H locs ls hP hS hl => lv_icmp_ge S.1 S.2.1 hd ht (fun h => kt h H locs ls hP hS hl) (fun h => kf h H locs ls hP hS hl)
theorem g_if_gt (S : CallFix p m c cc nL s args Ts own) {x : Int32} {off : Int} (tgt : Nat) (hd : decode cc pc = .ok (.ifCond .gt off, 3)) (ht : (pc : Int) + off = (tgt : Int)) (kt : 0 < x → G Z p l e R s m args below meth c Q cells slots nL M tgt L rest) (kf : ¬ 0 < x → G Z p l e R s m args below meth c Q cells slots nL M (pc + 3) L rest) : G Z p l e R s m args below meth c Q cells slots nL M pc L (.int x :: rest) := fun H locs ls hP hS hl => lv_if_gt S.1 S.2.1 hd ht (fun h => kt h H locs ls hP hS hl) (fun h => kf h H locs ls hP hS hl)
theorem g_icmp_gt (S : CallFix p m c cc nL s args Ts own) {x y : Int32} {off : Int} (tgt : Nat) (hd : decode cc pc = .ok (.if_icmp .gt off, 3)) (ht : (pc : Int) + off = (tgt : Int)) (kt : y < x → G Z p l e R s m args below meth c Q cells slots nL M tgt L rest) (kf : ¬ y < x → G Z p l e R s m args below meth c Q cells slots nL M (pc + 3) L rest) : G Z p l e R s m args below meth c Q cells slots nL M pc L (.int y :: .int x :: rest) := fun H locs ls hP hS hl => lv_icmp_gt S.1 S.2.1 hd ht (fun h => kt h H locs ls hP hS hl) (fun h => kf h H locs ls hP hS hl)
theorem g_if_le (S : CallFix p m c cc nL s args Ts own) {x : Int32} {off : Int} (tgt : Nat) (hd : decode cc pc = .ok (.ifCond .le off, 3)) (ht : (pc : Int) + off = (tgt : Int)) (kt : x ≤ 0 → G Z p l e R s m args below meth c Q cells slots nL M tgt L rest) (kf : ¬ x ≤ 0 → G Z p l e R s m args below meth c Q cells slots nL M (pc + 3) L rest) : G Z p l e R s m args below meth c Q cells slots nL M pc L (.int x :: rest) := fun H locs ls hP hS hl => lv_if_le S.1 S.2.1 hd ht (fun h => kt h H locs ls hP hS hl) (fun h => kf h H locs ls hP hS hl)
theorem g_icmp_le (S : CallFix p m c cc nL s args Ts own) {x y : Int32} {off : Int} (tgt : Nat) (hd : decode cc pc = .ok (.if_icmp .le off, 3)) (ht : (pc : Int) + off = (tgt : Int)) (kt : x ≤ y → G Z p l e R s m args below meth c Q cells slots nL M tgt L rest) (kf : ¬ x ≤ y → G Z p l e R s m args below meth c Q cells slots nL M (pc + 3) L rest) : G Z p l e R s m args below meth c Q cells slots nL M pc L (.int y :: .int x :: rest) := fun H locs ls hP hS hl => lv_icmp_le S.1 S.2.1 hd ht (fun h => kt h H locs ls hP hS hl) (fun h => kf h H locs ls hP hS hl)
theorem nI_z {a : Nat} (ha : a < 2 ^ 31) : nI a = 0 ↔ a = 0 := by
  rw [← nI_0]
  exact nI_eq ha (by decide)
theorem nI_l0 {a : Nat} (ha : a < 2 ^ 31) : nI a < 0 ↔ a < 0 := by
  rw [← nI_0]
  exact nI_ltI ha (by decide)
theorem nI_g0 {a : Nat} (ha : a < 2 ^ 31) : 0 < nI a ↔ 0 < a := by
  rw [← nI_0]
  exact nI_ltI (by decide) ha
theorem nI_le0 {a : Nat} (ha : a < 2 ^ 31) : nI a ≤ 0 ↔ a ≤ 0 := by
  rw [← nI_0]
  exact nI_leI ha (by decide)
theorem nI_ge0 {a : Nat} (ha : a < 2 ^ 31) : 0 ≤ nI a ↔ 0 ≤ a := by
  rw [← nI_0]
  exact nI_leI (by decide) ha
theorem g_if_eqN (S : CallFix p m c cc nL s args Ts own) {a : Nat} {off : Int} (tgt : Nat) (hd : decode cc pc = .ok (.ifCond .eq off, 3)) (ht : (pc : Int) + off = (tgt : Int)) (ha : a < 2 ^ 31) (kt : a = 0 → G Z p l e R s m args below meth c Q cells slots nL M tgt L rest) (kf : ¬ a = 0 → G Z p l e R s m args below meth c Q cells slots nL M (pc + 3) L rest) : G Z p l e R s m args below meth c Q cells slots nL M pc L (.int (nI a) :: rest) := g_if_eq S tgt hd ht (fun h => kt ((nI_z ha).mp h)) (fun h => kf (fun z => h ((nI_z ha).mpr z)))
theorem g_icmp_eqN (S : CallFix p m c cc nL s args Ts own) {a b : Nat} {off : Int} (tgt : Nat) (hd : decode cc pc = .ok (.if_icmp .eq off, 3)) (ht : (pc : Int) + off = (tgt : Int)) (ha : a < 2 ^ 31) (hb : b < 2 ^ 31) (kt : a = b → G Z p l e R s m args below meth c Q cells slots nL M tgt L rest) (kf : ¬ a = b → G Z p l e R s m args below meth c Q cells slots nL M (pc + 3) L rest) : G Z p l e R s m args below meth c Q cells slots nL M pc L (.int (nI b) :: .int (nI a) :: rest) := g_icmp_eq S tgt hd ht (fun h => kt ((nI_eq ha hb).mp h)) (fun h => kf (fun z => h ((nI_eq ha hb).mpr z)))
theorem g_if_neN (S : CallFix p m c cc nL s args Ts own) {a : Nat} {off : Int} (tgt : Nat) (hd : decode cc pc = .ok (.ifCond .ne off, 3)) (ht : (pc : Int) + off = (tgt : Int)) (ha : a < 2 ^ 31) (kt : ¬ a = 0 → G Z p l e R s m args below meth c Q cells slots nL M tgt L rest) (kf : a = 0 → G Z p l e R s m args below meth c Q cells slots nL M (pc + 3) L rest) : G Z p l e R s m args below meth c Q cells slots nL M pc L (.int (nI a) :: rest) := g_if_ne S tgt hd ht (fun h => kt (fun z => h ((nI_z ha).mpr z))) (fun h => kf ((nI_z ha).mp h))
theorem g_icmp_neN (S : CallFix p m c cc nL s args Ts own) {a b : Nat} {off : Int} (tgt : Nat) (hd : decode cc pc = .ok (.if_icmp .ne off, 3)) (ht : (pc : Int) + off = (tgt : Int)) (ha : a < 2 ^ 31) (hb : b < 2 ^ 31) (kt : ¬ a = b → G Z p l e R s m args below meth c Q cells slots nL M tgt L rest) (kf : a = b → G Z p l e R s m args below meth c Q cells slots nL M (pc + 3) L rest) : G Z p l e R s m args below meth c Q cells slots nL M pc L (.int (nI b) :: .int (nI a) :: rest) := g_icmp_ne S tgt hd ht (fun h => kt (fun z => h ((nI_eq ha hb).mpr z))) (fun h => kf ((nI_eq ha hb).mp h))
theorem g_if_ltN (S : CallFix p m c cc nL s args Ts own) {a : Nat} {off : Int} (tgt : Nat) (hd : decode cc pc = .ok (.ifCond .lt off, 3)) (ht : (pc : Int) + off = (tgt : Int)) (ha : a < 2 ^ 31) (kt : a < 0 → G Z p l e R s m args below meth c Q cells slots nL M tgt L rest) (kf : ¬ a < 0 → G Z p l e R s m args below meth c Q cells slots nL M (pc + 3) L rest) : G Z p l e R s m args below meth c Q cells slots nL M pc L (.int (nI a) :: rest) := g_if_lt S tgt hd ht (fun h => kt ((nI_l0 ha).mp h)) (fun h => kf (fun z => h ((nI_l0 ha).mpr z)))
theorem g_icmp_ltN (S : CallFix p m c cc nL s args Ts own) {a b : Nat} {off : Int} (tgt : Nat) (hd : decode cc pc = .ok (.if_icmp .lt off, 3)) (ht : (pc : Int) + off = (tgt : Int)) (ha : a < 2 ^ 31) (hb : b < 2 ^ 31) (kt : a < b → G Z p l e R s m args below meth c Q cells slots nL M tgt L rest) (kf : ¬ a < b → G Z p l e R s m args below meth c Q cells slots nL M (pc + 3) L rest) : G Z p l e R s m args below meth c Q cells slots nL M pc L (.int (nI b) :: .int (nI a) :: rest) := g_icmp_lt S tgt hd ht (fun h => kt ((nI_ltI ha hb).mp h)) (fun h => kf (fun z => h ((nI_ltI ha hb).mpr z)))
theorem g_if_geN (S : CallFix p m c cc nL s args Ts own) {a : Nat} {off : Int} (tgt : Nat) (hd : decode cc pc = .ok (.ifCond .ge off, 3)) (ht : (pc : Int) + off = (tgt : Int)) (ha : a < 2 ^ 31) (kt : 0 ≤ a → G Z p l e R s m args below meth c Q cells slots nL M tgt L rest) (kf : ¬ 0 ≤ a → G Z p l e R s m args below meth c Q cells slots nL M (pc + 3) L rest) : G Z p l e R s m args below meth c Q cells slots nL M pc L (.int (nI a) :: rest) := g_if_ge S tgt hd ht (fun h => kt ((nI_ge0 ha).mp h)) (fun h => kf (fun z => h ((nI_ge0 ha).mpr z)))
theorem g_icmp_geN (S : CallFix p m c cc nL s args Ts own) {a b : Nat} {off : Int} (tgt : Nat) (hd : decode cc pc = .ok (.if_icmp .ge off, 3)) (ht : (pc : Int) + off = (tgt : Int)) (ha : a < 2 ^ 31) (hb : b < 2 ^ 31) (kt : b ≤ a → G Z p l e R s m args below meth c Q cells slots nL M tgt L rest) (kf : ¬ b ≤ a → G Z p l e R s m args below meth c Q cells slots nL M (pc + 3) L rest) : G Z p l e R s m args below meth c Q cells slots nL M pc L (.int (nI b) :: .int (nI a) :: rest) := g_icmp_ge S tgt hd ht (fun h => kt ((nI_leI hb ha).mp h)) (fun h => kf (fun z => h ((nI_leI hb ha).mpr z)))
theorem g_if_gtN (S : CallFix p m c cc nL s args Ts own) {a : Nat} {off : Int} (tgt : Nat) (hd : decode cc pc = .ok (.ifCond .gt off, 3)) (ht : (pc : Int) + off = (tgt : Int)) (ha : a < 2 ^ 31) (kt : 0 < a → G Z p l e R s m args below meth c Q cells slots nL M tgt L rest) (kf : ¬ 0 < a → G Z p l e R s m args below meth c Q cells slots nL M (pc + 3) L rest) : G Z p l e R s m args below meth c Q cells slots nL M pc L (.int (nI a) :: rest) := g_if_gt S tgt hd ht (fun h => kt ((nI_g0 ha).mp h)) (fun h => kf (fun z => h ((nI_g0 ha).mpr z)))
theorem g_icmp_gtN (S : CallFix p m c cc nL s args Ts own) {a b : Nat} {off : Int} (tgt : Nat) (hd : decode cc pc = .ok (.if_icmp .gt off, 3)) (ht : (pc : Int) + off = (tgt : Int)) (ha : a < 2 ^ 31) (hb : b < 2 ^ 31) (kt : b < a → G Z p l e R s m args below meth c Q cells slots nL M tgt L rest) (kf : ¬ b < a → G Z p l e R s m args below meth c Q cells slots nL M (pc + 3) L rest) : G Z p l e R s m args below meth c Q cells slots nL M pc L (.int (nI b) :: .int (nI a) :: rest) := g_icmp_gt S tgt hd ht (fun h => kt ((nI_ltI hb ha).mp h)) (fun h => kf (fun z => h ((nI_ltI hb ha).mpr z)))
theorem g_if_leN (S : CallFix p m c cc nL s args Ts own) {a : Nat} {off : Int} (tgt : Nat) (hd : decode cc pc = .ok (.ifCond .le off, 3)) (ht : (pc : Int) + off = (tgt : Int)) (ha : a < 2 ^ 31) (kt : a ≤ 0 → G Z p l e R s m args below meth c Q cells slots nL M tgt L rest) (kf : ¬ a ≤ 0 → G Z p l e R s m args below meth c Q cells slots nL M (pc + 3) L rest) : G Z p l e R s m args below meth c Q cells slots nL M pc L (.int (nI a) :: rest) := g_if_le S tgt hd ht (fun h => kt ((nI_le0 ha).mp h)) (fun h => kf (fun z => h ((nI_le0 ha).mpr z)))
theorem g_icmp_leN (S : CallFix p m c cc nL s args Ts own) {a b : Nat} {off : Int} (tgt : Nat) (hd : decode cc pc = .ok (.if_icmp .le off, 3)) (ht : (pc : Int) + off = (tgt : Int)) (ha : a < 2 ^ 31) (hb : b < 2 ^ 31) (kt : a ≤ b → G Z p l e R s m args below meth c Q cells slots nL M tgt L rest) (kf : ¬ a ≤ b → G Z p l e R s m args below meth c Q cells slots nL M (pc + 3) L rest) : G Z p l e R s m args below meth c Q cells slots nL M pc L (.int (nI b) :: .int (nI a) :: rest) := g_icmp_le S tgt hd ht (fun h => kt ((nI_leI ha hb).mp h)) (fun h => kf (fun z => h ((nI_leI ha hb).mpr z)))
theorem g_iaddN (S : CallFix p m c cc nL s args Ts own) {a b : Nat} (hd : decode cc pc = .ok (.iadd, 1)) (k : G Z p l e R s m args below meth c Q cells slots nL M (pc + 1) L (.int (nI (a + b)) :: rest)) : G Z p l e R s m args below meth c Q cells slots nL M pc L (.int (nI b) :: .int (nI a) :: rest) := g_iadd S hd (by rw [nI_add]; exact k)
theorem g_isubN (S : CallFix p m c cc nL s args Ts own) {a b : Nat} (hd : decode cc pc = .ok (.isub, 1)) (h : b ≤ a) (k : G Z p l e R s m args below meth c Q cells slots nL M (pc + 1) L (.int (nI (a - b)) :: rest)) : G Z p l e R s m args below meth c Q cells slots nL M pc L (.int (nI b) :: .int (nI a) :: rest) := g_isub S hd (by rw [pk_sub h]; exact k)
theorem g_imulN (S : CallFix p m c cc nL s args Ts own) {a b : Nat} (hd : decode cc pc = .ok (.imul, 1)) (k : G Z p l e R s m args below meth c Q cells slots nL M (pc + 1) L (.int (nI (a * b)) :: rest)) : G Z p l e R s m args below meth c Q cells slots nL M pc L (.int (nI b) :: .int (nI a) :: rest) := g_imul S hd (by rw [pk_mul]; exact k)
theorem g_idivN (S : CallFix p m c cc nL s args Ts own) {a b : Nat} (hd : decode cc pc = .ok (.idiv, 1)) (ha : a < 2 ^ 31) (h0 : 0 < b) (hb : b < 2 ^ 31) (k : G Z p l e R s m args below meth c Q cells slots nL M (pc + 1) L (.int (nI (a / b)) :: rest)) : G Z p l e R s m args below meth c Q cells slots nL M pc L (.int (nI b) :: .int (nI a) :: rest) := g_idiv S hd (nI_ne0 h0 hb) (by rw [pk_div ha h0 hb]; exact k)
theorem g_iremN (S : CallFix p m c cc nL s args Ts own) {a b : Nat} (hd : decode cc pc = .ok (.irem, 1)) (ha : a < 2 ^ 31) (h0 : 0 < b) (hb : b < 2 ^ 31) (k : G Z p l e R s m args below meth c Q cells slots nL M (pc + 1) L (.int (nI (a % b)) :: rest)) : G Z p l e R s m args below meth c Q cells slots nL M pc L (.int (nI b) :: .int (nI a) :: rest) := g_irem S hd (nI_ne0 h0 hb) (by rw [pk_rem ha h0 hb]; exact k)
/-- the value on top under another name -/
theorem g_top {v u : Value} (h : v = u) (k : G Z p l e R s m args below meth c Q cells slots nL M pc L (u :: st)) : G Z p l e R s m args below meth c Q cells slots nL M pc L (v :: st) := by rw [h]; exact k
theorem g_loc {L2 : List (Nat × Value)} (h : L = L2) (k : G Z p l e R s m args below meth c Q cells slots nL M pc L2 st) : G Z p l e R s m args below meth c Q cells slots nL M pc L st := by rw [h]; exact k
theorem HP.one {U : State} {H : Heap} {r : Role} {a : Nat} {o : Nat × List Value} (h : HP Z U M H) (hm : M r = some (a, .inr o)) : va_P Z.1 vwCl [(a, .inr o)] H := by
  intro k q hk
  have hz : k < 1 := (List.getElem?_eq_some_iff.mp hk).1
  rw [show k = 0 by omega] at hk
  cases hk
  exact (h.1 _ _ _ hm).1
theorem HP.arr {U : State} {H : Heap} {r : Role} {a : Nat} {x : FieldType × vp_A} (h : HP Z U M H) (hm : M r = some (a, .inl x)) (hK : va_K Z.1 vwCl [] U) : ∃ cA : ClassId, va_P Z.1 vwCl [(a, .inl (cA, x.2))] H ∧ va_K Z.1 vwCl [(cA, x.1)] U := by
  obtain ⟨cA, h1, h2, h3⟩ := (h.1 _ _ _ hm).1
  refine ⟨cA, fun k q hk => ?_, hK.1, fun k q hk => ?_⟩
  · have hz : k < 1 := (List.getElem?_eq_some_iff.mp hk).1
    rw [show k = 0 by omega] at hk
    cases hk
    exact h1
  · have hz : k < 1 := (List.getElem?_eq_some_iff.mp hk).1
    rw [show k = 0 by omega] at hk
    cases hk
    exact ⟨h2, h3⟩
theorem g_get (S : CallFix p m c cc nL s args Ts own) (hz : Stat Z s) {C ref : String} {T : u_T} {N ci index a : Nat} {fs : List Value} {r : Role} {v : Value} (hm : M r = some (a, .inr (ci, fs))) (hin : ∀ w ∈ u_ws C T N, w ∈ Ts) (hc : vwCl[ci]? = some (C, T, N)) (k : Nat) (hk : k < N) (hlink : Cond.fieldLink own index ref (T k).2.1 (T k).2.2.1 ∈ Ts) (hsame : ∀ x, s.fieldFound? (T k).1 (T k).2.1 (T k).2.2.1 = some x → s.fieldFound? ref (T k).2.1 (T k).2.2.1 = some x) (hv : fs[k]? = some v) (hd : decode cc pc = .ok (.getfield index, 3)) (kk : G Z p l e R s m args below meth c Q cells slots nL M (pc + 3) L (v :: rest)) : G Z p l e R s m args below meth c Q cells slots nL M pc L (.ref a :: rest) :=
  fun H locs ls hP hS hl => va_get (D := Z.1) S.1 S.2.1 S.2.2.2.2 hin S.2.2.2.1 hz.K (hP.one hm) 0 rfl hc k hk (S.2.2.2.2 _ hlink) hsame hv hd (kk H locs ls hP hS hl)
theorem g_put (S : CallFix p m c cc nL s args Ts own) (hz : Stat Z s) {C ref : String} {T : u_T} {N ci index a : Nat} {fs : List Value} {r : Role} {v : Value} {ty : FieldType} (hm : M r = some (a, .inr (ci, fs))) (hin : ∀ w ∈ u_ws C T N, w ∈ Ts) (ty0 : Nat → FieldType) (hty : ∀ k, k < N → parseFieldDescriptor (T k).2.2.1 = some (ty0 k)) (hnm : ∀ a, a < N → ∀ b, b < N → a ≠ b → (T a).2.1 ≠ (T b).2.1) (hc : vwCl[ci]? = some (C, T, N)) (k : Nat) (hk : k < N) (hlink : Cond.fieldLink own index ref (T k).2.1 (T k).2.2.1 ∈ Ts) (hsame : ∀ x, s.fieldFound? (T k).1 (T k).2.1 (T k).2.2.1 = some x → s.fieldFound? ref (T k).2.1 (T k).2.2.1 = some x) (hfin : (T k).2.2.2 = false) (hdsc : parseFieldDescriptor (T k).2.2.1 = some ty) (hn : narrow ty v = v) (hfit : fits ty v = true) (fs2 : List Value) (hl2 : k < fs.length) (hfs : fs.set k v = fs2) (hd : decode cc pc = .ok (.putfield index, 3)) (kk : ∀ M2 : Wd, (∀ r2 : Role, r2 ≠ r → M2 r2 = M r2) → M2 r = some (a, .inr (ci, fs2)) → G Z p l e R s m args below meth c Q cells slots nL M2 (pc + 3) L rest) : G Z p l e R s m args below meth c Q cells slots nL M pc L (v :: .ref a :: rest) := by
  intro H locs ls hP hS hl
  subst hfs
  have hK := hz.K
  have hP1 := hP.one hm
  have hap := va_apart (own := own) S.2.2.2.2 hin ty0 hty hnm hK hc
  obtain ⟨rr, h1, cell, q1, q2, q3, q4⟩ := hP1 0 _ rfl
  have hr : rr = (C, T, N) := Option.some.inj (h1.symm.trans hc)
  subst hr
  obtain ⟨hS1, hfc, kC, hkC, hkind⟩ := hK.1 ci _ hc
  obtain ⟨cf, kf, fi, f, hi, hsl⟩ := hS1 k hk
  have hlay := S.2.2.2.2 _ (hin _ (u_in_lay hk))
  unfold u_lay at hlay
  rw [if_neg (by rw [hfin]; decide)] at hlay
  have hst := (u_facts hfc hkC (u_lays S.2.2.2.2 hin hk) hi).1
  have h6 := u_store hfc hkC hkind hlay hi hdsc hn hfit
  refine W.putK S.1 S.2.1 (f := f) ⟨S.2.2.2.1, S.2.2.2.2 _ hlink, ⟨_, _, _, hsame _ hi⟩, hst⟩ (by rw [q2]; exact h6) q1 q3 (by rw [hsl]; exact k2_hasslot (q4 k hk)) rfl rfl hd fun H' e1 e2 e3 => ?_
  rw [hsl] at e1 ⊢
  exact kk (wup M r a (.inr (ci, fs.set k v))) (fun r2 h => wup_n h) wup_s H' _ ls (hP.put hm (eAt_obj hc (t_OB.to (V := updV (vp_V fs) k v) ⟨_, e1, q2, q3, t_set q4 hap hk v⟩ (fun j _ => vp_updV_set hl2 v j))) e3) (hS.put e2 e3 (hP.1 _ _ _ hm).2) hl
theorem g_putF (S : CallFix p m c cc nL s args Ts own) (hz : Stat Z s) {C ref : String} {T : u_T} {N ci index a : Nat} {fs : List Value} {r : Role} {v : Value} {ty : FieldType} (hm : M r = some (a, .inr (ci, fs))) (hin : ∀ w ∈ u_ws C T N, w ∈ Ts) (ty0 : Nat → FieldType) (hty : ∀ k, k < N → parseFieldDescriptor (T k).2.2.1 = some (ty0 k)) (hnm : ∀ a, a < N → ∀ b, b < N → a ≠ b → (T a).2.1 ≠ (T b).2.1) (hc : vwCl[ci]? = some (C, T, N)) (k : Nat) (hk : k < N) (hlink : Cond.fieldLink own index ref (T k).2.1 (T k).2.2.1 ∈ Ts) (hsame : ∀ x, s.fieldFound? (T k).1 (T k).2.1 (T k).2.2.1 = some x → s.fieldFound? ref (T k).2.1 (T k).2.2.1 = some x) (hfin : (T k).2.2.2 = true) (hin2 : meth.name = "<init>") (hdecl : (T k).1 = own) (hdsc : parseFieldDescriptor (T k).2.2.1 = some ty) (hn : narrow ty v = v) (hfit : fits ty v = true) (fs2 : List Value) (hl2 : k < fs.length) (hfs : fs.set k v = fs2) (hd : decode cc pc = .ok (.putfield index, 3)) (kk : ∀ M2 : Wd, (∀ r2 : Role, r2 ≠ r → M2 r2 = M r2) → M2 r = some (a, .inr (ci, fs2)) → G Z p l e R s m args below meth c Q cells slots nL M2 (pc + 3) L rest) : G Z p l e R s m args below meth c Q cells slots nL M pc L (v :: .ref a :: rest) := by
  intro H locs ls hP hS hl
  subst hfs
  have hK := hz.K
  have hP1 := hP.one hm
  have hap := va_apart (own := own) S.2.2.2.2 hin ty0 hty hnm hK hc
  obtain ⟨rr, h1, cell, q1, q2, q3, q4⟩ := hP1 0 _ rfl
  have hr : rr = (C, T, N) := Option.some.inj (h1.symm.trans hc)
  subst hr
  obtain ⟨hS1, hfc, kC, hkC, hkind⟩ := hK.1 ci _ hc
  obtain ⟨cf, kf, fi, f, hi, hsl⟩ := hS1 k hk
  have hlay := S.2.2.2.2 _ (hin _ (u_in_lay hk))
  unfold u_lay at hlay
  rw [if_pos hfin] at hlay
  have hst := (u_facts hfc hkC (u_lays S.2.2.2.2 hin hk) hi).1
  have hcf : m.cls = cf := by
    obtain ⟨_, _, c', _, _, _, -, -, hf', -, -, -, hown2, -⟩ := Cond.laysFinal_spec hlay
    have e1 : c' = cf := by have := hi.symm.trans hf'; simp at this; exact this.1.symm
    rw [hdecl] at hown2
    rw [← e1]; exact Option.some.inj (S.2.2.2.1.symm.trans hown2)
  have h6 := u_fits hfc hkC hkind (Or.inr hlay) hi hdsc hn hfit
  refine W.putFinK S.1 S.2.1 S.2.2.2.1 (S.2.2.2.2 _ hlink) (hsame _ hi) hst hcf hin2 (by rw [q2]; exact h6) q1 q3 (by rw [hsl]; exact k2_hasslot (q4 k hk)) rfl rfl hd fun H' e1 e2 e3 => ?_
  rw [hsl] at e1 ⊢
  exact kk (wup M r a (.inr (ci, fs.set k v))) (fun r2 h => wup_n h) wup_s H' _ ls (hP.put hm (eAt_obj hc (t_OB.to (V := updV (vp_V fs) k v) ⟨_, e1, q2, q3, t_set q4 hap hk v⟩ (fun j _ => vp_updV_set hl2 v j))) e3) (hS.put e2 e3 (hP.1 _ _ _ hm).2) hl
def upN {α : Type} (f : Nat → α) (k : Nat) (x : α) : Nat → α := fun j => if j = k then x else f j
theorem upN_s {α : Type} {f : Nat → α} {k : Nat} {x : α} : upN f k x k = x := by simp [upN]
theorem upN_n {α : Type} {f : Nat → α} {k j : Nat} {x : α} (h : j ≠ k) : upN f k x j = f j := by simp [upN, h]
/-- an array of numbers, of a type -/
abbrev aN (ty : FieldType) (n : Nat) (g : Nat → Nat) : Ev := .inl (ty, n, .inl (fun j => nI (g j)))
abbrev aL (n : Nat) (g : Nat → Int64) : Ev := .inl (.long, n, .inr (.inl g))
abbrev aD (n : Nat) (g : Nat → UInt64) : Ev := .inl (.double, n, .inr (.inr (.inr (.inl g))))
abbrev aR (C : String) (n : Nat) (g : Nat → Option Nat) : Ev := .inl (.object C, n, .inr (.inr (.inr (.inr g))))
theorem upd_nI (g : Nat → Nat) (j x : Nat) : upd (fun k => nI (g k)) j (nI x) = fun k => nI (upN g j x k) := by
  funext k
  by_cases h : k = j
  · subst h; simp [upd, upN]
  · simp [upd, upN, h]
theorem g_iald (S : CallFix p m c cc nL s args Ts own) (hz : Stat Z s) {n a j : Nat} {g : Nat → Nat} {r : Role} (hm : M r = some (a, aN .int n g)) (hj : j < n) (hn : n < 2 ^ 31) (hd : decode cc pc = .ok (.iaload, 1)) (kk : G Z p l e R s m args below meth c Q cells slots nL M (pc + 1) L (.int (nI (g j)) :: rest)) : G Z p l e R s m args below meth c Q cells slots nL M pc L (.int (nI j) :: .ref a :: rest) := by
  intro H locs ls hP hS hl
  obtain ⟨cA, h1, h2⟩ := hP.arr hm hz.K
  refine va_iald (D := Z.1) S.1 S.2.1 h2 h1 0 0 rfl rfl (vp_in_nI hj hn) hd ?_
  show W p l e R s m args below meth c H locs cells slots Q (F0 m (pc + 1) ls (.int (nI (g (nI j).toNatClampNeg)) :: rest))
  rw [nI_clamp (Nat.lt_trans hj hn)]
  exact kk H locs ls hP hS hl
theorem g_cald (S : CallFix p m c cc nL s args Ts own) (hz : Stat Z s) {n a j : Nat} {g : Nat → Nat} {r : Role} (hm : M r = some (a, aN .char n g)) (hj : j < n) (hn : n < 2 ^ 31) (hd : decode cc pc = .ok (.caload, 1)) (kk : G Z p l e R s m args below meth c Q cells slots nL M (pc + 1) L (.int (nI (g j)) :: rest)) : G Z p l e R s m args below meth c Q cells slots nL M pc L (.int (nI j) :: .ref a :: rest) := by
  intro H locs ls hP hS hl
  obtain ⟨cA, h1, h2⟩ := hP.arr hm hz.K
  refine va_cald (D := Z.1) S.1 S.2.1 h2 h1 0 0 rfl rfl (vp_in_nI hj hn) hd ?_
  show W p l e R s m args below meth c H locs cells slots Q (F0 m (pc + 1) ls (.int (nI (g (nI j).toNatClampNeg)) :: rest))
  rw [nI_clamp (Nat.lt_trans hj hn)]
  exact kk H locs ls hP hS hl
theorem g_zald (S : CallFix p m c cc nL s args Ts own) (hz : Stat Z s) {n a j : Nat} {g : Nat → Nat} {r : Role} (hm : M r = some (a, aN .boolean n g)) (hj : j < n) (hn : n < 2 ^ 31) (hd : decode cc pc = .ok (.baload, 1)) (kk : G Z p l e R s m args below meth c Q cells slots nL M (pc + 1) L (.int (nI (g j)) :: rest)) : G Z p l e R s m args below meth c Q cells slots nL M pc L (.int (nI j) :: .ref a :: rest) := by
  intro H locs ls hP hS hl
  obtain ⟨cA, h1, h2⟩ := hP.arr hm hz.K
  refine va_zald (D := Z.1) S.1 S.2.1 h2 h1 0 0 rfl rfl (vp_in_nI hj hn) hd ?_
  show W p l e R s m args below meth c H locs cells slots Q (F0 m (pc + 1) ls (.int (nI (g (nI j).toNatClampNeg)) :: rest))
  rw [nI_clamp (Nat.lt_trans hj hn)]
  exact kk H locs ls hP hS hl
theorem g_bald (S : CallFix p m c cc nL s args Ts own) (hz : Stat Z s) {n a j : Nat} {g : Nat → Nat} {r : Role} (hm : M r = some (a, aN .byte n g)) (hj : j < n) (hn : n < 2 ^ 31) (hd : decode cc pc = .ok (.baload, 1)) (kk : G Z p l e R s m args below meth c Q cells slots nL M (pc + 1) L (.int (nI (g j)) :: rest)) : G Z p l e R s m args below meth c Q cells slots nL M pc L (.int (nI j) :: .ref a :: rest) := by
  intro H locs ls hP hS hl
  obtain ⟨cA, h1, h2⟩ := hP.arr hm hz.K
  refine va_bald (D := Z.1) S.1 S.2.1 h2 h1 0 0 rfl rfl (vp_in_nI hj hn) hd ?_
  show W p l e R s m args below meth c H locs cells slots Q (F0 m (pc + 1) ls (.int (nI (g (nI j).toNatClampNeg)) :: rest))
  rw [nI_clamp (Nat.lt_trans hj hn)]
  exact kk H locs ls hP hS hl
theorem g_lald (S : CallFix p m c cc nL s args Ts own) (hz : Stat Z s) {n a j : Nat} {g : Nat → Int64} {r : Role} (hm : M r = some (a, aL n g)) (hj : j < n) (hn : n < 2 ^ 31) (hd : decode cc pc = .ok (.laload, 1)) (kk : G Z p l e R s m args below meth c Q cells slots nL M (pc + 1) L (.long (g j) :: rest)) : G Z p l e R s m args below meth c Q cells slots nL M pc L (.int (nI j) :: .ref a :: rest) := by
  intro H locs ls hP hS hl
  obtain ⟨cA, h1, h2⟩ := hP.arr hm hz.K
  refine va_lald (D := Z.1) S.1 S.2.1 h2 h1 0 0 rfl rfl (vp_in_nI hj hn) hd ?_
  rw [nI_clamp (Nat.lt_trans hj hn)]
  exact kk H locs ls hP hS hl
theorem g_dald (S : CallFix p m c cc nL s args Ts own) (hz : Stat Z s) {n a j : Nat} {g : Nat → UInt64} {r : Role} (hm : M r = some (a, aD n g)) (hj : j < n) (hn : n < 2 ^ 31) (hd : decode cc pc = .ok (.daload, 1)) (kk : G Z p l e R s m args below meth c Q cells slots nL M (pc + 1) L (.double (g j) :: rest)) : G Z p l e R s m args below meth c Q cells slots nL M pc L (.int (nI j) :: .ref a :: rest) := by
  intro H locs ls hP hS hl
  obtain ⟨cA, h1, h2⟩ := hP.arr hm hz.K
  refine va_dald (D := Z.1) S.1 S.2.1 h2 h1 0 0 rfl rfl (vp_in_nI hj hn) hd ?_
  rw [nI_clamp (Nat.lt_trans hj hn)]
  exact kk H locs ls hP hS hl
theorem g_aald (S : CallFix p m c cc nL s args Ts own) (hz : Stat Z s) {C : String} {n a j : Nat} {g : Nat → Option Nat} {v : Value} {r : Role} (hm : M r = some (a, aR C n g)) (hj : j < n) (hn : n < 2 ^ 31) (hv : va_rf (g j) = v) (hd : decode cc pc = .ok (.aaload, 1)) (kk : G Z p l e R s m args below meth c Q cells slots nL M (pc + 1) L (v :: rest)) : G Z p l e R s m args below meth c Q cells slots nL M pc L (.int (nI j) :: .ref a :: rest) := by
  intro H locs ls hP hS hl
  obtain ⟨cA, h1, h2⟩ := hP.arr hm hz.K
  refine va_aldq (D := Z.1) S.1 S.2.1 h2 h1 0 0 rfl rfl (vp_in_nI hj hn) hd ?_
  rw [nI_clamp (Nat.lt_trans hj hn), hv]
  exact kk H locs ls hP hS hl
theorem g_alen (S : CallFix p m c cc nL s args Ts own) (hz : Stat Z s) {n a : Nat} {ty : FieldType} {r : Role} {x} (hm : M r = some (a, .inl (ty, n, x))) (hd : decode cc pc = .ok (.arraylength, 1)) (kk : G Z p l e R s m args below meth c Q cells slots nL M (pc + 1) L (.int (nI n) :: rest)) : G Z p l e R s m args below meth c Q cells slots nL M pc L (.ref a :: rest) := by
  intro H locs ls hP hS hl
  obtain ⟨cA, h1, h2⟩ := hP.arr hm hz.K
  exact va_alen (D := Z.1) S.1 S.2.1 h2 h1 0 0 rfl rfl rfl hd (kk H locs ls hP hS hl)
theorem fit_z {b : Nat} (h : b < 2) : fits .boolean (.int (nI b)) = true := by
  rcases (show b = 0 ∨ b = 1 by omega) with rfl | rfl <;> decide
theorem nar_z {b : Nat} (h : b < 2) : narrow .boolean (.int (nI b)) = .int (nI b) := by
  rcases (show b = 0 ∨ b = 1 by omega) with rfl | rfl <;> decide
theorem nar_c {b : Nat} (h : b < 65536) : narrow .char (.int (nI b)) = .int (nI b) := (pk_charN h).1
theorem fit_c {b : Nat} (h : b < 65536) : fits .char (.int (nI b)) = true := (pk_charN h).2
theorem g_iast (S : CallFix p m c cc nL s args Ts own) (hz : Stat Z s) {n a j x : Nat} {g : Nat → Nat} {r : Role} (hm : M r = some (a, aN .int n g)) (hj : j < n) (hn : n < 2 ^ 31) (hd : decode cc pc = .ok (.iastore, 1)) (kk : ∀ M2 : Wd, (∀ r2 : Role, r2 ≠ r → M2 r2 = M r2) → M2 r = some (a, aN .int n (upN g j x)) → G Z p l e R s m args below meth c Q cells slots nL M2 (pc + 1) L rest) : G Z p l e R s m args below meth c Q cells slots nL M pc L (.int (nI x) :: .int (nI j) :: .ref a :: rest) := by
  intro H locs ls hP hS hl
  obtain ⟨cA, h1, h2, h3⟩ := (hP.1 _ _ _ hm).1
  refine W.iast S.1 S.2.1 h1 (h2 n (fun k => .int (nI (g k)))) (fun q => by cases q) (by show ¬ (nI j < 0 ∨ (arrV _ _ _).slots.size ≤ _); rw [arrV_size]; exact vp_in_nI hj hn) rfl rfl hd fun H1 e1 z1 o1 => ?_
  refine kk (wup M r a (aN .int n (upN g j x))) (fun r2 h => wup_n h) wup_s H1 _ ls (hP.put hm ⟨cA, ?_, h2, h3⟩ o1) (hS.put z1 o1 (hP.1 _ _ _ hm).2) hl
  rw [e1]
  show some ((vp_cell cA (n, .inl (fun k => nI (g k)))).setSlot _ _) = some (vp_cell cA (n, .inl (fun k => nI (upN g j x k))))
  rw [nI_clamp (Nat.lt_trans hj hn), vp_cell_i, vp_cell_i, arrV_store]
  congr 2
  funext q
  by_cases hq : q = j
  · subst hq
    simp [updV, upN]
  · simp [updV, upN, hq]
theorem g_cast (S : CallFix p m c cc nL s args Ts own) (hz : Stat Z s) {n a j x : Nat} {g : Nat → Nat} {r : Role} (hm : M r = some (a, aN .char n g)) (hj : j < n) (hn : n < 2 ^ 31) (hx : x < 65536) (hd : decode cc pc = .ok (.castore, 1)) (kk : ∀ M2 : Wd, (∀ r2 : Role, r2 ≠ r → M2 r2 = M r2) → M2 r = some (a, aN .char n (upN g j x)) → G Z p l e R s m args below meth c Q cells slots nL M2 (pc + 1) L rest) : G Z p l e R s m args below meth c Q cells slots nL M pc L (.int (nI x) :: .int (nI j) :: .ref a :: rest) := by
  intro H locs ls hP hS hl
  obtain ⟨cA, h1, h2, h3⟩ := (hP.1 _ _ _ hm).1
  refine W.cast S.1 S.2.1 h1 (h2 n (fun k => .int (nI (g k)))) (fun q => by cases q) (by show ¬ (nI j < 0 ∨ (arrV _ _ _).slots.size ≤ _); rw [arrV_size]; exact vp_in_nI hj hn) rfl rfl hd fun H1 e1 z1 o1 => ?_
  rw [nar_c hx] at e1
  refine kk (wup M r a (aN .char n (upN g j x))) (fun r2 h => wup_n h) wup_s H1 _ ls (hP.put hm ⟨cA, ?_, h2, h3⟩ o1) (hS.put z1 o1 (hP.1 _ _ _ hm).2) hl
  rw [e1]
  show some ((vp_cell cA (n, .inl (fun k => nI (g k)))).setSlot _ _) = some (vp_cell cA (n, .inl (fun k => nI (upN g j x k))))
  rw [nI_clamp (Nat.lt_trans hj hn), vp_cell_i, vp_cell_i, arrV_store]
  congr 2
  funext q
  by_cases hq : q = j
  · subst hq
    simp [updV, upN]
  · simp [updV, upN, hq]
theorem g_zast (S : CallFix p m c cc nL s args Ts own) (hz : Stat Z s) {n a j x : Nat} {g : Nat → Nat} {r : Role} (hm : M r = some (a, aN .boolean n g)) (hj : j < n) (hn : n < 2 ^ 31) (hx : x < 2) (hd : decode cc pc = .ok (.bastore, 1)) (kk : ∀ M2 : Wd, (∀ r2 : Role, r2 ≠ r → M2 r2 = M r2) → M2 r = some (a, aN .boolean n (upN g j x)) → G Z p l e R s m args below meth c Q cells slots nL M2 (pc + 1) L rest) : G Z p l e R s m args below meth c Q cells slots nL M pc L (.int (nI x) :: .int (nI j) :: .ref a :: rest) := by
  intro H locs ls hP hS hl
  obtain ⟨cA, h1, h2, h3⟩ := (hP.1 _ _ _ hm).1
  refine W.zast S.1 S.2.1 h1 (h2 n (fun k => .int (nI (g k)))) (fun q => by cases q) (by show ¬ (nI j < 0 ∨ (arrV _ _ _).slots.size ≤ _); rw [arrV_size]; exact vp_in_nI hj hn) rfl rfl hd fun H1 e1 z1 o1 => ?_
  rw [nar_z hx] at e1
  refine kk (wup M r a (aN .boolean n (upN g j x))) (fun r2 h => wup_n h) wup_s H1 _ ls (hP.put hm ⟨cA, ?_, h2, h3⟩ o1) (hS.put z1 o1 (hP.1 _ _ _ hm).2) hl
  rw [e1]
  show some ((vp_cell cA (n, .inl (fun k => nI (g k)))).setSlot _ _) = some (vp_cell cA (n, .inl (fun k => nI (upN g j x k))))
  rw [nI_clamp (Nat.lt_trans hj hn), vp_cell_i, vp_cell_i, arrV_store]
  congr 2
  funext q
  by_cases hq : q = j
  · subst hq
    simp [updV, upN]
  · simp [updV, upN, hq]
theorem g_last (S : CallFix p m c cc nL s args Ts own) (hz : Stat Z s) {n a j : Nat} {x : Int64} {g : Nat → Int64} {r : Role} (hm : M r = some (a, aL n g)) (hj : j < n) (hn : n < 2 ^ 31) (hd : decode cc pc = .ok (.lastore, 1)) (kk : ∀ M2 : Wd, (∀ r2 : Role, r2 ≠ r → M2 r2 = M r2) → M2 r = some (a, aL n (upN g j x)) → G Z p l e R s m args below meth c Q cells slots nL M2 (pc + 1) L rest) : G Z p l e R s m args below meth c Q cells slots nL M pc L (.long x :: .int (nI j) :: .ref a :: rest) := by
  intro H locs ls hP hS hl
  obtain ⟨cA, h1, h2, h3⟩ := (hP.1 _ _ _ hm).1
  refine W.last S.1 S.2.1 h1 (h2 n (fun k => .long (g k))) (fun q => by cases q) (by show ¬ (nI j < 0 ∨ (arrV _ _ _).slots.size ≤ _); rw [arrV_size]; exact vp_in_nI hj hn) rfl rfl hd fun H1 e1 z1 o1 => ?_
  refine kk (wup M r a (aL n (upN g j x))) (fun r2 h => wup_n h) wup_s H1 _ ls (hP.put hm ⟨cA, ?_, h2, h3⟩ o1) (hS.put z1 o1 (hP.1 _ _ _ hm).2) hl
  rw [e1]
  show some ((vp_cell cA (n, (.inr (.inl g)))).setSlot _ _) = some (vp_cell cA (n, (.inr (.inl (upN g j x)))))
  rw [nI_clamp (Nat.lt_trans hj hn), vp_cell_l, vp_cell_l, arrV_store]
  congr 2
  funext q
  by_cases hq : q = j
  · subst hq
    simp [updV, upN]
  · simp [updV, upN, hq]
theorem g_dast (S : CallFix p m c cc nL s args Ts own) (hz : Stat Z s) {n a j : Nat} {x : UInt64} {g : Nat → UInt64} {r : Role} (hm : M r = some (a, aD n g)) (hj : j < n) (hn : n < 2 ^ 31) (hd : decode cc pc = .ok (.dastore, 1)) (kk : ∀ M2 : Wd, (∀ r2 : Role, r2 ≠ r → M2 r2 = M r2) → M2 r = some (a, aD n (upN g j x)) → G Z p l e R s m args below meth c Q cells slots nL M2 (pc + 1) L rest) : G Z p l e R s m args below meth c Q cells slots nL M pc L (.double x :: .int (nI j) :: .ref a :: rest) := by
  intro H locs ls hP hS hl
  obtain ⟨cA, h1, h2, h3⟩ := (hP.1 _ _ _ hm).1
  refine W.dast S.1 S.2.1 h1 (h2 n (fun k => .double (g k))) (fun q => by cases q) (by show ¬ (nI j < 0 ∨ (arrV _ _ _).slots.size ≤ _); rw [arrV_size]; exact vp_in_nI hj hn) rfl rfl hd fun H1 e1 z1 o1 => ?_
  refine kk (wup M r a (aD n (upN g j x))) (fun r2 h => wup_n h) wup_s H1 _ ls (hP.put hm ⟨cA, ?_, h2, h3⟩ o1) (hS.put z1 o1 (hP.1 _ _ _ hm).2) hl
  rw [e1]
  show some ((vp_cell cA (n, (.inr (.inr (.inr (.inl g)))))).setSlot _ _) = some (vp_cell cA (n, (.inr (.inr (.inr (.inl (upN g j x)))))))
  rw [nI_clamp (Nat.lt_trans hj hn), vp_cell_d, vp_cell_d, arrV_store]
  congr 2
  funext q
  by_cases hq : q = j
  · subst hq
    simp [updV, upN]
  · simp [updV, upN, hq]
theorem g_aast (S : CallFix p m c cc nL s args Ts own) (hz : Stat Z s) {n a j v ci : Nat} {vs : List Value} {C : String} {T : u_T} {N : Nat} {g : Nat → Option Nat} {r rv : Role} (hm : M r = some (a, aR C n g)) (hv : M rv = some (v, .inr (ci, vs))) (hc : vwCl[ci]? = some (C, T, N)) (hj : j < n) (hn : n < 2 ^ 31) (hd : decode cc pc = .ok (.aastore, 1)) (kk : ∀ M2 : Wd, (∀ r2 : Role, r2 ≠ r → M2 r2 = M r2) → M2 r = some (a, aR C n (upN g j (some v))) → G Z p l e R s m args below meth c Q cells slots nL M2 (pc + 1) L rest) : G Z p l e R s m args below meth c Q cells slots nL M pc L (.ref v :: .int (nI j) :: .ref a :: rest) := by
  intro H locs ls hP hS hl
  have hK := hz.K
  obtain ⟨cA, h1, h2, kA, comp, k1, k2, k3, k4⟩ := (hP.1 _ _ _ hm).1
  obtain ⟨r', hr', cellV, g1, g2, g3, -⟩ := (hP.1 _ _ _ hv).1
  have hcls := (hK.1 ci _ hc).2
  have hcomp : comp = Z.1.1 ci := Option.some.inj (k3.symm.trans hcls.1)
  subst hcomp
  obtain ⟨kC, hkC, -⟩ := hcls.2
  have h0 : ¬ nI j < 0 := fun q => vp_in_nI hj hn (Or.inl q)
  have hlt : (nI j).toNatClampNeg < n := by rw [nI_clamp (Nat.lt_trans hj hn)]; exact hj
  refine W.aast S.1 S.2.1 h1 (fun q h => by cases h) (fun h => by cases h) k1 k2 rfl hkC ⟨h0, by show _ < (arrV _ _ _).slots.size; rw [arrV_size]; exact hlt⟩ g1 (fun q h => by rw [g3] at h; cases h) (by rw [g2]; exact hkC) (by rw [g2]; exact va_assign hcls) rfl rfl hd fun H1 e1 z1 o1 => ?_
  refine kk (wup M r a (aR C n (upN g j (some v)))) (fun r2 h => wup_n h) wup_s H1 _ ls (hP.put hm ⟨cA, ?_, h2, kA, _, k1, k2, k3, k4⟩ o1) (hS.put z1 o1 (hP.1 _ _ _ hm).2) hl
  rw [e1]
  show some ((vp_cell cA (n, .inr (.inr (.inr (.inr g))))).setSlot _ _) = some (vp_cell cA (n, .inr (.inr (.inr (.inr (upN g j (some v)))))))
  rw [nI_clamp (Nat.lt_trans hj hn), vp_cell_q, vp_cell_q, arrV_store]
  congr 2
  funext q
  by_cases hq : q = j
  · subst hq
    simp [updV, upN, va_rf]
  · simp [updV, upN, hq]
theorem va_S.new {A : Nat → Prop} {H0 H H1 : Heap} {locs : List Loc} (h : va_S A H0 H locs) (z : H1.size = H.size + 1) (o : ∀ q : Nat, q < H.size → H1[q]? = H[q]?) : va_S A H0 H1 locs :=
  ⟨Nat.le_trans h.1 (by omega), fun x h1 h2 => (o x (Nat.lt_of_lt_of_le h1 h.1)).trans (h.2.1 x h1 h2), h.2.2⟩
theorem g_new (S : CallFix p m c cc nL s args Ts own) (hz : Stat Z s) {C : String} {T : u_T} {N ci index : Nat} {fs : List Value} (r : Role) (hin : ∀ w ∈ u_ws C T N, w ∈ Ts) (ty : Nat → FieldType) (hty : ∀ k, k < N → parseFieldDescriptor (T k).2.2.1 = some (ty k)) (hcl : Cond.classLink own index C ∈ Ts) (hinst : Cond.instantiable C N ∈ Ts) (hini : Cond.initialized C ∈ Ts) (hc : vwCl[ci]? = some (C, T, N)) (hfs : ∀ j, j < N → defaultValue (ty j) = vp_V fs j) (hcells : cells + 1 ≤ R.cells) (hslots : slots + N ≤ R.slots) (hd : decode cc pc = .ok (.new index, 3))
    (kk : ∀ (a : Nat) (M2 : Wd), (∀ r2 : Role, r2 ≠ r → M2 r2 = M r2) → M2 r = some (a, .inr (ci, fs)) → G Z p l e R s m args below meth c Q (cells + 1) (slots + N) nL M2 (pc + 3) L (.ref a :: rest)) : G Z p l e R s m args below meth c Q cells slots nL M pc L rest := by
  intro H locs ls hP hS hl
  have hK := hz.K
  have hKn := hK.1 ci _ hc
  refine W.newcK S.1 S.2.1 S.2.2.2.1 (S.2.2.2.2 _ hcl) (S.2.2.2.2 _ hinst) (S.2.2.2.2 _ hini) rfl hd hcells hslots hKn.2.1 rfl fun H1 kC hkC e1 z1 o1 => ?_
  exact kk H.size (wup M r H.size (.inr (ci, fs))) (fun r2 h => wup_n h) wup_s H1 _ ls (hP.new r (Nat.le_trans hz.le hS.1) (eAt_obj hc ((u_born ty S.2.2.2.2 hin hKn hkC e1 hty).to hfs)) o1) (hS.new z1 o1) hl
theorem g_newa (S : CallFix p m c cc nL s args Ts own) (hz : Stat Z s) {atype : ArrayType} {ty : FieldType} {n : Nat} {x : vp_A} (r : Role) (hty : newarray.typeOf atype = ty) (harr : Cond.arrayClass ty ∈ Ts) (hx : ∀ cA : ClassId, vp_cell cA x = arrV cA n (fun _ => defaultValue ty)) (hn : n < 2 ^ 31) (hbytes : n * componentBytes ty ≤ 536870912) (hcells : cells + 1 ≤ R.cells) (hslots : slots + n ≤ R.slots) (hd : decode cc pc = .ok (.newarray atype, 2))
    (kk : ∀ (a : Nat) (M2 : Wd), (∀ r2 : Role, r2 ≠ r → M2 r2 = M r2) → M2 r = some (a, .inl (ty, x)) → G Z p l e R s m args below meth c Q (cells + 1) (slots + n) nL M2 (pc + 2) L (.ref a :: rest)) : G Z p l e R s m args below meth c Q cells slots nL M pc L (.int (nI n) :: rest) := by
  intro H locs ls hP hS hl
  subst hty
  refine va_newaK S.1 S.2.1 (S.2.2.2.2 _ harr) rfl hd rfl (nI_pos hn) (nI_clamp hn) hbytes hcells hslots rfl fun H1 cA e1 z1 o1 hAr hNm => ?_
  exact kk H.size (wup M r H.size (.inl (newarray.typeOf atype, x))) (fun r2 h => wup_n h) wup_s H1 _ ls (hP.new r (Nat.le_trans hz.le hS.1) ⟨cA, by rw [e1, hx], hAr, by cases atype <;> exact hNm⟩ o1) (hS.new z1 o1) hl
theorem g_anew (S : CallFix p m c cc nL s args Ts own) (hz : Stat Z s) {C : String} {index n : Nat} (r : Role) (hcl : Cond.classLink own index C ∈ Ts) (hover : (Cond.arrayOver (.object C)).before args s = true) (hn : n < 2 ^ 31) (hbytes : n * 4 ≤ 536870912) (hcells : cells + 1 ≤ R.cells) (hslots : slots + n ≤ R.slots) (hd : decode cc pc = .ok (.anewarray index, 3))
    (kk : ∀ (a : Nat) (M2 : Wd), (∀ r2 : Role, r2 ≠ r → M2 r2 = M r2) → M2 r = some (a, aR C n (fun _ => none)) → G Z p l e R s m args below meth c Q (cells + 1) (slots + n) nL M2 (pc + 3) L (.ref a :: rest)) : G Z p l e R s m args below meth c Q cells slots nL M pc L (.int (nI n) :: rest) := by
  intro H locs ls hP hS hl
  have hcn : (nI n).toNatClampNeg = n := nI_clamp hn
  refine W.anew S.1 S.2.1 S.2.2.2.1 (S.2.2.2.2 _ hcl) hover rfl hd rfl (nI_pos hn) (by rw [hcn]; exact hbytes) hcells (by rw [hcn]; exact hslots) fun cA kA comp f1 f2 f3 f4 => ?_
  rw [hcn]
  generalize hH1 : H.push ({ cls := cA, slots := Array.replicate n .null, vm := .none } : Cell) = H1
  have z1 : H1.size = H.size + 1 := by rw [← hH1, Array.size_push]
  have e1 : H1[H.size]? = some (arrV cA n (fun _ => .null)) := by rw [← hH1, Array.getElem?_push_size, ← arrV_new]
  have o1 : ∀ q : Nat, q < H.size → H1[q]? = H[q]? := fun q hq => by rw [← hH1, Array.getElem?_push, if_neg (Nat.ne_of_lt hq)]
  have hAr : ArrOfT s cA (.object C) := fun N z => ⟨(fun k h => by cases h), kA, f2, comp, f3⟩
  exact kk H.size (wup M r H.size (aR C n (fun _ => none))) (fun r2 h => wup_n h) wup_s H1 _ ls (hP.new r (Nat.le_trans hz.le hS.1) ⟨cA, by rw [e1, vp_cell_q]; rfl, hAr, kA, comp, f2, f3, f4, f1⟩ o1) (hS.new z1 o1) hl
theorem g_objInit (S : CallFix p m c cc nL s args Ts own) (hml2 : c.maxLocals = nL) {idx a : Nat} (hlink : Cond.methodLink own idx objectInit ∈ Ts) (hinst : Cond.instanceMethod objectInit ∈ Ts) (hcode : Cond.code objectInit ⟨#[0xb1]⟩ 1 none ∈ Ts) (hd : decode cc pc = .ok (.invokespecial idx, 3)) (hfr : 1 ≤ R.frames) (hlo : 2 * 0 + (rest.map fun v => v.category).sum + 12 ≤ R.locals) (kk : G Z p l e R s m args below meth c Q cells slots nL M (pc + 3) L rest) : G Z p l e R s m args below meth c Q cells slots nL M pc L (.ref a :: rest) := by
  intro H locs ls hP hS hl
  exact W.objInit S.1 S.2.1 S.2.2.2.1 (S.2.2.2.2 _ hlink) (S.2.2.2.2 _ hinst) (S.2.2.2.2 _ hcode) rfl (by rw [hml2]; exact hl.1) rfl hd hfr hlo (kk H locs ls hP hS hl)
theorem g_vret (S : CallFix p m c cc nL s args Ts own) (hz : Stat Z s) (hlocks : meth.locks = false) {mc ms : Nat} {post : Option Value → Wd → Prop} {px : String → Wd → Prop} (hr : meth.sig.returnType = none) (hp : post none M) (hc : cells ≤ mc) (hs : slots ≤ ms) (hd : decode cc pc = .ok (.return_, 1)) : G Z p l e R s m args below meth c (QZ Z below args s mc ms post px) cells slots nL M pc L [] := by
  intro H locs ls hP hS hl
  refine W.widen hc hs ?_
  refine vx_ret ?_
  exact W.vret S.1 S.2.1 hr (fun t ht hW => ⟨⟨_, M, rfl, hp, trivial, by rw [ht]; exact hP.moved hW.alike⟩, hS.F ht⟩) hS.2.2 hd hlocks
theorem g_iret (S : CallFix p m c cc nL s args Ts own) (hz : Stat Z s) (hlocks : meth.locks = false) {v : Int32} {mc ms : Nat} {post : Option Value → Wd → Prop} {px : String → Wd → Prop} (hr : meth.sig.returnType = some .int) (hp : post (some (.int v)) M) (hc : cells ≤ mc) (hs : slots ≤ ms) (hd : decode cc pc = .ok (.ireturn, 1)) : G Z p l e R s m args below meth c (QZ Z below args s mc ms post px) cells slots nL M pc L [.int v] := by
  intro H locs ls hP hS hl
  refine W.widen hc hs ?_
  refine vx_ret ?_
  exact W.iret S.1 S.2.1 hr (fun t ht hW => ⟨⟨_, M, rfl, hp, trivial, by rw [ht]; exact hP.moved hW.alike⟩, hS.F ht⟩) hS.2.2 hd hlocks
theorem g_zret (S : CallFix p m c cc nL s args Ts own) (hz : Stat Z s) (hlocks : meth.locks = false) {v : Int32} {ty : FieldType} (hn : narrow ty (.int v) = .int v) {mc ms : Nat} {post : Option Value → Wd → Prop} {px : String → Wd → Prop} (hr : meth.sig.returnType = some ty) (hp : post (some (.int v)) M) (hc : cells ≤ mc) (hs : slots ≤ ms) (hd : decode cc pc = .ok (.ireturn, 1)) : G Z p l e R s m args below meth c (QZ Z below args s mc ms post px) cells slots nL M pc L [.int v] := by
  intro H locs ls hP hS hl
  refine W.widen hc hs ?_
  refine vx_ret ?_
  exact W.zret S.1 S.2.1 hr hn (fun t ht hW => ⟨⟨_, M, rfl, hp, trivial, by rw [ht]; exact hP.moved hW.alike⟩, hS.F ht⟩) hS.2.2 hd hlocks
theorem g_lret (S : CallFix p m c cc nL s args Ts own) (hz : Stat Z s) (hlocks : meth.locks = false) {v : Int64} {mc ms : Nat} {post : Option Value → Wd → Prop} {px : String → Wd → Prop} (hr : meth.sig.returnType = some .long) (hp : post (some (.long v)) M) (hc : cells ≤ mc) (hs : slots ≤ ms) (hd : decode cc pc = .ok (.lreturn, 1)) : G Z p l e R s m args below meth c (QZ Z below args s mc ms post px) cells slots nL M pc L [.long v] := by
  intro H locs ls hP hS hl
  refine W.widen hc hs ?_
  refine vx_ret ?_
  exact W.lret S.1 S.2.1 hr (fun t ht hW => ⟨⟨_, M, rfl, hp, trivial, by rw [ht]; exact hP.moved hW.alike⟩, hS.F ht⟩) hS.2.2 hd hlocks
theorem g_aret (S : CallFix p m c cc nL s args Ts own) (hz : Stat Z s) (hlocks : meth.locks = false) {a : Nat} {C : String} {mc ms : Nat} {post : Option Value → Wd → Prop} {px : String → Wd → Prop} (hr : meth.sig.returnType = some (.object C)) (hp : post (some (.ref a)) M) (hc : cells ≤ mc) (hs : slots ≤ ms) (hd : decode cc pc = .ok (.areturn, 1)) : G Z p l e R s m args below meth c (QZ Z below args s mc ms post px) cells slots nL M pc L [.ref a] := by
  intro H locs ls hP hS hl
  refine W.widen hc hs ?_
  refine vx_ret ?_
  exact W.aret S.1 S.2.1 hr (Or.inl ⟨_, rfl⟩) (Or.inr ⟨_, rfl⟩) (fun t ht hW => ⟨⟨_, M, rfl, hp, trivial, by rw [ht]; exact hP.moved hW.alike⟩, hS.F ht⟩) hS.2.2 hd hlocks
theorem g_dret (S : CallFix p m c cc nL s args Ts own) (hz : Stat Z s) (hlocks : meth.locks = false) {v : UInt64} {mc ms : Nat} {post : Option Value → Wd → Prop} {px : String → Wd → Prop} (hr : meth.sig.returnType = some .double) (hp : post (some (.double v)) M) (hc : cells ≤ mc) (hs : slots ≤ ms) (hd : decode cc pc = .ok (.dreturn, 1)) : G Z p l e R s m args below meth c (QZ Z below args s mc ms post px) cells slots nL M pc L [.double v] := by
  intro H locs ls hP hS hl
  refine W.widen hc hs ?_
  refine vx_ret ?_
  exact W.dret S.1 S.2.1 hr (fun t ht hW => ⟨⟨_, M, rfl, hp, trivial, by rw [ht]; exact hP.moved hW.alike⟩, hS.F ht⟩) hS.2.2 hd hlocks
theorem g_fret (S : CallFix p m c cc nL s args Ts own) (hz : Stat Z s) (hlocks : meth.locks = false) {v : UInt32} {mc ms : Nat} {post : Option Value → Wd → Prop} {px : String → Wd → Prop} (hr : meth.sig.returnType = some .float) (hp : post (some (.float v)) M) (hc : cells ≤ mc) (hs : slots ≤ ms) (hd : decode cc pc = .ok (.freturn, 1)) : G Z p l e R s m args below meth c (QZ Z below args s mc ms post px) cells slots nL M pc L [.float v] := by
  intro H locs ls hP hS hl
  refine W.widen hc hs ?_
  refine vx_ret ?_
  exact W.fret S.1 S.2.1 hr (fun t ht hW => ⟨⟨_, M, rfl, hp, trivial, by rw [ht]; exact hP.moved hW.alike⟩, hS.F ht⟩) hS.2.2 hd hlocks
theorem Stat.zq {n d : String} (h : Stat Z s) (h1 : Cond.laysStatic Bundle.tN n d ∈ lw_tbl) (h2 : Cond.initialized Bundle.tN ∈ lw_tbl) (h3 : Cond.isRef (.static Bundle.tN n d) ∈ flatC (Jvm.Cond.and given_1 narrow_1)) : vx_Zq Bundle.tN n d (AZ Z) s s.heap := by
  obtain ⟨U0, e1, -, e3, e4, e5, e6, e7⟩ := h
  have hq := vx_Zqof (A := AZ Z) (e3 _ h1) (e3 _ h2) (flat_of_before _ e4 _ h3) (fun a ha => Nat.not_le.mpr (e1 ▸ ha))
  exact (hq.moved e5).kept (fun a ha _ => e7 a (e1 ▸ ha))
theorem Stat.zU (h : Stat Z s) : vx_Zq Bundle.tN "UNASSIGNED_STACK" Bundle.steD (AZ Z) s s.heap := h.zq (by decide +kernel) (by decide +kernel) (by decide +kernel)
theorem Stat.zN (h : Stat Z s) : vx_Zq Bundle.tN "SUPPRESSED_SENTINEL" Bundle.listD (AZ Z) s s.heap := h.zq (by decide +kernel) (by decide +kernel) (by decide +kernel)
theorem g_throwS (S : CallFix p m c cc nL s args Ts own) (hz : Stat Z s) (hfl : l.stackTraces = false) (hml2 : c.maxLocals = nL) (hex : ∀ x ∈ c.exceptionTable.toList, False) (hlocks : meth.locks = false) {cls text : String} {names : List String} {ik is ic sa mc ms : Nat} {post : Option Value → Wd → Prop} {px : String → Wd → Prop} (hcls : Bundle.fit cls = true) (hnames : ∀ n ∈ names, Bundle.fit n = true)
    (hk : Cond.classLink own ik cls ∈ Ts) (hini : Cond.initialized cls ∈ Ts) (hstr : vk_R own is text sa s) (hat : ∀ w ∈ vx_atS own ic cls names, w.before args s = true) (hgood : ∀ w ∈ Cond.classLink own ik cls :: Cond.initialized cls :: vx_atS own ic cls names, vx_ot w = true)
    (d0 : decode cc pc = .ok (.new ik, 3)) (d3 : decode cc (pc + 3) = .ok (.dup, 1)) (d4 : decode cc (pc + 4) = .ok (.ldc is, 2)) (d6 : decode cc (pc + 6) = .ok (.invokespecial ic, 3)) (d9 : decode cc (pc + 9) = .ok (.athrow, 1))
    (hRf : names.length + 3 < R.frames) (hRl : (rest.map fun v => v.category).sum + (13 * (names.length + 1) + 43) ≤ R.locals) (hRc : cells + 1 ≤ R.cells) (hRs : slots + 6 ≤ R.slots) (hp : px cls M) (hc : cells + 1 ≤ mc) (hs : slots + 6 ≤ ms) : G Z p l e R s m args below meth c (QZ Z below args s mc ms post px) cells slots nL M pc L rest := by
  intro H locs ls hP hS hl
  exact vx_throwS S.1 S.2.1 hfl S.2.2.2.1 hcls hnames (S.2.2.2.2 _ hk) (S.2.2.2.2 _ hini) hstr hat hgood hz.zU hz.zN hS (hl.1.trans hml2.symm) d0 d3 d4 d6 d9 (fun x hx => (hex x hx).elim) hRf hRl hRc hRs hlocks
    (fun t hvm hsz hq => ⟨⟨M, hp, trivial, ⟨fun r a e hm => ⟨((hP.1 r a e hm).1.kept (hq a (hP.1 r a e hm).1.lt)).moved hvm, (hP.1 r a e hm).2⟩, hP.2⟩⟩, ⟨Nat.le_trans hS.1 hsz, fun q h1 h2 => (hq q (Nat.lt_of_lt_of_le h1 hS.1)).trans (hS.2.1 q h1 h2)⟩⟩) hS.2.2 hc hs
theorem g_throwSW (S : CallFix p m c cc nL s args Ts own) (hz : Stat Z s) (hfl : l.stackTraces = false) (hml2 : c.maxLocals = nL) (hex : ∀ x ∈ c.exceptionTable.toList, False) (hlocks : meth.locks = false) {cls text : String} {names : List String} {ik is ic sa mc ms : Nat} {post : Option Value → Wd → Prop} {px : String → Wd → Prop} (hcls : Bundle.fit cls = true) (hnames : ∀ n ∈ names, Bundle.fit n = true)
    (hk : Cond.classLink own ik cls ∈ Ts) (hini : Cond.initialized cls ∈ Ts) (hstr : vk_R own is text sa s) (hat : ∀ w ∈ vx_atS own ic cls names, w.before args s = true) (hgood : ∀ w ∈ Cond.classLink own ik cls :: Cond.initialized cls :: vx_atS own ic cls names, vx_ot w = true)
    (d0 : decode cc pc = .ok (.new ik, 3)) (d3 : decode cc (pc + 3) = .ok (.dup, 1)) (d4 : decode cc (pc + 4) = .ok (.ldc_w is, 3)) (d7 : decode cc (pc + 7) = .ok (.invokespecial ic, 3)) (d10 : decode cc (pc + 10) = .ok (.athrow, 1))
    (hRf : names.length + 3 < R.frames) (hRl : (rest.map fun v => v.category).sum + (13 * (names.length + 1) + 43) ≤ R.locals) (hRc : cells + 1 ≤ R.cells) (hRs : slots + 6 ≤ R.slots) (hp : px cls M) (hc : cells + 1 ≤ mc) (hs : slots + 6 ≤ ms) : G Z p l e R s m args below meth c (QZ Z below args s mc ms post px) cells slots nL M pc L rest := by
  intro H locs ls hP hS hl
  exact vx_throwSW S.1 S.2.1 hfl S.2.2.2.1 hcls hnames (S.2.2.2.2 _ hk) (S.2.2.2.2 _ hini) hstr hat hgood hz.zU hz.zN hS (hl.1.trans hml2.symm) d0 d3 d4 d7 d10 (fun x hx => (hex x hx).elim) hRf hRl hRc hRs hlocks
    (fun t hvm hsz hq => ⟨⟨M, hp, trivial, ⟨fun r a e hm => ⟨((hP.1 r a e hm).1.kept (hq a (hP.1 r a e hm).1.lt)).moved hvm, (hP.1 r a e hm).2⟩, hP.2⟩⟩, ⟨Nat.le_trans hS.1 hsz, fun q h1 h2 => (hq q (Nat.lt_of_lt_of_le h1 hS.1)).trans (hS.2.1 q h1 h2)⟩⟩) hS.2.2 hc hs
/-- an exception that a callee threw goes on to the caller -/
theorem g_out (S : CallFix p m c cc nL s args Ts own) (hz : Stat Z s) (hex : ∀ x ∈ c.exceptionTable.toList, False) (hlocks : meth.locks = false) {E : String} {mc ms : Nat} {post : Option Value → Wd → Prop} {px : String → Wd → Prop} (hp : px E M) (hc : cells ≤ mc) (hs : slots ≤ ms) : GX Z p l e R s m args below meth c (QZ Z below args s mc ms post px) cells slots nL M pc L E := by
  intro H locs ls rest q ce hP hS hl hce hv hcl
  exact vx_out (fun x hx => (hex x hx).elim) hlocks hce hv hcl (fun t ht hvm => ⟨⟨M, hp, trivial, by rw [ht]; exact hP.moved hvm⟩, hS.F ht⟩) hS.2.2 hc hs
theorem pre_blind {av : List Value} : FrameBlind (va_Pc av (fun U => Inv Z M U)) := fun a U g mk h => ⟨h.1, h.2.blind⟩
theorem pre_inv {H : Heap} {locs : List Loc} {av : List Value} (hz : Stat Z s) (hP : HP Z s M H) (hS : va_S (AZ Z) s.heap H locs) : ∀ U : State, U.heap = H → s.WarmedH U.vm → va_Pc av (fun U => Inv Z M U) av.toArray U := fun U hU hW =>
  ⟨rfl, hz.go hW (by rw [hU]; exact hS.1) (fun q h1 h2 => by rw [hU]; exact hS.2.1 q h1 h2), by rw [hU]; exact hP.moved hW.alike⟩
theorem g_callV (S : CallFix p m c cc nL s args Ts own) (hz : Stat Z s) (hml2 : c.maxLocals = nL) {y : MethodName} {bytes : ByteArray} {maxL n index : Nat} {ret : Option FieldType} {ws : List Cond} {rm : Room} {mc ms : Nat} {post : Option Value → Wd → Prop} {px : String → Wd → Prop} {C : String} {T0 : u_T} {N0 a ci : Nat} {fs : List Value} {r : Role} (As : List Value) (hM : Ct Z l y ws rm (.ref a :: As) M mc ms post px) (cw : CallW R s args own C index y bytes maxL ret ws rm mc ms n) (hm : M r = some (a, .inr (ci, fs))) (hc : vwCl[ci]? = some (C, T0, N0)) (hst : st = As.reverse ++ .ref a :: rest) (hn : As.length = n) (hcat : (rest.map fun v => v.category).sum ≤ 8) (hd : decode cc pc = .ok (.invokevirtual index, 3)) (hf : cells + mc ≤ R.cells ∧ slots + ms ≤ R.slots) (kx : ∀ (E : String) (M2 : Wd), px E M2 → GX Z p l e R s m args below meth c Q (cells + mc) (slots + ms) nL M2 pc L E) (kk : ∀ (v : Option Value) (M2 : Wd), post v M2 → G Z p l e R s m args below meth c Q (cells + mc) (slots + ms) nL M2 (pc + 3) L (v.toList ++ rest)) : G Z p l e R s m args below meth c Q cells slots nL M pc L st := by
  subst hst
  intro H locs ls hP hS hl T hT X
  rcases vx_runV S hM cw ⟨pre_blind, va_recv (q0 := 0) hz.K (hP.one hm) hc rfl, pre_inv hz hP hS⟩ rfl hn (hl.1.trans (hml2.symm.trans S.2.2.1)) rfl (lv_room hcat) hd hf T hT X with ⟨v, st₀, t, T', LL, h0, X', hL, e1, e2, ⟨⟨v2, M', hv, hpo, hi⟩, hF⟩, st⟩ | ⟨q, st₀, t, T', LL, E, ce, h0, X', hL, e1, e2, ⟨⟨M', hpx, hi⟩, hF⟩, hce, hcv, hcl, st⟩
  · cases hv
    obtain ⟨k1, k2, k3⟩ := vx_keep h0 e1 hS (fun q _ h => h) (fun q h => h) hL hF
    have hal : t.vm.Alike s.vm := by rw [← e2]; exact X'.warmed.alike.symm
    obtain ⟨t2, a1, b1⟩ := kk v M' hpo T'.heap (locs ++ LL) ls (by rw [e1]; exact hi.2.moved hal) k3 hl T' rfl X'
    exact ⟨t2, st t2 a1, b1⟩
  · obtain ⟨k1, k2, k3⟩ := vx_keep h0 e1 hS (fun q _ h => h) (fun q h => h) hL hF
    have hal : t.vm.Alike s.vm := by rw [← e2]; exact X'.warmed.alike.symm
    obtain ⟨t2, a1, b1⟩ := kx E M' hpx T'.heap (locs ++ LL) ls rest q ce (by rw [e1]; exact hi.2.moved hal) k3 hl (by rw [e1]; exact hce) hcv hcl T' rfl X'
    exact ⟨t2, st.trans a1, b1⟩
theorem g_callS (S : CallFix p m c cc nL s args Ts own) (hz : Stat Z s) (hml2 : c.maxLocals = nL) {y : MethodName} {bytes : ByteArray} {maxL n index : Nat} {ret : Option FieldType} {ws : List Cond} {rm : Room} {mc ms : Nat} {post : Option Value → Wd → Prop} {px : String → Wd → Prop} (As : List Value) (hM : Ct Z l y ws rm As M mc ms post px) (cw : CallB R s args own index y bytes maxL ret ws rm mc ms n ∧ (Cond.static y).before args s = true) (hst : st = As.reverse ++ rest) (hn : As.length = n) (hcat : (rest.map fun v => v.category).sum ≤ 8) (hd : decode cc pc = .ok (.invokestatic index, 3)) (hf : cells + mc ≤ R.cells ∧ slots + ms ≤ R.slots) (kx : ∀ (E : String) (M2 : Wd), px E M2 → GX Z p l e R s m args below meth c Q (cells + mc) (slots + ms) nL M2 pc L E) (kk : ∀ (v : Option Value) (M2 : Wd), post v M2 → G Z p l e R s m args below meth c Q (cells + mc) (slots + ms) nL M2 (pc + 3) L (v.toList ++ rest)) : G Z p l e R s m args below meth c Q cells slots nL M pc L st := by
  subst hst
  intro H locs ls hP hS hl T hT X
  rcases vx_runS S hM cw ⟨pre_blind, pre_inv hz hP hS⟩ rfl hn (hl.1.trans (hml2.symm.trans S.2.2.1)) rfl (lv_room hcat) hd hf T hT X with ⟨v, st₀, t, T', LL, h0, X', hL, e1, e2, ⟨⟨v2, M', hv, hpo, hi⟩, hF⟩, st⟩ | ⟨q, st₀, t, T', LL, E, ce, h0, X', hL, e1, e2, ⟨⟨M', hpx, hi⟩, hF⟩, hce, hcv, hcl, st⟩
  · cases hv
    obtain ⟨k1, k2, k3⟩ := vx_keep h0 e1 hS (fun q _ h => h) (fun q h => h) hL hF
    have hal : t.vm.Alike s.vm := by rw [← e2]; exact X'.warmed.alike.symm
    obtain ⟨t2, a1, b1⟩ := kk v M' hpo T'.heap (locs ++ LL) ls (by rw [e1]; exact hi.2.moved hal) k3 hl T' rfl X'
    exact ⟨t2, st t2 a1, b1⟩
  · obtain ⟨k1, k2, k3⟩ := vx_keep h0 e1 hS (fun q _ h => h) (fun q h => h) hL hF
    have hal : t.vm.Alike s.vm := by rw [← e2]; exact X'.warmed.alike.symm
    obtain ⟨t2, a1, b1⟩ := kx E M' hpx T'.heap (locs ++ LL) ls rest q ce (by rw [e1]; exact hi.2.moved hal) k3 hl (by rw [e1]; exact hce) hcv hcl T' rfl X'
    exact ⟨t2, st.trans a1, b1⟩
theorem Ct.met {y : MethodName} {ws : List Cond} {rm : Room} {av : List Value} {mc ms : Nat} {post : Option Value → Wd → Prop} (h : Ct Z l y ws rm av M mc ms post (fun _ _ => False)) : Met l y ws rm (va_Pc av (fun U => Inv Z M U)) (fun _ st oc t => (∃ (v : Option Value) (M' : Wd), oc = .returned v ∧ post v M' ∧ InvE Z M' t) ∧ va_F (AZ Z) st t) mc ms (AZ Z) := by
  intro p e ha hc hk s m args below hf hap hpre hK
  obtain ⟨t, o, h1, h2, h3, h4⟩ := h p e ha hc hk s m args below hf hap hpre hK
  refine ⟨t, o, h1, h2, h3, ?_⟩
  rcases h4 with h4 | ⟨q, -, E, ce, LL, ⟨⟨M', hx, -⟩, -⟩, -⟩
  · exact h4
  · exact hx.elim
theorem g_callI (S : CallFix p m c cc nL s args Ts own) (hz : Stat Z s) (hml2 : c.maxLocals = nL) {y : MethodName} {bytes : ByteArray} {maxL n index : Nat} {ws : List Cond} {rm : Room} {mc ms a : Nat} {post : Option Value → Wd → Prop} (As : List Value) (hM : Ct Z l y ws rm (.ref a :: As) M mc ms post (fun _ _ => False)) (cw : CallB R s args own index y bytes maxL none ws rm mc ms n ∧ y.name = "<init>" ∧ (Cond.instanceMethod y).before args s = true) (hst : st = As.reverse ++ .ref a :: rest) (hn : As.length = n) (hcat : (rest.map fun v => v.category).sum ≤ 8) (hd : decode cc pc = .ok (.invokespecial index, 3)) (hf : cells + mc ≤ R.cells ∧ slots + ms ≤ R.slots) (kk : ∀ (v : Option Value) (M2 : Wd), post v M2 → G Z p l e R s m args below meth c Q (cells + mc) (slots + ms) nL M2 (pc + 3) L (v.toList ++ rest)) : G Z p l e R s m args below meth c Q cells slots nL M pc L st := by
  subst hst
  intro H locs ls hP hS hl T hT X
  obtain ⟨v, st₀, t, T', LL, h0, X', hL, e1, e2, ⟨⟨v2, M', hv, hpo, hi⟩, hF⟩, st⟩ := va_runI S hM.met cw ⟨pre_blind, pre_inv hz hP hS⟩ rfl hn (hl.1.trans (hml2.symm.trans S.2.2.1)) rfl (lv_room hcat) hd hf T hT X
  cases hv
  obtain ⟨k1, k2, k3⟩ := vx_keep h0 e1 hS (fun q _ h => h) (fun q h => h) hL hF
  have hal : t.vm.Alike s.vm := by rw [← e2]; exact X'.warmed.alike.symm
  obtain ⟨t2, a1, b1⟩ := kk v M' hpo T'.heap (locs ++ LL) ls (by rw [e1]; exact hi.2.moved hal) k3 hl T' rfl X'
  exact ⟨t2, st t2 a1, b1⟩
/-- a contract, by a walk of the body -/
theorem Ct.of {y : MethodName} {ws ws' : List Cond} {rm : Room} {av : List Value} {mc ms maxL : Nat} {ret : Option FieldType} {post : Option Value → Wd → Prop} {px : String → Wd → Prop} (hy : plainName y.cls = true) (hw : ws = Cond.code y cc maxL ret :: ws') (hlen : (lg_sl av).length ≤ maxL)
    (body : ∀ (p : Program) (e : Env) (s : State) (m : MethodId) (args : Array Value) (below : List Frame) (meth : Method) (c : Code), CallFix p m c cc maxL s args ws y.cls → Stat Z s → c.maxLocals = maxL → (∀ x ∈ c.exceptionTable.toList, False) → meth.locks = false → meth.sig.returnType = ret → (y.name = "<init>" → meth.name = "<init>") → G Z p l e (headSpec ws rm).room s m args below meth c (QZ Z below args s mc ms post px) 0 0 maxL M 0 (lv_args 0 av) []) : Ct Z l y ws rm av M mc ms post px := by
  refine vx_ofW (cc := cc) (maxL := maxL) (ret := ret) hy hw ?_
  intro p e s m args below meth c s₁ B hml hex hv
  obtain ⟨rfl, hz, hP⟩ := hv
  have hl := lv_entry av (n := maxL) hlen
  rw [lg_entry_eq]
  exact body p e s m _ below meth c ⟨B.exec, B.bytes, hml, findClass_of_methodNamed B.named, atoms_spec (ws := ws) B.pre⟩ hz hml hex B.notSynchronized B.returns (fun h => (name_of_methodNamed B.named B.method).1.trans h) s.heap [] _ hP va_S.rf hl
/-- a contract says less: weaker ends, more room -/
theorem Ct.imp {y : MethodName} {ws : List Cond} {rm : Room} {av : List Value} {mc ms : Nat} {post post2 : Option Value → Wd → Prop} {px px2 : String → Wd → Prop} (h : Ct Z l y ws rm av M mc ms post px) (h1 : ∀ v M', post v M' → post2 v M') (h2 : ∀ E M', px E M' → px2 E M') : Ct Z l y ws rm av M mc ms post2 px2 := by
  intro p e ha hc hk s m args below hf hap hpre hK
  obtain ⟨t, o, g1, g2, g3, g4⟩ := h p e ha hc hk s m args below hf hap hpre hK
  refine ⟨t, o, g1, g2, g3, ?_⟩
  rcases g4 with ⟨⟨⟨v, M', e1, e2, e3⟩, e4⟩, e5⟩ | ⟨q, e0, E, ce, LL, ⟨⟨M', hx, hi⟩, hF⟩, hr⟩
  · exact Or.inl ⟨⟨⟨v, M', e1, h1 v M' e2, e3⟩, e4⟩, e5⟩
  · exact Or.inr ⟨q, e0, E, ce, LL, ⟨⟨M', h2 E M' hx, hi⟩, hF⟩, hr⟩
end ROWS
end CORE
