section GROW
variable {Z : Zp} {p : Program} {l : Launch} {e : Env} {R : Room} {s : State} {m : MethodId} {args : Array Value} {below : List Frame} {meth : Method} {c : Code} {Q : State → Prop} {cells slots nL : Nat} {M M0 : Wd} {A : AF} {C : CF} {pc : Nat} {L : List (Nat × Value)} {st rest : List Value}
variable {cc0 : ByteArray} {Ts : List Cond} {own : String}
/-- an array returned -/
theorem g_aretA (S : CallFix p m c cc0 nL s args Ts own) (hz : Stat Z s) (hlocks : meth.locks = false) {a : Nat} {ty : FieldType} {mc ms : Nat} {post : Option Value → Wd → Prop} {px : String → Wd → Prop} (hr : meth.sig.returnType = some (.array ty)) (hp : post (some (.ref a)) M) (hc : cells ≤ mc) (hs : slots ≤ ms) (hd : decode cc0 pc = .ok (.areturn, 1)) : G Z p l e R s m args below meth c (QZ Z below args s mc ms post px) cells slots nL M pc L [.ref a] := by
  intro H locs ls hP hS hl
  refine W.widen hc hs ?_
  refine vx_ret ?_
  exact W.aret S.1 S.2.1 hr (Or.inr ⟨_, rfl⟩) (Or.inr ⟨_, rfl⟩) (fun t ht hW => ⟨⟨_, M, rfl, hp, trivial, by rw [ht]; exact hP.moved hW.alike⟩, hS.F ht⟩) hS.2.2 hd hlocks
/-- a loop over worlds -/
theorem g_loop {σ : Type} (I : σ → Prop) (μ : σ → Nat) (Ms : σ → Wd) (Ls : σ → List (Nat × Value)) (x0 : σ) (h0 : I x0) (hM : Ms x0 = M) (hL : Ls x0 = L)
    (body : ∀ x : σ, I x → (∀ y : σ, I y → μ y < μ x → G Z p l e R s m args below meth c Q cells slots nL (Ms y) pc (Ls y) st) → G Z p l e R s m args below meth c Q cells slots nL (Ms x) pc (Ls x) st) : G Z p l e R s m args below meth c Q cells slots nL M pc L st := by
  subst hM hL
  have key : ∀ (n : Nat) (x : σ), μ x < n → I x → G Z p l e R s m args below meth c Q cells slots nL (Ms x) pc (Ls x) st := by
    intro n
    induction n with
    | zero => intro x h; omega
    | succ n ih => intro x h hI; exact body x hI (fun y hy hlt => ih y (by omega) hy)
  exact key (μ x0 + 1) x0 (by omega) h0
/-- another world that the heap shows too -/
theorem g_world {M2 : Wd} (h : ∀ H : Heap, HP Z s M H → HP Z s M2 H) (k : G Z p l e R s m args below meth c Q cells slots nL M2 pc L st) : G Z p l e R s m args below meth c Q cells slots nL M pc L st :=
  fun H locs ls hP hS hl => k H locs ls (h H hP) hS hl
/-- what lay at a role that is no more lies at another -/
def wmv (M : Wd) (r q : Role) : Wd := fun x => if x = q then M r else if x = r then none else M x
theorem HP.mv {H : Heap} {r q : Role} (h : HP Z s M H) : HP Z s (wmv M r q) H := by
  have key : ∀ (x : Role) (a : Nat) (e' : Ev), wmv M r q x = some (a, e') → ∃ x', M x' = some (a, e') ∧ (x' = r ∧ x = q ∨ x' = x ∧ x ≠ q ∧ x ≠ r) := by
    intro x a e' hh
    unfold wmv at hh
    by_cases h1 : x = q
    · rw [if_pos h1] at hh
      exact ⟨r, hh, Or.inl ⟨rfl, h1⟩⟩
    · rw [if_neg h1] at hh
      by_cases h2 : x = r
      · rw [if_pos h2] at hh
        cases hh
      · rw [if_neg h2] at hh
        exact ⟨x, hh, Or.inr ⟨rfl, h1, h2⟩⟩
  refine ⟨fun x a e' hh => ?_, fun x1 x2 a e1 e2 h1 h2 => ?_⟩
  · obtain ⟨x', hx, -⟩ := key x a e' hh
    exact h.1 x' a e' hx
  · obtain ⟨y1, g1, k1⟩ := key x1 a e1 h1
    obtain ⟨y2, g2, k2⟩ := key x2 a e2 h2
    have hy := h.2 y1 y2 a e1 e2 g1 g2
    rcases k1 with ⟨k1, k3⟩ | ⟨k1, k3, k5⟩ <;> rcases k2 with ⟨k2, k4⟩ | ⟨k2, k4, k6⟩
    · rw [k3, k4]
    · exact absurd (k2.symm.trans (hy.symm.trans k1)) k6
    · exact absurd (k1.symm.trans (hy.trans k2)) k5
    · rw [← k1, ← k2, hy]
def lgr (n : Nat) (g : Nat → Nat) : Nat → Nat := fun j => if j < n then g j else 0
theorem lgr_0 (n : Nat) (g : Nat → Nat) : lgr 0 g = fun _ => 0 := by
  funext j
  simp [lgr]
theorem lgr_s (n : Nat) (g : Nat → Nat) : upN (lgr n g) n (g n) = lgr (n + 1) g := by
  funext j
  unfold lgr upN
  by_cases h : j = n
  · subst h
    simp
  · rw [if_neg h]
    by_cases h2 : j < n
    · simp [h2, show j < n + 1 by omega]
    · simp [h2, show ¬ j < n + 1 by omega]
set_option maxHeartbeats 4000000 in
theorem k_X7_longer (Z : Zp) (l : Launch) (M : Wd) (r : Role) (a n : Nat) (g : Nat → Nat) (hm : M r = some (a, aN .int n g)) (hr : r ≠ (50, 0)) (hn : n ≤ 100000) : Ct Z l yX7_longer wsX7_longer ({ frames := 0, cells := 1, slots := 2 * n, locals := 0 }) [.ref a] M 1 (2 * n) (fun v M2 => ∃ b : Nat, v = some (.ref b) ∧ (∀ r2 : Role, r2 ≠ (50, 0) → M2 r2 = M r2) ∧ M2 (50, 0) = some (b, aN .int (2 * n) (lgr n g))) (fun _ _ => False) := by
  refine Ct.of (cc := cX7_longer) (maxL := 3) (ret := some (.array .int)) (by decide) rfl (Nat.le_of_ble_eq_true rfl) ?_
  intro p_ e_ s_ m_ args_ below_ meth_ c_ S hz hml hex hlo hr2 hin
  refine g_loc (L2 := [(0, .ref a)]) rfl ?_
  refine g_iconst (pc := 0) S (v := nI 2) dX7_longer_0 (by decide) ?_
  refine g_aload_n (pc := 1) S 0 dX7_longer_1 rfl rfl ?_
  refine g_alen (pc := 2) S hz hm dX7_longer_2 ?_
  refine g_imulN (pc := 3) S dX7_longer_3 ?_
  refine g_newa (pc := 4) S hz (ty := .int) (n := 2 * n) (x := (2 * n, .inl (fun _ => nI 0))) (50, 0) rfl (by decide +kernel) (fun cA => by rw [vp_cell_i]; rfl) (by omega) (by show 2 * n * 4 ≤ _; omega) (Nat.le_refl _) (Nat.le_of_eq (Nat.zero_add _)) dX7_longer_4 (fun b M2 f2 h2 => ?_)
  refine g_astore_n (pc := 6) S [(1, .ref b), (0, .ref a)] dX7_longer_6 rfl (by decide) rfl ?_
  refine g_iconst (pc := 7) S (v := nI 0) dX7_longer_7 (by decide) ?_
  refine g_istore_n (pc := 8) S [(2, .int (nI 0)), (1, .ref b), (0, .ref a)] dX7_longer_8 rfl (by decide) rfl ?_
  refine g_loop (σ := Nat × Wd) (fun y => y.1 ≤ n ∧ (∀ r2 : Role, r2 ≠ (50, 0) → y.2 r2 = M r2) ∧ y.2 (50, 0) = some (b, aN .int (2 * n) (lgr y.1 g))) (fun y => n - y.1) (fun y => y.2) (fun y => [(2, .int (nI y.1)), (1, .ref b), (0, .ref a)]) (0, M2) ⟨Nat.zero_le _, f2, by dsimp only; rw [h2, lgr_0 0 g]⟩ rfl rfl ?_
  intro y hI ih
  obtain ⟨j, M3⟩ := y
  obtain ⟨hj, f3, h3⟩ := hI
  dsimp only at hj f3 h3 ih ⊢
  have hm3 : M3 r = some (a, aN .int n g) := (f3 r hr).trans hm
  refine g_iload_n (pc := 9) S 0 dX7_longer_9 rfl rfl ?_
  refine g_aload_n (pc := 10) S 2 dX7_longer_10 rfl rfl ?_
  refine g_alen (pc := 11) S hz hm3 dX7_longer_11 ?_
  refine g_icmp_geN (pc := 12) S 27 dX7_longer_12 (by decide) (by omega) (by omega) (fun h => ?_) (fun h => ?_)
  · obtain rfl : j = n := by omega
    refine g_aload_n (pc := 27) S 1 dX7_longer_27 rfl rfl ?_
    exact g_aretA (pc := 28) S hz hlo hr2 ⟨b, rfl, f3, h3⟩ (Nat.le_refl _) (Nat.le_of_eq (Nat.zero_add _)) dX7_longer_28
  · refine g_aload_n (pc := 15) S 1 dX7_longer_15 rfl rfl ?_
    refine g_iload_n (pc := 16) S 0 dX7_longer_16 rfl rfl ?_
    refine g_aload_n (pc := 17) S 2 dX7_longer_17 rfl rfl ?_
    refine g_iload_n (pc := 18) S 0 dX7_longer_18 rfl rfl ?_
    refine g_iald (pc := 19) S hz hm3 (by omega) (by omega) dX7_longer_19 ?_
    refine g_iast (pc := 20) S hz h3 (by omega) (by omega) dX7_longer_20 (fun M4 f4 h4 => ?_)
    refine g_iinc (pc := 21) S 0 [(2, .int (nI (j + 1))), (1, .ref b), (0, .ref a)] dX7_longer_21 rfl (nI_add _ 1) (by decide) rfl ?_
    refine g_goto (pc := 24) S 9 dX7_longer_24 (by decide) ?_
    exact ih (j + 1, M4) ⟨by dsimp only; omega, fun r2 h5 => (f4 r2 h5).trans (f3 r2 h5), by dsimp only; rw [h4, lgr_s]⟩ (by dsimp only; omega)
def grw (C : CF) (i : Nat) : CF := fun k2 i2 f2 => if k2 = 61 ∧ i2 = i ∧ f2 = 0 then 2 * C 61 i 0 else if k2 = 60 ∧ i2 = i then lgr (C 61 i 0) (C 60 i) f2 else C k2 i2 f2
theorem grw_k {i k : Nat} (h : k ≠ 60) (h2 : k ≠ 61) : grw C i k = C k := by
  funext i2 f2
  simp [grw, h, h2]
theorem grw_60 {i i2 : Nat} (h : i2 ≠ i) : grw C i 60 i2 = C 60 i2 := by
  funext f2
  simp [grw, h]
theorem grw_60s {i : Nat} : grw C i 60 i = lgr (C 61 i 0) (C 60 i) := by
  funext f2
  simp [grw]
theorem grw_61 {i i2 f2 : Nat} (h : i2 ≠ i) : grw C i 61 i2 f2 = C 61 i2 f2 := by
  simp [grw, h]
theorem grw_61s {i : Nat} : grw C i 61 i 0 = 2 * C 61 i 0 := by
  simp [grw]
theorem cg_o {i b : Nat} (h1 : 21 ≤ i) (h2 : i ≤ 24) (k2 i2 : Nat) (hq : ¬ (k2 = 60 ∧ i2 = i)) (hr : ¬ (k2 = 60 ∧ i2 = 100)) : cc (up2 A 60 i b) (grw C i) k2 i2 = cc A C k2 i2 := by
  have hA : ∀ k j : Nat, k ≠ 60 → up2 A 60 i b k j = A k j := fun k j h => up2_k h
  have hAi : ∀ j : Nat, j ≠ i → up2 A 60 i b 60 j = A 60 j := fun j h => up2_i h
  unfold cc
  simp only [grw_k (C := C) (i := i) (show (0 : Nat) ≠ 60 by decide) (by decide), grw_k (C := C) (i := i) (show (4 : Nat) ≠ 60 by decide) (by decide), grw_k (C := C) (i := i) (show (5 : Nat) ≠ 60 by decide) (by decide), grw_k (C := C) (i := i) (show (6 : Nat) ≠ 60 by decide) (by decide), grw_k (C := C) (i := i) (show (7 : Nat) ≠ 60 by decide) (by decide), grw_k (C := C) (i := i) (show (8 : Nat) ≠ 60 by decide) (by decide), grw_k (C := C) (i := i) (show (9 : Nat) ≠ 60 by decide) (by decide), grw_k (C := C) (i := i) (show (10 : Nat) ≠ 60 by decide) (by decide), grw_k (C := C) (i := i) (show (11 : Nat) ≠ 60 by decide) (by decide), grw_k (C := C) (i := i) (show (12 : Nat) ≠ 60 by decide) (by decide), grw_k (C := C) (i := i) (show (13 : Nat) ≠ 60 by decide) (by decide), grw_k (C := C) (i := i) (show (70 : Nat) ≠ 60 by decide) (by decide), hA 0 _ (by decide), hA 1 _ (by decide), hA 2 _ (by decide), hA 3 _ (by decide), hA 4 _ (by decide), hA 5 _ (by decide), hA 6 _ (by decide), hA 7 _ (by decide), hA 8 _ (by decide), hA 9 _ (by decide), hA 10 _ (by decide), hA 11 _ (by decide), hA 12 _ (by decide), hA 13 _ (by decide), hA 14 _ (by decide), hA 70 _ (by decide), farmFs, listFs]
  by_cases hk : k2 = 60
  · subst hk
    have hi : i2 ≠ i := fun z => hq ⟨rfl, z⟩
    have hi100 : i2 ≠ 100 := fun z => hr ⟨rfl, z⟩
    have e3 : rowEv (grw C i) i2 = rowEv C i2 := by
      unfold rowEv rowLen
      simp only [grw_61 hi, grw_60 hi]
      by_cases h7 : i2 = 7
      · subst h7
        simp [grw_60 (C := C) hi]
      · simp [h7]
    have h26 : (26 : Nat) ≠ i := by omega
    have h27 : (27 : Nat) ≠ i := by omega
    simp only [hi100, if_false, if_true, hAi _ hi, e3, hAi 26 h26, hAi 27 h27, grw_61 (C := C) h27, grw_60 (C := C) h27]
  · simp [hk]
/-- a log's row grows: a new row in its place -/
theorem Rep.grow {M3 : Wd} {i b : Nat} (h1 : 21 ≤ i) (h2 : i ≤ 24) (hM : Rep A C M) (hf : ∀ r2 : Role, r2 ≠ (50, 0) → r2 ≠ (60, 100) → M3 r2 = M r2) (hn : M3 (50, 0) = some (b, aN .int (2 * C 61 i 0) (lgr (C 61 i 0) (C 60 i)))) (ho : M3 (60, 100) = some (A 60 100, .inr (12, modFs (up2 A 60 i b) (C 60 100)))) : Rep (up2 A 60 i b) (grw C i) (wmv M3 (50, 0) (60, i)) := by
  intro k2 i2 x hx
  unfold wmv
  by_cases hq : k2 = 60 ∧ i2 = i
  · obtain ⟨rfl, rfl⟩ := hq
    have e0 : rowEv (grw C i2) i2 = aN .int (2 * C 61 i2 0) (lgr (C 61 i2 0) (C 60 i2)) := by
      have e7 : i2 ≠ 7 := by omega
      have e8 : ¬ (8 ≤ i2 ∧ i2 ≤ 10) := by omega
      have e9 : ¬ (11 ≤ i2 ∧ i2 ≤ 15) := by omega
      unfold rowEv rowLen rowTy
      rw [if_neg e7, if_neg e8, if_neg e9, if_pos ⟨h1, h2⟩, grw_61s, grw_60s]
    rw [cc_row i2 (by omega) e0, up2_s] at hx
    rw [if_pos rfl, hn, hx]
  · by_cases hr : k2 = 60 ∧ i2 = 100
    · obtain ⟨rfl, rfl⟩ := hr
      rw [cc_mod, up2_i (by omega), grw_60 (by omega)] at hx
      have e1 : ((60, 100) : Role) ≠ (60, i) := fun z => by cases z; exact absurd h2 (by decide)
      have e2 : ((60, 100) : Role) ≠ (50, 0) := by decide
      rw [if_neg e1, if_neg e2, ho, hx]
    · rw [cg_o h1 h2 k2 i2 hq hr] at hx
      have e1 : ((k2, i2) : Role) ≠ (60, i) := fun z => hq (by cases z; exact ⟨rfl, rfl⟩)
      have e3 : ((k2, i2) : Role) ≠ (60, 100) := fun z => hr (by cases z; exact ⟨rfl, rfl⟩)
      have e2 : ((k2, i2) : Role) ≠ (50, 0) := by
        intro z
        cases z
        unfold cc at hx
        simp at hx
      rw [if_neg e1, if_neg e2, hf _ e2 e3]
      exact hM k2 i2 x hx
set_option maxHeartbeats 4000000 in
/-- 'longer' of a log's row, and the row put in its place -/
theorem s_grow (S : CallFix p m c cc0 nL s args Ts own) (hz : Stat Z s) (hml2 : c.maxLocals = nL) (i : Nat) (h1 : 21 ≤ i) (h2 : i ≤ 24) (hn : C 61 i 0 ≤ 100000) {index ix : Nat} {ref : String} (cw : CallB R s args own index yX7_longer cX7_longer 3 (some (.array .int)) wsX7_longer ({ frames := 0, cells := 1, slots := 2 * C 61 i 0, locals := 0 }) 1 (2 * C 61 i 0) 1 ∧ (Cond.static yX7_longer).before args s = true) (hcat : ((Value.ref (A 60 100) :: rest).map fun v => v.category).sum ≤ 8) (hd : decode cc0 pc = .ok (.invokestatic index, 3)) (hf : cells + 1 ≤ R.cells ∧ slots + 2 * C 61 i 0 ≤ R.slots)
    (hin : ∀ w ∈ u_ws RX7 TX7 38, w ∈ Ts) (hlink : Cond.fieldLink own ix ref (TX7 i).2.1 (TX7 i).2.2.1 ∈ Ts) (hsame : ∀ x, s.fieldFound? (TX7 i).1 (TX7 i).2.1 (TX7 i).2.2.1 = some x → s.fieldFound? ref (TX7 i).2.1 (TX7 i).2.2.1 = some x) (hfin : (TX7 i).2.2.2 = false) (hdsc : parseFieldDescriptor (TX7 i).2.2.1 = some (.array .int)) (hfs : ∀ b : Nat, (modFs A (C 60 100)).set i (.ref b) = modFs (up2 A 60 i b) (C 60 100)) (hd2 : decode cc0 (pc + 3) = .ok (.putfield ix, 3))
    (kk : ∀ b : Nat, GS Z p l e R s m args below meth c Q (cells + 1) (slots + 2 * C 61 i 0) nL M0 (up2 A 60 i b) (grw C i) (pc + 6) L rest) : GS Z p l e R s m args below meth c Q cells slots nL M0 A C pc L (.ref (A 60 i) :: .ref (A 60 100) :: rest) := by
  intro M hM hF
  have e0 : rowEv C i = aN .int (C 61 i 0) (C 60 i) := by
    have e7 : i ≠ 7 := by omega
    have e8 : ¬ (8 ≤ i ∧ i ≤ 10) := by omega
    have e9 : ¬ (11 ≤ i ∧ i ≤ 15) := by omega
    unfold rowEv rowLen rowTy
    rw [if_neg e7, if_neg e8, if_neg e9, if_pos ⟨h1, h2⟩]
  have e5 : ((60, i) : Role) ≠ (50, 0) := fun z => by cases z
  have hm : M (60, i) = some (A 60 i, aN .int (C 61 i 0) (C 60 i)) := hM 60 i _ (cc_row i (by omega) e0)
  refine g_callS S hz hml2 [.ref (A 60 i)] (k_X7_longer Z l M (60, i) (A 60 i) (C 61 i 0) (C 60 i) hm e5 hn) cw rfl rfl hcat hd hf (fun _ _ h => h.elim) (fun v M2 h => ?_)
  obtain ⟨b, rfl, f2, g2⟩ := h
  have hm2 : M2 (60, 100) = some (A 60 100, .inr (12, modFs A (C 60 100))) := (f2 _ (by decide)).trans (hM 60 100 _ cc_mod)
  refine g_put (pc := pc + 3) S hz (r := (60, 100)) (v := .ref b) (ty := .array .int) hm2 hin tyX7 tyX7_ok nmX7 rfl i (by omega) hlink hsame hfin hdsc rfl rfl _ (show i < 38 by omega) (hfs b) hd2 (fun M3 f3 g3 => ?_)
  refine g_world (M2 := wmv M3 (50, 0) (60, i)) (fun H h => h.mv) (kk b _ (hM.grow h1 h2 (fun r2 z1 z2 => (f3 r2 z2).trans (f2 r2 z1)) ((f3 _ (by decide)).trans g2) g3) (fun r hr => ?_))
  have e1 : r ≠ (60, i) := fun z => by rw [z] at hr; exact absurd hr (show ¬ 80 ≤ 60 by decide)
  have e2 : r ≠ (50, 0) := fun z => by rw [z] at hr; exact absurd hr (by decide)
  have e3 : r ≠ (60, 100) := fun z => by rw [z] at hr; exact absurd hr (by decide)
  show (if r = (60, i) then _ else if r = (50, 0) then _ else _) = _
  rw [if_neg e1, if_neg e2, f3 r e3, f2 r e2]
  exact hF r hr
end GROW
