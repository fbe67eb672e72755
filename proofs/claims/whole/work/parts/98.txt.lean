section TXT
variable {Z : Zp} {p : Program} {l : Launch} {e : Env} {R : Room} {s : State} {m : MethodId} {args : Array Value} {below : List Frame} {meth : Method} {c : Code} {Q : State → Prop} {cells slots nL : Nat} {M : Wd} {pc : Nat} {L : List (Nat × Value)} {st rest : List Value}
variable {cc : ByteArray} {Ts : List Cond} {own : String}
def chF (w : List Nat) : Nat → Nat := fun j => w.getD j 0
abbrev sQ (Z : Zp) (ow : String) (k : Nat) : Nat := Z.2.2.2 (.string ow k)
abbrev sB (Z : Zp) (ow : String) (k : Nat) : Nat := Z.2.2.2 (.field (.string ow k) "java/lang/String" "value" "[B")
theorem ts_K_304 : ∀ U : State, Stat Z U → zS Z (sQ Z "SpoolFarm" 304) (sB Z "SpoolFarm" 304) 2 (chF [58, 32]) U := fun U h => h.zs (by decide) (by decide +kernel) (by decide +kernel) (by decide +kernel) (by decide +kernel) (by decide +kernel)
theorem tr_K_304 {U : State} (h : Stat Z U) : vk_R "SpoolFarm" 304 ": " (sQ Z "SpoolFarm" 304) U := h.kr (by decide +kernel) (by decide +kernel)
theorem tl_K_304 : ∀ j : Nat, j < 2 → chF [58, 32] j < 128 := by decide
theorem ts_K_316 : ∀ U : State, Stat Z U → zS Z (sQ Z "SpoolFarm" 316) (sB Z "SpoolFarm" 316) 7 (chF [32, 99, 111, 108, 111, 117, 114]) U := fun U h => h.zs (by decide) (by decide +kernel) (by decide +kernel) (by decide +kernel) (by decide +kernel) (by decide +kernel)
theorem tr_K_316 {U : State} (h : Stat Z U) : vk_R "SpoolFarm" 316 " colour" (sQ Z "SpoolFarm" 316) U := h.kr (by decide +kernel) (by decide +kernel)
theorem tl_K_316 : ∀ j : Nat, j < 7 → chF [32, 99, 111, 108, 111, 117, 114] j < 128 := by decide
theorem ts_K_318 : ∀ U : State, Stat Z U → zS Z (sQ Z "SpoolFarm" 318) (sB Z "SpoolFarm" 318) 0 (chF []) U := fun U h => h.zs (by decide) (by decide +kernel) (by decide +kernel) (by decide +kernel) (by decide +kernel) (fun j hj => absurd hj (Nat.not_lt_zero j))
theorem tr_K_318 {U : State} (h : Stat Z U) : vk_R "SpoolFarm" 318 "" (sQ Z "SpoolFarm" 318) U := h.kr (by decide +kernel) (by decide +kernel)
theorem tl_K_318 : ∀ j : Nat, j < 0 → chF [] j < 128 := by decide
theorem ts_K_320 : ∀ U : State, Stat Z U → zS Z (sQ Z "SpoolFarm" 320) (sB Z "SpoolFarm" 320) 7 (chF [32, 100, 117, 112, 108, 101, 120]) U := fun U h => h.zs (by decide) (by decide +kernel) (by decide +kernel) (by decide +kernel) (by decide +kernel) (by decide +kernel)
theorem tr_K_320 {U : State} (h : Stat Z U) : vk_R "SpoolFarm" 320 " duplex" (sQ Z "SpoolFarm" 320) U := h.kr (by decide +kernel) (by decide +kernel)
theorem tl_K_320 : ∀ j : Nat, j < 7 → chF [32, 100, 117, 112, 108, 101, 120] j < 128 := by decide
theorem ts_K_322 : ∀ U : State, Stat Z U → zS Z (sQ Z "SpoolFarm" 322) (sB Z "SpoolFarm" 322) 8 (chF [32, 115, 116, 97, 112, 108, 101, 100]) U := fun U h => h.zs (by decide) (by decide +kernel) (by decide +kernel) (by decide +kernel) (by decide +kernel) (by decide +kernel)
theorem tr_K_322 {U : State} (h : Stat Z U) : vk_R "SpoolFarm" 322 " stapled" (sQ Z "SpoolFarm" 322) U := h.kr (by decide +kernel) (by decide +kernel)
theorem tl_K_322 : ∀ j : Nat, j < 8 → chF [32, 115, 116, 97, 112, 108, 101, 100] j < 128 := by decide
theorem ts_K_343 : ∀ U : State, Stat Z U → zS Z (sQ Z "SpoolFarm" 343) (sB Z "SpoolFarm" 343) 2 (chF [97, 52]) U := fun U h => h.zs (by decide) (by decide +kernel) (by decide +kernel) (by decide +kernel) (by decide +kernel) (by decide +kernel)
theorem tr_K_343 {U : State} (h : Stat Z U) : vk_R "SpoolFarm" 343 "a4" (sQ Z "SpoolFarm" 343) U := h.kr (by decide +kernel) (by decide +kernel)
theorem tl_K_343 : ∀ j : Nat, j < 2 → chF [97, 52] j < 128 := by decide
theorem ts_K_345 : ∀ U : State, Stat Z U → zS Z (sQ Z "SpoolFarm" 345) (sB Z "SpoolFarm" 345) 2 (chF [97, 51]) U := fun U h => h.zs (by decide) (by decide +kernel) (by decide +kernel) (by decide +kernel) (by decide +kernel) (by decide +kernel)
theorem tr_K_345 {U : State} (h : Stat Z U) : vk_R "SpoolFarm" 345 "a3" (sQ Z "SpoolFarm" 345) U := h.kr (by decide +kernel) (by decide +kernel)
theorem tl_K_345 : ∀ j : Nat, j < 2 → chF [97, 51] j < 128 := by decide
theorem ts_K_347 : ∀ U : State, Stat Z U → zS Z (sQ Z "SpoolFarm" 347) (sB Z "SpoolFarm" 347) 6 (chF [108, 101, 116, 116, 101, 114]) U := fun U h => h.zs (by decide) (by decide +kernel) (by decide +kernel) (by decide +kernel) (by decide +kernel) (by decide +kernel)
theorem tr_K_347 {U : State} (h : Stat Z U) : vk_R "SpoolFarm" 347 "letter" (sQ Z "SpoolFarm" 347) U := h.kr (by decide +kernel) (by decide +kernel)
theorem tl_K_347 : ∀ j : Nat, j < 6 → chF [108, 101, 116, 116, 101, 114] j < 128 := by decide
theorem ts_R_247 : ∀ U : State, Stat Z U → zS Z (sQ Z "SpoolFarmModel" 247) (sB Z "SpoolFarmModel" 247) 2 (chF [58, 32]) U := fun U h => h.zs (by decide) (by decide +kernel) (by decide +kernel) (by decide +kernel) (by decide +kernel) (by decide +kernel)
theorem tr_R_247 {U : State} (h : Stat Z U) : vk_R "SpoolFarmModel" 247 ": " (sQ Z "SpoolFarmModel" 247) U := h.kr (by decide +kernel) (by decide +kernel)
theorem tl_R_247 : ∀ j : Nat, j < 2 → chF [58, 32] j < 128 := by decide
theorem ts_R_255 : ∀ U : State, Stat Z U → zS Z (sQ Z "SpoolFarmModel" 255) (sB Z "SpoolFarmModel" 255) 2 (chF [97, 52]) U := fun U h => h.zs (by decide) (by decide +kernel) (by decide +kernel) (by decide +kernel) (by decide +kernel) (by decide +kernel)
theorem tr_R_255 {U : State} (h : Stat Z U) : vk_R "SpoolFarmModel" 255 "a4" (sQ Z "SpoolFarmModel" 255) U := h.kr (by decide +kernel) (by decide +kernel)
theorem tl_R_255 : ∀ j : Nat, j < 2 → chF [97, 52] j < 128 := by decide
theorem ts_R_257 : ∀ U : State, Stat Z U → zS Z (sQ Z "SpoolFarmModel" 257) (sB Z "SpoolFarmModel" 257) 2 (chF [97, 51]) U := fun U h => h.zs (by decide) (by decide +kernel) (by decide +kernel) (by decide +kernel) (by decide +kernel) (by decide +kernel)
theorem tr_R_257 {U : State} (h : Stat Z U) : vk_R "SpoolFarmModel" 257 "a3" (sQ Z "SpoolFarmModel" 257) U := h.kr (by decide +kernel) (by decide +kernel)
theorem tl_R_257 : ∀ j : Nat, j < 2 → chF [97, 51] j < 128 := by decide
theorem ts_R_259 : ∀ U : State, Stat Z U → zS Z (sQ Z "SpoolFarmModel" 259) (sB Z "SpoolFarmModel" 259) 6 (chF [108, 101, 116, 116, 101, 114]) U := fun U h => h.zs (by decide) (by decide +kernel) (by decide +kernel) (by decide +kernel) (by decide +kernel) (by decide +kernel)
theorem tr_R_259 {U : State} (h : Stat Z U) : vk_R "SpoolFarmModel" 259 "letter" (sQ Z "SpoolFarmModel" 259) U := h.kr (by decide +kernel) (by decide +kernel)
theorem tl_R_259 : ∀ j : Nat, j < 6 → chF [108, 101, 116, 116, 101, 114] j < 128 := by decide
theorem ts_R_261 : ∀ U : State, Stat Z U → zS Z (sQ Z "SpoolFarmModel" 261) (sB Z "SpoolFarmModel" 261) 7 (chF [32, 99, 111, 108, 111, 117, 114]) U := fun U h => h.zs (by decide) (by decide +kernel) (by decide +kernel) (by decide +kernel) (by decide +kernel) (by decide +kernel)
theorem tr_R_261 {U : State} (h : Stat Z U) : vk_R "SpoolFarmModel" 261 " colour" (sQ Z "SpoolFarmModel" 261) U := h.kr (by decide +kernel) (by decide +kernel)
theorem tl_R_261 : ∀ j : Nat, j < 7 → chF [32, 99, 111, 108, 111, 117, 114] j < 128 := by decide
theorem ts_R_263 : ∀ U : State, Stat Z U → zS Z (sQ Z "SpoolFarmModel" 263) (sB Z "SpoolFarmModel" 263) 7 (chF [32, 100, 117, 112, 108, 101, 120]) U := fun U h => h.zs (by decide) (by decide +kernel) (by decide +kernel) (by decide +kernel) (by decide +kernel) (by decide +kernel)
theorem tr_R_263 {U : State} (h : Stat Z U) : vk_R "SpoolFarmModel" 263 " duplex" (sQ Z "SpoolFarmModel" 263) U := h.kr (by decide +kernel) (by decide +kernel)
theorem tl_R_263 : ∀ j : Nat, j < 7 → chF [32, 100, 117, 112, 108, 101, 120] j < 128 := by decide
theorem ts_R_265 : ∀ U : State, Stat Z U → zS Z (sQ Z "SpoolFarmModel" 265) (sB Z "SpoolFarmModel" 265) 8 (chF [32, 115, 116, 97, 112, 108, 101, 100]) U := fun U h => h.zs (by decide) (by decide +kernel) (by decide +kernel) (by decide +kernel) (by decide +kernel) (by decide +kernel)
theorem tr_R_265 {U : State} (h : Stat Z U) : vk_R "SpoolFarmModel" 265 " stapled" (sQ Z "SpoolFarmModel" 265) U := h.kr (by decide +kernel) (by decide +kernel)
theorem tl_R_265 : ∀ j : Nat, j < 8 → chF [32, 115, 116, 97, 112, 108, 101, 100] j < 128 := by decide
/-- a text's letters: n of them so far, then those of the next word -/
def apT (n : Nat) (T tx : Nat → Nat) : Nat → Nat := fun j => if j < n then T j else tx (j - n)
theorem ap_t {n w : Nat} {T tx g g2 : Nat → Nat} (h : ∀ j : Nat, j < n → g j = T j) (h1 : ∀ j : Nat, j < n → g2 j = g j) (h2 : ∀ j : Nat, j < w → g2 (n + j) = tx j) : ∀ j : Nat, j < n + w → g2 j = apT n T tx j := by
  intro j hj
  unfold apT
  by_cases c : j < n
  · rw [if_pos c, h1 j c, h j c]
  · rw [if_neg c]
    have e := h2 (j - n) (by omega)
    rw [show n + (j - n) = j by omega] at e
    exact e
theorem ap_0 {n : Nat} {T tx g : Nat → Nat} (h : ∀ j : Nat, j < n → g j = T j) : ∀ j : Nat, j < n + 0 → g j = apT n T tx j := by
  intro j hj
  unfold apT
  rw [if_pos (by omega)]
  exact h j (by omega)
theorem g_tern (S : CallFix p m c cc nL s args Ts own) {x iA iB qA qB : Nat} {tA tB : String} (hx : x < 2 ^ 31) (hd0 : decode cc pc = .ok (.ifCond .eq 9, 3)) (hA : vk_R own iA tA qA s) (hdA : decode cc (pc + 3) = .ok (.ldc_w iA, 3)) (hg : decode cc (pc + 6) = .ok (.goto 6, 3)) (hB : vk_R own iB tB qB s) (hdB : decode cc (pc + 9) = .ok (.ldc_w iB, 3)) (e1 : ((pc : Int) + 9).toNat = pc + 9) (kk : G Z p l e R s m args below meth c Q cells slots nL M (pc + 12) L (.ref (if x = 0 then qB else qA) :: rest)) : G Z p l e R s m args below meth c Q cells slots nL M pc L (.int (nI x) :: rest) := by
  refine g_if_eqN S (pc + 9) hd0 (by omega) hx (fun h => ?_) (fun h => ?_)
  · rw [if_pos h] at kk
    exact g_ldcSW S hB hdB kk
  · rw [if_neg h] at kk
    refine g_ldcSW S hA hdA (g_goto (pc := pc + 3 + 3) S (pc + 12) hg (by omega) kk)
/-- where paths meet again -/
theorem g_join {P : Wd → Nat → Nat → Prop} {pc2 : Nat} {L2 : List (Nat × Value)} {st2 : List Value} (k : ∀ (M2 : Wd) (c2 s2 : Nat), P M2 c2 s2 → G Z p l e R s m args below meth c Q c2 s2 nL M2 pc2 L2 st2) (b : (∀ (M2 : Wd) (c2 s2 : Nat), P M2 c2 s2 → G Z p l e R s m args below meth c Q c2 s2 nL M2 pc2 L2 st2) → G Z p l e R s m args below meth c Q cells slots nL M pc L st) : G Z p l e R s m args below meth c Q cells slots nL M pc L st := b k
/-- the words of a job's line -/
abbrev wdP (D : CF) (k : Nat) : Nat × (Nat → Nat) := if D 60 9 k = 97 then (2, chF [97, 52]) else if D 60 9 k = 98 then (2, chF [97, 51]) else (6, chF [108, 101, 116, 116, 101, 114])
abbrev wdC (x : Nat) : Nat × (Nat → Nat) := if x = 0 then (0, chF []) else (7, chF [32, 99, 111, 108, 111, 117, 114])
abbrev wdD (x : Nat) : Nat × (Nat → Nat) := if x = 0 then (0, chF []) else (7, chF [32, 100, 117, 112, 108, 101, 120])
abbrev wdS (x : Nat) : Nat × (Nat → Nat) := if x = 0 then (0, chF []) else (8, chF [32, 115, 116, 97, 112, 108, 101, 100])
end TXT
