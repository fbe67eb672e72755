section KDEF
def K6_addUser (A : AF) (C : CF) (x : Int32) (y : Int32) : PostS := fun v A2 C2 => ∃ w_2 w_10 : Nat, 0 ≤ w_2 ∧ w_2 ≤ 999 ∧ nI w_2 = x ∧ 0 ≤ w_10 ∧ w_10 ≤ 999 ∧ nI w_10 = y ∧ C 0 0 3 < 6 ∧ (∃ y_ : Nat, up2 A 10 (C 0 0 3) y_ = A2) ∧ adO C 10 (C 0 0 3) (usF w_2 w_10) 3 = C2 ∧ some (.int (nI (C 0 0 3))) = v
def E6_addUser (A : AF) (C : CF) (x : Int32) (y : Int32) : PxS := fun E A2 C2 => A = A2 ∧ ((E = "java/lang/IllegalArgumentException" ∧ (∀ k : Nat, 0 ≤ k → k ≤ 999 → nI k ≠ x) ∧ C = C2) ∨ (∃ w_2 : Nat, E = "java/lang/IllegalArgumentException" ∧ 0 ≤ w_2 ∧ w_2 ≤ 999 ∧ nI w_2 = x ∧ (∀ k : Nat, 0 ≤ k → k ≤ 999 → nI k ≠ y) ∧ C = C2) ∨ (∃ w_2 w_10 : Nat, E = "java/lang/IllegalStateException" ∧ 0 ≤ w_2 ∧ w_2 ≤ 999 ∧ nI w_2 = x ∧ 0 ≤ w_10 ∧ w_10 ≤ 999 ∧ nI w_10 = y ∧ ¬ C 0 0 3 < 6 ∧ C = C2))
def K7_addUser (A : AF) (C : CF) (x : Int32) (y : Int32) : PostS := fun v A2 C2 => A = A2 ∧ ((∃ w_5 w_12 : Nat, 0 ≤ w_5 ∧ w_5 ≤ 999 ∧ nI w_5 = x ∧ 0 ≤ w_12 ∧ w_12 ≤ 999 ∧ nI w_12 = y ∧ ¬ C 60 100 28 = 6 ∧ (up3 (up3 (up3 (up3 C 60 100 27 0) 60 0 (2 * (C 60 100 28)) w_5) 60 0 ((2 * (C 60 100 28)) + 1) w_12) 60 100 28 ((C 60 100 28) + 1)) = C2 ∧ some (.int (nI (((C 60 100 28) + 1) - 1))) = v) ∨ (∃ w_5 w_12 : Nat, 0 ≤ w_5 ∧ w_5 ≤ 999 ∧ nI w_5 = x ∧ 0 ≤ w_12 ∧ w_12 ≤ 999 ∧ nI w_12 = y ∧ C 60 100 28 = 6 ∧ (up3 C 60 100 27 2) = C2 ∧ some (.int (nI 0)) = v) ∨ (∃ w_5 : Nat, 0 ≤ w_5 ∧ w_5 ≤ 999 ∧ nI w_5 = x ∧ (∀ k : Nat, 0 ≤ k → k ≤ 999 → nI k ≠ y) ∧ (up3 C 60 100 27 1) = C2 ∧ some (.int (nI 0)) = v) ∨ ((∀ k : Nat, 0 ≤ k → k ≤ 999 → nI k ≠ x) ∧ (up3 C 60 100 27 1) = C2 ∧ some (.int (nI 0)) = v))
def K6_addPrinter (A : AF) (C : CF) (cb : Nat) (x : Int32) (y : Int32) : PostS := fun v A2 C2 => ∃ w_2 w_10 : Nat, 0 ≤ w_2 ∧ w_2 ≤ 1000 ∧ nI w_2 = x ∧ 0 ≤ w_10 ∧ w_10 ≤ 100 ∧ nI w_10 = y ∧ C 0 0 4 < 4 ∧ (∃ y_ q_ : Nat, up2 (up2 A 9 (C 0 0 4) y_) 14 (C 0 0 4) q_ = A2) ∧ adO C 9 (C 0 0 4) (prF cb w_2 w_10) 4 = C2 ∧ some (.int (nI (C 0 0 4))) = v
def E6_addPrinter (A : AF) (C : CF) (cb : Nat) (x : Int32) (y : Int32) : PxS := fun E A2 C2 => A = A2 ∧ ((E = "java/lang/IllegalArgumentException" ∧ (∀ k : Nat, 0 ≤ k → k ≤ 1000 → nI k ≠ x) ∧ C = C2) ∨ (∃ w_2 : Nat, E = "java/lang/IllegalArgumentException" ∧ 0 ≤ w_2 ∧ w_2 ≤ 1000 ∧ nI w_2 = x ∧ (∀ k : Nat, 0 ≤ k → k ≤ 100 → nI k ≠ y) ∧ C = C2) ∨ (∃ w_2 w_10 : Nat, E = "java/lang/IllegalStateException" ∧ 0 ≤ w_2 ∧ w_2 ≤ 1000 ∧ nI w_2 = x ∧ 0 ≤ w_10 ∧ w_10 ≤ 100 ∧ nI w_10 = y ∧ ¬ C 0 0 4 < 4 ∧ C = C2))
def K7_addPrinter (A : AF) (C : CF) (cb : Nat) (x : Int32) (y : Int32) : PostS := fun v A2 C2 => A = A2 ∧ ((∃ w_5 w_12 : Nat, 0 ≤ w_5 ∧ w_5 ≤ 1000 ∧ nI w_5 = x ∧ 0 ≤ w_12 ∧ w_12 ≤ 100 ∧ nI w_12 = y ∧ ¬ C 60 100 29 = 4 ∧ (up3 (up3 (up3 (up3 (up3 (up3 C 60 100 27 0) 60 11 (C 60 100 29) cb) 60 4 (C 60 100 29) w_5) 60 5 (C 60 100 29) w_5) 60 6 (C 60 100 29) w_12) 60 100 29 ((C 60 100 29) + 1)) = C2 ∧ some (.int (nI (((C 60 100 29) + 1) - 1))) = v) ∨ (∃ w_5 w_12 : Nat, 0 ≤ w_5 ∧ w_5 ≤ 1000 ∧ nI w_5 = x ∧ 0 ≤ w_12 ∧ w_12 ≤ 100 ∧ nI w_12 = y ∧ C 60 100 29 = 4 ∧ (up3 C 60 100 27 2) = C2 ∧ some (.int (nI 0)) = v) ∨ (∃ w_5 : Nat, 0 ≤ w_5 ∧ w_5 ≤ 1000 ∧ nI w_5 = x ∧ (∀ k : Nat, 0 ≤ k → k ≤ 100 → nI k ≠ y) ∧ (up3 C 60 100 27 1) = C2 ∧ some (.int (nI 0)) = v) ∨ ((∀ k : Nat, 0 ≤ k → k ≤ 1000 → nI k ≠ x) ∧ (up3 C 60 100 27 1) = C2 ∧ some (.int (nI 0)) = v))
def K6_addTray (A : AF) (C : CF) (x : Int32) (q : Nat) (y : Int32) : PostS := fun v A2 C2 => ∃ k_2 w_14 : Nat, k_2 < C 0 0 4 ∧ nI k_2 = x ∧ isPap q ∧ 0 ≤ w_14 ∧ w_14 ≤ 500 ∧ nI w_14 = y ∧ C 9 k_2 5 < 3 ∧ (∃ y_ : Nat, up2 A 12 (3 * k_2 + C 9 k_2 5) y_ = A2) ∧ adT C k_2 q w_14 = C2 ∧ some (.int (nI (C 9 k_2 5))) = v
def E6_addTray (A : AF) (C : CF) (x : Int32) (q : Nat) (y : Int32) : PxS := fun E A2 C2 => A = A2 ∧ ((E = "java/lang/IndexOutOfBoundsException" ∧ (∀ k : Nat, k < C 0 0 4 → nI k ≠ x) ∧ C = C2) ∨ (∃ k_2 : Nat, E = "java/lang/IllegalArgumentException" ∧ k_2 < C 0 0 4 ∧ nI k_2 = x ∧ ¬ isPap q ∧ C = C2) ∨ (∃ k_2 : Nat, E = "java/lang/IllegalArgumentException" ∧ k_2 < C 0 0 4 ∧ nI k_2 = x ∧ isPap q ∧ (∀ k : Nat, 0 ≤ k → k ≤ 500 → nI k ≠ y) ∧ C = C2) ∨ (∃ k_2 w_14 : Nat, E = "java/lang/IllegalStateException" ∧ k_2 < C 0 0 4 ∧ nI k_2 = x ∧ isPap q ∧ 0 ≤ w_14 ∧ w_14 ≤ 500 ∧ nI w_14 = y ∧ ¬ C 9 k_2 5 < 3 ∧ C = C2))
def K7_addTray (A : AF) (C : CF) (x : Int32) (q : Nat) (y : Int32) : PostS := fun v A2 C2 => A = A2 ∧ ((∃ k_2 w_18 : Nat, k_2 < C 60 100 29 ∧ nI k_2 = x ∧ isPap q ∧ 0 ≤ w_18 ∧ w_18 ≤ 500 ∧ nI w_18 = y ∧ ¬ C 60 2 k_2 = 3 ∧ (up3 (up3 (up3 (up3 C 60 100 27 0) 60 8 ((3 * k_2) + (C 60 2 k_2)) q) 60 3 ((3 * k_2) + (C 60 2 k_2)) w_18) 60 2 k_2 ((C 60 2 k_2) + 1)) = C2 ∧ some (.int (nI (C 60 2 k_2))) = v) ∨ (∃ k_2 w_18 : Nat, k_2 < C 60 100 29 ∧ nI k_2 = x ∧ isPap q ∧ 0 ≤ w_18 ∧ w_18 ≤ 500 ∧ nI w_18 = y ∧ C 60 2 k_2 = 3 ∧ (up3 C 60 100 27 3) = C2 ∧ some (.int (nI 0)) = v) ∨ (∃ k_2 : Nat, k_2 < C 60 100 29 ∧ nI k_2 = x ∧ isPap q ∧ (∀ k : Nat, 0 ≤ k → k ≤ 500 → nI k ≠ y) ∧ (up3 C 60 100 27 2) = C2 ∧ some (.int (nI 0)) = v) ∨ (∃ k_2 : Nat, k_2 < C 60 100 29 ∧ nI k_2 = x ∧ ¬ isPap q ∧ (up3 C 60 100 27 2) = C2 ∧ some (.int (nI 0)) = v) ∨ ((∀ k : Nat, k < C 60 100 29 → nI k ≠ x) ∧ (up3 C 60 100 27 1) = C2 ∧ some (.int (nI 0)) = v))
def K6_trayCount (A : AF) (C : CF) (x : Int32) : PostS := fun v A2 C2 => A = A2 ∧ (∃ k_2 : Nat, k_2 < C 0 0 4 ∧ nI k_2 = x ∧ C = C2 ∧ some (.int (nI (C 9 k_2 5))) = v)
def E6_trayCount (A : AF) (C : CF) (x : Int32) : PxS := fun E A2 C2 => A = A2 ∧ (E = "java/lang/IndexOutOfBoundsException" ∧ (∀ k : Nat, k < C 0 0 4 → nI k ≠ x) ∧ C = C2)
def K7_trayCount (A : AF) (C : CF) (x : Int32) : PostS := fun v A2 C2 => A = A2 ∧ ((∃ k_2 : Nat, k_2 < C 60 100 29 ∧ nI k_2 = x ∧ (up3 C 60 100 27 0) = C2 ∧ some (.int (nI (C 60 2 k_2))) = v) ∨ ((∀ k : Nat, k < C 60 100 29 → nI k ≠ x) ∧ (up3 C 60 100 27 1) = C2 ∧ some (.int (nI 0)) = v))
def K6_load (A : AF) (C : CF) (x : Int32) (y : Int32) (w : Int32) : PostS := fun v A2 C2 => A = A2 ∧ (∃ k_2 t_3 w_15 : Nat, k_2 < C 0 0 4 ∧ t_3 < C 9 k_2 5 ∧ nI k_2 = x ∧ nI t_3 = y ∧ 1 ≤ w_15 ∧ w_15 ≤ 500 ∧ nI w_15 = w ∧ (C 12 (3 * k_2 + t_3) 1) + w_15 ≤ 500 ∧ (up3 C 12 (3 * k_2 + t_3) 1 ((C 12 (3 * k_2 + t_3) 1) + w_15)) = C2 ∧ some (.int (nI ((C 12 (3 * k_2 + t_3) 1) + w_15))) = v)
def E6_load (A : AF) (C : CF) (x : Int32) (y : Int32) (w : Int32) : PxS := fun E A2 C2 => A = A2 ∧ ((E = "java/lang/IndexOutOfBoundsException" ∧ ((∀ p : Nat, p < C 0 0 4 → nI p ≠ x) ∨ ∃ p : Nat, p < C 0 0 4 ∧ nI p = x ∧ ∀ t : Nat, t < C 9 p 5 → nI t ≠ y) ∧ C = C2) ∨ (∃ k_2 t_3 : Nat, E = "java/lang/IllegalArgumentException" ∧ k_2 < C 0 0 4 ∧ t_3 < C 9 k_2 5 ∧ nI k_2 = x ∧ nI t_3 = y ∧ (∀ k : Nat, 1 ≤ k → k ≤ 500 → nI k ≠ w) ∧ C = C2) ∨ (∃ k_2 t_3 w_15 : Nat, E = "java/lang/IllegalStateException" ∧ k_2 < C 0 0 4 ∧ t_3 < C 9 k_2 5 ∧ nI k_2 = x ∧ nI t_3 = y ∧ 1 ≤ w_15 ∧ w_15 ≤ 500 ∧ nI w_15 = w ∧ ¬ (C 12 (3 * k_2 + t_3) 1) + w_15 ≤ 500 ∧ C = C2))
def K7_load (A : AF) (C : CF) (x : Int32) (y : Int32) (w : Int32) : PostS := fun v A2 C2 => A = A2 ∧ ((∃ k_2 t_3 w_14 : Nat, k_2 < C 60 100 29 ∧ t_3 < C 60 2 k_2 ∧ nI k_2 = x ∧ nI t_3 = y ∧ 1 ≤ w_14 ∧ w_14 ≤ 500 ∧ nI w_14 = w ∧ (C 60 3 ((3 * k_2) + t_3)) + w_14 ≤ 500 ∧ (up3 (up3 C 60 100 27 0) 60 3 ((3 * k_2) + t_3) ((C 60 3 ((3 * k_2) + t_3)) + w_14)) = C2 ∧ some (.int (nI ((C 60 3 ((3 * k_2) + t_3)) + w_14))) = v) ∨ (∃ k_2 t_3 w_14 : Nat, k_2 < C 60 100 29 ∧ t_3 < C 60 2 k_2 ∧ nI k_2 = x ∧ nI t_3 = y ∧ 1 ≤ w_14 ∧ w_14 ≤ 500 ∧ nI w_14 = w ∧ ¬ (C 60 3 ((3 * k_2) + t_3)) + w_14 ≤ 500 ∧ (up3 C 60 100 27 3) = C2 ∧ some (.int (nI 0)) = v) ∨ (∃ k_2 t_3 : Nat, k_2 < C 60 100 29 ∧ t_3 < C 60 2 k_2 ∧ nI k_2 = x ∧ nI t_3 = y ∧ (∀ k : Nat, 1 ≤ k → k ≤ 500 → nI k ≠ w) ∧ (up3 C 60 100 27 2) = C2 ∧ some (.int (nI 0)) = v) ∨ (((∀ p : Nat, p < C 60 100 29 → nI p ≠ x) ∨ ∃ p : Nat, p < C 60 100 29 ∧ nI p = x ∧ ∀ t : Nat, t < C 60 2 p → nI t ≠ y) ∧ (up3 C 60 100 27 1) = C2 ∧ some (.int (nI 0)) = v))
def K6_changePaper (A : AF) (C : CF) (x : Int32) (y : Int32) (q : Nat) : PostS := fun v A2 C2 => A = A2 ∧ (∃ k_2 t_3 : Nat, k_2 < C 0 0 4 ∧ t_3 < C 9 k_2 5 ∧ nI k_2 = x ∧ nI t_3 = y ∧ isPap q ∧ C 12 (3 * k_2 + t_3) 1 ≤ 0 ∧ (up3 C 12 (3 * k_2 + t_3) 0 q) = C2 ∧ some (.int (nI (C 12 (3 * k_2 + t_3) 0))) = v)
def E6_changePaper (A : AF) (C : CF) (x : Int32) (y : Int32) (q : Nat) : PxS := fun E A2 C2 => A = A2 ∧ ((E = "java/lang/IndexOutOfBoundsException" ∧ ((∀ p : Nat, p < C 0 0 4 → nI p ≠ x) ∨ ∃ p : Nat, p < C 0 0 4 ∧ nI p = x ∧ ∀ t : Nat, t < C 9 p 5 → nI t ≠ y) ∧ C = C2) ∨ (∃ k_2 t_3 : Nat, E = "java/lang/IllegalArgumentException" ∧ k_2 < C 0 0 4 ∧ t_3 < C 9 k_2 5 ∧ nI k_2 = x ∧ nI t_3 = y ∧ ¬ isPap q ∧ C = C2) ∨ (∃ k_2 t_3 : Nat, E = "java/lang/IllegalStateException" ∧ k_2 < C 0 0 4 ∧ t_3 < C 9 k_2 5 ∧ nI k_2 = x ∧ nI t_3 = y ∧ isPap q ∧ ¬ C 12 (3 * k_2 + t_3) 1 ≤ 0 ∧ C = C2))
def K7_changePaper (A : AF) (C : CF) (x : Int32) (y : Int32) (q : Nat) : PostS := fun v A2 C2 => A = A2 ∧ ((∃ k_2 t_3 : Nat, k_2 < C 60 100 29 ∧ t_3 < C 60 2 k_2 ∧ nI k_2 = x ∧ nI t_3 = y ∧ isPap q ∧ C 60 3 ((3 * k_2) + t_3) ≤ 0 ∧ (up3 (up3 C 60 100 27 0) 60 8 ((3 * k_2) + t_3) q) = C2 ∧ some (.int (nI (C 60 8 ((3 * k_2) + t_3)))) = v) ∨ (∃ k_2 t_3 : Nat, k_2 < C 60 100 29 ∧ t_3 < C 60 2 k_2 ∧ nI k_2 = x ∧ nI t_3 = y ∧ isPap q ∧ ¬ C 60 3 ((3 * k_2) + t_3) ≤ 0 ∧ (up3 C 60 100 27 3) = C2 ∧ some (.int (nI 32)) = v) ∨ (∃ k_2 t_3 : Nat, k_2 < C 60 100 29 ∧ t_3 < C 60 2 k_2 ∧ nI k_2 = x ∧ nI t_3 = y ∧ ¬ isPap q ∧ (up3 C 60 100 27 2) = C2 ∧ some (.int (nI 32)) = v) ∨ (((∀ p : Nat, p < C 60 100 29 → nI p ≠ x) ∨ ∃ p : Nat, p < C 60 100 29 ∧ nI p = x ∧ ∀ t : Nat, t < C 60 2 p → nI t ≠ y) ∧ (up3 C 60 100 27 1) = C2 ∧ some (.int (nI 32)) = v))
def K6_sheetsIn (A : AF) (C : CF) (x : Int32) (y : Int32) : PostS := fun v A2 C2 => A = A2 ∧ (∃ k_2 t_3 : Nat, k_2 < C 0 0 4 ∧ t_3 < C 9 k_2 5 ∧ nI k_2 = x ∧ nI t_3 = y ∧ C = C2 ∧ some (.int (nI (C 12 (3 * k_2 + t_3) 1))) = v)
def E6_sheetsIn (A : AF) (C : CF) (x : Int32) (y : Int32) : PxS := fun E A2 C2 => A = A2 ∧ (E = "java/lang/IndexOutOfBoundsException" ∧ ((∀ p : Nat, p < C 0 0 4 → nI p ≠ x) ∨ ∃ p : Nat, p < C 0 0 4 ∧ nI p = x ∧ ∀ t : Nat, t < C 9 p 5 → nI t ≠ y) ∧ C = C2)
def K7_sheetsIn (A : AF) (C : CF) (x : Int32) (y : Int32) : PostS := fun v A2 C2 => A = A2 ∧ ((∃ k_2 t_3 : Nat, k_2 < C 60 100 29 ∧ t_3 < C 60 2 k_2 ∧ nI k_2 = x ∧ nI t_3 = y ∧ (up3 C 60 100 27 0) = C2 ∧ some (.int (nI (C 60 3 ((3 * k_2) + t_3)))) = v) ∨ (((∀ p : Nat, p < C 60 100 29 → nI p ≠ x) ∨ ∃ p : Nat, p < C 60 100 29 ∧ nI p = x ∧ ∀ t : Nat, t < C 60 2 p → nI t ≠ y) ∧ (up3 C 60 100 27 1) = C2 ∧ some (.int (nI 0)) = v))
def K6_paperOf (A : AF) (C : CF) (x : Int32) (y : Int32) : PostS := fun v A2 C2 => A = A2 ∧ (∃ k_2 t_3 : Nat, k_2 < C 0 0 4 ∧ t_3 < C 9 k_2 5 ∧ nI k_2 = x ∧ nI t_3 = y ∧ C = C2 ∧ some (.int (nI (C 12 (3 * k_2 + t_3) 0))) = v)
def E6_paperOf (A : AF) (C : CF) (x : Int32) (y : Int32) : PxS := fun E A2 C2 => A = A2 ∧ (E = "java/lang/IndexOutOfBoundsException" ∧ ((∀ p : Nat, p < C 0 0 4 → nI p ≠ x) ∨ ∃ p : Nat, p < C 0 0 4 ∧ nI p = x ∧ ∀ t : Nat, t < C 9 p 5 → nI t ≠ y) ∧ C = C2)
def K7_paperOf (A : AF) (C : CF) (x : Int32) (y : Int32) : PostS := fun v A2 C2 => A = A2 ∧ ((∃ k_2 t_3 : Nat, k_2 < C 60 100 29 ∧ t_3 < C 60 2 k_2 ∧ nI k_2 = x ∧ nI t_3 = y ∧ (up3 C 60 100 27 0) = C2 ∧ some (.int (nI (C 60 8 ((3 * k_2) + t_3)))) = v) ∨ (((∀ p : Nat, p < C 60 100 29 → nI p ≠ x) ∨ ∃ p : Nat, p < C 60 100 29 ∧ nI p = x ∧ ∀ t : Nat, t < C 60 2 p → nI t ≠ y) ∧ (up3 C 60 100 27 1) = C2 ∧ some (.int (nI 32)) = v))
def K6_setToner (A : AF) (C : CF) (x : Int32) (cb : Nat) (y : Int32) : PostS := fun v A2 C2 => A = A2 ∧ ((∃ k_2 w_11 : Nat, k_2 < C 0 0 4 ∧ nI k_2 = x ∧ 0 ≤ w_11 ∧ w_11 ≤ 1000 ∧ nI w_11 = y ∧ (cb = 0 ∨ C 9 k_2 0 ≠ 0) ∧ cb = 0 ∧ (up3 C 9 k_2 1 w_11) = C2 ∧ some (.int (nI (if cb = 0 then C 9 k_2 1 else C 9 k_2 2))) = v) ∨ (∃ k_2 w_11 : Nat, k_2 < C 0 0 4 ∧ nI k_2 = x ∧ 0 ≤ w_11 ∧ w_11 ≤ 1000 ∧ nI w_11 = y ∧ (cb = 0 ∨ C 9 k_2 0 ≠ 0) ∧ ¬ cb = 0 ∧ (up3 C 9 k_2 2 w_11) = C2 ∧ some (.int (nI (if cb = 0 then C 9 k_2 1 else C 9 k_2 2))) = v))
def E6_setToner (A : AF) (C : CF) (x : Int32) (cb : Nat) (y : Int32) : PxS := fun E A2 C2 => A = A2 ∧ ((E = "java/lang/IndexOutOfBoundsException" ∧ (∀ k : Nat, k < C 0 0 4 → nI k ≠ x) ∧ C = C2) ∨ (∃ k_2 : Nat, E = "java/lang/IllegalArgumentException" ∧ k_2 < C 0 0 4 ∧ nI k_2 = x ∧ (∀ k : Nat, 0 ≤ k → k ≤ 1000 → nI k ≠ y) ∧ C = C2) ∨ (∃ k_2 w_11 : Nat, E = "java/lang/UnsupportedOperationException" ∧ k_2 < C 0 0 4 ∧ nI k_2 = x ∧ 0 ≤ w_11 ∧ w_11 ≤ 1000 ∧ nI w_11 = y ∧ cb ≠ 0 ∧ C 9 k_2 0 = 0 ∧ C = C2))
def K7_setToner (A : AF) (C : CF) (x : Int32) (cb : Nat) (y : Int32) : PostS := fun v A2 C2 => A = A2 ∧ ((∃ k_2 w_15 : Nat, k_2 < C 60 100 29 ∧ nI k_2 = x ∧ 0 ≤ w_15 ∧ w_15 ≤ 1000 ∧ nI w_15 = y ∧ cb = 0 ∧ (up3 (up3 C 60 100 27 0) 60 4 k_2 w_15) = C2 ∧ some (.int (nI (C 60 4 k_2))) = v) ∨ (∃ k_2 w_15 : Nat, k_2 < C 60 100 29 ∧ nI k_2 = x ∧ 0 ≤ w_15 ∧ w_15 ≤ 1000 ∧ nI w_15 = y ∧ ¬ cb = 0 ∧ ¬ C 60 11 k_2 = 0 ∧ (up3 (up3 C 60 100 27 0) 60 5 k_2 w_15) = C2 ∧ some (.int (nI (C 60 5 k_2))) = v) ∨ (∃ k_2 w_15 : Nat, k_2 < C 60 100 29 ∧ nI k_2 = x ∧ 0 ≤ w_15 ∧ w_15 ≤ 1000 ∧ nI w_15 = y ∧ ¬ cb = 0 ∧ C 60 11 k_2 = 0 ∧ (up3 C 60 100 27 3) = C2 ∧ some (.int (nI 0)) = v) ∨ (∃ k_2 : Nat, k_2 < C 60 100 29 ∧ nI k_2 = x ∧ (∀ k : Nat, 0 ≤ k → k ≤ 1000 → nI k ≠ y) ∧ (up3 C 60 100 27 2) = C2 ∧ some (.int (nI 0)) = v) ∨ ((∀ k : Nat, k < C 60 100 29 → nI k ≠ x) ∧ (up3 C 60 100 27 1) = C2 ∧ some (.int (nI 0)) = v))
def K6_tonerOf (A : AF) (C : CF) (x : Int32) (cb : Nat) : PostS := fun v A2 C2 => A = A2 ∧ (∃ k_2 : Nat, k_2 < C 0 0 4 ∧ nI k_2 = x ∧ (cb = 0 ∨ C 9 k_2 0 ≠ 0) ∧ C = C2 ∧ some (.int (nI (if cb = 0 then C 9 k_2 1 else C 9 k_2 2))) = v)
def E6_tonerOf (A : AF) (C : CF) (x : Int32) (cb : Nat) : PxS := fun E A2 C2 => A = A2 ∧ ((E = "java/lang/IndexOutOfBoundsException" ∧ (∀ k : Nat, k < C 0 0 4 → nI k ≠ x) ∧ C = C2) ∨ (∃ k_2 : Nat, E = "java/lang/UnsupportedOperationException" ∧ k_2 < C 0 0 4 ∧ nI k_2 = x ∧ cb ≠ 0 ∧ C 9 k_2 0 = 0 ∧ C = C2))
def K7_tonerOf (A : AF) (C : CF) (x : Int32) (cb : Nat) : PostS := fun v A2 C2 => A = A2 ∧ ((∃ k_2 : Nat, k_2 < C 60 100 29 ∧ nI k_2 = x ∧ cb = 0 ∧ (up3 C 60 100 27 0) = C2 ∧ some (.int (nI (C 60 4 k_2))) = v) ∨ (∃ k_2 : Nat, k_2 < C 60 100 29 ∧ nI k_2 = x ∧ ¬ cb = 0 ∧ ¬ C 60 11 k_2 = 0 ∧ (up3 C 60 100 27 0) = C2 ∧ some (.int (nI (C 60 5 k_2))) = v) ∨ (∃ k_2 : Nat, k_2 < C 60 100 29 ∧ nI k_2 = x ∧ ¬ cb = 0 ∧ C 60 11 k_2 = 0 ∧ (up3 C 60 100 27 2) = C2 ∧ some (.int (nI 0)) = v) ∨ ((∀ k : Nat, k < C 60 100 29 → nI k ≠ x) ∧ (up3 C 60 100 27 1) = C2 ∧ some (.int (nI 0)) = v))
def K6_setStaples (A : AF) (C : CF) (x : Int32) (y : Int32) : PostS := fun v A2 C2 => A = A2 ∧ (∃ k_2 w_11 : Nat, k_2 < C 0 0 4 ∧ nI k_2 = x ∧ 0 ≤ w_11 ∧ w_11 ≤ 100 ∧ nI w_11 = y ∧ (up3 C 9 k_2 3 w_11) = C2 ∧ some (.int (nI (C 9 k_2 3))) = v)
def E6_setStaples (A : AF) (C : CF) (x : Int32) (y : Int32) : PxS := fun E A2 C2 => A = A2 ∧ ((E = "java/lang/IndexOutOfBoundsException" ∧ (∀ k : Nat, k < C 0 0 4 → nI k ≠ x) ∧ C = C2) ∨ (∃ k_2 : Nat, E = "java/lang/IllegalArgumentException" ∧ k_2 < C 0 0 4 ∧ nI k_2 = x ∧ (∀ k : Nat, 0 ≤ k → k ≤ 100 → nI k ≠ y) ∧ C = C2))
def K7_setStaples (A : AF) (C : CF) (x : Int32) (y : Int32) : PostS := fun v A2 C2 => A = A2 ∧ ((∃ k_2 w_15 : Nat, k_2 < C 60 100 29 ∧ nI k_2 = x ∧ 0 ≤ w_15 ∧ w_15 ≤ 100 ∧ nI w_15 = y ∧ (up3 (up3 C 60 100 27 0) 60 6 k_2 w_15) = C2 ∧ some (.int (nI (C 60 6 k_2))) = v) ∨ (∃ k_2 : Nat, k_2 < C 60 100 29 ∧ nI k_2 = x ∧ (∀ k : Nat, 0 ≤ k → k ≤ 100 → nI k ≠ y) ∧ (up3 C 60 100 27 2) = C2 ∧ some (.int (nI 0)) = v) ∨ ((∀ k : Nat, k < C 60 100 29 → nI k ≠ x) ∧ (up3 C 60 100 27 1) = C2 ∧ some (.int (nI 0)) = v))
def K6_staplesIn (A : AF) (C : CF) (x : Int32) : PostS := fun v A2 C2 => A = A2 ∧ (∃ k_2 : Nat, k_2 < C 0 0 4 ∧ nI k_2 = x ∧ C = C2 ∧ some (.int (nI (C 9 k_2 3))) = v)
def E6_staplesIn (A : AF) (C : CF) (x : Int32) : PxS := fun E A2 C2 => A = A2 ∧ (E = "java/lang/IndexOutOfBoundsException" ∧ (∀ k : Nat, k < C 0 0 4 → nI k ≠ x) ∧ C = C2)
def K7_staplesIn (A : AF) (C : CF) (x : Int32) : PostS := fun v A2 C2 => A = A2 ∧ ((∃ k_2 : Nat, k_2 < C 60 100 29 ∧ nI k_2 = x ∧ (up3 C 60 100 27 0) = C2 ∧ some (.int (nI (C 60 6 k_2))) = v) ∨ ((∀ k : Nat, k < C 60 100 29 → nI k ≠ x) ∧ (up3 C 60 100 27 1) = C2 ∧ some (.int (nI 0)) = v))
def K6_grant (A : AF) (C : CF) (x : Int32) (cb : Nat) (y : Int32) : PostS := fun v A2 C2 => A = A2 ∧ ((∃ k_2 w_10 : Nat, k_2 < C 0 0 3 ∧ nI k_2 = x ∧ 1 ≤ w_10 ∧ w_10 ≤ 999 ∧ nI w_10 = y ∧ (if cb = 0 then C 10 k_2 0 else C 10 k_2 1) + w_10 ≤ 9999 ∧ cb = 0 ∧ (up3 C 10 k_2 0 (C 10 k_2 0 + w_10)) = C2 ∧ some (.int (nI (if cb = 0 then (up3 C 10 k_2 0 (C 10 k_2 0 + w_10)) 10 k_2 0 else (up3 C 10 k_2 0 (C 10 k_2 0 + w_10)) 10 k_2 1))) = v) ∨ (∃ k_2 w_10 : Nat, k_2 < C 0 0 3 ∧ nI k_2 = x ∧ 1 ≤ w_10 ∧ w_10 ≤ 999 ∧ nI w_10 = y ∧ (if cb = 0 then C 10 k_2 0 else C 10 k_2 1) + w_10 ≤ 9999 ∧ ¬ cb = 0 ∧ (up3 C 10 k_2 1 (C 10 k_2 1 + w_10)) = C2 ∧ some (.int (nI (if cb = 0 then (up3 C 10 k_2 1 (C 10 k_2 1 + w_10)) 10 k_2 0 else (up3 C 10 k_2 1 (C 10 k_2 1 + w_10)) 10 k_2 1))) = v))
def E6_grant (A : AF) (C : CF) (x : Int32) (cb : Nat) (y : Int32) : PxS := fun E A2 C2 => A = A2 ∧ ((E = "java/lang/IndexOutOfBoundsException" ∧ (∀ k : Nat, k < C 0 0 3 → nI k ≠ x) ∧ C = C2) ∨ (∃ k_2 : Nat, E = "java/lang/IllegalArgumentException" ∧ k_2 < C 0 0 3 ∧ nI k_2 = x ∧ (∀ k : Nat, 1 ≤ k → k ≤ 999 → nI k ≠ y) ∧ C = C2) ∨ (∃ k_2 w_10 : Nat, E = "java/lang/IllegalStateException" ∧ k_2 < C 0 0 3 ∧ nI k_2 = x ∧ 1 ≤ w_10 ∧ w_10 ≤ 999 ∧ nI w_10 = y ∧ ¬ (if cb = 0 then C 10 k_2 0 else C 10 k_2 1) + w_10 ≤ 9999 ∧ C = C2))
def K7_grant (A : AF) (C : CF) (x : Int32) (cb : Nat) (y : Int32) : PostS := fun v A2 C2 => A = A2 ∧ ((∃ k_2 w_10 : Nat, k_2 < C 60 100 28 ∧ nI k_2 = x ∧ 1 ≤ w_10 ∧ w_10 ≤ 999 ∧ nI w_10 = y ∧ (C 60 0 (2 * k_2 + (if cb = 0 then 0 else 1))) + w_10 ≤ 9999 ∧ (up3 (up3 C 60 100 27 0) 60 0 (2 * k_2 + (if cb = 0 then 0 else 1)) ((C 60 0 (2 * k_2 + (if cb = 0 then 0 else 1))) + w_10)) = C2 ∧ some (.int (nI ((C 60 0 (2 * k_2 + (if cb = 0 then 0 else 1))) + w_10))) = v) ∨ (∃ k_2 w_10 : Nat, k_2 < C 60 100 28 ∧ nI k_2 = x ∧ 1 ≤ w_10 ∧ w_10 ≤ 999 ∧ nI w_10 = y ∧ ¬ (C 60 0 (2 * k_2 + (if cb = 0 then 0 else 1))) + w_10 ≤ 9999 ∧ (up3 C 60 100 27 3) = C2 ∧ some (.int (nI 0)) = v) ∨ (∃ k_2 : Nat, k_2 < C 60 100 28 ∧ nI k_2 = x ∧ (∀ k : Nat, 1 ≤ k → k ≤ 999 → nI k ≠ y) ∧ (up3 C 60 100 27 2) = C2 ∧ some (.int (nI 0)) = v) ∨ ((∀ k : Nat, k < C 60 100 28 → nI k ≠ x) ∧ (up3 C 60 100 27 1) = C2 ∧ some (.int (nI 0)) = v))
def K6_quotaOf (A : AF) (C : CF) (x : Int32) (cb : Nat) : PostS := fun v A2 C2 => A = A2 ∧ (∃ k_2 : Nat, k_2 < C 0 0 3 ∧ nI k_2 = x ∧ C = C2 ∧ some (.int (nI (if cb = 0 then C 10 k_2 0 else C 10 k_2 1))) = v)
def E6_quotaOf (A : AF) (C : CF) (x : Int32) (cb : Nat) : PxS := fun E A2 C2 => A = A2 ∧ (E = "java/lang/IndexOutOfBoundsException" ∧ (∀ k : Nat, k < C 0 0 3 → nI k ≠ x) ∧ C = C2)
def K7_quotaOf (A : AF) (C : CF) (x : Int32) (cb : Nat) : PostS := fun v A2 C2 => A = A2 ∧ ((∃ k_2 : Nat, k_2 < C 60 100 28 ∧ nI k_2 = x ∧ (up3 C 60 100 27 0) = C2 ∧ some (.int (nI (C 60 0 (2 * k_2 + (if cb = 0 then 0 else 1))))) = v) ∨ ((∀ k : Nat, k < C 60 100 28 → nI k ≠ x) ∧ (up3 C 60 100 27 1) = C2 ∧ some (.int (nI 0)) = v))
def K6_setPrices (A : AF) (C : CF) (x : Int32) (y : Int32) (w : Int32) : PostS := fun v A2 C2 => A = A2 ∧ (∃ w_2 w_10 w_18 : Nat, 0 ≤ w_2 ∧ w_2 ≤ 99 ∧ nI w_2 = x ∧ 0 ≤ w_10 ∧ w_10 ≤ 99 ∧ nI w_10 = y ∧ 0 ≤ w_18 ∧ w_18 ≤ 99 ∧ nI w_18 = w ∧ (up3 (up3 (up3 C 0 0 6 w_2) 0 0 7 w_10) 0 0 8 w_18) = C2 ∧ some (.int (nI (C 0 0 6))) = v)
def E6_setPrices (A : AF) (C : CF) (x : Int32) (y : Int32) (w : Int32) : PxS := fun E A2 C2 => A = A2 ∧ ((E = "java/lang/IllegalArgumentException" ∧ (∀ k : Nat, 0 ≤ k → k ≤ 99 → nI k ≠ x) ∧ C = C2) ∨ (∃ w_2 : Nat, E = "java/lang/IllegalArgumentException" ∧ 0 ≤ w_2 ∧ w_2 ≤ 99 ∧ nI w_2 = x ∧ (∀ k : Nat, 0 ≤ k → k ≤ 99 → nI k ≠ y) ∧ C = C2) ∨ (∃ w_2 w_10 : Nat, E = "java/lang/IllegalArgumentException" ∧ 0 ≤ w_2 ∧ w_2 ≤ 99 ∧ nI w_2 = x ∧ 0 ≤ w_10 ∧ w_10 ≤ 99 ∧ nI w_10 = y ∧ (∀ k : Nat, 0 ≤ k → k ≤ 99 → nI k ≠ w) ∧ C = C2))
def K7_setPrices (A : AF) (C : CF) (x : Int32) (y : Int32) (w : Int32) : PostS := fun v A2 C2 => A = A2 ∧ ((∃ w_5 w_12 w_19 : Nat, 0 ≤ w_5 ∧ w_5 ≤ 99 ∧ nI w_5 = x ∧ 0 ≤ w_12 ∧ w_12 ≤ 99 ∧ nI w_12 = y ∧ 0 ≤ w_19 ∧ w_19 ≤ 99 ∧ nI w_19 = w ∧ (up3 (up3 (up3 (up3 C 60 100 27 0) 60 100 32 w_5) 60 100 33 w_12) 60 100 34 w_19) = C2 ∧ some (.int (nI (C 60 100 32))) = v) ∨ (∃ w_5 w_12 : Nat, 0 ≤ w_5 ∧ w_5 ≤ 99 ∧ nI w_5 = x ∧ 0 ≤ w_12 ∧ w_12 ≤ 99 ∧ nI w_12 = y ∧ (∀ k : Nat, 0 ≤ k → k ≤ 99 → nI k ≠ w) ∧ (up3 C 60 100 27 1) = C2 ∧ some (.int (nI 0)) = v) ∨ (∃ w_5 : Nat, 0 ≤ w_5 ∧ w_5 ≤ 99 ∧ nI w_5 = x ∧ (∀ k : Nat, 0 ≤ k → k ≤ 99 → nI k ≠ y) ∧ (up3 C 60 100 27 1) = C2 ∧ some (.int (nI 0)) = v) ∨ ((∀ k : Nat, 0 ≤ k → k ≤ 99 → nI k ≠ x) ∧ (up3 C 60 100 27 1) = C2 ∧ some (.int (nI 0)) = v))
def K6_submit (A : AF) (C : CF) (x : Int32) (y : Int32) (w : Int32) (q : Nat) (cb : Nat) (db : Nat) : PostS := fun v A2 C2 => ∃ k_2 w_10 w_18 : Nat, k_2 < C 0 0 3 ∧ nI k_2 = x ∧ 1 ≤ w_10 ∧ w_10 ≤ 100 ∧ nI w_10 = y ∧ 1 ≤ w_18 ∧ w_18 ≤ 9 ∧ nI w_18 = w ∧ isPap q ∧ C 0 0 5 < 40 ∧ (∃ y_ : Nat, up2 A 11 (C 0 0 5) y_ = A2) ∧ adO C 11 (C 0 0 5) (joF (C 0 0 5) k_2 w_10 w_18 q cb db) 5 = C2 ∧ some (.int (nI (C 0 0 5))) = v
def E6_submit (A : AF) (C : CF) (x : Int32) (y : Int32) (w : Int32) (q : Nat) (cb : Nat) (db : Nat) : PxS := fun E A2 C2 => A = A2 ∧ ((E = "java/lang/IndexOutOfBoundsException" ∧ (∀ k : Nat, k < C 0 0 3 → nI k ≠ x) ∧ C = C2) ∨ (∃ k_2 : Nat, E = "java/lang/IllegalArgumentException" ∧ k_2 < C 0 0 3 ∧ nI k_2 = x ∧ (∀ k : Nat, 1 ≤ k → k ≤ 100 → nI k ≠ y) ∧ C = C2) ∨ (∃ k_2 w_10 : Nat, E = "java/lang/IllegalArgumentException" ∧ k_2 < C 0 0 3 ∧ nI k_2 = x ∧ 1 ≤ w_10 ∧ w_10 ≤ 100 ∧ nI w_10 = y ∧ (∀ k : Nat, 1 ≤ k → k ≤ 9 → nI k ≠ w) ∧ C = C2) ∨ (∃ k_2 w_10 w_18 : Nat, E = "java/lang/IllegalArgumentException" ∧ k_2 < C 0 0 3 ∧ nI k_2 = x ∧ 1 ≤ w_10 ∧ w_10 ≤ 100 ∧ nI w_10 = y ∧ 1 ≤ w_18 ∧ w_18 ≤ 9 ∧ nI w_18 = w ∧ ¬ isPap q ∧ C = C2) ∨ (∃ k_2 w_10 w_18 : Nat, E = "java/lang/IllegalStateException" ∧ k_2 < C 0 0 3 ∧ nI k_2 = x ∧ 1 ≤ w_10 ∧ w_10 ≤ 100 ∧ nI w_10 = y ∧ 1 ≤ w_18 ∧ w_18 ≤ 9 ∧ nI w_18 = w ∧ isPap q ∧ ¬ C 0 0 5 < 40 ∧ C = C2))
def K7_submit (A : AF) (C : CF) (x : Int32) (y : Int32) (w : Int32) (q : Nat) (cb : Nat) (db : Nat) : PostS := fun v A2 C2 => A = A2 ∧ ((∃ k_2 w_10 w_17 : Nat, k_2 < C 60 100 28 ∧ nI k_2 = x ∧ 1 ≤ w_10 ∧ w_10 ≤ 100 ∧ nI w_10 = y ∧ 1 ≤ w_17 ∧ w_17 ≤ 9 ∧ nI w_17 = w ∧ isPap q ∧ ¬ C 60 100 30 = 40 ∧ (up3 (up3 (up3 (up3 (up3 (up3 (up3 (up3 (up3 C 60 100 27 0) 60 16 (C 60 100 30) k_2) 60 17 (C 60 100 30) w_10) 60 18 (C 60 100 30) w_17) 60 9 (C 60 100 30) q) 60 12 (C 60 100 30) cb) 60 13 (C 60 100 30) db) 60 10 (C 60 100 30) 45) 60 100 30 ((C 60 100 30) + 1)) = C2 ∧ some (.int (nI (((C 60 100 30) + 1) - 1))) = v) ∨ (∃ k_2 w_10 w_17 : Nat, k_2 < C 60 100 28 ∧ nI k_2 = x ∧ 1 ≤ w_10 ∧ w_10 ≤ 100 ∧ nI w_10 = y ∧ 1 ≤ w_17 ∧ w_17 ≤ 9 ∧ nI w_17 = w ∧ isPap q ∧ C 60 100 30 = 40 ∧ (up3 C 60 100 27 3) = C2 ∧ some (.int (nI 0)) = v) ∨ (∃ k_2 w_10 w_17 : Nat, k_2 < C 60 100 28 ∧ nI k_2 = x ∧ 1 ≤ w_10 ∧ w_10 ≤ 100 ∧ nI w_10 = y ∧ 1 ≤ w_17 ∧ w_17 ≤ 9 ∧ nI w_17 = w ∧ ¬ isPap q ∧ (up3 C 60 100 27 2) = C2 ∧ some (.int (nI 0)) = v) ∨ (∃ k_2 w_10 : Nat, k_2 < C 60 100 28 ∧ nI k_2 = x ∧ 1 ≤ w_10 ∧ w_10 ≤ 100 ∧ nI w_10 = y ∧ (∀ k : Nat, 1 ≤ k → k ≤ 9 → nI k ≠ w) ∧ (up3 C 60 100 27 2) = C2 ∧ some (.int (nI 0)) = v) ∨ (∃ k_2 : Nat, k_2 < C 60 100 28 ∧ nI k_2 = x ∧ (∀ k : Nat, 1 ≤ k → k ≤ 100 → nI k ≠ y) ∧ (up3 C 60 100 27 2) = C2 ∧ some (.int (nI 0)) = v) ∨ ((∀ k : Nat, k < C 60 100 28 → nI k ≠ x) ∧ (up3 C 60 100 27 1) = C2 ∧ some (.int (nI 0)) = v))
def K6_setStapled (A : AF) (C : CF) (x : Int32) (cb : Nat) : PostS := fun v A2 C2 => A = A2 ∧ (∃ k_2 : Nat, k_2 < C 0 0 5 ∧ nI k_2 = x ∧ (up3 C 11 k_2 7 cb) = C2 ∧ some (.int (nI (C 11 k_2 7))) = v)
def E6_setStapled (A : AF) (C : CF) (x : Int32) (cb : Nat) : PxS := fun E A2 C2 => A = A2 ∧ (E = "java/lang/IndexOutOfBoundsException" ∧ (∀ k : Nat, k < C 0 0 5 → nI k ≠ x) ∧ C = C2)
def K7_setStapled (A : AF) (C : CF) (x : Int32) (cb : Nat) : PostS := fun v A2 C2 => A = A2 ∧ ((∃ k_2 : Nat, k_2 < C 60 100 30 ∧ nI k_2 = x ∧ (up3 (up3 C 60 100 27 0) 60 14 k_2 cb) = C2 ∧ some (.int (nI (C 60 14 k_2))) = v) ∨ ((∀ k : Nat, k < C 60 100 30 → nI k ≠ x) ∧ (up3 C 60 100 27 1) = C2 ∧ some (.int (nI 0)) = v))
def K6_cancel (A : AF) (C : CF) (x : Int32) : PostS := fun v A2 C2 => A = A2 ∧ (∃ k_2 : Nat, k_2 < C 0 0 5 ∧ nI k_2 = x ∧ C 11 k_2 8 = 0 ∧ C 11 k_2 9 < C 11 k_2 3 ∧ (up3 C 11 k_2 8 1) = C2 ∧ some (.int (nI ((up3 C 11 k_2 8 1) 11 k_2 3 - (up3 C 11 k_2 8 1) 11 k_2 9))) = v)
def E6_cancel (A : AF) (C : CF) (x : Int32) : PxS := fun E A2 C2 => A = A2 ∧ ((E = "java/lang/IndexOutOfBoundsException" ∧ (∀ k : Nat, k < C 0 0 5 → nI k ≠ x) ∧ C = C2) ∨ (∃ k_2 : Nat, E = "java/lang/IllegalStateException" ∧ k_2 < C 0 0 5 ∧ nI k_2 = x ∧ ¬ (C 11 k_2 8 = 0 ∧ C 11 k_2 9 < C 11 k_2 3) ∧ C = C2))
def K7_cancel (A : AF) (C : CF) (x : Int32) : PostS := fun v A2 C2 => A = A2 ∧ ((∃ k_2 : Nat, k_2 < C 60 100 30 ∧ nI k_2 = x ∧ C 60 19 k_2 = csN (C 60 13 k_2) (C 60 17 k_2) * C 60 18 k_2 ∧ (up3 C 60 100 27 2) = C2 ∧ some (.int (nI 0)) = v) ∨ (∃ k_2 : Nat, k_2 < C 60 100 30 ∧ nI k_2 = x ∧ C 60 19 k_2 ≠ csN (C 60 13 k_2) (C 60 17 k_2) * C 60 18 k_2 ∧ C 60 15 k_2 = 0 ∧ (up3 (up3 C 60 100 27 0) 60 15 k_2 1) = C2 ∧ some (.int (nI (C 60 17 k_2 * C 60 18 k_2 - ptoN (C 60 13 k_2) (C 60 17 k_2) (C 60 19 k_2)))) = v) ∨ (∃ k_2 : Nat, k_2 < C 60 100 30 ∧ nI k_2 = x ∧ C 60 19 k_2 ≠ csN (C 60 13 k_2) (C 60 17 k_2) * C 60 18 k_2 ∧ ¬ C 60 15 k_2 = 0 ∧ (up3 C 60 100 27 2) = C2 ∧ some (.int (nI 0)) = v) ∨ ((∀ k : Nat, k < C 60 100 30 → nI k ≠ x) ∧ (up3 C 60 100 27 1) = C2 ∧ some (.int (nI 0)) = v))
def K6_stateOf (A : AF) (C : CF) (x : Int32) : PostS := fun v A2 C2 => A = A2 ∧ ((∃ k_2 : Nat, k_2 < C 0 0 5 ∧ nI k_2 = x ∧ C 11 k_2 8 = 0 ∧ ¬ C 11 k_2 3 - C 11 k_2 9 = 0 ∧ ¬ C 11 k_2 9 = 0 ∧ C = C2 ∧ some (.int (nI 112)) = v) ∨ (∃ k_2 : Nat, k_2 < C 0 0 5 ∧ nI k_2 = x ∧ C 11 k_2 8 = 0 ∧ ¬ C 11 k_2 3 - C 11 k_2 9 = 0 ∧ C 11 k_2 9 = 0 ∧ C = C2 ∧ some (.int (nI 104)) = v) ∨ (∃ k_2 : Nat, k_2 < C 0 0 5 ∧ nI k_2 = x ∧ C 11 k_2 8 = 0 ∧ C 11 k_2 3 - C 11 k_2 9 = 0 ∧ C = C2 ∧ some (.int (nI 100)) = v) ∨ (∃ k_2 : Nat, k_2 < C 0 0 5 ∧ nI k_2 = x ∧ ¬ C 11 k_2 8 = 0 ∧ C = C2 ∧ some (.int (nI 120)) = v))
def E6_stateOf (A : AF) (C : CF) (x : Int32) : PxS := fun E A2 C2 => A = A2 ∧ (E = "java/lang/IndexOutOfBoundsException" ∧ (∀ k : Nat, k < C 0 0 5 → nI k ≠ x) ∧ C = C2)
def K7_stateOf (A : AF) (C : CF) (x : Int32) : PostS := fun v A2 C2 => A = A2 ∧ ((∃ k_2 : Nat, k_2 < C 60 100 30 ∧ nI k_2 = x ∧ C 60 15 k_2 = 0 ∧ C 60 19 k_2 = csN (C 60 13 k_2) (C 60 17 k_2) * C 60 18 k_2 ∧ (up3 C 60 100 27 0) = C2 ∧ some (.int (nI 100)) = v) ∨ (∃ k_2 : Nat, k_2 < C 60 100 30 ∧ nI k_2 = x ∧ C 60 15 k_2 = 0 ∧ C 60 19 k_2 ≠ csN (C 60 13 k_2) (C 60 17 k_2) * C 60 18 k_2 ∧ C 60 19 k_2 ≤ 0 ∧ (up3 C 60 100 27 0) = C2 ∧ some (.int (nI 104)) = v) ∨ (∃ k_2 : Nat, k_2 < C 60 100 30 ∧ nI k_2 = x ∧ C 60 15 k_2 = 0 ∧ C 60 19 k_2 ≠ csN (C 60 13 k_2) (C 60 17 k_2) * C 60 18 k_2 ∧ ¬ C 60 19 k_2 ≤ 0 ∧ (up3 C 60 100 27 0) = C2 ∧ some (.int (nI 112)) = v) ∨ (∃ k_2 : Nat, k_2 < C 60 100 30 ∧ nI k_2 = x ∧ ¬ C 60 15 k_2 = 0 ∧ (up3 C 60 100 27 0) = C2 ∧ some (.int (nI 120)) = v) ∨ ((∀ k : Nat, k < C 60 100 30 → nI k ≠ x) ∧ (up3 C 60 100 27 1) = C2 ∧ some (.int (nI 32)) = v))
def K6_pagesLeft (A : AF) (C : CF) (x : Int32) : PostS := fun v A2 C2 => A = A2 ∧ (∃ k_2 : Nat, k_2 < C 0 0 5 ∧ nI k_2 = x ∧ C = C2 ∧ some (.int (nI (C 11 k_2 3 - C 11 k_2 9))) = v)
def E6_pagesLeft (A : AF) (C : CF) (x : Int32) : PxS := fun E A2 C2 => A = A2 ∧ (E = "java/lang/IndexOutOfBoundsException" ∧ (∀ k : Nat, k < C 0 0 5 → nI k ≠ x) ∧ C = C2)
def K7_pagesLeft (A : AF) (C : CF) (x : Int32) : PostS := fun v A2 C2 => A = A2 ∧ ((∃ k_2 : Nat, k_2 < C 60 100 30 ∧ nI k_2 = x ∧ (up3 C 60 100 27 0) = C2 ∧ some (.int (nI (C 60 17 k_2 * C 60 18 k_2 - ptoN (C 60 13 k_2) (C 60 17 k_2) (C 60 19 k_2)))) = v) ∨ ((∀ k : Nat, k < C 60 100 30 → nI k ≠ x) ∧ (up3 C 60 100 27 1) = C2 ∧ some (.int (nI 0)) = v))
def K6_sheetsOut (A : AF) (C : CF) (x : Int32) : PostS := fun v A2 C2 => A = A2 ∧ (∃ k_2 : Nat, k_2 < C 0 0 5 ∧ nI k_2 = x ∧ C = C2 ∧ some (.int (nI (C 11 k_2 11))) = v)
def E6_sheetsOut (A : AF) (C : CF) (x : Int32) : PxS := fun E A2 C2 => A = A2 ∧ (E = "java/lang/IndexOutOfBoundsException" ∧ (∀ k : Nat, k < C 0 0 5 → nI k ≠ x) ∧ C = C2)
def K7_sheetsOut (A : AF) (C : CF) (x : Int32) : PostS := fun v A2 C2 => A = A2 ∧ ((∃ k_2 : Nat, k_2 < C 60 100 30 ∧ nI k_2 = x ∧ (up3 C 60 100 27 0) = C2 ∧ some (.int (nI (C 60 19 k_2))) = v) ∨ ((∀ k : Nat, k < C 60 100 30 → nI k ≠ x) ∧ (up3 C 60 100 27 1) = C2 ∧ some (.int (nI 0)) = v))
def K6_stapledCopies (A : AF) (C : CF) (x : Int32) : PostS := fun v A2 C2 => A = A2 ∧ (∃ k_2 : Nat, k_2 < C 0 0 5 ∧ nI k_2 = x ∧ C = C2 ∧ some (.int (nI (C 11 k_2 12))) = v)
def E6_stapledCopies (A : AF) (C : CF) (x : Int32) : PxS := fun E A2 C2 => A = A2 ∧ (E = "java/lang/IndexOutOfBoundsException" ∧ (∀ k : Nat, k < C 0 0 5 → nI k ≠ x) ∧ C = C2)
def K7_stapledCopies (A : AF) (C : CF) (x : Int32) : PostS := fun v A2 C2 => A = A2 ∧ ((∃ k_2 : Nat, k_2 < C 60 100 30 ∧ nI k_2 = x ∧ (up3 C 60 100 27 0) = C2 ∧ some (.int (nI (C 60 20 k_2))) = v) ∨ ((∀ k : Nat, k < C 60 100 30 → nI k ≠ x) ∧ (up3 C 60 100 27 1) = C2 ∧ some (.int (nI 0)) = v))
def K6_reasonFor (A : AF) (C : CF) (x : Int32) (y : Int32) : PostS := fun v A2 C2 => A = A2 ∧ (∃ k_2 k_6 : Nat, k_2 < C 0 0 5 ∧ nI k_2 = x ∧ k_6 < C 0 0 4 ∧ nI k_6 = y ∧ Kp C C2 ∧ some (.int (nI (coR C k_2 k_6 0))) = v)
def E6_reasonFor (A : AF) (C : CF) (x : Int32) (y : Int32) : PxS := fun E A2 C2 => A = A2 ∧ ((E = "java/lang/IndexOutOfBoundsException" ∧ (∀ k : Nat, k < C 0 0 5 → nI k ≠ x) ∧ C = C2) ∨ (∃ k_2 : Nat, E = "java/lang/IndexOutOfBoundsException" ∧ k_2 < C 0 0 5 ∧ nI k_2 = x ∧ (∀ k : Nat, k < C 0 0 4 → nI k ≠ y) ∧ C = C2))
def K7_reasonFor (A : AF) (C : CF) (x : Int32) (y : Int32) : PostS := fun v A2 C2 => A = A2 ∧ ((∃ k_2 k_11 : Nat, k_2 < C 60 100 30 ∧ nI k_2 = x ∧ k_11 < C 60 100 29 ∧ nI k_11 = y ∧ (TrS (up3 C 60 100 27 0) k_2 k_11 0) = C2 ∧ some (.int (nI (coR C k_2 k_11 0))) = v) ∨ (∃ k_2 : Nat, k_2 < C 60 100 30 ∧ nI k_2 = x ∧ (∀ k : Nat, k < C 60 100 29 → nI k ≠ y) ∧ (up3 C 60 100 27 1) = C2 ∧ some (.int (nI 32)) = v) ∨ ((∀ k : Nat, k < C 60 100 30 → nI k ≠ x) ∧ (up3 C 60 100 27 1) = C2 ∧ some (.int (nI 32)) = v))
def K6_wouldPrint (A : AF) (C : CF) (x : Int32) (y : Int32) : PostS := fun v A2 C2 => A = A2 ∧ (∃ k_2 k_6 : Nat, k_2 < C 0 0 5 ∧ nI k_2 = x ∧ k_6 < C 0 0 4 ∧ nI k_6 = y ∧ Kp C C2 ∧ some (.int (nI (pgR C k_2 k_6))) = v)
def E6_wouldPrint (A : AF) (C : CF) (x : Int32) (y : Int32) : PxS := fun E A2 C2 => A = A2 ∧ ((E = "java/lang/IndexOutOfBoundsException" ∧ (∀ k : Nat, k < C 0 0 5 → nI k ≠ x) ∧ C = C2) ∨ (∃ k_2 : Nat, E = "java/lang/IndexOutOfBoundsException" ∧ k_2 < C 0 0 5 ∧ nI k_2 = x ∧ (∀ k : Nat, k < C 0 0 4 → nI k ≠ y) ∧ C = C2))
def K7_wouldPrint (A : AF) (C : CF) (x : Int32) (y : Int32) : PostS := fun v A2 C2 => A = A2 ∧ ((∃ k_2 k_11 : Nat, k_2 < C 60 100 30 ∧ nI k_2 = x ∧ k_11 < C 60 100 29 ∧ nI k_11 = y ∧ Sc (up3 C 60 100 27 0) C2 ∧ some (.int (nI (pgR C k_2 k_11))) = v) ∨ (∃ k_2 : Nat, k_2 < C 60 100 30 ∧ nI k_2 = x ∧ (∀ k : Nat, k < C 60 100 29 → nI k ≠ y) ∧ (up3 C 60 100 27 1) = C2 ∧ some (.int (nI 0)) = v) ∨ ((∀ k : Nat, k < C 60 100 30 → nI k ≠ x) ∧ (up3 C 60 100 27 1) = C2 ∧ some (.int (nI 0)) = v))
def K6_release (A : AF) (C : CF) (x : Int32) (y : Int32) : PostS := fun v A2 C2 => ∃ a d : Nat, AL A (C 4 0 2) a d = A2 ∧ (∃ k_2 k_6 : Nat, k_2 < C 0 0 5 ∧ nI k_2 = x ∧ k_6 < C 0 0 4 ∧ nI k_6 = y ∧ ¬ nR (up3 C 60 100 27 0) k_2 k_6 = 0 ∧ 0 < nR (up3 C 60 100 27 0) k_2 k_6 ∧ (rlK (up3 C 60 100 27 0) C k_2 k_6 (nR (up3 C 60 100 27 0) k_2 k_6)) = C2 ∧ some (.int (nI (pgR (up3 C 60 100 27 0) k_2 k_6))) = v)
def E6_release (A : AF) (C : CF) (x : Int32) (y : Int32) : PxS := fun E A2 C2 => A = A2 ∧ ((E = "java/lang/IndexOutOfBoundsException" ∧ (∀ k : Nat, k < C 0 0 5 → nI k ≠ x) ∧ C = C2) ∨ (∃ k_2 : Nat, E = "java/lang/IndexOutOfBoundsException" ∧ k_2 < C 0 0 5 ∧ nI k_2 = x ∧ (∀ k : Nat, k < C 0 0 4 → nI k ≠ y) ∧ C = C2) ∨ (∃ k_2 k_6 : Nat, E = "java/lang/UnsupportedOperationException" ∧ k_2 < C 0 0 5 ∧ nI k_2 = x ∧ k_6 < C 0 0 4 ∧ nI k_6 = y ∧ nR (up3 C 60 100 27 0) k_2 k_6 = 0 ∧ (PlC (up3 C 60 100 27 0) C k_2 k_6 (nR (up3 C 60 100 27 0) k_2 k_6) (coR (up3 C 60 100 27 0) k_2 k_6 (nR (up3 C 60 100 27 0) k_2 k_6))) = C2))
def K7_release (A : AF) (C : CF) (x : Int32) (y : Int32) : PostS := fun v A2 C2 => ∃ b : Nat → Nat, AG A b = A2 ∧ ((∃ k_2 k_11 : Nat, k_2 < C 60 100 30 ∧ nI k_2 = x ∧ k_11 < C 60 100 29 ∧ nI k_11 = y ∧ ¬ pgR C k_2 k_11 = 0 ∧ (rlR (up3 C 60 100 27 0) k_2 k_11) = C2 ∧ some (.int (nI (pgR C k_2 k_11))) = v) ∨ (∃ k_2 k_11 : Nat, k_2 < C 60 100 30 ∧ nI k_2 = x ∧ k_11 < C 60 100 29 ∧ nI k_11 = y ∧ pgR C k_2 k_11 = 0 ∧ Sc (up3 C 60 100 27 2) C2 ∧ some (.int (nI 0)) = v) ∨ (∃ k_2 : Nat, k_2 < C 60 100 30 ∧ nI k_2 = x ∧ (∀ k : Nat, k < C 60 100 29 → nI k ≠ y) ∧ (up3 C 60 100 27 1) = C2 ∧ some (.int (nI 0)) = v) ∨ ((∀ k : Nat, k < C 60 100 30 → nI k ≠ x) ∧ (up3 C 60 100 27 1) = C2 ∧ some (.int (nI 0)) = v))
def K6_releaseAll (A : AF) (C : CF) (Z : Zp) (x : Int32) (y : Int32) : PostS := fun v A2 C2 => ∃ (a : Nat → Nat) (d : Nat), AO A a d = A2 ∧ (∃ k_2 k_6 : Nat, k_2 < C 0 0 3 ∧ nI k_2 = x ∧ k_6 < C 0 0 4 ∧ nI k_6 = y ∧ Sm (raS (up3 C 60 100 27 0) k_2 k_6 ((up3 C 60 100 27 0) 60 100 30)) C2 ∧ OkL (raS (up3 C 60 100 27 0) k_2 k_6 ((up3 C 60 100 27 0) 60 100 30)) ∧ (C2 7 100 0 = 0 → d = zD Z) ∧ (∀ kk : Nat, 15 ≤ kk → C2 kk = C kk) ∧ some (.int (nI (raN (up3 C 60 100 27 0) k_2 k_6 ((up3 C 60 100 27 0) 60 100 30)))) = v)
def E6_releaseAll (A : AF) (C : CF) (Z : Zp) (x : Int32) (y : Int32) : PxS := fun E A2 C2 => A = A2 ∧ ((E = "java/lang/IndexOutOfBoundsException" ∧ (∀ k : Nat, k < C 0 0 3 → nI k ≠ x) ∧ C = C2) ∨ (∃ k_2 : Nat, E = "java/lang/IndexOutOfBoundsException" ∧ k_2 < C 0 0 3 ∧ nI k_2 = x ∧ (∀ k : Nat, k < C 0 0 4 → nI k ≠ y) ∧ C = C2))
def K7_releaseAll (A : AF) (C : CF) (Z : Zp) (x : Int32) (y : Int32) : PostS := fun v A2 C2 => ∃ b : Nat → Nat, AG A b = A2 ∧ ((∃ k_2 k_7 : Nat, k_2 < C 60 100 28 ∧ nI k_2 = x ∧ k_7 < C 60 100 29 ∧ nI k_7 = y ∧ (raS (up3 C 60 100 27 0) k_2 k_7 (C 60 100 30)) = C2 ∧ some (.int (nI (raN (up3 C 60 100 27 0) k_2 k_7 (C 60 100 30)))) = v) ∨ (∃ k_2 : Nat, k_2 < C 60 100 28 ∧ nI k_2 = x ∧ (∀ k : Nat, k < C 60 100 29 → nI k ≠ y) ∧ (up3 C 60 100 27 1) = C2 ∧ some (.int (nI 0)) = v) ∨ ((∀ k : Nat, k < C 60 100 28 → nI k ≠ x) ∧ (up3 C 60 100 27 1) = C2 ∧ some (.int (nI 0)) = v))
def K6_stopOf (A : AF) (C : CF) (x : Int32) : PostS := fun v A2 C2 => A = A2 ∧ (∃ k_2 : Nat, k_2 < C 0 0 5 ∧ nI k_2 = x ∧ ¬ C 11 k_2 13 = 45 ∧ C = C2 ∧ some (.int (nI (C 11 k_2 13))) = v)
def E6_stopOf (A : AF) (C : CF) (x : Int32) : PxS := fun E A2 C2 => A = A2 ∧ ((E = "java/lang/IndexOutOfBoundsException" ∧ (∀ k : Nat, k < C 0 0 5 → nI k ≠ x) ∧ C = C2) ∨ (∃ k_2 : Nat, E = "java/util/NoSuchElementException" ∧ k_2 < C 0 0 5 ∧ nI k_2 = x ∧ C 11 k_2 13 = 45 ∧ C = C2))
def K7_stopOf (A : AF) (C : CF) (x : Int32) : PostS := fun v A2 C2 => A = A2 ∧ ((∃ k_2 : Nat, k_2 < C 60 100 30 ∧ nI k_2 = x ∧ ¬ C 60 10 k_2 = 45 ∧ (up3 C 60 100 27 0) = C2 ∧ some (.int (nI (C 60 10 k_2))) = v) ∨ (∃ k_2 : Nat, k_2 < C 60 100 30 ∧ nI k_2 = x ∧ C 60 10 k_2 = 45 ∧ (up3 C 60 100 27 2) = C2 ∧ some (.int (nI 32)) = v) ∨ ((∀ k : Nat, k < C 60 100 30 → nI k ≠ x) ∧ (up3 C 60 100 27 1) = C2 ∧ some (.int (nI 32)) = v))
def K6_bestPrinter (A : AF) (C : CF) (x : Int32) : PostS := fun v A2 C2 => A = A2 ∧ (∃ k_2 : Nat, k_2 < C 0 0 5 ∧ nI k_2 = x ∧ 0 < (bsR C k_2 (C 60 100 29)).1 ∧ Kp C C2 ∧ some (.int (nI ((bsR C k_2 (C 60 100 29)).1 - 1))) = v)
def E6_bestPrinter (A : AF) (C : CF) (x : Int32) : PxS := fun E A2 C2 => A = A2 ∧ ((E = "java/lang/IndexOutOfBoundsException" ∧ (∀ k : Nat, k < C 0 0 5 → nI k ≠ x) ∧ C = C2) ∨ (∃ k_2 : Nat, E = "java/util/NoSuchElementException" ∧ k_2 < C 0 0 5 ∧ nI k_2 = x ∧ (bsR C k_2 (C 60 100 29)).1 = 0 ∧ Kp C C2))
def K7_bestPrinter (A : AF) (C : CF) (x : Int32) : PostS := fun v A2 C2 => A = A2 ∧ ((∃ k_2 : Nat, k_2 < C 60 100 30 ∧ nI k_2 = x ∧ (bsR C k_2 (C 60 100 29)).1 = 0 ∧ Sc (up3 (up3 C 60 100 27 0) 60 100 27 2) C2 ∧ some (.int (nI 0)) = v) ∨ (∃ k_2 : Nat, k_2 < C 60 100 30 ∧ nI k_2 = x ∧ 0 < (bsR C k_2 (C 60 100 29)).1 ∧ Sc (up3 (up3 C 60 100 27 0) 60 100 27 0) C2 ∧ some (.int (nI ((bsR C k_2 (C 60 100 29)).1 - 1))) = v) ∨ ((∀ k : Nat, k < C 60 100 30 → nI k ≠ x) ∧ (up3 C 60 100 27 1) = C2 ∧ some (.int (nI 0)) = v))
def K6_queueLength (A : AF) (C : CF) (x : Int32) : PostS := fun v A2 C2 => A = A2 ∧ (∃ k_2 : Nat, k_2 < C 0 0 4 ∧ nI k_2 = x ∧ Kp C C2 ∧ some (.int (nI (qdR C k_2 (C 60 100 30)))) = v)
def E6_queueLength (A : AF) (C : CF) (x : Int32) : PxS := fun E A2 C2 => A = A2 ∧ (E = "java/lang/IndexOutOfBoundsException" ∧ (∀ k : Nat, k < C 0 0 4 → nI k ≠ x) ∧ C = C2)
def K7_queueLength (A : AF) (C : CF) (x : Int32) : PostS := fun v A2 C2 => A = A2 ∧ ((∃ k_2 : Nat, k_2 < C 60 100 29 ∧ nI k_2 = x ∧ Sc (up3 C 60 100 27 0) C2 ∧ some (.int (nI (qdR C k_2 (C 60 100 30)))) = v) ∨ ((∀ k : Nat, k < C 60 100 29 → nI k ≠ x) ∧ (up3 C 60 100 27 1) = C2 ∧ some (.int (nI 0)) = v))
def K6_queueAt (A : AF) (C : CF) (x : Int32) (y : Int32) : PostS := fun v A2 C2 => A = A2 ∧ ((∃ k_2 j1 : Nat, k_2 < C 0 0 4 ∧ nI k_2 = x ∧ j1 < C 60 100 30 ∧ rkR C j1 k_2 = 1 ∧ nI (q2R C k_2 2 (C 60 100 30) + q2R C k_2 1 j1) = y ∧ Kp C C2 ∧ some (.int (nI j1)) = v) ∨ (∃ k_2 j0 : Nat, k_2 < C 0 0 4 ∧ nI k_2 = x ∧ j0 < C 60 100 30 ∧ rkR C j0 k_2 = 2 ∧ nI (q2R C k_2 2 j0) = y ∧ Kp C C2 ∧ some (.int (nI j0)) = v))
def E6_queueAt (A : AF) (C : CF) (x : Int32) (y : Int32) : PxS := fun E A2 C2 => A = A2 ∧ ((E = "java/lang/IndexOutOfBoundsException" ∧ (∀ k : Nat, k < C 0 0 4 → nI k ≠ x) ∧ C = C2) ∨ (∃ k_2 : Nat, E = "java/util/NoSuchElementException" ∧ k_2 < C 0 0 4 ∧ nI k_2 = x ∧ (∀ w : Nat, w < qdR C k_2 (C 60 100 30) → nI w ≠ y) ∧ Kp C C2))
def K7_queueAt (A : AF) (C : CF) (x : Int32) (y : Int32) : PostS := fun v A2 C2 => A = A2 ∧ ((∃ k_2 w j : Nat, k_2 < C 60 100 29 ∧ nI k_2 = x ∧ w < qdR C k_2 (C 60 100 30) ∧ nI w = y ∧ rkR C j k_2 = 1 ∧ j < C 60 100 30 ∧ q2R C k_2 2 (C 60 100 30) + q2R C k_2 1 j = w ∧ Sc (up3 C 60 100 27 0) C2 ∧ some (.int (nI j)) = v) ∨ (∃ k_2 w j : Nat, k_2 < C 60 100 29 ∧ nI k_2 = x ∧ w < qdR C k_2 (C 60 100 30) ∧ nI w = y ∧ rkR C j k_2 = 2 ∧ j < C 60 100 30 ∧ q2R C k_2 2 j = w ∧ Sc (up3 C 60 100 27 0) C2 ∧ some (.int (nI j)) = v) ∨ (∃ k_2 : Nat, k_2 < C 60 100 29 ∧ nI k_2 = x ∧ (∀ k : Nat, k < qdR C k_2 (C 60 100 30) → nI k ≠ y) ∧ Sc (up3 C 60 100 27 2) C2 ∧ some (.int (nI 0)) = v) ∨ ((∀ k : Nat, k < C 60 100 29 → nI k ≠ x) ∧ (up3 C 60 100 27 1) = C2 ∧ some (.int (nI 0)) = v))
def K6_logSize (A : AF) (C : CF)  : PostS := fun v A2 C2 => A = A2 ∧ (C = C2 ∧ some (.int (nI (C 4 0 2))) = v)
def E6_logSize (A : AF) (C : CF)  : PxS := fun _ _ _ => False
def K7_logSize (A : AF) (C : CF)  : PostS := fun v A2 C2 => A = A2 ∧ ((up3 C 60 100 27 0) = C2 ∧ some (.int (nI (C 60 100 31))) = v)
def K6_logJob (A : AF) (C : CF) (x : Int32) : PostS := fun v A2 C2 => A = A2 ∧ (∃ k_2 : Nat, k_2 < C 4 0 2 ∧ nI k_2 = x ∧ C = C2 ∧ some (.int (nI (C 13 k_2 0))) = v)
def E6_logJob (A : AF) (C : CF) (x : Int32) : PxS := fun E A2 C2 => A = A2 ∧ (E = "java/lang/IndexOutOfBoundsException" ∧ (∀ k : Nat, k < C 4 0 2 → nI k ≠ x) ∧ C = C2)
def K7_logJob (A : AF) (C : CF) (x : Int32) : PostS := fun v A2 C2 => A = A2 ∧ ((∃ k_2 : Nat, k_2 < C 60 100 31 ∧ nI k_2 = x ∧ (up3 C 60 100 27 0) = C2 ∧ some (.int (nI (C 60 21 k_2))) = v) ∨ ((∀ k : Nat, k < C 60 100 31 → nI k ≠ x) ∧ (up3 C 60 100 27 1) = C2 ∧ some (.int (nI 0)) = v))
def K6_logPrinter (A : AF) (C : CF) (x : Int32) : PostS := fun v A2 C2 => A = A2 ∧ (∃ k_2 : Nat, k_2 < C 4 0 2 ∧ nI k_2 = x ∧ C = C2 ∧ some (.int (nI (C 13 k_2 2))) = v)
def E6_logPrinter (A : AF) (C : CF) (x : Int32) : PxS := fun E A2 C2 => A = A2 ∧ (E = "java/lang/IndexOutOfBoundsException" ∧ (∀ k : Nat, k < C 4 0 2 → nI k ≠ x) ∧ C = C2)
def K7_logPrinter (A : AF) (C : CF) (x : Int32) : PostS := fun v A2 C2 => A = A2 ∧ ((∃ k_2 : Nat, k_2 < C 60 100 31 ∧ nI k_2 = x ∧ (up3 C 60 100 27 0) = C2 ∧ some (.int (nI (C 60 22 k_2))) = v) ∨ ((∀ k : Nat, k < C 60 100 31 → nI k ≠ x) ∧ (up3 C 60 100 27 1) = C2 ∧ some (.int (nI 0)) = v))
def K6_logPages (A : AF) (C : CF) (x : Int32) : PostS := fun v A2 C2 => A = A2 ∧ (∃ k_2 : Nat, k_2 < C 4 0 2 ∧ nI k_2 = x ∧ C = C2 ∧ some (.int (nI (C 13 k_2 3))) = v)
def E6_logPages (A : AF) (C : CF) (x : Int32) : PxS := fun E A2 C2 => A = A2 ∧ (E = "java/lang/IndexOutOfBoundsException" ∧ (∀ k : Nat, k < C 4 0 2 → nI k ≠ x) ∧ C = C2)
def K7_logPages (A : AF) (C : CF) (x : Int32) : PostS := fun v A2 C2 => A = A2 ∧ ((∃ k_2 : Nat, k_2 < C 60 100 31 ∧ nI k_2 = x ∧ (up3 C 60 100 27 0) = C2 ∧ some (.int (nI (C 60 23 k_2))) = v) ∨ ((∀ k : Nat, k < C 60 100 31 → nI k ≠ x) ∧ (up3 C 60 100 27 1) = C2 ∧ some (.int (nI 0)) = v))
def K6_logSheets (A : AF) (C : CF) (x : Int32) : PostS := fun v A2 C2 => A = A2 ∧ (∃ k_2 : Nat, k_2 < C 4 0 2 ∧ nI k_2 = x ∧ C = C2 ∧ some (.int (nI (C 13 k_2 4))) = v)
def E6_logSheets (A : AF) (C : CF) (x : Int32) : PxS := fun E A2 C2 => A = A2 ∧ (E = "java/lang/IndexOutOfBoundsException" ∧ (∀ k : Nat, k < C 4 0 2 → nI k ≠ x) ∧ C = C2)
def K7_logSheets (A : AF) (C : CF) (x : Int32) : PostS := fun v A2 C2 => A = A2 ∧ ((∃ k_2 : Nat, k_2 < C 60 100 31 ∧ nI k_2 = x ∧ (up3 C 60 100 27 0) = C2 ∧ some (.int (nI (C 60 24 k_2))) = v) ∨ ((∀ k : Nat, k < C 60 100 31 → nI k ≠ x) ∧ (up3 C 60 100 27 1) = C2 ∧ some (.int (nI 0)) = v))
def K6_pagesOf (A : AF) (C : CF) (x : Int32) : PostS := fun v A2 C2 => A = A2 ∧ (∃ k_2 : Nat, k_2 < C 0 0 3 ∧ nI k_2 = x ∧ C = C2 ∧ some (.int (nI (C 10 k_2 2))) = v)
def E6_pagesOf (A : AF) (C : CF) (x : Int32) : PxS := fun E A2 C2 => A = A2 ∧ (E = "java/lang/IndexOutOfBoundsException" ∧ (∀ k : Nat, k < C 0 0 3 → nI k ≠ x) ∧ C = C2)
def K7_pagesOf (A : AF) (C : CF) (x : Int32) : PostS := fun v A2 C2 => A = A2 ∧ ((∃ k_2 : Nat, k_2 < C 60 100 28 ∧ nI k_2 = x ∧ (up3 C 60 100 27 0) = C2 ∧ some (.int (nI (C 60 1 k_2))) = v) ∨ ((∀ k : Nat, k < C 60 100 28 → nI k ≠ x) ∧ (up3 C 60 100 27 1) = C2 ∧ some (.int (nI 0)) = v))
def K6_pagesByLog (A : AF) (C : CF) (x : Int32) : PostS := fun v A2 C2 => A = A2 ∧ (∃ k_2 : Nat, k_2 < C 0 0 3 ∧ nI k_2 = x ∧ C = C2 ∧ some (.int (nI (C 60 1 k_2))) = v)
def E6_pagesByLog (A : AF) (C : CF) (x : Int32) : PxS := fun E A2 C2 => A = A2 ∧ (E = "java/lang/IndexOutOfBoundsException" ∧ (∀ k : Nat, k < C 0 0 3 → nI k ≠ x) ∧ C = C2)
def K7_pagesByLog (A : AF) (C : CF) (x : Int32) : PostS := fun v A2 C2 => A = A2 ∧ ((∃ k_2 : Nat, k_2 < C 60 100 28 ∧ nI k_2 = x ∧ (up3 C 60 100 27 0) = C2 ∧ some (.int (nI (C 60 1 k_2))) = v) ∨ ((∀ k : Nat, k < C 60 100 28 → nI k ≠ x) ∧ (up3 C 60 100 27 1) = C2 ∧ some (.int (nI 0)) = v))
def K6_billOf (A : AF) (C : CF) (x : Int32) : PostS := fun v A2 C2 => A = A2 ∧ (∃ k_2 : Nat, k_2 < C 0 0 3 ∧ nI k_2 = x ∧ C = C2 ∧ some (.long (lN (C 10 k_2 3))) = v)
def E6_billOf (A : AF) (C : CF) (x : Int32) : PxS := fun E A2 C2 => A = A2 ∧ (E = "java/lang/IndexOutOfBoundsException" ∧ (∀ k : Nat, k < C 0 0 3 → nI k ≠ x) ∧ C = C2)
def K7_billOf (A : AF) (C : CF) (x : Int32) : PostS := fun v A2 C2 => A = A2 ∧ ((∃ k_2 : Nat, k_2 < C 60 100 28 ∧ nI k_2 = x ∧ (up3 C 60 100 27 0) = C2 ∧ some (.long (lN (C 60 7 k_2))) = v) ∨ ((∀ k : Nat, k < C 60 100 28 → nI k ≠ x) ∧ (up3 C 60 100 27 1) = C2 ∧ some (.long (lN 0)) = v))
def K6_billByLog (A : AF) (C : CF) (x : Int32) : PostS := fun v A2 C2 => A = A2 ∧ (∃ k_2 : Nat, k_2 < C 0 0 3 ∧ nI k_2 = x ∧ C = C2 ∧ some (.long (lN (C 60 7 k_2))) = v)
def E6_billByLog (A : AF) (C : CF) (x : Int32) : PxS := fun E A2 C2 => A = A2 ∧ (E = "java/lang/IndexOutOfBoundsException" ∧ (∀ k : Nat, k < C 0 0 3 → nI k ≠ x) ∧ C = C2)
def K7_billByLog (A : AF) (C : CF) (x : Int32) : PostS := fun v A2 C2 => A = A2 ∧ ((∃ k_2 : Nat, k_2 < C 60 100 28 ∧ nI k_2 = x ∧ (up3 C 60 100 27 0) = C2 ∧ some (.long (lN (C 60 7 k_2))) = v) ∨ ((∀ k : Nat, k < C 60 100 28 → nI k ≠ x) ∧ (up3 C 60 100 27 1) = C2 ∧ some (.long (lN 0)) = v))
def K6_meanPages (A : AF) (C : CF)  : PostS := fun v A2 C2 => A = A2 ∧ (¬ (C 60 100 31) = 0 ∧ C = C2 ∧ some (.double (FP.ddiv (FP.i2d (nI (ouN C 0 (C 60 100 31)))) (FP.i2d (nI ((C 60 100 31)))))) = v)
def E6_meanPages (A : AF) (C : CF)  : PxS := fun E A2 C2 => A = A2 ∧ (E = "java/lang/ArithmeticException" ∧ (C 60 100 31) = 0 ∧ C = C2)
def K7_meanPages (A : AF) (C : CF)  : PostS := fun v A2 C2 => A = A2 ∧ ((C 60 100 31 ≤ 0 ∧ (up3 C 60 100 27 1) = C2 ∧ some (.double (FP.dconst0)) = v) ∨ (¬ C 60 100 31 ≤ 0 ∧ (up3 C 60 100 27 0) = C2 ∧ some (.double (FP.ddiv (FP.i2d (nI (ouN C 0 (C 60 100 31)))) (FP.i2d (nI (C 60 100 31))))) = v))
def K6_colourShare (A : AF) (C : CF)  : PostS := fun v A2 C2 => A = A2 ∧ (¬ ouN C 0 (C 60 100 31) = 0 ∧ C = C2 ∧ some (.float (FP.fdiv (FP.i2f (nI (ouN C 1 (C 60 100 31)))) (FP.i2f (nI (ouN C 0 (C 60 100 31)))))) = v)
def E6_colourShare (A : AF) (C : CF)  : PxS := fun E A2 C2 => A = A2 ∧ (E = "java/lang/ArithmeticException" ∧ ouN C 0 (C 60 100 31) = 0 ∧ C = C2)
def K7_colourShare (A : AF) (C : CF)  : PostS := fun v A2 C2 => A = A2 ∧ ((ouN C 0 (C 60 100 31) ≤ 0 ∧ (up3 C 60 100 27 1) = C2 ∧ some (.float (FP.fconst0)) = v) ∨ (¬ ouN C 0 (C 60 100 31) ≤ 0 ∧ (up3 C 60 100 27 0) = C2 ∧ some (.float (FP.fdiv (FP.i2f (nI (ouN C 1 (C 60 100 31)))) (FP.i2f (nI (ouN C 0 (C 60 100 31)))))) = v))
def K6_isConsistent (A : AF) (C : CF)  : PostS := fun v A2 C2 => A = A2 ∧ (C = C2 ∧ some (.int (nI 1)) = v)
def E6_isConsistent (A : AF) (C : CF)  : PxS := fun _ _ _ => False
def K7_isConsistent (A : AF) (C : CF)  : PostS := fun v A2 C2 => A = A2 ∧ ((up3 C 60 100 27 0) = C2 ∧ some (.int (nI 1)) = v)
def K6_writeJob (A : AF) (C : CF) (x : Int32) : PostS := fun v A2 C2 => ∃ k_2 : Nat, k_2 < C 0 0 5 ∧ nI k_2 = x ∧ ∃ (b x cap : Nat) (g : Nat → Nat), up2 A 8 0 b = A2 ∧ lnC C x (lnN C k_2) cap g = C2 ∧ lnN C k_2 ≤ 60 ∧ lnN C k_2 ≤ cap ∧ cpO cap ∧ (∀ j : Nat, j < cap → g j < 128) ∧ (∀ j : Nat, j < lnN C k_2 → g j = lnT C k_2 j) ∧ some (.int (nI (lnN C k_2))) = v
def E6_writeJob (A : AF) (C : CF) (x : Int32) : PxS := fun E A2 C2 => A = A2 ∧ (E = "java/lang/IndexOutOfBoundsException" ∧ (∀ k : Nat, k < C 0 0 5 → nI k ≠ x) ∧ C = C2)
def K7_writeJob (A : AF) (C : CF) (x : Int32) : PostS := fun v A2 C2 => (A = A2 ∧ ((∀ k : Nat, k < C 60 100 30 → nI k ≠ x) ∧ (up3 C 60 100 27 1) = C2 ∧ some (.int (nI 0)) = v)) ∨ (∃ k_2 : Nat, k_2 < C 60 100 30 ∧ nI k_2 = x ∧ ∃ (a b : Nat) (g : Nat → Nat), up2 (up2 A 60 26 a) 60 27 b = A2 ∧ lnR (up3 C 60 100 27 0) (lnN C k_2) g = C2 ∧ lnN C k_2 ≤ 60 ∧ (∀ j : Nat, j < lnN C k_2 → g j = lnT C k_2 j) ∧ (∀ j : Nat, j < lnN C k_2 → g j < 128) ∧ some (.int (nI (lnN C k_2))) = v)
def K6_lineAt (A : AF) (C : CF) (x : Int32) : PostS := fun v A2 C2 => A = A2 ∧ (∃ k : Nat, k < C 5 0 3 ∧ nI k = x ∧ C = C2 ∧ some (.int (nI (C 8 0 k))) = v)
def E6_lineAt (A : AF) (C : CF) (x : Int32) : PxS := fun E A2 C2 => A = A2 ∧ ((E = "java/lang/IndexOutOfBoundsException" ∧ (∀ k : Nat, k < C 5 0 3 → nI k ≠ x) ∧ C = C2) ∨ (E = "java/lang/IndexOutOfBoundsException" ∧ (∀ k : Nat, k < C 5 0 3 → nI k ≠ x) ∧ C = C2))
def K7_lineAt (A : AF) (C : CF) (x : Int32) : PostS := fun v A2 C2 => A = A2 ∧ ((∃ w : Nat, w < C 61 27 0 ∧ nI w = x ∧ (up3 C 60 100 27 0) = C2 ∧ some (.int (nI (C 60 27 w))) = v) ∨ ((∀ k : Nat, k < C 61 27 0 → nI k ≠ x) ∧ (up3 C 60 100 27 1) = C2 ∧ some (.int (nI 32)) = v))
def W_addUser (A : AF) (C : CF) (x : Int32) (y : Int32) (k : Nat) (A2 : AF) (C2 : CF) : Prop := (k = 0 ∧ ∃ (r : Int32) (o : Nat) (C1 : CF), lN o = r.toInt64 ∧ up3 C1 70 0 0 o = C2 ∧ K6_addUser A C x y (some (.int r)) A2 C1) ∨ (k = 1 ∧ E6_addUser A C x y "java/lang/IllegalArgumentException" A2 C2) ∨ (k = 2 ∧ E6_addUser A C x y "java/lang/IllegalStateException" A2 C2)
def W_addPrinter (A : AF) (C : CF) (cb : Nat) (x : Int32) (y : Int32) (k : Nat) (A2 : AF) (C2 : CF) : Prop := (k = 0 ∧ ∃ (r : Int32) (o : Nat) (C1 : CF), lN o = r.toInt64 ∧ up3 C1 70 0 0 o = C2 ∧ K6_addPrinter A C cb x y (some (.int r)) A2 C1) ∨ (k = 1 ∧ E6_addPrinter A C cb x y "java/lang/IllegalArgumentException" A2 C2) ∨ (k = 2 ∧ E6_addPrinter A C cb x y "java/lang/IllegalStateException" A2 C2)
def W_addTray (A : AF) (C : CF) (x : Int32) (q : Nat) (y : Int32) (k : Nat) (A2 : AF) (C2 : CF) : Prop := (k = 0 ∧ ∃ (r : Int32) (o : Nat) (C1 : CF), lN o = r.toInt64 ∧ up3 C1 70 0 0 o = C2 ∧ K6_addTray A C x q y (some (.int r)) A2 C1) ∨ (k = 1 ∧ E6_addTray A C x q y "java/lang/IndexOutOfBoundsException" A2 C2) ∨ (k = 2 ∧ E6_addTray A C x q y "java/lang/IllegalArgumentException" A2 C2) ∨ (k = 3 ∧ E6_addTray A C x q y "java/lang/IllegalStateException" A2 C2)
def W_trayCount (A : AF) (C : CF) (x : Int32) (k : Nat) (A2 : AF) (C2 : CF) : Prop := (k = 0 ∧ ∃ (r : Int32) (o : Nat) (C1 : CF), lN o = r.toInt64 ∧ up3 C1 70 0 0 o = C2 ∧ K6_trayCount A C x (some (.int r)) A2 C1) ∨ (k = 1 ∧ E6_trayCount A C x "java/lang/IndexOutOfBoundsException" A2 C2)
def W_load (A : AF) (C : CF) (x : Int32) (y : Int32) (w : Int32) (k : Nat) (A2 : AF) (C2 : CF) : Prop := (k = 0 ∧ ∃ (r : Int32) (o : Nat) (C1 : CF), lN o = r.toInt64 ∧ up3 C1 70 0 0 o = C2 ∧ K6_load A C x y w (some (.int r)) A2 C1) ∨ (k = 1 ∧ E6_load A C x y w "java/lang/IndexOutOfBoundsException" A2 C2) ∨ (k = 2 ∧ E6_load A C x y w "java/lang/IllegalArgumentException" A2 C2) ∨ (k = 3 ∧ E6_load A C x y w "java/lang/IllegalStateException" A2 C2)
def W_changePaper (A : AF) (C : CF) (x : Int32) (y : Int32) (q : Nat) (k : Nat) (A2 : AF) (C2 : CF) : Prop := (k = 0 ∧ ∃ (r : Int32) (o : Nat) (C1 : CF), lN o = r.toInt64 ∧ up3 C1 70 0 0 o = C2 ∧ K6_changePaper A C x y q (some (.int r)) A2 C1) ∨ (k = 1 ∧ E6_changePaper A C x y q "java/lang/IndexOutOfBoundsException" A2 C2) ∨ (k = 2 ∧ E6_changePaper A C x y q "java/lang/IllegalArgumentException" A2 C2) ∨ (k = 3 ∧ E6_changePaper A C x y q "java/lang/IllegalStateException" A2 C2)
def W_sheetsIn (A : AF) (C : CF) (x : Int32) (y : Int32) (k : Nat) (A2 : AF) (C2 : CF) : Prop := (k = 0 ∧ ∃ (r : Int32) (o : Nat) (C1 : CF), lN o = r.toInt64 ∧ up3 C1 70 0 0 o = C2 ∧ K6_sheetsIn A C x y (some (.int r)) A2 C1) ∨ (k = 1 ∧ E6_sheetsIn A C x y "java/lang/IndexOutOfBoundsException" A2 C2)
def W_paperOf (A : AF) (C : CF) (x : Int32) (y : Int32) (k : Nat) (A2 : AF) (C2 : CF) : Prop := (k = 0 ∧ ∃ (r : Int32) (o : Nat) (C1 : CF), lN o = r.toInt64 ∧ up3 C1 70 0 0 o = C2 ∧ K6_paperOf A C x y (some (.int r)) A2 C1) ∨ (k = 1 ∧ E6_paperOf A C x y "java/lang/IndexOutOfBoundsException" A2 C2)
def W_setToner (A : AF) (C : CF) (x : Int32) (cb : Nat) (y : Int32) (k : Nat) (A2 : AF) (C2 : CF) : Prop := (k = 0 ∧ ∃ (r : Int32) (o : Nat) (C1 : CF), lN o = r.toInt64 ∧ up3 C1 70 0 0 o = C2 ∧ K6_setToner A C x cb y (some (.int r)) A2 C1) ∨ (k = 1 ∧ E6_setToner A C x cb y "java/lang/IndexOutOfBoundsException" A2 C2) ∨ (k = 2 ∧ E6_setToner A C x cb y "java/lang/IllegalArgumentException" A2 C2) ∨ (k = 3 ∧ E6_setToner A C x cb y "java/lang/UnsupportedOperationException" A2 C2)
def W_tonerOf (A : AF) (C : CF) (x : Int32) (cb : Nat) (k : Nat) (A2 : AF) (C2 : CF) : Prop := (k = 0 ∧ ∃ (r : Int32) (o : Nat) (C1 : CF), lN o = r.toInt64 ∧ up3 C1 70 0 0 o = C2 ∧ K6_tonerOf A C x cb (some (.int r)) A2 C1) ∨ (k = 1 ∧ E6_tonerOf A C x cb "java/lang/IndexOutOfBoundsException" A2 C2) ∨ (k = 2 ∧ E6_tonerOf A C x cb "java/lang/UnsupportedOperationException" A2 C2)
def W_setStaples (A : AF) (C : CF) (x : Int32) (y : Int32) (k : Nat) (A2 : AF) (C2 : CF) : Prop := (k = 0 ∧ ∃ (r : Int32) (o : Nat) (C1 : CF), lN o = r.toInt64 ∧ up3 C1 70 0 0 o = C2 ∧ K6_setStaples A C x y (some (.int r)) A2 C1) ∨ (k = 1 ∧ E6_setStaples A C x y "java/lang/IndexOutOfBoundsException" A2 C2) ∨ (k = 2 ∧ E6_setStaples A C x y "java/lang/IllegalArgumentException" A2 C2)
def W_staplesIn (A : AF) (C : CF) (x : Int32) (k : Nat) (A2 : AF) (C2 : CF) : Prop := (k = 0 ∧ ∃ (r : Int32) (o : Nat) (C1 : CF), lN o = r.toInt64 ∧ up3 C1 70 0 0 o = C2 ∧ K6_staplesIn A C x (some (.int r)) A2 C1) ∨ (k = 1 ∧ E6_staplesIn A C x "java/lang/IndexOutOfBoundsException" A2 C2)
def W_grant (A : AF) (C : CF) (x : Int32) (cb : Nat) (y : Int32) (k : Nat) (A2 : AF) (C2 : CF) : Prop := (k = 0 ∧ ∃ (r : Int32) (o : Nat) (C1 : CF), lN o = r.toInt64 ∧ up3 C1 70 0 0 o = C2 ∧ K6_grant A C x cb y (some (.int r)) A2 C1) ∨ (k = 1 ∧ E6_grant A C x cb y "java/lang/IndexOutOfBoundsException" A2 C2) ∨ (k = 2 ∧ E6_grant A C x cb y "java/lang/IllegalArgumentException" A2 C2) ∨ (k = 3 ∧ E6_grant A C x cb y "java/lang/IllegalStateException" A2 C2)
def W_quotaOf (A : AF) (C : CF) (x : Int32) (cb : Nat) (k : Nat) (A2 : AF) (C2 : CF) : Prop := (k = 0 ∧ ∃ (r : Int32) (o : Nat) (C1 : CF), lN o = r.toInt64 ∧ up3 C1 70 0 0 o = C2 ∧ K6_quotaOf A C x cb (some (.int r)) A2 C1) ∨ (k = 1 ∧ E6_quotaOf A C x cb "java/lang/IndexOutOfBoundsException" A2 C2)
def W_setPrices (A : AF) (C : CF) (x : Int32) (y : Int32) (w : Int32) (k : Nat) (A2 : AF) (C2 : CF) : Prop := (k = 0 ∧ ∃ (r : Int32) (o : Nat) (C1 : CF), lN o = r.toInt64 ∧ up3 C1 70 0 0 o = C2 ∧ K6_setPrices A C x y w (some (.int r)) A2 C1) ∨ (k = 1 ∧ E6_setPrices A C x y w "java/lang/IllegalArgumentException" A2 C2)
def W_submit (A : AF) (C : CF) (x : Int32) (y : Int32) (w : Int32) (q : Nat) (cb : Nat) (db : Nat) (k : Nat) (A2 : AF) (C2 : CF) : Prop := (k = 0 ∧ ∃ (r : Int32) (o : Nat) (C1 : CF), lN o = r.toInt64 ∧ up3 C1 70 0 0 o = C2 ∧ K6_submit A C x y w q cb db (some (.int r)) A2 C1) ∨ (k = 1 ∧ E6_submit A C x y w q cb db "java/lang/IndexOutOfBoundsException" A2 C2) ∨ (k = 2 ∧ E6_submit A C x y w q cb db "java/lang/IllegalArgumentException" A2 C2) ∨ (k = 3 ∧ E6_submit A C x y w q cb db "java/lang/IllegalStateException" A2 C2)
def W_setStapled (A : AF) (C : CF) (x : Int32) (cb : Nat) (k : Nat) (A2 : AF) (C2 : CF) : Prop := (k = 0 ∧ ∃ (r : Int32) (o : Nat) (C1 : CF), (r = 0 ∧ o = 0 ∨ r ≠ 0 ∧ o = 1) ∧ up3 C1 70 0 0 o = C2 ∧ K6_setStapled A C x cb (some (.int r)) A2 C1) ∨ (k = 1 ∧ E6_setStapled A C x cb "java/lang/IndexOutOfBoundsException" A2 C2)
def W_cancel (A : AF) (C : CF) (x : Int32) (k : Nat) (A2 : AF) (C2 : CF) : Prop := (k = 0 ∧ ∃ (r : Int32) (o : Nat) (C1 : CF), lN o = r.toInt64 ∧ up3 C1 70 0 0 o = C2 ∧ K6_cancel A C x (some (.int r)) A2 C1) ∨ (k = 1 ∧ E6_cancel A C x "java/lang/IndexOutOfBoundsException" A2 C2) ∨ (k = 2 ∧ E6_cancel A C x "java/lang/IllegalStateException" A2 C2)
def W_stateOf (A : AF) (C : CF) (x : Int32) (k : Nat) (A2 : AF) (C2 : CF) : Prop := (k = 0 ∧ ∃ (r : Int32) (o : Nat) (C1 : CF), lN o = r.toInt64 ∧ up3 C1 70 0 0 o = C2 ∧ K6_stateOf A C x (some (.int r)) A2 C1) ∨ (k = 1 ∧ E6_stateOf A C x "java/lang/IndexOutOfBoundsException" A2 C2)
def W_pagesLeft (A : AF) (C : CF) (x : Int32) (k : Nat) (A2 : AF) (C2 : CF) : Prop := (k = 0 ∧ ∃ (r : Int32) (o : Nat) (C1 : CF), lN o = r.toInt64 ∧ up3 C1 70 0 0 o = C2 ∧ K6_pagesLeft A C x (some (.int r)) A2 C1) ∨ (k = 1 ∧ E6_pagesLeft A C x "java/lang/IndexOutOfBoundsException" A2 C2)
def W_sheetsOut (A : AF) (C : CF) (x : Int32) (k : Nat) (A2 : AF) (C2 : CF) : Prop := (k = 0 ∧ ∃ (r : Int32) (o : Nat) (C1 : CF), lN o = r.toInt64 ∧ up3 C1 70 0 0 o = C2 ∧ K6_sheetsOut A C x (some (.int r)) A2 C1) ∨ (k = 1 ∧ E6_sheetsOut A C x "java/lang/IndexOutOfBoundsException" A2 C2)
def W_stapledCopies (A : AF) (C : CF) (x : Int32) (k : Nat) (A2 : AF) (C2 : CF) : Prop := (k = 0 ∧ ∃ (r : Int32) (o : Nat) (C1 : CF), lN o = r.toInt64 ∧ up3 C1 70 0 0 o = C2 ∧ K6_stapledCopies A C x (some (.int r)) A2 C1) ∨ (k = 1 ∧ E6_stapledCopies A C x "java/lang/IndexOutOfBoundsException" A2 C2)
def W_reasonFor (A : AF) (C : CF) (x : Int32) (y : Int32) (k : Nat) (A2 : AF) (C2 : CF) : Prop := (k = 0 ∧ ∃ (r : Int32) (o : Nat) (C1 : CF), lN o = r.toInt64 ∧ up3 C1 70 0 0 o = C2 ∧ K6_reasonFor A C x y (some (.int r)) A2 C1) ∨ (k = 1 ∧ E6_reasonFor A C x y "java/lang/IndexOutOfBoundsException" A2 C2)
def W_wouldPrint (A : AF) (C : CF) (x : Int32) (y : Int32) (k : Nat) (A2 : AF) (C2 : CF) : Prop := (k = 0 ∧ ∃ (r : Int32) (o : Nat) (C1 : CF), lN o = r.toInt64 ∧ up3 C1 70 0 0 o = C2 ∧ K6_wouldPrint A C x y (some (.int r)) A2 C1) ∨ (k = 1 ∧ E6_wouldPrint A C x y "java/lang/IndexOutOfBoundsException" A2 C2)
def W_release (A : AF) (C : CF) (x : Int32) (y : Int32) (k : Nat) (A2 : AF) (C2 : CF) : Prop := (k = 0 ∧ ∃ (r : Int32) (o : Nat) (C1 : CF), lN o = r.toInt64 ∧ up3 C1 70 0 0 o = C2 ∧ K6_release A C x y (some (.int r)) A2 C1) ∨ (k = 1 ∧ E6_release A C x y "java/lang/IndexOutOfBoundsException" A2 C2) ∨ (k = 2 ∧ E6_release A C x y "java/lang/UnsupportedOperationException" A2 C2)
def W_releaseAll (A : AF) (C : CF) (Z : Zp) (x : Int32) (y : Int32) (k : Nat) (A2 : AF) (C2 : CF) : Prop := (k = 0 ∧ ∃ (r : Int32) (o : Nat) (C1 : CF), lN o = r.toInt64 ∧ up3 C1 70 0 0 o = C2 ∧ K6_releaseAll A C Z x y (some (.int r)) A2 C1) ∨ (k = 1 ∧ E6_releaseAll A C Z x y "java/lang/IndexOutOfBoundsException" A2 C2)
def W_stopOf (A : AF) (C : CF) (x : Int32) (k : Nat) (A2 : AF) (C2 : CF) : Prop := (k = 0 ∧ ∃ (r : Int32) (o : Nat) (C1 : CF), lN o = r.toInt64 ∧ up3 C1 70 0 0 o = C2 ∧ K6_stopOf A C x (some (.int r)) A2 C1) ∨ (k = 1 ∧ E6_stopOf A C x "java/lang/IndexOutOfBoundsException" A2 C2) ∨ (k = 2 ∧ E6_stopOf A C x "java/util/NoSuchElementException" A2 C2)
def W_bestPrinter (A : AF) (C : CF) (x : Int32) (k : Nat) (A2 : AF) (C2 : CF) : Prop := (k = 0 ∧ ∃ (r : Int32) (o : Nat) (C1 : CF), lN o = r.toInt64 ∧ up3 C1 70 0 0 o = C2 ∧ K6_bestPrinter A C x (some (.int r)) A2 C1) ∨ (k = 1 ∧ E6_bestPrinter A C x "java/lang/IndexOutOfBoundsException" A2 C2) ∨ (k = 2 ∧ E6_bestPrinter A C x "java/util/NoSuchElementException" A2 C2)
def W_queueLength (A : AF) (C : CF) (x : Int32) (k : Nat) (A2 : AF) (C2 : CF) : Prop := (k = 0 ∧ ∃ (r : Int32) (o : Nat) (C1 : CF), lN o = r.toInt64 ∧ up3 C1 70 0 0 o = C2 ∧ K6_queueLength A C x (some (.int r)) A2 C1) ∨ (k = 1 ∧ E6_queueLength A C x "java/lang/IndexOutOfBoundsException" A2 C2)
def W_queueAt (A : AF) (C : CF) (x : Int32) (y : Int32) (k : Nat) (A2 : AF) (C2 : CF) : Prop := (k = 0 ∧ ∃ (r : Int32) (o : Nat) (C1 : CF), lN o = r.toInt64 ∧ up3 C1 70 0 0 o = C2 ∧ K6_queueAt A C x y (some (.int r)) A2 C1) ∨ (k = 1 ∧ E6_queueAt A C x y "java/lang/IndexOutOfBoundsException" A2 C2) ∨ (k = 2 ∧ E6_queueAt A C x y "java/util/NoSuchElementException" A2 C2)
def W_logJob (A : AF) (C : CF) (x : Int32) (k : Nat) (A2 : AF) (C2 : CF) : Prop := (k = 0 ∧ ∃ (r : Int32) (o : Nat) (C1 : CF), lN o = r.toInt64 ∧ up3 C1 70 0 0 o = C2 ∧ K6_logJob A C x (some (.int r)) A2 C1) ∨ (k = 1 ∧ E6_logJob A C x "java/lang/IndexOutOfBoundsException" A2 C2)
def W_logPrinter (A : AF) (C : CF) (x : Int32) (k : Nat) (A2 : AF) (C2 : CF) : Prop := (k = 0 ∧ ∃ (r : Int32) (o : Nat) (C1 : CF), lN o = r.toInt64 ∧ up3 C1 70 0 0 o = C2 ∧ K6_logPrinter A C x (some (.int r)) A2 C1) ∨ (k = 1 ∧ E6_logPrinter A C x "java/lang/IndexOutOfBoundsException" A2 C2)
def W_logPages (A : AF) (C : CF) (x : Int32) (k : Nat) (A2 : AF) (C2 : CF) : Prop := (k = 0 ∧ ∃ (r : Int32) (o : Nat) (C1 : CF), lN o = r.toInt64 ∧ up3 C1 70 0 0 o = C2 ∧ K6_logPages A C x (some (.int r)) A2 C1) ∨ (k = 1 ∧ E6_logPages A C x "java/lang/IndexOutOfBoundsException" A2 C2)
def W_logSheets (A : AF) (C : CF) (x : Int32) (k : Nat) (A2 : AF) (C2 : CF) : Prop := (k = 0 ∧ ∃ (r : Int32) (o : Nat) (C1 : CF), lN o = r.toInt64 ∧ up3 C1 70 0 0 o = C2 ∧ K6_logSheets A C x (some (.int r)) A2 C1) ∨ (k = 1 ∧ E6_logSheets A C x "java/lang/IndexOutOfBoundsException" A2 C2)
def W_pagesOf (A : AF) (C : CF) (x : Int32) (k : Nat) (A2 : AF) (C2 : CF) : Prop := (k = 0 ∧ ∃ (r : Int32) (o : Nat) (C1 : CF), lN o = r.toInt64 ∧ up3 C1 70 0 0 o = C2 ∧ K6_pagesOf A C x (some (.int r)) A2 C1) ∨ (k = 1 ∧ E6_pagesOf A C x "java/lang/IndexOutOfBoundsException" A2 C2)
def W_pagesByLog (A : AF) (C : CF) (x : Int32) (k : Nat) (A2 : AF) (C2 : CF) : Prop := (k = 0 ∧ ∃ (r : Int32) (o : Nat) (C1 : CF), lN o = r.toInt64 ∧ up3 C1 70 0 0 o = C2 ∧ K6_pagesByLog A C x (some (.int r)) A2 C1) ∨ (k = 1 ∧ E6_pagesByLog A C x "java/lang/IndexOutOfBoundsException" A2 C2)
def W_billOf (A : AF) (C : CF) (x : Int32) (k : Nat) (A2 : AF) (C2 : CF) : Prop := (k = 0 ∧ ∃ (r : Int64) (o : Nat) (C1 : CF), lN o = r ∧ up3 C1 70 0 0 o = C2 ∧ K6_billOf A C x (some (.long r)) A2 C1) ∨ (k = 1 ∧ E6_billOf A C x "java/lang/IndexOutOfBoundsException" A2 C2)
def W_billByLog (A : AF) (C : CF) (x : Int32) (k : Nat) (A2 : AF) (C2 : CF) : Prop := (k = 0 ∧ ∃ (r : Int64) (o : Nat) (C1 : CF), lN o = r ∧ up3 C1 70 0 0 o = C2 ∧ K6_billByLog A C x (some (.long r)) A2 C1) ∨ (k = 1 ∧ E6_billByLog A C x "java/lang/IndexOutOfBoundsException" A2 C2)
def W_meanPages (A : AF) (C : CF)  (k : Nat) (A2 : AF) (C2 : CF) : Prop := (k = 0 ∧ ∃ (r : UInt64) (o : Nat) (C1 : CF), UInt64.ofNat o = r ∧ up3 C1 70 1 0 o = C2 ∧ K6_meanPages A C (some (.double r)) A2 C1) ∨ (k = 1 ∧ E6_meanPages A C "java/lang/ArithmeticException" A2 C2)
def W_colourShare (A : AF) (C : CF)  (k : Nat) (A2 : AF) (C2 : CF) : Prop := (k = 0 ∧ ∃ (r : UInt32) (o : Nat) (C1 : CF), UInt64.ofNat o = FP.f2d r ∧ up3 C1 70 1 0 o = C2 ∧ K6_colourShare A C (some (.float r)) A2 C1) ∨ (k = 1 ∧ E6_colourShare A C "java/lang/ArithmeticException" A2 C2)
def W_writeJob (A : AF) (C : CF) (x : Int32) (k : Nat) (A2 : AF) (C2 : CF) : Prop := (k = 0 ∧ ∃ (r : Int32) (o : Nat) (C1 : CF), lN o = r.toInt64 ∧ up3 C1 70 0 0 o = C2 ∧ K6_writeJob A C x (some (.int r)) A2 C1) ∨ (k = 1 ∧ E6_writeJob A C x "java/lang/IndexOutOfBoundsException" A2 C2)
def W_lineAt (A : AF) (C : CF) (x : Int32) (k : Nat) (A2 : AF) (C2 : CF) : Prop := (k = 0 ∧ ∃ (r : Int32) (o : Nat) (C1 : CF), lN o = r.toInt64 ∧ up3 C1 70 0 0 o = C2 ∧ K6_lineAt A C x (some (.int r)) A2 C1) ∨ (k = 1 ∧ E6_lineAt A C x "java/lang/IndexOutOfBoundsException" A2 C2)
end KDEF
section KSHAPE
theorem v6_addUser {A A2 : AF} {C C2 : CF} {x : Int32} {y : Int32} {v : Option Value} (h : K6_addUser A C x y v A2 C2) : (∃ r : Int32, v = some (.int r)) ∧ St5 A A2 ∧ ∀ kk : Nat, 15 ≤ kk → C2 kk = C kk := by
  unfold K6_addUser at h
  obtain ⟨u1, u2, z3⟩ := h
  obtain ⟨z4, z5, z6, z7, z8, z9, z10, z11, z12, z13⟩ := z3
  obtain ⟨u14, z15⟩ := z11
  refine ⟨⟨_, z13.symm⟩, ?_, ?_⟩
  · rw [← z15]
    exact ⟨⟨rfl, rfl, rfl, rfl⟩, rfl⟩
  · intro kk hk15
    rw [← z12]
    funext i_ f_
    simp only [adO]
    rw [if_neg (by omega), if_neg (by omega)]
theorem e6_addUser {A A2 : AF} {C C2 : CF} {x : Int32} {y : Int32} {E : String} (h : E6_addUser A C x y E A2 C2) : (E = "java/lang/IllegalArgumentException" ∨ E = "java/lang/IllegalStateException") ∧ A = A2 ∧ ∀ kk : Nat, 15 ≤ kk → C2 kk = C kk := by
  unfold E6_addUser at h
  obtain ⟨z1, z2⟩ := h
  rcases z2 with z3 | z4 | z5
  · obtain ⟨z6, z7, z8⟩ := z3
    refine ⟨Or.inl z6, z1, ?_⟩
    intro kk hk15
    rw [← z8]
  · obtain ⟨u9, z10⟩ := z4
    obtain ⟨z11, z12, z13, z14, z15, z16⟩ := z10
    refine ⟨Or.inl z11, z1, ?_⟩
    intro kk hk15
    rw [← z16]
  · obtain ⟨u17, u18, z19⟩ := z5
    obtain ⟨z20, z21, z22, z23, z24, z25, z26, z27, z28⟩ := z19
    refine ⟨Or.inr (z20), z1, ?_⟩
    intro kk hk15
    rw [← z28]
theorem v6_addPrinter {A A2 : AF} {C C2 : CF} {cb : Nat} {x : Int32} {y : Int32} {v : Option Value} (h : K6_addPrinter A C cb x y v A2 C2) : (∃ r : Int32, v = some (.int r)) ∧ St5 A A2 ∧ ∀ kk : Nat, 15 ≤ kk → C2 kk = C kk := by
  unfold K6_addPrinter at h
  obtain ⟨u1, u2, z3⟩ := h
  obtain ⟨z4, z5, z6, z7, z8, z9, z10, z11, z12, z13⟩ := z3
  obtain ⟨u14, u15, z16⟩ := z11
  refine ⟨⟨_, z13.symm⟩, ?_, ?_⟩
  · rw [← z16]
    exact ⟨⟨rfl, rfl, rfl, rfl⟩, rfl⟩
  · intro kk hk15
    rw [← z12]
    funext i_ f_
    simp only [adO]
    rw [if_neg (by omega), if_neg (by omega)]
theorem e6_addPrinter {A A2 : AF} {C C2 : CF} {cb : Nat} {x : Int32} {y : Int32} {E : String} (h : E6_addPrinter A C cb x y E A2 C2) : (E = "java/lang/IllegalArgumentException" ∨ E = "java/lang/IllegalStateException") ∧ A = A2 ∧ ∀ kk : Nat, 15 ≤ kk → C2 kk = C kk := by
  unfold E6_addPrinter at h
  obtain ⟨z1, z2⟩ := h
  rcases z2 with z3 | z4 | z5
  · obtain ⟨z6, z7, z8⟩ := z3
    refine ⟨Or.inl z6, z1, ?_⟩
    intro kk hk15
    rw [← z8]
  · obtain ⟨u9, z10⟩ := z4
    obtain ⟨z11, z12, z13, z14, z15, z16⟩ := z10
    refine ⟨Or.inl z11, z1, ?_⟩
    intro kk hk15
    rw [← z16]
  · obtain ⟨u17, u18, z19⟩ := z5
    obtain ⟨z20, z21, z22, z23, z24, z25, z26, z27, z28⟩ := z19
    refine ⟨Or.inr (z20), z1, ?_⟩
    intro kk hk15
    rw [← z28]
theorem v6_addTray {A A2 : AF} {C C2 : CF} {x : Int32} {q : Nat} {y : Int32} {v : Option Value} (h : K6_addTray A C x q y v A2 C2) : (∃ r : Int32, v = some (.int r)) ∧ St5 A A2 ∧ ∀ kk : Nat, 15 ≤ kk → C2 kk = C kk := by
  unfold K6_addTray at h
  obtain ⟨u1, u2, z3⟩ := h
  obtain ⟨z4, z5, z6, z7, z8, z9, z10, z11, z12, z13⟩ := z3
  obtain ⟨u14, z15⟩ := z11
  refine ⟨⟨_, z13.symm⟩, ?_, ?_⟩
  · rw [← z15]
    exact ⟨⟨rfl, rfl, rfl, rfl⟩, rfl⟩
  · intro kk hk15
    rw [← z12]
    funext i_ f_
    simp only [adT]
    rw [if_neg (by omega), if_neg (by omega)]
theorem e6_addTray {A A2 : AF} {C C2 : CF} {x : Int32} {q : Nat} {y : Int32} {E : String} (h : E6_addTray A C x q y E A2 C2) : (E = "java/lang/IndexOutOfBoundsException" ∨ E = "java/lang/IllegalArgumentException" ∨ E = "java/lang/IllegalStateException") ∧ A = A2 ∧ ∀ kk : Nat, 15 ≤ kk → C2 kk = C kk := by
  unfold E6_addTray at h
  obtain ⟨z1, z2⟩ := h
  rcases z2 with z3 | z4 | z5 | z6
  · obtain ⟨z7, z8, z9⟩ := z3
    refine ⟨Or.inl z7, z1, ?_⟩
    intro kk hk15
    rw [← z9]
  · obtain ⟨u10, z11⟩ := z4
    obtain ⟨z12, z13, z14, z15, z16⟩ := z11
    refine ⟨Or.inr (Or.inl z12), z1, ?_⟩
    intro kk hk15
    rw [← z16]
  · obtain ⟨u17, z18⟩ := z5
    obtain ⟨z19, z20, z21, z22, z23, z24⟩ := z18
    refine ⟨Or.inr (Or.inl z19), z1, ?_⟩
    intro kk hk15
    rw [← z24]
  · obtain ⟨u25, u26, z27⟩ := z6
    obtain ⟨z28, z29, z30, z31, z32, z33, z34, z35, z36⟩ := z27
    refine ⟨Or.inr (Or.inr (z28)), z1, ?_⟩
    intro kk hk15
    rw [← z36]
theorem v6_trayCount {A A2 : AF} {C C2 : CF} {x : Int32} {v : Option Value} (h : K6_trayCount A C x v A2 C2) : (∃ r : Int32, v = some (.int r)) ∧ St5 A A2 ∧ ∀ kk : Nat, 15 ≤ kk → C2 kk = C kk := by
  unfold K6_trayCount at h
  obtain ⟨z1, z2⟩ := h
  obtain ⟨u3, z4⟩ := z2
  obtain ⟨z5, z6, z7, z8⟩ := z4
  refine ⟨⟨_, z8.symm⟩, ?_, ?_⟩
  · rw [← z1]
    exact St5.rf
  · intro kk hk15
    rw [← z7]
theorem e6_trayCount {A A2 : AF} {C C2 : CF} {x : Int32} {E : String} (h : E6_trayCount A C x E A2 C2) : (E = "java/lang/IndexOutOfBoundsException") ∧ A = A2 ∧ ∀ kk : Nat, 15 ≤ kk → C2 kk = C kk := by
  unfold E6_trayCount at h
  obtain ⟨z1, z2⟩ := h
  obtain ⟨z3, z4, z5⟩ := z2
  refine ⟨z3, z1, ?_⟩
  intro kk hk15
  rw [← z5]
theorem v6_load {A A2 : AF} {C C2 : CF} {x : Int32} {y : Int32} {w : Int32} {v : Option Value} (h : K6_load A C x y w v A2 C2) : (∃ r : Int32, v = some (.int r)) ∧ St5 A A2 ∧ ∀ kk : Nat, 15 ≤ kk → C2 kk = C kk := by
  unfold K6_load at h
  obtain ⟨z1, z2⟩ := h
  obtain ⟨u3, u4, u5, z6⟩ := z2
  obtain ⟨z7, z8, z9, z10, z11, z12, z13, z14, z15, z16⟩ := z6
  refine ⟨⟨_, z16.symm⟩, ?_, ?_⟩
  · rw [← z1]
    exact St5.rf
  · intro kk hk15
    rw [← z15]
    rw [up3_k (by omega)]
theorem e6_load {A A2 : AF} {C C2 : CF} {x : Int32} {y : Int32} {w : Int32} {E : String} (h : E6_load A C x y w E A2 C2) : (E = "java/lang/IndexOutOfBoundsException" ∨ E = "java/lang/IllegalArgumentException" ∨ E = "java/lang/IllegalStateException") ∧ A = A2 ∧ ∀ kk : Nat, 15 ≤ kk → C2 kk = C kk := by
  unfold E6_load at h
  obtain ⟨z1, z2⟩ := h
  rcases z2 with z3 | z4 | z5
  · obtain ⟨z6, z7, z8⟩ := z3
    rcases z7 with z9 | z10
    · refine ⟨Or.inl z6, z1, ?_⟩
      intro kk hk15
      rw [← z8]
    · obtain ⟨u11, z12⟩ := z10
      obtain ⟨z13, z14, z15⟩ := z12
      refine ⟨Or.inl z6, z1, ?_⟩
      intro kk hk15
      rw [← z8]
  · obtain ⟨u16, u17, z18⟩ := z4
    obtain ⟨z19, z20, z21, z22, z23, z24, z25⟩ := z18
    refine ⟨Or.inr (Or.inl z19), z1, ?_⟩
    intro kk hk15
    rw [← z25]
  · obtain ⟨u26, u27, u28, z29⟩ := z5
    obtain ⟨z30, z31, z32, z33, z34, z35, z36, z37, z38, z39⟩ := z29
    refine ⟨Or.inr (Or.inr (z30)), z1, ?_⟩
    intro kk hk15
    rw [← z39]
theorem v6_changePaper {A A2 : AF} {C C2 : CF} {x : Int32} {y : Int32} {q : Nat} {v : Option Value} (h : K6_changePaper A C x y q v A2 C2) : (∃ r : Int32, v = some (.int r)) ∧ St5 A A2 ∧ ∀ kk : Nat, 15 ≤ kk → C2 kk = C kk := by
  unfold K6_changePaper at h
  obtain ⟨z1, z2⟩ := h
  obtain ⟨u3, u4, z5⟩ := z2
  obtain ⟨z6, z7, z8, z9, z10, z11, z12, z13⟩ := z5
  refine ⟨⟨_, z13.symm⟩, ?_, ?_⟩
  · rw [← z1]
    exact St5.rf
  · intro kk hk15
    rw [← z12]
    rw [up3_k (by omega)]
theorem e6_changePaper {A A2 : AF} {C C2 : CF} {x : Int32} {y : Int32} {q : Nat} {E : String} (h : E6_changePaper A C x y q E A2 C2) : (E = "java/lang/IndexOutOfBoundsException" ∨ E = "java/lang/IllegalArgumentException" ∨ E = "java/lang/IllegalStateException") ∧ A = A2 ∧ ∀ kk : Nat, 15 ≤ kk → C2 kk = C kk := by
  unfold E6_changePaper at h
  obtain ⟨z1, z2⟩ := h
  rcases z2 with z3 | z4 | z5
  · obtain ⟨z6, z7, z8⟩ := z3
    rcases z7 with z9 | z10
    · refine ⟨Or.inl z6, z1, ?_⟩
      intro kk hk15
      rw [← z8]
    · obtain ⟨u11, z12⟩ := z10
      obtain ⟨z13, z14, z15⟩ := z12
      refine ⟨Or.inl z6, z1, ?_⟩
      intro kk hk15
      rw [← z8]
  · obtain ⟨u16, u17, z18⟩ := z4
    obtain ⟨z19, z20, z21, z22, z23, z24, z25⟩ := z18
    refine ⟨Or.inr (Or.inl z19), z1, ?_⟩
    intro kk hk15
    rw [← z25]
  · obtain ⟨u26, u27, z28⟩ := z5
    obtain ⟨z29, z30, z31, z32, z33, z34, z35, z36⟩ := z28
    refine ⟨Or.inr (Or.inr (z29)), z1, ?_⟩
    intro kk hk15
    rw [← z36]
theorem v6_sheetsIn {A A2 : AF} {C C2 : CF} {x : Int32} {y : Int32} {v : Option Value} (h : K6_sheetsIn A C x y v A2 C2) : (∃ r : Int32, v = some (.int r)) ∧ St5 A A2 ∧ ∀ kk : Nat, 15 ≤ kk → C2 kk = C kk := by
  unfold K6_sheetsIn at h
  obtain ⟨z1, z2⟩ := h
  obtain ⟨u3, u4, z5⟩ := z2
  obtain ⟨z6, z7, z8, z9, z10, z11⟩ := z5
  refine ⟨⟨_, z11.symm⟩, ?_, ?_⟩
  · rw [← z1]
    exact St5.rf
  · intro kk hk15
    rw [← z10]
theorem e6_sheetsIn {A A2 : AF} {C C2 : CF} {x : Int32} {y : Int32} {E : String} (h : E6_sheetsIn A C x y E A2 C2) : (E = "java/lang/IndexOutOfBoundsException") ∧ A = A2 ∧ ∀ kk : Nat, 15 ≤ kk → C2 kk = C kk := by
  unfold E6_sheetsIn at h
  obtain ⟨z1, z2⟩ := h
  obtain ⟨z3, z4, z5⟩ := z2
  rcases z4 with z6 | z7
  · refine ⟨z3, z1, ?_⟩
    intro kk hk15
    rw [← z5]
  · obtain ⟨u8, z9⟩ := z7
    obtain ⟨z10, z11, z12⟩ := z9
    refine ⟨z3, z1, ?_⟩
    intro kk hk15
    rw [← z5]
theorem v6_paperOf {A A2 : AF} {C C2 : CF} {x : Int32} {y : Int32} {v : Option Value} (h : K6_paperOf A C x y v A2 C2) : (∃ r : Int32, v = some (.int r)) ∧ St5 A A2 ∧ ∀ kk : Nat, 15 ≤ kk → C2 kk = C kk := by
  unfold K6_paperOf at h
  obtain ⟨z1, z2⟩ := h
  obtain ⟨u3, u4, z5⟩ := z2
  obtain ⟨z6, z7, z8, z9, z10, z11⟩ := z5
  refine ⟨⟨_, z11.symm⟩, ?_, ?_⟩
  · rw [← z1]
    exact St5.rf
  · intro kk hk15
    rw [← z10]
theorem e6_paperOf {A A2 : AF} {C C2 : CF} {x : Int32} {y : Int32} {E : String} (h : E6_paperOf A C x y E A2 C2) : (E = "java/lang/IndexOutOfBoundsException") ∧ A = A2 ∧ ∀ kk : Nat, 15 ≤ kk → C2 kk = C kk := by
  unfold E6_paperOf at h
  obtain ⟨z1, z2⟩ := h
  obtain ⟨z3, z4, z5⟩ := z2
  rcases z4 with z6 | z7
  · refine ⟨z3, z1, ?_⟩
    intro kk hk15
    rw [← z5]
  · obtain ⟨u8, z9⟩ := z7
    obtain ⟨z10, z11, z12⟩ := z9
    refine ⟨z3, z1, ?_⟩
    intro kk hk15
    rw [← z5]
theorem v6_setToner {A A2 : AF} {C C2 : CF} {x : Int32} {cb : Nat} {y : Int32} {v : Option Value} (h : K6_setToner A C x cb y v A2 C2) : (∃ r : Int32, v = some (.int r)) ∧ St5 A A2 ∧ ∀ kk : Nat, 15 ≤ kk → C2 kk = C kk := by
  unfold K6_setToner at h
  obtain ⟨z1, z2⟩ := h
  rcases z2 with z3 | z4
  · obtain ⟨u5, u6, z7⟩ := z3
    obtain ⟨z8, z9, z10, z11, z12, z13, z14, z15, z16⟩ := z7
    rcases z13 with z17 | z18
    · refine ⟨⟨_, z16.symm⟩, ?_, ?_⟩
      · rw [← z1]
        exact St5.rf
      · intro kk hk15
        rw [← z15]
        rw [up3_k (by omega)]
    · refine ⟨⟨_, z16.symm⟩, ?_, ?_⟩
      · rw [← z1]
        exact St5.rf
      · intro kk hk15
        rw [← z15]
        rw [up3_k (by omega)]
  · obtain ⟨u19, u20, z21⟩ := z4
    obtain ⟨z22, z23, z24, z25, z26, z27, z28, z29, z30⟩ := z21
    rcases z27 with z31 | z32
    · refine ⟨⟨_, z30.symm⟩, ?_, ?_⟩
      · rw [← z1]
        exact St5.rf
      · intro kk hk15
        rw [← z29]
        rw [up3_k (by omega)]
    · refine ⟨⟨_, z30.symm⟩, ?_, ?_⟩
      · rw [← z1]
        exact St5.rf
      · intro kk hk15
        rw [← z29]
        rw [up3_k (by omega)]
theorem e6_setToner {A A2 : AF} {C C2 : CF} {x : Int32} {cb : Nat} {y : Int32} {E : String} (h : E6_setToner A C x cb y E A2 C2) : (E = "java/lang/IndexOutOfBoundsException" ∨ E = "java/lang/IllegalArgumentException" ∨ E = "java/lang/UnsupportedOperationException") ∧ A = A2 ∧ ∀ kk : Nat, 15 ≤ kk → C2 kk = C kk := by
  unfold E6_setToner at h
  obtain ⟨z1, z2⟩ := h
  rcases z2 with z3 | z4 | z5
  · obtain ⟨z6, z7, z8⟩ := z3
    refine ⟨Or.inl z6, z1, ?_⟩
    intro kk hk15
    rw [← z8]
  · obtain ⟨u9, z10⟩ := z4
    obtain ⟨z11, z12, z13, z14, z15⟩ := z10
    refine ⟨Or.inr (Or.inl z11), z1, ?_⟩
    intro kk hk15
    rw [← z15]
  · obtain ⟨u16, u17, z18⟩ := z5
    obtain ⟨z19, z20, z21, z22, z23, z24, z25, z26, z27⟩ := z18
    refine ⟨Or.inr (Or.inr (z19)), z1, ?_⟩
    intro kk hk15
    rw [← z27]
theorem v6_tonerOf {A A2 : AF} {C C2 : CF} {x : Int32} {cb : Nat} {v : Option Value} (h : K6_tonerOf A C x cb v A2 C2) : (∃ r : Int32, v = some (.int r)) ∧ St5 A A2 ∧ ∀ kk : Nat, 15 ≤ kk → C2 kk = C kk := by
  unfold K6_tonerOf at h
  obtain ⟨z1, z2⟩ := h
  obtain ⟨u3, z4⟩ := z2
  obtain ⟨z5, z6, z7, z8, z9⟩ := z4
  rcases z7 with z10 | z11
  · refine ⟨⟨_, z9.symm⟩, ?_, ?_⟩
    · rw [← z1]
      exact St5.rf
    · intro kk hk15
      rw [← z8]
  · refine ⟨⟨_, z9.symm⟩, ?_, ?_⟩
    · rw [← z1]
      exact St5.rf
    · intro kk hk15
      rw [← z8]
theorem e6_tonerOf {A A2 : AF} {C C2 : CF} {x : Int32} {cb : Nat} {E : String} (h : E6_tonerOf A C x cb E A2 C2) : (E = "java/lang/IndexOutOfBoundsException" ∨ E = "java/lang/UnsupportedOperationException") ∧ A = A2 ∧ ∀ kk : Nat, 15 ≤ kk → C2 kk = C kk := by
  unfold E6_tonerOf at h
  obtain ⟨z1, z2⟩ := h
  rcases z2 with z3 | z4
  · obtain ⟨z5, z6, z7⟩ := z3
    refine ⟨Or.inl z5, z1, ?_⟩
    intro kk hk15
    rw [← z7]
  · obtain ⟨u8, z9⟩ := z4
    obtain ⟨z10, z11, z12, z13, z14, z15⟩ := z9
    refine ⟨Or.inr (z10), z1, ?_⟩
    intro kk hk15
    rw [← z15]
theorem v6_setStaples {A A2 : AF} {C C2 : CF} {x : Int32} {y : Int32} {v : Option Value} (h : K6_setStaples A C x y v A2 C2) : (∃ r : Int32, v = some (.int r)) ∧ St5 A A2 ∧ ∀ kk : Nat, 15 ≤ kk → C2 kk = C kk := by
  unfold K6_setStaples at h
  obtain ⟨z1, z2⟩ := h
  obtain ⟨u3, u4, z5⟩ := z2
  obtain ⟨z6, z7, z8, z9, z10, z11, z12⟩ := z5
  refine ⟨⟨_, z12.symm⟩, ?_, ?_⟩
  · rw [← z1]
    exact St5.rf
  · intro kk hk15
    rw [← z11]
    rw [up3_k (by omega)]
theorem e6_setStaples {A A2 : AF} {C C2 : CF} {x : Int32} {y : Int32} {E : String} (h : E6_setStaples A C x y E A2 C2) : (E = "java/lang/IndexOutOfBoundsException" ∨ E = "java/lang/IllegalArgumentException") ∧ A = A2 ∧ ∀ kk : Nat, 15 ≤ kk → C2 kk = C kk := by
  unfold E6_setStaples at h
  obtain ⟨z1, z2⟩ := h
  rcases z2 with z3 | z4
  · obtain ⟨z5, z6, z7⟩ := z3
    refine ⟨Or.inl z5, z1, ?_⟩
    intro kk hk15
    rw [← z7]
  · obtain ⟨u8, z9⟩ := z4
    obtain ⟨z10, z11, z12, z13, z14⟩ := z9
    refine ⟨Or.inr (z10), z1, ?_⟩
    intro kk hk15
    rw [← z14]
theorem v6_staplesIn {A A2 : AF} {C C2 : CF} {x : Int32} {v : Option Value} (h : K6_staplesIn A C x v A2 C2) : (∃ r : Int32, v = some (.int r)) ∧ St5 A A2 ∧ ∀ kk : Nat, 15 ≤ kk → C2 kk = C kk := by
  unfold K6_staplesIn at h
  obtain ⟨z1, z2⟩ := h
  obtain ⟨u3, z4⟩ := z2
  obtain ⟨z5, z6, z7, z8⟩ := z4
  refine ⟨⟨_, z8.symm⟩, ?_, ?_⟩
  · rw [← z1]
    exact St5.rf
  · intro kk hk15
    rw [← z7]
theorem e6_staplesIn {A A2 : AF} {C C2 : CF} {x : Int32} {E : String} (h : E6_staplesIn A C x E A2 C2) : (E = "java/lang/IndexOutOfBoundsException") ∧ A = A2 ∧ ∀ kk : Nat, 15 ≤ kk → C2 kk = C kk := by
  unfold E6_staplesIn at h
  obtain ⟨z1, z2⟩ := h
  obtain ⟨z3, z4, z5⟩ := z2
  refine ⟨z3, z1, ?_⟩
  intro kk hk15
  rw [← z5]
theorem v6_grant {A A2 : AF} {C C2 : CF} {x : Int32} {cb : Nat} {y : Int32} {v : Option Value} (h : K6_grant A C x cb y v A2 C2) : (∃ r : Int32, v = some (.int r)) ∧ St5 A A2 ∧ ∀ kk : Nat, 15 ≤ kk → C2 kk = C kk := by
  unfold K6_grant at h
  obtain ⟨z1, z2⟩ := h
  rcases z2 with z3 | z4
  · obtain ⟨u5, u6, z7⟩ := z3
    obtain ⟨z8, z9, z10, z11, z12, z13, z14, z15, z16⟩ := z7
    refine ⟨⟨_, z16.symm⟩, ?_, ?_⟩
    · rw [← z1]
      exact St5.rf
    · intro kk hk15
      rw [← z15]
      rw [up3_k (by omega)]
  · obtain ⟨u17, u18, z19⟩ := z4
    obtain ⟨z20, z21, z22, z23, z24, z25, z26, z27, z28⟩ := z19
    refine ⟨⟨_, z28.symm⟩, ?_, ?_⟩
    · rw [← z1]
      exact St5.rf
    · intro kk hk15
      rw [← z27]
      rw [up3_k (by omega)]
theorem e6_grant {A A2 : AF} {C C2 : CF} {x : Int32} {cb : Nat} {y : Int32} {E : String} (h : E6_grant A C x cb y E A2 C2) : (E = "java/lang/IndexOutOfBoundsException" ∨ E = "java/lang/IllegalArgumentException" ∨ E = "java/lang/IllegalStateException") ∧ A = A2 ∧ ∀ kk : Nat, 15 ≤ kk → C2 kk = C kk := by
  unfold E6_grant at h
  obtain ⟨z1, z2⟩ := h
  rcases z2 with z3 | z4 | z5
  · obtain ⟨z6, z7, z8⟩ := z3
    refine ⟨Or.inl z6, z1, ?_⟩
    intro kk hk15
    rw [← z8]
  · obtain ⟨u9, z10⟩ := z4
    obtain ⟨z11, z12, z13, z14, z15⟩ := z10
    refine ⟨Or.inr (Or.inl z11), z1, ?_⟩
    intro kk hk15
    rw [← z15]
  · obtain ⟨u16, u17, z18⟩ := z5
    obtain ⟨z19, z20, z21, z22, z23, z24, z25, z26⟩ := z18
    refine ⟨Or.inr (Or.inr (z19)), z1, ?_⟩
    intro kk hk15
    rw [← z26]
theorem v6_quotaOf {A A2 : AF} {C C2 : CF} {x : Int32} {cb : Nat} {v : Option Value} (h : K6_quotaOf A C x cb v A2 C2) : (∃ r : Int32, v = some (.int r)) ∧ St5 A A2 ∧ ∀ kk : Nat, 15 ≤ kk → C2 kk = C kk := by
  unfold K6_quotaOf at h
  obtain ⟨z1, z2⟩ := h
  obtain ⟨u3, z4⟩ := z2
  obtain ⟨z5, z6, z7, z8⟩ := z4
  refine ⟨⟨_, z8.symm⟩, ?_, ?_⟩
  · rw [← z1]
    exact St5.rf
  · intro kk hk15
    rw [← z7]
theorem e6_quotaOf {A A2 : AF} {C C2 : CF} {x : Int32} {cb : Nat} {E : String} (h : E6_quotaOf A C x cb E A2 C2) : (E = "java/lang/IndexOutOfBoundsException") ∧ A = A2 ∧ ∀ kk : Nat, 15 ≤ kk → C2 kk = C kk := by
  unfold E6_quotaOf at h
  obtain ⟨z1, z2⟩ := h
  obtain ⟨z3, z4, z5⟩ := z2
  refine ⟨z3, z1, ?_⟩
  intro kk hk15
  rw [← z5]
theorem v6_setPrices {A A2 : AF} {C C2 : CF} {x : Int32} {y : Int32} {w : Int32} {v : Option Value} (h : K6_setPrices A C x y w v A2 C2) : (∃ r : Int32, v = some (.int r)) ∧ St5 A A2 ∧ ∀ kk : Nat, 15 ≤ kk → C2 kk = C kk := by
  unfold K6_setPrices at h
  obtain ⟨z1, z2⟩ := h
  obtain ⟨u3, u4, u5, z6⟩ := z2
  obtain ⟨z7, z8, z9, z10, z11, z12, z13, z14, z15, z16, z17⟩ := z6
  refine ⟨⟨_, z17.symm⟩, ?_, ?_⟩
  · rw [← z1]
    exact St5.rf
  · intro kk hk15
    rw [← z16]
    rw [up3_k (by omega), up3_k (by omega), up3_k (by omega)]
theorem e6_setPrices {A A2 : AF} {C C2 : CF} {x : Int32} {y : Int32} {w : Int32} {E : String} (h : E6_setPrices A C x y w E A2 C2) : (E = "java/lang/IllegalArgumentException") ∧ A = A2 ∧ ∀ kk : Nat, 15 ≤ kk → C2 kk = C kk := by
  unfold E6_setPrices at h
  obtain ⟨z1, z2⟩ := h
  rcases z2 with z3 | z4 | z5
  · obtain ⟨z6, z7, z8⟩ := z3
    refine ⟨z6, z1, ?_⟩
    intro kk hk15
    rw [← z8]
  · obtain ⟨u9, z10⟩ := z4
    obtain ⟨z11, z12, z13, z14, z15, z16⟩ := z10
    refine ⟨z11, z1, ?_⟩
    intro kk hk15
    rw [← z16]
  · obtain ⟨u17, u18, z19⟩ := z5
    obtain ⟨z20, z21, z22, z23, z24, z25, z26, z27, z28⟩ := z19
    refine ⟨z20, z1, ?_⟩
    intro kk hk15
    rw [← z28]
theorem v6_submit {A A2 : AF} {C C2 : CF} {x : Int32} {y : Int32} {w : Int32} {q : Nat} {cb : Nat} {db : Nat} {v : Option Value} (h : K6_submit A C x y w q cb db v A2 C2) : (∃ r : Int32, v = some (.int r)) ∧ St5 A A2 ∧ ∀ kk : Nat, 15 ≤ kk → C2 kk = C kk := by
  unfold K6_submit at h
  obtain ⟨u1, u2, u3, z4⟩ := h
  obtain ⟨z5, z6, z7, z8, z9, z10, z11, z12, z13, z14, z15, z16, z17⟩ := z4
  obtain ⟨u18, z19⟩ := z15
  refine ⟨⟨_, z17.symm⟩, ?_, ?_⟩
  · rw [← z19]
    exact ⟨⟨rfl, rfl, rfl, rfl⟩, rfl⟩
  · intro kk hk15
    rw [← z16]
    funext i_ f_
    simp only [adO]
    rw [if_neg (by omega), if_neg (by omega)]
theorem e6_submit {A A2 : AF} {C C2 : CF} {x : Int32} {y : Int32} {w : Int32} {q : Nat} {cb : Nat} {db : Nat} {E : String} (h : E6_submit A C x y w q cb db E A2 C2) : (E = "java/lang/IndexOutOfBoundsException" ∨ E = "java/lang/IllegalArgumentException" ∨ E = "java/lang/IllegalStateException") ∧ A = A2 ∧ ∀ kk : Nat, 15 ≤ kk → C2 kk = C kk := by
  unfold E6_submit at h
  obtain ⟨z1, z2⟩ := h
  rcases z2 with z3 | z4 | z5 | z6 | z7
  · obtain ⟨z8, z9, z10⟩ := z3
    refine ⟨Or.inl z8, z1, ?_⟩
    intro kk hk15
    rw [← z10]
  · obtain ⟨u11, z12⟩ := z4
    obtain ⟨z13, z14, z15, z16, z17⟩ := z12
    refine ⟨Or.inr (Or.inl z13), z1, ?_⟩
    intro kk hk15
    rw [← z17]
  · obtain ⟨u18, u19, z20⟩ := z5
    obtain ⟨z21, z22, z23, z24, z25, z26, z27, z28⟩ := z20
    refine ⟨Or.inr (Or.inl z21), z1, ?_⟩
    intro kk hk15
    rw [← z28]
  · obtain ⟨u29, u30, u31, z32⟩ := z6
    obtain ⟨z33, z34, z35, z36, z37, z38, z39, z40, z41, z42, z43⟩ := z32
    refine ⟨Or.inr (Or.inl z33), z1, ?_⟩
    intro kk hk15
    rw [← z43]
  · obtain ⟨u44, u45, u46, z47⟩ := z7
    obtain ⟨z48, z49, z50, z51, z52, z53, z54, z55, z56, z57, z58, z59⟩ := z47
    refine ⟨Or.inr (Or.inr (z48)), z1, ?_⟩
    intro kk hk15
    rw [← z59]
theorem v6_setStapled {A A2 : AF} {C C2 : CF} {x : Int32} {cb : Nat} {v : Option Value} (h : K6_setStapled A C x cb v A2 C2) : (∃ r : Int32, v = some (.int r)) ∧ St5 A A2 ∧ ∀ kk : Nat, 15 ≤ kk → C2 kk = C kk := by
  unfold K6_setStapled at h
  obtain ⟨z1, z2⟩ := h
  obtain ⟨u3, z4⟩ := z2
  obtain ⟨z5, z6, z7, z8⟩ := z4
  refine ⟨⟨_, z8.symm⟩, ?_, ?_⟩
  · rw [← z1]
    exact St5.rf
  · intro kk hk15
    rw [← z7]
    rw [up3_k (by omega)]
theorem e6_setStapled {A A2 : AF} {C C2 : CF} {x : Int32} {cb : Nat} {E : String} (h : E6_setStapled A C x cb E A2 C2) : (E = "java/lang/IndexOutOfBoundsException") ∧ A = A2 ∧ ∀ kk : Nat, 15 ≤ kk → C2 kk = C kk := by
  unfold E6_setStapled at h
  obtain ⟨z1, z2⟩ := h
  obtain ⟨z3, z4, z5⟩ := z2
  refine ⟨z3, z1, ?_⟩
  intro kk hk15
  rw [← z5]
theorem v6_cancel {A A2 : AF} {C C2 : CF} {x : Int32} {v : Option Value} (h : K6_cancel A C x v A2 C2) : (∃ r : Int32, v = some (.int r)) ∧ St5 A A2 ∧ ∀ kk : Nat, 15 ≤ kk → C2 kk = C kk := by
  unfold K6_cancel at h
  obtain ⟨z1, z2⟩ := h
  obtain ⟨u3, z4⟩ := z2
  obtain ⟨z5, z6, z7, z8, z9, z10⟩ := z4
  refine ⟨⟨_, z10.symm⟩, ?_, ?_⟩
  · rw [← z1]
    exact St5.rf
  · intro kk hk15
    rw [← z9]
    rw [up3_k (by omega)]
theorem e6_cancel {A A2 : AF} {C C2 : CF} {x : Int32} {E : String} (h : E6_cancel A C x E A2 C2) : (E = "java/lang/IndexOutOfBoundsException" ∨ E = "java/lang/IllegalStateException") ∧ A = A2 ∧ ∀ kk : Nat, 15 ≤ kk → C2 kk = C kk := by
  unfold E6_cancel at h
  obtain ⟨z1, z2⟩ := h
  rcases z2 with z3 | z4
  · obtain ⟨z5, z6, z7⟩ := z3
    refine ⟨Or.inl z5, z1, ?_⟩
    intro kk hk15
    rw [← z7]
  · obtain ⟨u8, z9⟩ := z4
    obtain ⟨z10, z11, z12, z13, z14⟩ := z9
    refine ⟨Or.inr (z10), z1, ?_⟩
    intro kk hk15
    rw [← z14]
theorem v6_stateOf {A A2 : AF} {C C2 : CF} {x : Int32} {v : Option Value} (h : K6_stateOf A C x v A2 C2) : (∃ r : Int32, v = some (.int r)) ∧ St5 A A2 ∧ ∀ kk : Nat, 15 ≤ kk → C2 kk = C kk := by
  unfold K6_stateOf at h
  obtain ⟨z1, z2⟩ := h
  rcases z2 with z3 | z4 | z5 | z6
  · obtain ⟨u7, z8⟩ := z3
    obtain ⟨z9, z10, z11, z12, z13, z14, z15⟩ := z8
    refine ⟨⟨_, z15.symm⟩, ?_, ?_⟩
    · rw [← z1]
      exact St5.rf
    · intro kk hk15
      rw [← z14]
  · obtain ⟨u16, z17⟩ := z4
    obtain ⟨z18, z19, z20, z21, z22, z23, z24⟩ := z17
    refine ⟨⟨_, z24.symm⟩, ?_, ?_⟩
    · rw [← z1]
      exact St5.rf
    · intro kk hk15
      rw [← z23]
  · obtain ⟨u25, z26⟩ := z5
    obtain ⟨z27, z28, z29, z30, z31, z32⟩ := z26
    refine ⟨⟨_, z32.symm⟩, ?_, ?_⟩
    · rw [← z1]
      exact St5.rf
    · intro kk hk15
      rw [← z31]
  · obtain ⟨u33, z34⟩ := z6
    obtain ⟨z35, z36, z37, z38, z39⟩ := z34
    refine ⟨⟨_, z39.symm⟩, ?_, ?_⟩
    · rw [← z1]
      exact St5.rf
    · intro kk hk15
      rw [← z38]
theorem e6_stateOf {A A2 : AF} {C C2 : CF} {x : Int32} {E : String} (h : E6_stateOf A C x E A2 C2) : (E = "java/lang/IndexOutOfBoundsException") ∧ A = A2 ∧ ∀ kk : Nat, 15 ≤ kk → C2 kk = C kk := by
  unfold E6_stateOf at h
  obtain ⟨z1, z2⟩ := h
  obtain ⟨z3, z4, z5⟩ := z2
  refine ⟨z3, z1, ?_⟩
  intro kk hk15
  rw [← z5]
theorem v6_pagesLeft {A A2 : AF} {C C2 : CF} {x : Int32} {v : Option Value} (h : K6_pagesLeft A C x v A2 C2) : (∃ r : Int32, v = some (.int r)) ∧ St5 A A2 ∧ ∀ kk : Nat, 15 ≤ kk → C2 kk = C kk := by
  unfold K6_pagesLeft at h
  obtain ⟨z1, z2⟩ := h
  obtain ⟨u3, z4⟩ := z2
  obtain ⟨z5, z6, z7, z8⟩ := z4
  refine ⟨⟨_, z8.symm⟩, ?_, ?_⟩
  · rw [← z1]
    exact St5.rf
  · intro kk hk15
    rw [← z7]
theorem e6_pagesLeft {A A2 : AF} {C C2 : CF} {x : Int32} {E : String} (h : E6_pagesLeft A C x E A2 C2) : (E = "java/lang/IndexOutOfBoundsException") ∧ A = A2 ∧ ∀ kk : Nat, 15 ≤ kk → C2 kk = C kk := by
  unfold E6_pagesLeft at h
  obtain ⟨z1, z2⟩ := h
  obtain ⟨z3, z4, z5⟩ := z2
  refine ⟨z3, z1, ?_⟩
  intro kk hk15
  rw [← z5]
theorem v6_sheetsOut {A A2 : AF} {C C2 : CF} {x : Int32} {v : Option Value} (h : K6_sheetsOut A C x v A2 C2) : (∃ r : Int32, v = some (.int r)) ∧ St5 A A2 ∧ ∀ kk : Nat, 15 ≤ kk → C2 kk = C kk := by
  unfold K6_sheetsOut at h
  obtain ⟨z1, z2⟩ := h
  obtain ⟨u3, z4⟩ := z2
  obtain ⟨z5, z6, z7, z8⟩ := z4
  refine ⟨⟨_, z8.symm⟩, ?_, ?_⟩
  · rw [← z1]
    exact St5.rf
  · intro kk hk15
    rw [← z7]
theorem e6_sheetsOut {A A2 : AF} {C C2 : CF} {x : Int32} {E : String} (h : E6_sheetsOut A C x E A2 C2) : (E = "java/lang/IndexOutOfBoundsException") ∧ A = A2 ∧ ∀ kk : Nat, 15 ≤ kk → C2 kk = C kk := by
  unfold E6_sheetsOut at h
  obtain ⟨z1, z2⟩ := h
  obtain ⟨z3, z4, z5⟩ := z2
  refine ⟨z3, z1, ?_⟩
  intro kk hk15
  rw [← z5]
theorem v6_stapledCopies {A A2 : AF} {C C2 : CF} {x : Int32} {v : Option Value} (h : K6_stapledCopies A C x v A2 C2) : (∃ r : Int32, v = some (.int r)) ∧ St5 A A2 ∧ ∀ kk : Nat, 15 ≤ kk → C2 kk = C kk := by
  unfold K6_stapledCopies at h
  obtain ⟨z1, z2⟩ := h
  obtain ⟨u3, z4⟩ := z2
  obtain ⟨z5, z6, z7, z8⟩ := z4
  refine ⟨⟨_, z8.symm⟩, ?_, ?_⟩
  · rw [← z1]
    exact St5.rf
  · intro kk hk15
    rw [← z7]
theorem e6_stapledCopies {A A2 : AF} {C C2 : CF} {x : Int32} {E : String} (h : E6_stapledCopies A C x E A2 C2) : (E = "java/lang/IndexOutOfBoundsException") ∧ A = A2 ∧ ∀ kk : Nat, 15 ≤ kk → C2 kk = C kk := by
  unfold E6_stapledCopies at h
  obtain ⟨z1, z2⟩ := h
  obtain ⟨z3, z4, z5⟩ := z2
  refine ⟨z3, z1, ?_⟩
  intro kk hk15
  rw [← z5]
theorem v6_reasonFor {A A2 : AF} {C C2 : CF} {x : Int32} {y : Int32} {v : Option Value} (h : K6_reasonFor A C x y v A2 C2) : (∃ r : Int32, v = some (.int r)) ∧ St5 A A2 ∧ ∀ kk : Nat, 15 ≤ kk → C2 kk = C kk := by
  unfold K6_reasonFor at h
  obtain ⟨z1, z2⟩ := h
  obtain ⟨u3, u4, z5⟩ := z2
  obtain ⟨z6, z7, z8, z9, z10, z11⟩ := z5
  refine ⟨⟨_, z11.symm⟩, ?_, ?_⟩
  · rw [← z1]
    exact St5.rf
  · intro kk hk15
    obtain ⟨w_, hw_⟩ := z10
    rw [← hw_]
    funext i_ f_
    simp only [P6]
    rw [if_neg (by omega)]
theorem e6_reasonFor {A A2 : AF} {C C2 : CF} {x : Int32} {y : Int32} {E : String} (h : E6_reasonFor A C x y E A2 C2) : (E = "java/lang/IndexOutOfBoundsException") ∧ A = A2 ∧ ∀ kk : Nat, 15 ≤ kk → C2 kk = C kk := by
  unfold E6_reasonFor at h
  obtain ⟨z1, z2⟩ := h
  rcases z2 with z3 | z4
  · obtain ⟨z5, z6, z7⟩ := z3
    refine ⟨z5, z1, ?_⟩
    intro kk hk15
    rw [← z7]
  · obtain ⟨u8, z9⟩ := z4
    obtain ⟨z10, z11, z12, z13, z14⟩ := z9
    refine ⟨z10, z1, ?_⟩
    intro kk hk15
    rw [← z14]
theorem v6_wouldPrint {A A2 : AF} {C C2 : CF} {x : Int32} {y : Int32} {v : Option Value} (h : K6_wouldPrint A C x y v A2 C2) : (∃ r : Int32, v = some (.int r)) ∧ St5 A A2 ∧ ∀ kk : Nat, 15 ≤ kk → C2 kk = C kk := by
  unfold K6_wouldPrint at h
  obtain ⟨z1, z2⟩ := h
  obtain ⟨u3, u4, z5⟩ := z2
  obtain ⟨z6, z7, z8, z9, z10, z11⟩ := z5
  refine ⟨⟨_, z11.symm⟩, ?_, ?_⟩
  · rw [← z1]
    exact St5.rf
  · intro kk hk15
    obtain ⟨w_, hw_⟩ := z10
    rw [← hw_]
    funext i_ f_
    simp only [P6]
    rw [if_neg (by omega)]
theorem e6_wouldPrint {A A2 : AF} {C C2 : CF} {x : Int32} {y : Int32} {E : String} (h : E6_wouldPrint A C x y E A2 C2) : (E = "java/lang/IndexOutOfBoundsException") ∧ A = A2 ∧ ∀ kk : Nat, 15 ≤ kk → C2 kk = C kk := by
  unfold E6_wouldPrint at h
  obtain ⟨z1, z2⟩ := h
  rcases z2 with z3 | z4
  · obtain ⟨z5, z6, z7⟩ := z3
    refine ⟨z5, z1, ?_⟩
    intro kk hk15
    rw [← z7]
  · obtain ⟨u8, z9⟩ := z4
    obtain ⟨z10, z11, z12, z13, z14⟩ := z9
    refine ⟨z10, z1, ?_⟩
    intro kk hk15
    rw [← z14]
theorem v6_release {A A2 : AF} {C C2 : CF} {x : Int32} {y : Int32} {v : Option Value} (h : K6_release A C x y v A2 C2) : (∃ r : Int32, v = some (.int r)) ∧ St4 A A2 ∧ ∀ kk : Nat, 15 ≤ kk → C2 kk = C kk := by
  unfold K6_release at h
  obtain ⟨u1, u2, z3⟩ := h
  obtain ⟨z4, z5⟩ := z3
  obtain ⟨u6, u7, z8⟩ := z5
  obtain ⟨z9, z10, z11, z12, z13, z14, z15, z16⟩ := z8
  refine ⟨⟨_, z16.symm⟩, ?_, ?_⟩
  · rw [← z4]
    exact ⟨rfl, rfl, rfl, rfl⟩
  · intro kk hk15
    rw [← z15]
    exact K_o _ _ _ _ _ _ (by omega) (by omega) (by omega) (by omega) (by omega) (by omega) (by omega) (by omega)
theorem e6_release {A A2 : AF} {C C2 : CF} {x : Int32} {y : Int32} {E : String} (h : E6_release A C x y E A2 C2) : (E = "java/lang/IndexOutOfBoundsException" ∨ E = "java/lang/UnsupportedOperationException") ∧ A = A2 ∧ ∀ kk : Nat, 15 ≤ kk → C2 kk = C kk := by
  unfold E6_release at h
  obtain ⟨z1, z2⟩ := h
  rcases z2 with z3 | z4 | z5
  · obtain ⟨z6, z7, z8⟩ := z3
    refine ⟨Or.inl z6, z1, ?_⟩
    intro kk hk15
    rw [← z8]
  · obtain ⟨u9, z10⟩ := z4
    obtain ⟨z11, z12, z13, z14, z15⟩ := z10
    refine ⟨Or.inl z11, z1, ?_⟩
    intro kk hk15
    rw [← z15]
  · obtain ⟨u16, u17, z18⟩ := z5
    obtain ⟨z19, z20, z21, z22, z23, z24, z25⟩ := z18
    refine ⟨Or.inr (z19), z1, ?_⟩
    intro kk hk15
    rw [← z25]
    funext i_ f_
    simp only [PlC]
    rw [if_neg (by omega)]
theorem v6_releaseAll {A A2 : AF} {C C2 : CF} {Z : Zp} {x : Int32} {y : Int32} {v : Option Value} (h : K6_releaseAll A C Z x y v A2 C2) : (∃ r : Int32, v = some (.int r)) ∧ St4 A A2 ∧ ∀ kk : Nat, 15 ≤ kk → C2 kk = C kk := by
  unfold K6_releaseAll at h
  obtain ⟨u1, u2, z3⟩ := h
  obtain ⟨z4, z5⟩ := z3
  obtain ⟨u6, u7, z8⟩ := z5
  obtain ⟨z9, z10, z11, z12, z13, z14, z15, z16, z17⟩ := z8
  refine ⟨⟨_, z17.symm⟩, ?_, ?_⟩
  · rw [← z4]
    exact ⟨rfl, rfl, rfl, rfl⟩
  · intro kk hk15
    exact z16 kk hk15
theorem e6_releaseAll {A A2 : AF} {C C2 : CF} {Z : Zp} {x : Int32} {y : Int32} {E : String} (h : E6_releaseAll A C Z x y E A2 C2) : (E = "java/lang/IndexOutOfBoundsException") ∧ A = A2 ∧ ∀ kk : Nat, 15 ≤ kk → C2 kk = C kk := by
  unfold E6_releaseAll at h
  obtain ⟨z1, z2⟩ := h
  rcases z2 with z3 | z4
  · obtain ⟨z5, z6, z7⟩ := z3
    refine ⟨z5, z1, ?_⟩
    intro kk hk15
    rw [← z7]
  · obtain ⟨u8, z9⟩ := z4
    obtain ⟨z10, z11, z12, z13, z14⟩ := z9
    refine ⟨z10, z1, ?_⟩
    intro kk hk15
    rw [← z14]
theorem v6_stopOf {A A2 : AF} {C C2 : CF} {x : Int32} {v : Option Value} (h : K6_stopOf A C x v A2 C2) : (∃ r : Int32, v = some (.int r)) ∧ St5 A A2 ∧ ∀ kk : Nat, 15 ≤ kk → C2 kk = C kk := by
  unfold K6_stopOf at h
  obtain ⟨z1, z2⟩ := h
  obtain ⟨u3, z4⟩ := z2
  obtain ⟨z5, z6, z7, z8, z9⟩ := z4
  refine ⟨⟨_, z9.symm⟩, ?_, ?_⟩
  · rw [← z1]
    exact St5.rf
  · intro kk hk15
    rw [← z8]
theorem e6_stopOf {A A2 : AF} {C C2 : CF} {x : Int32} {E : String} (h : E6_stopOf A C x E A2 C2) : (E = "java/lang/IndexOutOfBoundsException" ∨ E = "java/util/NoSuchElementException") ∧ A = A2 ∧ ∀ kk : Nat, 15 ≤ kk → C2 kk = C kk := by
  unfold E6_stopOf at h
  obtain ⟨z1, z2⟩ := h
  rcases z2 with z3 | z4
  · obtain ⟨z5, z6, z7⟩ := z3
    refine ⟨Or.inl z5, z1, ?_⟩
    intro kk hk15
    rw [← z7]
  · obtain ⟨u8, z9⟩ := z4
    obtain ⟨z10, z11, z12, z13, z14⟩ := z9
    refine ⟨Or.inr (z10), z1, ?_⟩
    intro kk hk15
    rw [← z14]
theorem v6_bestPrinter {A A2 : AF} {C C2 : CF} {x : Int32} {v : Option Value} (h : K6_bestPrinter A C x v A2 C2) : (∃ r : Int32, v = some (.int r)) ∧ St5 A A2 ∧ ∀ kk : Nat, 15 ≤ kk → C2 kk = C kk := by
  unfold K6_bestPrinter at h
  obtain ⟨z1, z2⟩ := h
  obtain ⟨u3, z4⟩ := z2
  obtain ⟨z5, z6, z7, z8, z9⟩ := z4
  refine ⟨⟨_, z9.symm⟩, ?_, ?_⟩
  · rw [← z1]
    exact St5.rf
  · intro kk hk15
    obtain ⟨w_, hw_⟩ := z8
    rw [← hw_]
    funext i_ f_
    simp only [P6]
    rw [if_neg (by omega)]
theorem e6_bestPrinter {A A2 : AF} {C C2 : CF} {x : Int32} {E : String} (h : E6_bestPrinter A C x E A2 C2) : (E = "java/lang/IndexOutOfBoundsException" ∨ E = "java/util/NoSuchElementException") ∧ A = A2 ∧ ∀ kk : Nat, 15 ≤ kk → C2 kk = C kk := by
  unfold E6_bestPrinter at h
  obtain ⟨z1, z2⟩ := h
  rcases z2 with z3 | z4
  · obtain ⟨z5, z6, z7⟩ := z3
    refine ⟨Or.inl z5, z1, ?_⟩
    intro kk hk15
    rw [← z7]
  · obtain ⟨u8, z9⟩ := z4
    obtain ⟨z10, z11, z12, z13, z14⟩ := z9
    refine ⟨Or.inr (z10), z1, ?_⟩
    intro kk hk15
    obtain ⟨w_, hw_⟩ := z14
    rw [← hw_]
    funext i_ f_
    simp only [P6]
    rw [if_neg (by omega)]
theorem v6_queueLength {A A2 : AF} {C C2 : CF} {x : Int32} {v : Option Value} (h : K6_queueLength A C x v A2 C2) : (∃ r : Int32, v = some (.int r)) ∧ St5 A A2 ∧ ∀ kk : Nat, 15 ≤ kk → C2 kk = C kk := by
  unfold K6_queueLength at h
  obtain ⟨z1, z2⟩ := h
  obtain ⟨u3, z4⟩ := z2
  obtain ⟨z5, z6, z7, z8⟩ := z4
  refine ⟨⟨_, z8.symm⟩, ?_, ?_⟩
  · rw [← z1]
    exact St5.rf
  · intro kk hk15
    obtain ⟨w_, hw_⟩ := z7
    rw [← hw_]
    funext i_ f_
    simp only [P6]
    rw [if_neg (by omega)]
theorem e6_queueLength {A A2 : AF} {C C2 : CF} {x : Int32} {E : String} (h : E6_queueLength A C x E A2 C2) : (E = "java/lang/IndexOutOfBoundsException") ∧ A = A2 ∧ ∀ kk : Nat, 15 ≤ kk → C2 kk = C kk := by
  unfold E6_queueLength at h
  obtain ⟨z1, z2⟩ := h
  obtain ⟨z3, z4, z5⟩ := z2
  refine ⟨z3, z1, ?_⟩
  intro kk hk15
  rw [← z5]
theorem v6_queueAt {A A2 : AF} {C C2 : CF} {x : Int32} {y : Int32} {v : Option Value} (h : K6_queueAt A C x y v A2 C2) : (∃ r : Int32, v = some (.int r)) ∧ St5 A A2 ∧ ∀ kk : Nat, 15 ≤ kk → C2 kk = C kk := by
  unfold K6_queueAt at h
  obtain ⟨z1, z2⟩ := h
  rcases z2 with z3 | z4
  · obtain ⟨u5, u6, z7⟩ := z3
    obtain ⟨z8, z9, z10, z11, z12, z13, z14⟩ := z7
    refine ⟨⟨_, z14.symm⟩, ?_, ?_⟩
    · rw [← z1]
      exact St5.rf
    · intro kk hk15
      obtain ⟨w_, hw_⟩ := z13
      rw [← hw_]
      funext i_ f_
      simp only [P6]
      rw [if_neg (by omega)]
  · obtain ⟨u15, u16, z17⟩ := z4
    obtain ⟨z18, z19, z20, z21, z22, z23, z24⟩ := z17
    refine ⟨⟨_, z24.symm⟩, ?_, ?_⟩
    · rw [← z1]
      exact St5.rf
    · intro kk hk15
      obtain ⟨w_, hw_⟩ := z23
      rw [← hw_]
      funext i_ f_
      simp only [P6]
      rw [if_neg (by omega)]
theorem e6_queueAt {A A2 : AF} {C C2 : CF} {x : Int32} {y : Int32} {E : String} (h : E6_queueAt A C x y E A2 C2) : (E = "java/lang/IndexOutOfBoundsException" ∨ E = "java/util/NoSuchElementException") ∧ A = A2 ∧ ∀ kk : Nat, 15 ≤ kk → C2 kk = C kk := by
  unfold E6_queueAt at h
  obtain ⟨z1, z2⟩ := h
  rcases z2 with z3 | z4
  · obtain ⟨z5, z6, z7⟩ := z3
    refine ⟨Or.inl z5, z1, ?_⟩
    intro kk hk15
    rw [← z7]
  · obtain ⟨u8, z9⟩ := z4
    obtain ⟨z10, z11, z12, z13, z14⟩ := z9
    refine ⟨Or.inr (z10), z1, ?_⟩
    intro kk hk15
    obtain ⟨w_, hw_⟩ := z14
    rw [← hw_]
    funext i_ f_
    simp only [P6]
    rw [if_neg (by omega)]
theorem v6_logSize {A A2 : AF} {C C2 : CF}  {v : Option Value} (h : K6_logSize A C v A2 C2) : (∃ r : Int32, v = some (.int r)) ∧ St5 A A2 ∧ ∀ kk : Nat, 15 ≤ kk → C2 kk = C kk := by
  unfold K6_logSize at h
  obtain ⟨z1, z2⟩ := h
  obtain ⟨z3, z4⟩ := z2
  refine ⟨⟨_, z4.symm⟩, ?_, ?_⟩
  · rw [← z1]
    exact St5.rf
  · intro kk hk15
    rw [← z3]
theorem v6_logJob {A A2 : AF} {C C2 : CF} {x : Int32} {v : Option Value} (h : K6_logJob A C x v A2 C2) : (∃ r : Int32, v = some (.int r)) ∧ St5 A A2 ∧ ∀ kk : Nat, 15 ≤ kk → C2 kk = C kk := by
  unfold K6_logJob at h
  obtain ⟨z1, z2⟩ := h
  obtain ⟨u3, z4⟩ := z2
  obtain ⟨z5, z6, z7, z8⟩ := z4
  refine ⟨⟨_, z8.symm⟩, ?_, ?_⟩
  · rw [← z1]
    exact St5.rf
  · intro kk hk15
    rw [← z7]
theorem e6_logJob {A A2 : AF} {C C2 : CF} {x : Int32} {E : String} (h : E6_logJob A C x E A2 C2) : (E = "java/lang/IndexOutOfBoundsException") ∧ A = A2 ∧ ∀ kk : Nat, 15 ≤ kk → C2 kk = C kk := by
  unfold E6_logJob at h
  obtain ⟨z1, z2⟩ := h
  obtain ⟨z3, z4, z5⟩ := z2
  refine ⟨z3, z1, ?_⟩
  intro kk hk15
  rw [← z5]
theorem v6_logPrinter {A A2 : AF} {C C2 : CF} {x : Int32} {v : Option Value} (h : K6_logPrinter A C x v A2 C2) : (∃ r : Int32, v = some (.int r)) ∧ St5 A A2 ∧ ∀ kk : Nat, 15 ≤ kk → C2 kk = C kk := by
  unfold K6_logPrinter at h
  obtain ⟨z1, z2⟩ := h
  obtain ⟨u3, z4⟩ := z2
  obtain ⟨z5, z6, z7, z8⟩ := z4
  refine ⟨⟨_, z8.symm⟩, ?_, ?_⟩
  · rw [← z1]
    exact St5.rf
  · intro kk hk15
    rw [← z7]
theorem e6_logPrinter {A A2 : AF} {C C2 : CF} {x : Int32} {E : String} (h : E6_logPrinter A C x E A2 C2) : (E = "java/lang/IndexOutOfBoundsException") ∧ A = A2 ∧ ∀ kk : Nat, 15 ≤ kk → C2 kk = C kk := by
  unfold E6_logPrinter at h
  obtain ⟨z1, z2⟩ := h
  obtain ⟨z3, z4, z5⟩ := z2
  refine ⟨z3, z1, ?_⟩
  intro kk hk15
  rw [← z5]
theorem v6_logPages {A A2 : AF} {C C2 : CF} {x : Int32} {v : Option Value} (h : K6_logPages A C x v A2 C2) : (∃ r : Int32, v = some (.int r)) ∧ St5 A A2 ∧ ∀ kk : Nat, 15 ≤ kk → C2 kk = C kk := by
  unfold K6_logPages at h
  obtain ⟨z1, z2⟩ := h
  obtain ⟨u3, z4⟩ := z2
  obtain ⟨z5, z6, z7, z8⟩ := z4
  refine ⟨⟨_, z8.symm⟩, ?_, ?_⟩
  · rw [← z1]
    exact St5.rf
  · intro kk hk15
    rw [← z7]
theorem e6_logPages {A A2 : AF} {C C2 : CF} {x : Int32} {E : String} (h : E6_logPages A C x E A2 C2) : (E = "java/lang/IndexOutOfBoundsException") ∧ A = A2 ∧ ∀ kk : Nat, 15 ≤ kk → C2 kk = C kk := by
  unfold E6_logPages at h
  obtain ⟨z1, z2⟩ := h
  obtain ⟨z3, z4, z5⟩ := z2
  refine ⟨z3, z1, ?_⟩
  intro kk hk15
  rw [← z5]
theorem v6_logSheets {A A2 : AF} {C C2 : CF} {x : Int32} {v : Option Value} (h : K6_logSheets A C x v A2 C2) : (∃ r : Int32, v = some (.int r)) ∧ St5 A A2 ∧ ∀ kk : Nat, 15 ≤ kk → C2 kk = C kk := by
  unfold K6_logSheets at h
  obtain ⟨z1, z2⟩ := h
  obtain ⟨u3, z4⟩ := z2
  obtain ⟨z5, z6, z7, z8⟩ := z4
  refine ⟨⟨_, z8.symm⟩, ?_, ?_⟩
  · rw [← z1]
    exact St5.rf
  · intro kk hk15
    rw [← z7]
theorem e6_logSheets {A A2 : AF} {C C2 : CF} {x : Int32} {E : String} (h : E6_logSheets A C x E A2 C2) : (E = "java/lang/IndexOutOfBoundsException") ∧ A = A2 ∧ ∀ kk : Nat, 15 ≤ kk → C2 kk = C kk := by
  unfold E6_logSheets at h
  obtain ⟨z1, z2⟩ := h
  obtain ⟨z3, z4, z5⟩ := z2
  refine ⟨z3, z1, ?_⟩
  intro kk hk15
  rw [← z5]
theorem v6_pagesOf {A A2 : AF} {C C2 : CF} {x : Int32} {v : Option Value} (h : K6_pagesOf A C x v A2 C2) : (∃ r : Int32, v = some (.int r)) ∧ St5 A A2 ∧ ∀ kk : Nat, 15 ≤ kk → C2 kk = C kk := by
  unfold K6_pagesOf at h
  obtain ⟨z1, z2⟩ := h
  obtain ⟨u3, z4⟩ := z2
  obtain ⟨z5, z6, z7, z8⟩ := z4
  refine ⟨⟨_, z8.symm⟩, ?_, ?_⟩
  · rw [← z1]
    exact St5.rf
  · intro kk hk15
    rw [← z7]
theorem e6_pagesOf {A A2 : AF} {C C2 : CF} {x : Int32} {E : String} (h : E6_pagesOf A C x E A2 C2) : (E = "java/lang/IndexOutOfBoundsException") ∧ A = A2 ∧ ∀ kk : Nat, 15 ≤ kk → C2 kk = C kk := by
  unfold E6_pagesOf at h
  obtain ⟨z1, z2⟩ := h
  obtain ⟨z3, z4, z5⟩ := z2
  refine ⟨z3, z1, ?_⟩
  intro kk hk15
  rw [← z5]
theorem v6_pagesByLog {A A2 : AF} {C C2 : CF} {x : Int32} {v : Option Value} (h : K6_pagesByLog A C x v A2 C2) : (∃ r : Int32, v = some (.int r)) ∧ St5 A A2 ∧ ∀ kk : Nat, 15 ≤ kk → C2 kk = C kk := by
  unfold K6_pagesByLog at h
  obtain ⟨z1, z2⟩ := h
  obtain ⟨u3, z4⟩ := z2
  obtain ⟨z5, z6, z7, z8⟩ := z4
  refine ⟨⟨_, z8.symm⟩, ?_, ?_⟩
  · rw [← z1]
    exact St5.rf
  · intro kk hk15
    rw [← z7]
theorem e6_pagesByLog {A A2 : AF} {C C2 : CF} {x : Int32} {E : String} (h : E6_pagesByLog A C x E A2 C2) : (E = "java/lang/IndexOutOfBoundsException") ∧ A = A2 ∧ ∀ kk : Nat, 15 ≤ kk → C2 kk = C kk := by
  unfold E6_pagesByLog at h
  obtain ⟨z1, z2⟩ := h
  obtain ⟨z3, z4, z5⟩ := z2
  refine ⟨z3, z1, ?_⟩
  intro kk hk15
  rw [← z5]
theorem v6_billOf {A A2 : AF} {C C2 : CF} {x : Int32} {v : Option Value} (h : K6_billOf A C x v A2 C2) : (∃ r : Int64, v = some (.long r)) ∧ St5 A A2 ∧ ∀ kk : Nat, 15 ≤ kk → C2 kk = C kk := by
  unfold K6_billOf at h
  obtain ⟨z1, z2⟩ := h
  obtain ⟨u3, z4⟩ := z2
  obtain ⟨z5, z6, z7, z8⟩ := z4
  refine ⟨⟨_, z8.symm⟩, ?_, ?_⟩
  · rw [← z1]
    exact St5.rf
  · intro kk hk15
    rw [← z7]
theorem e6_billOf {A A2 : AF} {C C2 : CF} {x : Int32} {E : String} (h : E6_billOf A C x E A2 C2) : (E = "java/lang/IndexOutOfBoundsException") ∧ A = A2 ∧ ∀ kk : Nat, 15 ≤ kk → C2 kk = C kk := by
  unfold E6_billOf at h
  obtain ⟨z1, z2⟩ := h
  obtain ⟨z3, z4, z5⟩ := z2
  refine ⟨z3, z1, ?_⟩
  intro kk hk15
  rw [← z5]
theorem v6_billByLog {A A2 : AF} {C C2 : CF} {x : Int32} {v : Option Value} (h : K6_billByLog A C x v A2 C2) : (∃ r : Int64, v = some (.long r)) ∧ St5 A A2 ∧ ∀ kk : Nat, 15 ≤ kk → C2 kk = C kk := by
  unfold K6_billByLog at h
  obtain ⟨z1, z2⟩ := h
  obtain ⟨u3, z4⟩ := z2
  obtain ⟨z5, z6, z7, z8⟩ := z4
  refine ⟨⟨_, z8.symm⟩, ?_, ?_⟩
  · rw [← z1]
    exact St5.rf
  · intro kk hk15
    rw [← z7]
theorem e6_billByLog {A A2 : AF} {C C2 : CF} {x : Int32} {E : String} (h : E6_billByLog A C x E A2 C2) : (E = "java/lang/IndexOutOfBoundsException") ∧ A = A2 ∧ ∀ kk : Nat, 15 ≤ kk → C2 kk = C kk := by
  unfold E6_billByLog at h
  obtain ⟨z1, z2⟩ := h
  obtain ⟨z3, z4, z5⟩ := z2
  refine ⟨z3, z1, ?_⟩
  intro kk hk15
  rw [← z5]
theorem v6_meanPages {A A2 : AF} {C C2 : CF}  {v : Option Value} (h : K6_meanPages A C v A2 C2) : (∃ r : UInt64, v = some (.double r)) ∧ St5 A A2 ∧ ∀ kk : Nat, 15 ≤ kk → C2 kk = C kk := by
  unfold K6_meanPages at h
  obtain ⟨z1, z2⟩ := h
  obtain ⟨z3, z4, z5⟩ := z2
  refine ⟨⟨_, z5.symm⟩, ?_, ?_⟩
  · rw [← z1]
    exact St5.rf
  · intro kk hk15
    rw [← z4]
theorem e6_meanPages {A A2 : AF} {C C2 : CF}  {E : String} (h : E6_meanPages A C E A2 C2) : (E = "java/lang/ArithmeticException") ∧ A = A2 ∧ ∀ kk : Nat, 15 ≤ kk → C2 kk = C kk := by
  unfold E6_meanPages at h
  obtain ⟨z1, z2⟩ := h
  obtain ⟨z3, z4, z5⟩ := z2
  refine ⟨z3, z1, ?_⟩
  intro kk hk15
  rw [← z5]
theorem v6_colourShare {A A2 : AF} {C C2 : CF}  {v : Option Value} (h : K6_colourShare A C v A2 C2) : (∃ r : UInt32, v = some (.float r)) ∧ St5 A A2 ∧ ∀ kk : Nat, 15 ≤ kk → C2 kk = C kk := by
  unfold K6_colourShare at h
  obtain ⟨z1, z2⟩ := h
  obtain ⟨z3, z4, z5⟩ := z2
  refine ⟨⟨_, z5.symm⟩, ?_, ?_⟩
  · rw [← z1]
    exact St5.rf
  · intro kk hk15
    rw [← z4]
theorem e6_colourShare {A A2 : AF} {C C2 : CF}  {E : String} (h : E6_colourShare A C E A2 C2) : (E = "java/lang/ArithmeticException") ∧ A = A2 ∧ ∀ kk : Nat, 15 ≤ kk → C2 kk = C kk := by
  unfold E6_colourShare at h
  obtain ⟨z1, z2⟩ := h
  obtain ⟨z3, z4, z5⟩ := z2
  refine ⟨z3, z1, ?_⟩
  intro kk hk15
  rw [← z5]
theorem v6_isConsistent {A A2 : AF} {C C2 : CF}  {v : Option Value} (h : K6_isConsistent A C v A2 C2) : (∃ r : Int32, v = some (.int r)) ∧ St5 A A2 ∧ ∀ kk : Nat, 15 ≤ kk → C2 kk = C kk := by
  unfold K6_isConsistent at h
  obtain ⟨z1, z2⟩ := h
  obtain ⟨z3, z4⟩ := z2
  refine ⟨⟨_, z4.symm⟩, ?_, ?_⟩
  · rw [← z1]
    exact St5.rf
  · intro kk hk15
    rw [← z3]
theorem v6_writeJob {A A2 : AF} {C C2 : CF} {x : Int32} {v : Option Value} (h : K6_writeJob A C x v A2 C2) : (∃ r : Int32, v = some (.int r)) ∧ St5 A A2 ∧ ∀ kk : Nat, 15 ≤ kk → C2 kk = C kk := by
  unfold K6_writeJob at h
  obtain ⟨u1, z2⟩ := h
  obtain ⟨z3, z4, z5⟩ := z2
  obtain ⟨u6, u7, u8, u9, z10⟩ := z5
  obtain ⟨z11, z12, z13, z14, z15, z16, z17, z18⟩ := z10
  refine ⟨⟨_, z18.symm⟩, ?_, ?_⟩
  · rw [← z11]
    exact ⟨⟨rfl, rfl, rfl, rfl⟩, rfl⟩
  · intro kk hk15
    rw [← z12]
    funext i_ f_
    simp only [lnC]
    rw [if_neg (by omega), if_neg (by omega), if_neg (by omega), if_neg (by omega)]
theorem e6_writeJob {A A2 : AF} {C C2 : CF} {x : Int32} {E : String} (h : E6_writeJob A C x E A2 C2) : (E = "java/lang/IndexOutOfBoundsException") ∧ A = A2 ∧ ∀ kk : Nat, 15 ≤ kk → C2 kk = C kk := by
  unfold E6_writeJob at h
  obtain ⟨z1, z2⟩ := h
  obtain ⟨z3, z4, z5⟩ := z2
  refine ⟨z3, z1, ?_⟩
  intro kk hk15
  rw [← z5]
theorem v6_lineAt {A A2 : AF} {C C2 : CF} {x : Int32} {v : Option Value} (h : K6_lineAt A C x v A2 C2) : (∃ r : Int32, v = some (.int r)) ∧ St5 A A2 ∧ ∀ kk : Nat, 15 ≤ kk → C2 kk = C kk := by
  unfold K6_lineAt at h
  obtain ⟨z1, z2⟩ := h
  obtain ⟨u3, z4⟩ := z2
  obtain ⟨z5, z6, z7, z8⟩ := z4
  refine ⟨⟨_, z8.symm⟩, ?_, ?_⟩
  · rw [← z1]
    exact St5.rf
  · intro kk hk15
    rw [← z7]
theorem e6_lineAt {A A2 : AF} {C C2 : CF} {x : Int32} {E : String} (h : E6_lineAt A C x E A2 C2) : (E = "java/lang/IndexOutOfBoundsException") ∧ A = A2 ∧ ∀ kk : Nat, 15 ≤ kk → C2 kk = C kk := by
  unfold E6_lineAt at h
  obtain ⟨z1, z2⟩ := h
  rcases z2 with z3 | z4
  · obtain ⟨z5, z6, z7⟩ := z3
    refine ⟨z5, z1, ?_⟩
    intro kk hk15
    rw [← z7]
  · obtain ⟨z8, z9, z10⟩ := z4
    refine ⟨z8, z1, ?_⟩
    intro kk hk15
    rw [← z10]
end KSHAPE
section KW
theorem w_addUser {A A2 : AF} {C C2 : CF} {x : Int32} {y : Int32} {k : Nat} (h : W_addUser A C x y k A2 C2) : (∀ kk : Nat, 15 ≤ kk → kk ≠ 70 → C2 kk = C kk) ∧ St5 A A2 ∧ k ≤ 3 := by
  unfold W_addUser at h
  rcases h with ⟨h1, r, o, C1, h2, h3, h4⟩ | ⟨h1, h4⟩ | ⟨h1, h4⟩
  · obtain ⟨-, g2, g3⟩ := v6_addUser h4
    refine ⟨fun kk a b => ?_, g2, by omega⟩
    rw [← h3, up3_k b]
    exact g3 kk a
  · obtain ⟨-, g2, g3⟩ := e6_addUser h4
    refine ⟨fun kk a _ => g3 kk a, by rw [← g2]; exact St5.rf, by omega⟩
  · obtain ⟨-, g2, g3⟩ := e6_addUser h4
    refine ⟨fun kk a _ => g3 kk a, by rw [← g2]; exact St5.rf, by omega⟩
theorem w_addPrinter {A A2 : AF} {C C2 : CF} {cb : Nat} {x : Int32} {y : Int32} {k : Nat} (h : W_addPrinter A C cb x y k A2 C2) : (∀ kk : Nat, 15 ≤ kk → kk ≠ 70 → C2 kk = C kk) ∧ St5 A A2 ∧ k ≤ 3 := by
  unfold W_addPrinter at h
  rcases h with ⟨h1, r, o, C1, h2, h3, h4⟩ | ⟨h1, h4⟩ | ⟨h1, h4⟩
  · obtain ⟨-, g2, g3⟩ := v6_addPrinter h4
    refine ⟨fun kk a b => ?_, g2, by omega⟩
    rw [← h3, up3_k b]
    exact g3 kk a
  · obtain ⟨-, g2, g3⟩ := e6_addPrinter h4
    refine ⟨fun kk a _ => g3 kk a, by rw [← g2]; exact St5.rf, by omega⟩
  · obtain ⟨-, g2, g3⟩ := e6_addPrinter h4
    refine ⟨fun kk a _ => g3 kk a, by rw [← g2]; exact St5.rf, by omega⟩
theorem w_addTray {A A2 : AF} {C C2 : CF} {x : Int32} {q : Nat} {y : Int32} {k : Nat} (h : W_addTray A C x q y k A2 C2) : (∀ kk : Nat, 15 ≤ kk → kk ≠ 70 → C2 kk = C kk) ∧ St5 A A2 ∧ k ≤ 3 := by
  unfold W_addTray at h
  rcases h with ⟨h1, r, o, C1, h2, h3, h4⟩ | ⟨h1, h4⟩ | ⟨h1, h4⟩ | ⟨h1, h4⟩
  · obtain ⟨-, g2, g3⟩ := v6_addTray h4
    refine ⟨fun kk a b => ?_, g2, by omega⟩
    rw [← h3, up3_k b]
    exact g3 kk a
  · obtain ⟨-, g2, g3⟩ := e6_addTray h4
    refine ⟨fun kk a _ => g3 kk a, by rw [← g2]; exact St5.rf, by omega⟩
  · obtain ⟨-, g2, g3⟩ := e6_addTray h4
    refine ⟨fun kk a _ => g3 kk a, by rw [← g2]; exact St5.rf, by omega⟩
  · obtain ⟨-, g2, g3⟩ := e6_addTray h4
    refine ⟨fun kk a _ => g3 kk a, by rw [← g2]; exact St5.rf, by omega⟩
theorem w_trayCount {A A2 : AF} {C C2 : CF} {x : Int32} {k : Nat} (h : W_trayCount A C x k A2 C2) : (∀ kk : Nat, 15 ≤ kk → kk ≠ 70 → C2 kk = C kk) ∧ St5 A A2 ∧ k ≤ 3 := by
  unfold W_trayCount at h
  rcases h with ⟨h1, r, o, C1, h2, h3, h4⟩ | ⟨h1, h4⟩
  · obtain ⟨-, g2, g3⟩ := v6_trayCount h4
    refine ⟨fun kk a b => ?_, g2, by omega⟩
    rw [← h3, up3_k b]
    exact g3 kk a
  · obtain ⟨-, g2, g3⟩ := e6_trayCount h4
    refine ⟨fun kk a _ => g3 kk a, by rw [← g2]; exact St5.rf, by omega⟩
theorem w_load {A A2 : AF} {C C2 : CF} {x : Int32} {y : Int32} {w : Int32} {k : Nat} (h : W_load A C x y w k A2 C2) : (∀ kk : Nat, 15 ≤ kk → kk ≠ 70 → C2 kk = C kk) ∧ St5 A A2 ∧ k ≤ 3 := by
  unfold W_load at h
  rcases h with ⟨h1, r, o, C1, h2, h3, h4⟩ | ⟨h1, h4⟩ | ⟨h1, h4⟩ | ⟨h1, h4⟩
  · obtain ⟨-, g2, g3⟩ := v6_load h4
    refine ⟨fun kk a b => ?_, g2, by omega⟩
    rw [← h3, up3_k b]
    exact g3 kk a
  · obtain ⟨-, g2, g3⟩ := e6_load h4
    refine ⟨fun kk a _ => g3 kk a, by rw [← g2]; exact St5.rf, by omega⟩
  · obtain ⟨-, g2, g3⟩ := e6_load h4
    refine ⟨fun kk a _ => g3 kk a, by rw [← g2]; exact St5.rf, by omega⟩
  · obtain ⟨-, g2, g3⟩ := e6_load h4
    refine ⟨fun kk a _ => g3 kk a, by rw [← g2]; exact St5.rf, by omega⟩
theorem w_changePaper {A A2 : AF} {C C2 : CF} {x : Int32} {y : Int32} {q : Nat} {k : Nat} (h : W_changePaper A C x y q k A2 C2) : (∀ kk : Nat, 15 ≤ kk → kk ≠ 70 → C2 kk = C kk) ∧ St5 A A2 ∧ k ≤ 3 := by
  unfold W_changePaper at h
  rcases h with ⟨h1, r, o, C1, h2, h3, h4⟩ | ⟨h1, h4⟩ | ⟨h1, h4⟩ | ⟨h1, h4⟩
  · obtain ⟨-, g2, g3⟩ := v6_changePaper h4
    refine ⟨fun kk a b => ?_, g2, by omega⟩
    rw [← h3, up3_k b]
    exact g3 kk a
  · obtain ⟨-, g2, g3⟩ := e6_changePaper h4
    refine ⟨fun kk a _ => g3 kk a, by rw [← g2]; exact St5.rf, by omega⟩
  · obtain ⟨-, g2, g3⟩ := e6_changePaper h4
    refine ⟨fun kk a _ => g3 kk a, by rw [← g2]; exact St5.rf, by omega⟩
  · obtain ⟨-, g2, g3⟩ := e6_changePaper h4
    refine ⟨fun kk a _ => g3 kk a, by rw [← g2]; exact St5.rf, by omega⟩
theorem w_sheetsIn {A A2 : AF} {C C2 : CF} {x : Int32} {y : Int32} {k : Nat} (h : W_sheetsIn A C x y k A2 C2) : (∀ kk : Nat, 15 ≤ kk → kk ≠ 70 → C2 kk = C kk) ∧ St5 A A2 ∧ k ≤ 3 := by
  unfold W_sheetsIn at h
  rcases h with ⟨h1, r, o, C1, h2, h3, h4⟩ | ⟨h1, h4⟩
  · obtain ⟨-, g2, g3⟩ := v6_sheetsIn h4
    refine ⟨fun kk a b => ?_, g2, by omega⟩
    rw [← h3, up3_k b]
    exact g3 kk a
  · obtain ⟨-, g2, g3⟩ := e6_sheetsIn h4
    refine ⟨fun kk a _ => g3 kk a, by rw [← g2]; exact St5.rf, by omega⟩
theorem w_paperOf {A A2 : AF} {C C2 : CF} {x : Int32} {y : Int32} {k : Nat} (h : W_paperOf A C x y k A2 C2) : (∀ kk : Nat, 15 ≤ kk → kk ≠ 70 → C2 kk = C kk) ∧ St5 A A2 ∧ k ≤ 3 := by
  unfold W_paperOf at h
  rcases h with ⟨h1, r, o, C1, h2, h3, h4⟩ | ⟨h1, h4⟩
  · obtain ⟨-, g2, g3⟩ := v6_paperOf h4
    refine ⟨fun kk a b => ?_, g2, by omega⟩
    rw [← h3, up3_k b]
    exact g3 kk a
  · obtain ⟨-, g2, g3⟩ := e6_paperOf h4
    refine ⟨fun kk a _ => g3 kk a, by rw [← g2]; exact St5.rf, by omega⟩
theorem w_setToner {A A2 : AF} {C C2 : CF} {x : Int32} {cb : Nat} {y : Int32} {k : Nat} (h : W_setToner A C x cb y k A2 C2) : (∀ kk : Nat, 15 ≤ kk → kk ≠ 70 → C2 kk = C kk) ∧ St5 A A2 ∧ k ≤ 3 := by
  unfold W_setToner at h
  rcases h with ⟨h1, r, o, C1, h2, h3, h4⟩ | ⟨h1, h4⟩ | ⟨h1, h4⟩ | ⟨h1, h4⟩
  · obtain ⟨-, g2, g3⟩ := v6_setToner h4
    refine ⟨fun kk a b => ?_, g2, by omega⟩
    rw [← h3, up3_k b]
    exact g3 kk a
  · obtain ⟨-, g2, g3⟩ := e6_setToner h4
    refine ⟨fun kk a _ => g3 kk a, by rw [← g2]; exact St5.rf, by omega⟩
  · obtain ⟨-, g2, g3⟩ := e6_setToner h4
    refine ⟨fun kk a _ => g3 kk a, by rw [← g2]; exact St5.rf, by omega⟩
  · obtain ⟨-, g2, g3⟩ := e6_setToner h4
    refine ⟨fun kk a _ => g3 kk a, by rw [← g2]; exact St5.rf, by omega⟩
theorem w_tonerOf {A A2 : AF} {C C2 : CF} {x : Int32} {cb : Nat} {k : Nat} (h : W_tonerOf A C x cb k A2 C2) : (∀ kk : Nat, 15 ≤ kk → kk ≠ 70 → C2 kk = C kk) ∧ St5 A A2 ∧ k ≤ 3 := by
  unfold W_tonerOf at h
  rcases h with ⟨h1, r, o, C1, h2, h3, h4⟩ | ⟨h1, h4⟩ | ⟨h1, h4⟩
  · obtain ⟨-, g2, g3⟩ := v6_tonerOf h4
    refine ⟨fun kk a b => ?_, g2, by omega⟩
    rw [← h3, up3_k b]
    exact g3 kk a
  · obtain ⟨-, g2, g3⟩ := e6_tonerOf h4
    refine ⟨fun kk a _ => g3 kk a, by rw [← g2]; exact St5.rf, by omega⟩
  · obtain ⟨-, g2, g3⟩ := e6_tonerOf h4
    refine ⟨fun kk a _ => g3 kk a, by rw [← g2]; exact St5.rf, by omega⟩
theorem w_setStaples {A A2 : AF} {C C2 : CF} {x : Int32} {y : Int32} {k : Nat} (h : W_setStaples A C x y k A2 C2) : (∀ kk : Nat, 15 ≤ kk → kk ≠ 70 → C2 kk = C kk) ∧ St5 A A2 ∧ k ≤ 3 := by
  unfold W_setStaples at h
  rcases h with ⟨h1, r, o, C1, h2, h3, h4⟩ | ⟨h1, h4⟩ | ⟨h1, h4⟩
  · obtain ⟨-, g2, g3⟩ := v6_setStaples h4
    refine ⟨fun kk a b => ?_, g2, by omega⟩
    rw [← h3, up3_k b]
    exact g3 kk a
  · obtain ⟨-, g2, g3⟩ := e6_setStaples h4
    refine ⟨fun kk a _ => g3 kk a, by rw [← g2]; exact St5.rf, by omega⟩
  · obtain ⟨-, g2, g3⟩ := e6_setStaples h4
    refine ⟨fun kk a _ => g3 kk a, by rw [← g2]; exact St5.rf, by omega⟩
theorem w_staplesIn {A A2 : AF} {C C2 : CF} {x : Int32} {k : Nat} (h : W_staplesIn A C x k A2 C2) : (∀ kk : Nat, 15 ≤ kk → kk ≠ 70 → C2 kk = C kk) ∧ St5 A A2 ∧ k ≤ 3 := by
  unfold W_staplesIn at h
  rcases h with ⟨h1, r, o, C1, h2, h3, h4⟩ | ⟨h1, h4⟩
  · obtain ⟨-, g2, g3⟩ := v6_staplesIn h4
    refine ⟨fun kk a b => ?_, g2, by omega⟩
    rw [← h3, up3_k b]
    exact g3 kk a
  · obtain ⟨-, g2, g3⟩ := e6_staplesIn h4
    refine ⟨fun kk a _ => g3 kk a, by rw [← g2]; exact St5.rf, by omega⟩
theorem w_grant {A A2 : AF} {C C2 : CF} {x : Int32} {cb : Nat} {y : Int32} {k : Nat} (h : W_grant A C x cb y k A2 C2) : (∀ kk : Nat, 15 ≤ kk → kk ≠ 70 → C2 kk = C kk) ∧ St5 A A2 ∧ k ≤ 3 := by
  unfold W_grant at h
  rcases h with ⟨h1, r, o, C1, h2, h3, h4⟩ | ⟨h1, h4⟩ | ⟨h1, h4⟩ | ⟨h1, h4⟩
  · obtain ⟨-, g2, g3⟩ := v6_grant h4
    refine ⟨fun kk a b => ?_, g2, by omega⟩
    rw [← h3, up3_k b]
    exact g3 kk a
  · obtain ⟨-, g2, g3⟩ := e6_grant h4
    refine ⟨fun kk a _ => g3 kk a, by rw [← g2]; exact St5.rf, by omega⟩
  · obtain ⟨-, g2, g3⟩ := e6_grant h4
    refine ⟨fun kk a _ => g3 kk a, by rw [← g2]; exact St5.rf, by omega⟩
  · obtain ⟨-, g2, g3⟩ := e6_grant h4
    refine ⟨fun kk a _ => g3 kk a, by rw [← g2]; exact St5.rf, by omega⟩
theorem w_quotaOf {A A2 : AF} {C C2 : CF} {x : Int32} {cb : Nat} {k : Nat} (h : W_quotaOf A C x cb k A2 C2) : (∀ kk : Nat, 15 ≤ kk → kk ≠ 70 → C2 kk = C kk) ∧ St5 A A2 ∧ k ≤ 3 := by
  unfold W_quotaOf at h
  rcases h with ⟨h1, r, o, C1, h2, h3, h4⟩ | ⟨h1, h4⟩
  · obtain ⟨-, g2, g3⟩ := v6_quotaOf h4
    refine ⟨fun kk a b => ?_, g2, by omega⟩
    rw [← h3, up3_k b]
    exact g3 kk a
  · obtain ⟨-, g2, g3⟩ := e6_quotaOf h4
    refine ⟨fun kk a _ => g3 kk a, by rw [← g2]; exact St5.rf, by omega⟩
theorem w_setPrices {A A2 : AF} {C C2 : CF} {x : Int32} {y : Int32} {w : Int32} {k : Nat} (h : W_setPrices A C x y w k A2 C2) : (∀ kk : Nat, 15 ≤ kk → kk ≠ 70 → C2 kk = C kk) ∧ St5 A A2 ∧ k ≤ 3 := by
  unfold W_setPrices at h
  rcases h with ⟨h1, r, o, C1, h2, h3, h4⟩ | ⟨h1, h4⟩
  · obtain ⟨-, g2, g3⟩ := v6_setPrices h4
    refine ⟨fun kk a b => ?_, g2, by omega⟩
    rw [← h3, up3_k b]
    exact g3 kk a
  · obtain ⟨-, g2, g3⟩ := e6_setPrices h4
    refine ⟨fun kk a _ => g3 kk a, by rw [← g2]; exact St5.rf, by omega⟩
theorem w_submit {A A2 : AF} {C C2 : CF} {x : Int32} {y : Int32} {w : Int32} {q : Nat} {cb : Nat} {db : Nat} {k : Nat} (h : W_submit A C x y w q cb db k A2 C2) : (∀ kk : Nat, 15 ≤ kk → kk ≠ 70 → C2 kk = C kk) ∧ St5 A A2 ∧ k ≤ 3 := by
  unfold W_submit at h
  rcases h with ⟨h1, r, o, C1, h2, h3, h4⟩ | ⟨h1, h4⟩ | ⟨h1, h4⟩ | ⟨h1, h4⟩
  · obtain ⟨-, g2, g3⟩ := v6_submit h4
    refine ⟨fun kk a b => ?_, g2, by omega⟩
    rw [← h3, up3_k b]
    exact g3 kk a
  · obtain ⟨-, g2, g3⟩ := e6_submit h4
    refine ⟨fun kk a _ => g3 kk a, by rw [← g2]; exact St5.rf, by omega⟩
  · obtain ⟨-, g2, g3⟩ := e6_submit h4
    refine ⟨fun kk a _ => g3 kk a, by rw [← g2]; exact St5.rf, by omega⟩
  · obtain ⟨-, g2, g3⟩ := e6_submit h4
    refine ⟨fun kk a _ => g3 kk a, by rw [← g2]; exact St5.rf, by omega⟩
theorem w_setStapled {A A2 : AF} {C C2 : CF} {x : Int32} {cb : Nat} {k : Nat} (h : W_setStapled A C x cb k A2 C2) : (∀ kk : Nat, 15 ≤ kk → kk ≠ 70 → C2 kk = C kk) ∧ St5 A A2 ∧ k ≤ 3 := by
  unfold W_setStapled at h
  rcases h with ⟨h1, r, o, C1, h2, h3, h4⟩ | ⟨h1, h4⟩
  · obtain ⟨-, g2, g3⟩ := v6_setStapled h4
    refine ⟨fun kk a b => ?_, g2, by omega⟩
    rw [← h3, up3_k b]
    exact g3 kk a
  · obtain ⟨-, g2, g3⟩ := e6_setStapled h4
    refine ⟨fun kk a _ => g3 kk a, by rw [← g2]; exact St5.rf, by omega⟩
theorem w_cancel {A A2 : AF} {C C2 : CF} {x : Int32} {k : Nat} (h : W_cancel A C x k A2 C2) : (∀ kk : Nat, 15 ≤ kk → kk ≠ 70 → C2 kk = C kk) ∧ St5 A A2 ∧ k ≤ 3 := by
  unfold W_cancel at h
  rcases h with ⟨h1, r, o, C1, h2, h3, h4⟩ | ⟨h1, h4⟩ | ⟨h1, h4⟩
  · obtain ⟨-, g2, g3⟩ := v6_cancel h4
    refine ⟨fun kk a b => ?_, g2, by omega⟩
    rw [← h3, up3_k b]
    exact g3 kk a
  · obtain ⟨-, g2, g3⟩ := e6_cancel h4
    refine ⟨fun kk a _ => g3 kk a, by rw [← g2]; exact St5.rf, by omega⟩
  · obtain ⟨-, g2, g3⟩ := e6_cancel h4
    refine ⟨fun kk a _ => g3 kk a, by rw [← g2]; exact St5.rf, by omega⟩
theorem w_stateOf {A A2 : AF} {C C2 : CF} {x : Int32} {k : Nat} (h : W_stateOf A C x k A2 C2) : (∀ kk : Nat, 15 ≤ kk → kk ≠ 70 → C2 kk = C kk) ∧ St5 A A2 ∧ k ≤ 3 := by
  unfold W_stateOf at h
  rcases h with ⟨h1, r, o, C1, h2, h3, h4⟩ | ⟨h1, h4⟩
  · obtain ⟨-, g2, g3⟩ := v6_stateOf h4
    refine ⟨fun kk a b => ?_, g2, by omega⟩
    rw [← h3, up3_k b]
    exact g3 kk a
  · obtain ⟨-, g2, g3⟩ := e6_stateOf h4
    refine ⟨fun kk a _ => g3 kk a, by rw [← g2]; exact St5.rf, by omega⟩
theorem w_pagesLeft {A A2 : AF} {C C2 : CF} {x : Int32} {k : Nat} (h : W_pagesLeft A C x k A2 C2) : (∀ kk : Nat, 15 ≤ kk → kk ≠ 70 → C2 kk = C kk) ∧ St5 A A2 ∧ k ≤ 3 := by
  unfold W_pagesLeft at h
  rcases h with ⟨h1, r, o, C1, h2, h3, h4⟩ | ⟨h1, h4⟩
  · obtain ⟨-, g2, g3⟩ := v6_pagesLeft h4
    refine ⟨fun kk a b => ?_, g2, by omega⟩
    rw [← h3, up3_k b]
    exact g3 kk a
  · obtain ⟨-, g2, g3⟩ := e6_pagesLeft h4
    refine ⟨fun kk a _ => g3 kk a, by rw [← g2]; exact St5.rf, by omega⟩
theorem w_sheetsOut {A A2 : AF} {C C2 : CF} {x : Int32} {k : Nat} (h : W_sheetsOut A C x k A2 C2) : (∀ kk : Nat, 15 ≤ kk → kk ≠ 70 → C2 kk = C kk) ∧ St5 A A2 ∧ k ≤ 3 := by
  unfold W_sheetsOut at h
  rcases h with ⟨h1, r, o, C1, h2, h3, h4⟩ | ⟨h1, h4⟩
  · obtain ⟨-, g2, g3⟩ := v6_sheetsOut h4
    refine ⟨fun kk a b => ?_, g2, by omega⟩
    rw [← h3, up3_k b]
    exact g3 kk a
  · obtain ⟨-, g2, g3⟩ := e6_sheetsOut h4
    refine ⟨fun kk a _ => g3 kk a, by rw [← g2]; exact St5.rf, by omega⟩
theorem w_stapledCopies {A A2 : AF} {C C2 : CF} {x : Int32} {k : Nat} (h : W_stapledCopies A C x k A2 C2) : (∀ kk : Nat, 15 ≤ kk → kk ≠ 70 → C2 kk = C kk) ∧ St5 A A2 ∧ k ≤ 3 := by
  unfold W_stapledCopies at h
  rcases h with ⟨h1, r, o, C1, h2, h3, h4⟩ | ⟨h1, h4⟩
  · obtain ⟨-, g2, g3⟩ := v6_stapledCopies h4
    refine ⟨fun kk a b => ?_, g2, by omega⟩
    rw [← h3, up3_k b]
    exact g3 kk a
  · obtain ⟨-, g2, g3⟩ := e6_stapledCopies h4
    refine ⟨fun kk a _ => g3 kk a, by rw [← g2]; exact St5.rf, by omega⟩
theorem w_reasonFor {A A2 : AF} {C C2 : CF} {x : Int32} {y : Int32} {k : Nat} (h : W_reasonFor A C x y k A2 C2) : (∀ kk : Nat, 15 ≤ kk → kk ≠ 70 → C2 kk = C kk) ∧ St5 A A2 ∧ k ≤ 3 := by
  unfold W_reasonFor at h
  rcases h with ⟨h1, r, o, C1, h2, h3, h4⟩ | ⟨h1, h4⟩
  · obtain ⟨-, g2, g3⟩ := v6_reasonFor h4
    refine ⟨fun kk a b => ?_, g2, by omega⟩
    rw [← h3, up3_k b]
    exact g3 kk a
  · obtain ⟨-, g2, g3⟩ := e6_reasonFor h4
    refine ⟨fun kk a _ => g3 kk a, by rw [← g2]; exact St5.rf, by omega⟩
theorem w_wouldPrint {A A2 : AF} {C C2 : CF} {x : Int32} {y : Int32} {k : Nat} (h : W_wouldPrint A C x y k A2 C2) : (∀ kk : Nat, 15 ≤ kk → kk ≠ 70 → C2 kk = C kk) ∧ St5 A A2 ∧ k ≤ 3 := by
  unfold W_wouldPrint at h
  rcases h with ⟨h1, r, o, C1, h2, h3, h4⟩ | ⟨h1, h4⟩
  · obtain ⟨-, g2, g3⟩ := v6_wouldPrint h4
    refine ⟨fun kk a b => ?_, g2, by omega⟩
    rw [← h3, up3_k b]
    exact g3 kk a
  · obtain ⟨-, g2, g3⟩ := e6_wouldPrint h4
    refine ⟨fun kk a _ => g3 kk a, by rw [← g2]; exact St5.rf, by omega⟩
theorem w_release {A A2 : AF} {C C2 : CF} {x : Int32} {y : Int32} {k : Nat} (h : W_release A C x y k A2 C2) : (∀ kk : Nat, 15 ≤ kk → kk ≠ 70 → C2 kk = C kk) ∧ St4 A A2 ∧ k ≤ 3 := by
  unfold W_release at h
  rcases h with ⟨h1, r, o, C1, h2, h3, h4⟩ | ⟨h1, h4⟩ | ⟨h1, h4⟩
  · obtain ⟨-, g2, g3⟩ := v6_release h4
    refine ⟨fun kk a b => ?_, g2, by omega⟩
    rw [← h3, up3_k b]
    exact g3 kk a
  · obtain ⟨-, g2, g3⟩ := e6_release h4
    refine ⟨fun kk a _ => g3 kk a, by rw [← g2]; exact St4.rf, by omega⟩
  · obtain ⟨-, g2, g3⟩ := e6_release h4
    refine ⟨fun kk a _ => g3 kk a, by rw [← g2]; exact St4.rf, by omega⟩
theorem w_releaseAll {A A2 : AF} {C C2 : CF} {Z : Zp} {x : Int32} {y : Int32} {k : Nat} (h : W_releaseAll A C Z x y k A2 C2) : (∀ kk : Nat, 15 ≤ kk → kk ≠ 70 → C2 kk = C kk) ∧ St4 A A2 ∧ k ≤ 3 := by
  unfold W_releaseAll at h
  rcases h with ⟨h1, r, o, C1, h2, h3, h4⟩ | ⟨h1, h4⟩
  · obtain ⟨-, g2, g3⟩ := v6_releaseAll h4
    refine ⟨fun kk a b => ?_, g2, by omega⟩
    rw [← h3, up3_k b]
    exact g3 kk a
  · obtain ⟨-, g2, g3⟩ := e6_releaseAll h4
    refine ⟨fun kk a _ => g3 kk a, by rw [← g2]; exact St4.rf, by omega⟩
theorem w_stopOf {A A2 : AF} {C C2 : CF} {x : Int32} {k : Nat} (h : W_stopOf A C x k A2 C2) : (∀ kk : Nat, 15 ≤ kk → kk ≠ 70 → C2 kk = C kk) ∧ St5 A A2 ∧ k ≤ 3 := by
  unfold W_stopOf at h
  rcases h with ⟨h1, r, o, C1, h2, h3, h4⟩ | ⟨h1, h4⟩ | ⟨h1, h4⟩
  · obtain ⟨-, g2, g3⟩ := v6_stopOf h4
    refine ⟨fun kk a b => ?_, g2, by omega⟩
    rw [← h3, up3_k b]
    exact g3 kk a
  · obtain ⟨-, g2, g3⟩ := e6_stopOf h4
    refine ⟨fun kk a _ => g3 kk a, by rw [← g2]; exact St5.rf, by omega⟩
  · obtain ⟨-, g2, g3⟩ := e6_stopOf h4
    refine ⟨fun kk a _ => g3 kk a, by rw [← g2]; exact St5.rf, by omega⟩
theorem w_bestPrinter {A A2 : AF} {C C2 : CF} {x : Int32} {k : Nat} (h : W_bestPrinter A C x k A2 C2) : (∀ kk : Nat, 15 ≤ kk → kk ≠ 70 → C2 kk = C kk) ∧ St5 A A2 ∧ k ≤ 3 := by
  unfold W_bestPrinter at h
  rcases h with ⟨h1, r, o, C1, h2, h3, h4⟩ | ⟨h1, h4⟩ | ⟨h1, h4⟩
  · obtain ⟨-, g2, g3⟩ := v6_bestPrinter h4
    refine ⟨fun kk a b => ?_, g2, by omega⟩
    rw [← h3, up3_k b]
    exact g3 kk a
  · obtain ⟨-, g2, g3⟩ := e6_bestPrinter h4
    refine ⟨fun kk a _ => g3 kk a, by rw [← g2]; exact St5.rf, by omega⟩
  · obtain ⟨-, g2, g3⟩ := e6_bestPrinter h4
    refine ⟨fun kk a _ => g3 kk a, by rw [← g2]; exact St5.rf, by omega⟩
theorem w_queueLength {A A2 : AF} {C C2 : CF} {x : Int32} {k : Nat} (h : W_queueLength A C x k A2 C2) : (∀ kk : Nat, 15 ≤ kk → kk ≠ 70 → C2 kk = C kk) ∧ St5 A A2 ∧ k ≤ 3 := by
  unfold W_queueLength at h
  rcases h with ⟨h1, r, o, C1, h2, h3, h4⟩ | ⟨h1, h4⟩
  · obtain ⟨-, g2, g3⟩ := v6_queueLength h4
    refine ⟨fun kk a b => ?_, g2, by omega⟩
    rw [← h3, up3_k b]
    exact g3 kk a
  · obtain ⟨-, g2, g3⟩ := e6_queueLength h4
    refine ⟨fun kk a _ => g3 kk a, by rw [← g2]; exact St5.rf, by omega⟩
theorem w_queueAt {A A2 : AF} {C C2 : CF} {x : Int32} {y : Int32} {k : Nat} (h : W_queueAt A C x y k A2 C2) : (∀ kk : Nat, 15 ≤ kk → kk ≠ 70 → C2 kk = C kk) ∧ St5 A A2 ∧ k ≤ 3 := by
  unfold W_queueAt at h
  rcases h with ⟨h1, r, o, C1, h2, h3, h4⟩ | ⟨h1, h4⟩ | ⟨h1, h4⟩
  · obtain ⟨-, g2, g3⟩ := v6_queueAt h4
    refine ⟨fun kk a b => ?_, g2, by omega⟩
    rw [← h3, up3_k b]
    exact g3 kk a
  · obtain ⟨-, g2, g3⟩ := e6_queueAt h4
    refine ⟨fun kk a _ => g3 kk a, by rw [← g2]; exact St5.rf, by omega⟩
  · obtain ⟨-, g2, g3⟩ := e6_queueAt h4
    refine ⟨fun kk a _ => g3 kk a, by rw [← g2]; exact St5.rf, by omega⟩
theorem w_logJob {A A2 : AF} {C C2 : CF} {x : Int32} {k : Nat} (h : W_logJob A C x k A2 C2) : (∀ kk : Nat, 15 ≤ kk → kk ≠ 70 → C2 kk = C kk) ∧ St5 A A2 ∧ k ≤ 3 := by
  unfold W_logJob at h
  rcases h with ⟨h1, r, o, C1, h2, h3, h4⟩ | ⟨h1, h4⟩
  · obtain ⟨-, g2, g3⟩ := v6_logJob h4
    refine ⟨fun kk a b => ?_, g2, by omega⟩
    rw [← h3, up3_k b]
    exact g3 kk a
  · obtain ⟨-, g2, g3⟩ := e6_logJob h4
    refine ⟨fun kk a _ => g3 kk a, by rw [← g2]; exact St5.rf, by omega⟩
theorem w_logPrinter {A A2 : AF} {C C2 : CF} {x : Int32} {k : Nat} (h : W_logPrinter A C x k A2 C2) : (∀ kk : Nat, 15 ≤ kk → kk ≠ 70 → C2 kk = C kk) ∧ St5 A A2 ∧ k ≤ 3 := by
  unfold W_logPrinter at h
  rcases h with ⟨h1, r, o, C1, h2, h3, h4⟩ | ⟨h1, h4⟩
  · obtain ⟨-, g2, g3⟩ := v6_logPrinter h4
    refine ⟨fun kk a b => ?_, g2, by omega⟩
    rw [← h3, up3_k b]
    exact g3 kk a
  · obtain ⟨-, g2, g3⟩ := e6_logPrinter h4
    refine ⟨fun kk a _ => g3 kk a, by rw [← g2]; exact St5.rf, by omega⟩
theorem w_logPages {A A2 : AF} {C C2 : CF} {x : Int32} {k : Nat} (h : W_logPages A C x k A2 C2) : (∀ kk : Nat, 15 ≤ kk → kk ≠ 70 → C2 kk = C kk) ∧ St5 A A2 ∧ k ≤ 3 := by
  unfold W_logPages at h
  rcases h with ⟨h1, r, o, C1, h2, h3, h4⟩ | ⟨h1, h4⟩
  · obtain ⟨-, g2, g3⟩ := v6_logPages h4
    refine ⟨fun kk a b => ?_, g2, by omega⟩
    rw [← h3, up3_k b]
    exact g3 kk a
  · obtain ⟨-, g2, g3⟩ := e6_logPages h4
    refine ⟨fun kk a _ => g3 kk a, by rw [← g2]; exact St5.rf, by omega⟩
theorem w_logSheets {A A2 : AF} {C C2 : CF} {x : Int32} {k : Nat} (h : W_logSheets A C x k A2 C2) : (∀ kk : Nat, 15 ≤ kk → kk ≠ 70 → C2 kk = C kk) ∧ St5 A A2 ∧ k ≤ 3 := by
  unfold W_logSheets at h
  rcases h with ⟨h1, r, o, C1, h2, h3, h4⟩ | ⟨h1, h4⟩
  · obtain ⟨-, g2, g3⟩ := v6_logSheets h4
    refine ⟨fun kk a b => ?_, g2, by omega⟩
    rw [← h3, up3_k b]
    exact g3 kk a
  · obtain ⟨-, g2, g3⟩ := e6_logSheets h4
    refine ⟨fun kk a _ => g3 kk a, by rw [← g2]; exact St5.rf, by omega⟩
theorem w_pagesOf {A A2 : AF} {C C2 : CF} {x : Int32} {k : Nat} (h : W_pagesOf A C x k A2 C2) : (∀ kk : Nat, 15 ≤ kk → kk ≠ 70 → C2 kk = C kk) ∧ St5 A A2 ∧ k ≤ 3 := by
  unfold W_pagesOf at h
  rcases h with ⟨h1, r, o, C1, h2, h3, h4⟩ | ⟨h1, h4⟩
  · obtain ⟨-, g2, g3⟩ := v6_pagesOf h4
    refine ⟨fun kk a b => ?_, g2, by omega⟩
    rw [← h3, up3_k b]
    exact g3 kk a
  · obtain ⟨-, g2, g3⟩ := e6_pagesOf h4
    refine ⟨fun kk a _ => g3 kk a, by rw [← g2]; exact St5.rf, by omega⟩
theorem w_pagesByLog {A A2 : AF} {C C2 : CF} {x : Int32} {k : Nat} (h : W_pagesByLog A C x k A2 C2) : (∀ kk : Nat, 15 ≤ kk → kk ≠ 70 → C2 kk = C kk) ∧ St5 A A2 ∧ k ≤ 3 := by
  unfold W_pagesByLog at h
  rcases h with ⟨h1, r, o, C1, h2, h3, h4⟩ | ⟨h1, h4⟩
  · obtain ⟨-, g2, g3⟩ := v6_pagesByLog h4
    refine ⟨fun kk a b => ?_, g2, by omega⟩
    rw [← h3, up3_k b]
    exact g3 kk a
  · obtain ⟨-, g2, g3⟩ := e6_pagesByLog h4
    refine ⟨fun kk a _ => g3 kk a, by rw [← g2]; exact St5.rf, by omega⟩
theorem w_billOf {A A2 : AF} {C C2 : CF} {x : Int32} {k : Nat} (h : W_billOf A C x k A2 C2) : (∀ kk : Nat, 15 ≤ kk → kk ≠ 70 → C2 kk = C kk) ∧ St5 A A2 ∧ k ≤ 3 := by
  unfold W_billOf at h
  rcases h with ⟨h1, r, o, C1, h2, h3, h4⟩ | ⟨h1, h4⟩
  · obtain ⟨-, g2, g3⟩ := v6_billOf h4
    refine ⟨fun kk a b => ?_, g2, by omega⟩
    rw [← h3, up3_k b]
    exact g3 kk a
  · obtain ⟨-, g2, g3⟩ := e6_billOf h4
    refine ⟨fun kk a _ => g3 kk a, by rw [← g2]; exact St5.rf, by omega⟩
theorem w_billByLog {A A2 : AF} {C C2 : CF} {x : Int32} {k : Nat} (h : W_billByLog A C x k A2 C2) : (∀ kk : Nat, 15 ≤ kk → kk ≠ 70 → C2 kk = C kk) ∧ St5 A A2 ∧ k ≤ 3 := by
  unfold W_billByLog at h
  rcases h with ⟨h1, r, o, C1, h2, h3, h4⟩ | ⟨h1, h4⟩
  · obtain ⟨-, g2, g3⟩ := v6_billByLog h4
    refine ⟨fun kk a b => ?_, g2, by omega⟩
    rw [← h3, up3_k b]
    exact g3 kk a
  · obtain ⟨-, g2, g3⟩ := e6_billByLog h4
    refine ⟨fun kk a _ => g3 kk a, by rw [← g2]; exact St5.rf, by omega⟩
theorem w_meanPages {A A2 : AF} {C C2 : CF}  {k : Nat} (h : W_meanPages A C k A2 C2) : (∀ kk : Nat, 15 ≤ kk → kk ≠ 70 → C2 kk = C kk) ∧ St5 A A2 ∧ k ≤ 3 := by
  unfold W_meanPages at h
  rcases h with ⟨h1, r, o, C1, h2, h3, h4⟩ | ⟨h1, h4⟩
  · obtain ⟨-, g2, g3⟩ := v6_meanPages h4
    refine ⟨fun kk a b => ?_, g2, by omega⟩
    rw [← h3, up3_k b]
    exact g3 kk a
  · obtain ⟨-, g2, g3⟩ := e6_meanPages h4
    refine ⟨fun kk a _ => g3 kk a, by rw [← g2]; exact St5.rf, by omega⟩
theorem w_colourShare {A A2 : AF} {C C2 : CF}  {k : Nat} (h : W_colourShare A C k A2 C2) : (∀ kk : Nat, 15 ≤ kk → kk ≠ 70 → C2 kk = C kk) ∧ St5 A A2 ∧ k ≤ 3 := by
  unfold W_colourShare at h
  rcases h with ⟨h1, r, o, C1, h2, h3, h4⟩ | ⟨h1, h4⟩
  · obtain ⟨-, g2, g3⟩ := v6_colourShare h4
    refine ⟨fun kk a b => ?_, g2, by omega⟩
    rw [← h3, up3_k b]
    exact g3 kk a
  · obtain ⟨-, g2, g3⟩ := e6_colourShare h4
    refine ⟨fun kk a _ => g3 kk a, by rw [← g2]; exact St5.rf, by omega⟩
theorem w_writeJob {A A2 : AF} {C C2 : CF} {x : Int32} {k : Nat} (h : W_writeJob A C x k A2 C2) : (∀ kk : Nat, 15 ≤ kk → kk ≠ 70 → C2 kk = C kk) ∧ St5 A A2 ∧ k ≤ 3 := by
  unfold W_writeJob at h
  rcases h with ⟨h1, r, o, C1, h2, h3, h4⟩ | ⟨h1, h4⟩
  · obtain ⟨-, g2, g3⟩ := v6_writeJob h4
    refine ⟨fun kk a b => ?_, g2, by omega⟩
    rw [← h3, up3_k b]
    exact g3 kk a
  · obtain ⟨-, g2, g3⟩ := e6_writeJob h4
    refine ⟨fun kk a _ => g3 kk a, by rw [← g2]; exact St5.rf, by omega⟩
theorem w_lineAt {A A2 : AF} {C C2 : CF} {x : Int32} {k : Nat} (h : W_lineAt A C x k A2 C2) : (∀ kk : Nat, 15 ≤ kk → kk ≠ 70 → C2 kk = C kk) ∧ St5 A A2 ∧ k ≤ 3 := by
  unfold W_lineAt at h
  rcases h with ⟨h1, r, o, C1, h2, h3, h4⟩ | ⟨h1, h4⟩
  · obtain ⟨-, g2, g3⟩ := v6_lineAt h4
    refine ⟨fun kk a b => ?_, g2, by omega⟩
    rw [← h3, up3_k b]
    exact g3 kk a
  · obtain ⟨-, g2, g3⟩ := e6_lineAt h4
    refine ⟨fun kk a _ => g3 kk a, by rw [← g2]; exact St5.rf, by omega⟩
end KW
