/-! ===== the constructors ===== -/
section JCONS
theorem dX4_init_0 : decode cX4_init 0 = .ok (.aload_n 0, 1) := by decide +kernel
theorem dX4_init_1 : decode cX4_init 1 = .ok (.invokespecial 3, 3) := by decide +kernel
theorem dX4_init_4 : decode cX4_init 4 = .ok (.aload_n 0, 1) := by decide +kernel
theorem dX4_init_5 : decode cX4_init 5 = .ok (.bipush 25, 2) := by decide +kernel
theorem dX4_init_7 : decode cX4_init 7 = .ok (.newarray .int, 2) := by decide +kernel
theorem dX4_init_9 : decode cX4_init 9 = .ok (.putfield 9, 3) := by decide +kernel
theorem dX4_init_12 : decode cX4_init 12 = .ok (.aload_n 0, 1) := by decide +kernel
theorem dX4_init_13 : decode cX4_init 13 = .ok (.bipush 100, 2) := by decide +kernel
theorem dX4_init_15 : decode cX4_init 15 = .ok (.newarray .int, 2) := by decide +kernel
theorem dX4_init_17 : decode cX4_init 17 = .ok (.putfield 15, 3) := by decide +kernel
theorem dX4_init_20 : decode cX4_init 20 = .ok (.return_, 1) := by decide +kernel
variable {E : Ed} {P : Rn} {N : Nat} {f : Nat → va_E}
theorem zfX0 : ∀ j, j < 5 → defaultValue (tyX0 j) = vp_V [.null, .null, .null, .null, .int 0] j := by
  intro j hj
  rcases (show j = 0 ∨ j = 1 ∨ j = 2 ∨ j = 3 ∨ j = 4 by omega) with rfl | rfl | rfl | rfl | rfl <;> rfl
theorem zfX1 : ∀ j, j < 13 → defaultValue (tyX1 j) = vp_V [.int 0, .null, .null, .int 0, .int 0, .int 0, .int 0, .int 0, .int 0, .int 0, .int 0, .int 0, .int 0] j := by
  intro j hj
  rcases (show j = 0 ∨ j = 1 ∨ j = 2 ∨ j = 3 ∨ j = 4 ∨ j = 5 ∨ j = 6 ∨ j = 7 ∨ j = 8 ∨ j = 9 ∨ j = 10 ∨ j = 11 ∨ j = 12 by omega) with rfl | rfl | rfl | rfl | rfl | rfl | rfl | rfl | rfl | rfl | rfl | rfl | rfl <;> rfl
theorem zfX2 : ∀ j, j < 2 → defaultValue (tyX2 j) = vp_V [.null, .int 0] j := by
  intro j hj
  rcases (show j = 0 ∨ j = 1 by omega) with rfl | rfl <;> rfl
theorem zfX3 : ∀ j, j < 9 → defaultValue (tyX3 j) = vp_V [.null, .null, .null, .int 0, .int 0, .int 0, .int 0, .int 0, .int 0] j := by
  intro j hj
  rcases (show j = 0 ∨ j = 1 ∨ j = 2 ∨ j = 3 ∨ j = 4 ∨ j = 5 ∨ j = 6 ∨ j = 7 ∨ j = 8 by omega) with rfl | rfl | rfl | rfl | rfl | rfl | rfl | rfl | rfl <;> rfl
theorem zfX4 : ∀ j, j < 3 → defaultValue (tyX4 j) = vp_V [.null, .null, .int 0] j := by
  intro j hj
  rcases (show j = 0 ∨ j = 1 ∨ j = 2 by omega) with rfl | rfl | rfl <;> rfl
theorem zfX5 : ∀ j, j < 2 → defaultValue (tyX5 j) = vp_V [.null, .int 0] j := by
  intro j hj
  rcases (show j = 0 ∨ j = 1 by omega) with rfl | rfl <;> rfl
theorem zfX6 : ∀ j, j < 7 → defaultValue (tyX6 j) = vp_V [.null, .int 0, .int 0, .int 0, .int 0, .int 0, .int 0] j := by
  intro j hj
  rcases (show j = 0 ∨ j = 1 ∨ j = 2 ∨ j = 3 ∨ j = 4 ∨ j = 5 ∨ j = 6 by omega) with rfl | rfl | rfl | rfl | rfl | rfl | rfl <;> rfl
theorem zfX7 : ∀ j, j < 3 → defaultValue (tyX7 j) = vp_V [.null, .int 0, .int 0] j := by
  intro j hj
  rcases (show j = 0 ∨ j = 1 ∨ j = 2 by omega) with rfl | rfl | rfl <;> rfl
theorem zfX8 : ∀ j, j < 9 → defaultValue (tyX8 j) = vp_V [.null, .null, .null, .null, .null, .null, .null, .null, .null] j := by
  intro j hj
  rcases (show j = 0 ∨ j = 1 ∨ j = 2 ∨ j = 3 ∨ j = 4 ∨ j = 5 ∨ j = 6 ∨ j = 7 ∨ j = 8 by omega) with rfl | rfl | rfl | rfl | rfl | rfl | rfl | rfl | rfl <;> rfl
theorem hGj_v {C : Cx} {own : String} {b : ByteArray} {z : Zd} {cs ss pc : Nat} {lv : List (Nat × Value)} {st : List Value} (g : J E C own b z P cs ss N f pc lv st) : hGj E C own b z P cs ss pc lv st none N f := g
theorem hGj_i {C : Cx} {own : String} {b : ByteArray} {z : Zd} {cs ss pc : Nat} {lv : List (Nat × Value)} {st : List Value} {x : Int32} (g : J E C own b z P cs ss N f pc lv (.int x :: st)) : hGj E C own b z P cs ss pc lv st (some (.int x)) N f := g
def i0 (E : Ed) (n : Nat) : va_E := .inl (E.2.2.1 0, n, .inl (fun _ => 0))
abbrev zk_X0 : Zd := (1, none, (4, 120), 1, 20, [])
abbrev zk_X1 : Zd := (2, none, (4, 44), 2, 40, [])
abbrev zk_X2 : Zd := (1, none, (1, 20), 1, 20, [])
abbrev zk_X3 : Zd := (2, none, (67, 831), 3, 61, [])
abbrev zk_X4 : Zd := (1, none, (2, 125), 1, 20, [])
abbrev zk_X5 : Zd := (2, none, (1, 500), 1, 20, [])
abbrev zk_X6 : Zd := (1, none, (2, 502), 2, 41, [])
abbrev zk_X7 : Zd := (2, none, (409, 5046), 4, 82, [])
abbrev zk_X8 : Zd := (2, none, (693, 9807), 5, 103, [])
theorem k_X2_init {i : Nat} (hf : f i = .inr (2, [.null, .int 0])) (h : ∀ f', (∀ k, k < i → f' k = f k) → f' i = .inr (2, [.ref (E.1 + (i + 1)), .int 0]) → f' (i + 1) = i0 E 20 → P none (i + 2) f') : Kp E yX2_init cX2_init zk_X2 [.ref (E.1 + i)] (i + 1) f P := by
  refine Kp_of (own := RX2) (by decide) rfl (Nat.le_of_ble_eq_true rfl) (fun C hI => ?_)
  refine J_aload_n dX2_init_0 rfl ?_
  refine J_obj dX2_init_1 (hq 146 (by decide +kernel) rfl) (hq 34 (by decide +kernel) rfl) (hq 35 (by decide +kernel) rfl) (Nat.le_of_ble_eq_true rfl) (Nat.le_of_ble_eq_true rfl) ?_
  refine J_aload_n dX2_init_4 rfl ?_
  refine J_bipush (v := 20) dX2_init_5 (by decide) ?_
  refine J_newa (t0 := 0) (n := 20) (atype := .int) (ty := .int) (a0 := (20, .inl (fun _ => 0))) (cs' := 1) (ss' := 20) dX2_init_7 (hq 96 (by decide +kernel) rfl) rfl (fun _ h => by cases h) rfl (fun _ => rfl) (by decide) (by decide) (Nat.le_of_ble_eq_true rfl) rfl rfl (Nat.le_of_ble_eq_true rfl) (Nat.le_of_ble_eq_true rfl) ?_
  refine J_putF (i := i) (fs := [.null, .int 0]) (ci := 2) (ty0 := tyX2) (ty := tyX2 0) dX2_init_9 hI fl_X2_9 inX2 rfl tyX2_ok nmX2 (by decide) rfl rfl rfl (tyX2_ok 0 (by decide)) rfl rfl (by omega) (by repeat (first | exact vu_at | assumption | refine (vu_ne (by omega)).trans ?_)) (Nat.le_of_ble_eq_true rfl) ?_
  refine J_vret dX2_init_12 rfl (Nat.le_of_ble_eq_true rfl) (Nat.le_of_ble_eq_true rfl) ?_
  exact h _ (fun k hk => (by repeat (first | rfl | assumption | refine (vu_ne (by omega)).trans ?_))) (by repeat (first | exact vu_at | assumption | refine (vu_ne (by omega)).trans ?_)) (by repeat (first | exact vu_at | assumption | refine (vu_ne (by omega)).trans ?_))
/-- a new pupil's five things from i on -/
def pC (E : Ed) (i p : Nat) : Nat → va_E
  | 0 => .inr (1, [.int (nI p), .ref (E.1 + (i + 1)), .ref (E.1 + (i + 3)), .int 0, .int 0, .int 0, .int 0, .int 0, .int 0, .int 0, .int 0, .int 0, .int 0])
  | 1 => .inr (2, [.ref (E.1 + (i + 2)), .int 0])
  | 2 => i0 E 20
  | 3 => .inr (2, [.ref (E.1 + (i + 4)), .int 0])
  | _ => i0 E 20
theorem k_X1_init {i p : Nat} (hf : f i = .inr (1, [.int 0, .null, .null, .int 0, .int 0, .int 0, .int 0, .int 0, .int 0, .int 0, .int 0, .int 0, .int 0])) (h : ∀ f', (∀ k, k < i → f' k = f k) → (∀ t, t < 5 → f' (i + t) = pC E i p t) → P none (i + 5) f') : Kp E yX1_init cX1_init zk_X1 [.ref (E.1 + i), .int (nI p)] (i + 1) f P := by
  refine Kp_of (own := RX1) (by decide) rfl (Nat.le_of_ble_eq_true rfl) (fun C hI => ?_)
  refine J_aload_n dX1_init_0 rfl ?_
  refine J_obj dX1_init_1 (hq 140 (by decide +kernel) rfl) (hq 34 (by decide +kernel) rfl) (hq 35 (by decide +kernel) rfl) (Nat.le_of_ble_eq_true rfl) (Nat.le_of_ble_eq_true rfl) ?_
  refine J_aload_n dX1_init_4 rfl ?_
  refine J_new (ci := 2) (ty := tyX2) (fs := [.null, .int 0]) (cs' := 1) (ss' := 2) dX1_init_5 inX2 rfl tyX2_ok (hq 141 (by decide +kernel) rfl) (hq 142 (by decide +kernel) rfl) (hq 9 (by decide +kernel) rfl) zfX2 rfl rfl (Nat.le_of_ble_eq_true rfl) (Nat.le_of_ble_eq_true rfl) ?_
  refine J_dup dX1_init_8 rfl ?_
  refine J_callIN (n := 0) (y := yX2_init) (b' := cX2_init) (z' := zk_X2) (as := []) (rest := [.ref (E.1 + (i + 1)), .ref (E.1 + (i))]) (cs' := 2) (ss' := 22) dX1_init_9 (fun U h => h.2.2.1) (hq 9 (by decide +kernel) rfl) (hq 145 (by decide +kernel) rfl) (hq 144 (by decide +kernel) rfl) rfl rfl ⟨by decide, by decide, by decide +kernel⟩ rfl rfl (Nat.le_of_ble_eq_true rfl) (Nat.le_of_ble_eq_true rfl) (Nat.le_of_ble_eq_true rfl) rfl rfl (Nat.le_of_ble_eq_true rfl) (Nat.le_of_ble_eq_true rfl) ?_
  refine k_X2_init (i := i + 1) (by repeat (first | exact vu_at | assumption | refine (vu_ne (by omega)).trans ?_)) (fun f1 a1 b1 c1 => ?_)
  have d1 : f1 i = .inr (1, [.int 0, .null, .null, .int 0, .int 0, .int 0, .int 0, .int 0, .int 0, .int 0, .int 0, .int 0, .int 0]) := (a1 i (by omega)).trans (by repeat (first | exact vu_at | assumption | refine (vu_ne (by omega)).trans ?_))
  show J _ _ _ _ _ _ _ _ (i + 3) _ _ _ _
  refine J_putF (i := i) (fs := [.int 0, .null, .null, .int 0, .int 0, .int 0, .int 0, .int 0, .int 0, .int 0, .int 0, .int 0, .int 0]) (ci := 1) (ty0 := tyX1) (ty := tyX1 1) dX1_init_12 hI fl_X1_12 inX1 rfl tyX1_ok nmX1 (by decide) rfl rfl rfl (tyX1_ok 1 (by decide)) rfl rfl (by omega) d1 (Nat.le_of_ble_eq_true rfl) ?_
  refine J_aload_n dX1_init_15 rfl ?_
  refine J_new (ci := 2) (ty := tyX2) (fs := [.null, .int 0]) (cs' := 3) (ss' := 24) dX1_init_16 inX2 rfl tyX2_ok (hq 141 (by decide +kernel) rfl) (hq 142 (by decide +kernel) rfl) (hq 9 (by decide +kernel) rfl) zfX2 rfl rfl (Nat.le_of_ble_eq_true rfl) (Nat.le_of_ble_eq_true rfl) ?_
  refine J_dup dX1_init_19 rfl ?_
  refine J_callIN (n := 0) (y := yX2_init) (b' := cX2_init) (z' := zk_X2) (as := []) (rest := [.ref (E.1 + (i + 3)), .ref (E.1 + (i))]) (cs' := 4) (ss' := 44) dX1_init_20 (fun U h => h.2.2.1) (hq 9 (by decide +kernel) rfl) (hq 145 (by decide +kernel) rfl) (hq 144 (by decide +kernel) rfl) rfl rfl ⟨by decide, by decide, by decide +kernel⟩ rfl rfl (Nat.le_of_ble_eq_true rfl) (Nat.le_of_ble_eq_true rfl) (Nat.le_of_ble_eq_true rfl) rfl rfl (Nat.le_of_ble_eq_true rfl) (Nat.le_of_ble_eq_true rfl) ?_
  refine k_X2_init (i := i + 3) (by repeat (first | exact vu_at | assumption | refine (vu_ne (by omega)).trans ?_)) (fun f2 a2 b2 c2 => ?_)
  have d2 : f2 i = .inr (1, [.int 0, .ref (E.1 + (i + 1)), .null, .int 0, .int 0, .int 0, .int 0, .int 0, .int 0, .int 0, .int 0, .int 0, .int 0]) := (a2 i (by omega)).trans (by repeat (first | exact vu_at | assumption | refine (vu_ne (by omega)).trans ?_))
  have e2 : f2 (i + 1) = .inr (2, [.ref (E.1 + (i + 2)), .int 0]) := (a2 (i + 1) (by omega)).trans (by repeat (first | exact vu_at | assumption | refine (vu_ne (by omega)).trans ?_))
  have g2 : f2 (i + 2) = i0 E 20 := (a2 (i + 2) (by omega)).trans (by repeat (first | exact vu_at | assumption | refine (vu_ne (by omega)).trans ?_))
  show J _ _ _ _ _ _ _ _ (i + 5) _ _ _ _
  refine J_putF (i := i) (fs := [.int 0, .ref (E.1 + (i + 1)), .null, .int 0, .int 0, .int 0, .int 0, .int 0, .int 0, .int 0, .int 0, .int 0, .int 0]) (ci := 1) (ty0 := tyX1) (ty := tyX1 2) dX1_init_23 hI fl_X1_18 inX1 rfl tyX1_ok nmX1 (by decide) rfl rfl rfl (tyX1_ok 2 (by decide)) rfl rfl (by omega) d2 (Nat.le_of_ble_eq_true rfl) ?_
  refine J_aload_n dX1_init_26 rfl ?_
  refine J_iload_n dX1_init_27 rfl ?_
  refine J_putF (i := i) (fs := [.int 0, .ref (E.1 + (i + 1)), .ref (E.1 + (i + 3)), .int 0, .int 0, .int 0, .int 0, .int 0, .int 0, .int 0, .int 0, .int 0, .int 0]) (ci := 1) (ty0 := tyX1) (ty := tyX1 0) dX1_init_28 hI fl_X1_21 inX1 rfl tyX1_ok nmX1 (by decide) rfl rfl rfl (tyX1_ok 0 (by decide)) rfl rfl (by omega) (by repeat (first | exact vu_at | assumption | refine (vu_ne (by omega)).trans ?_)) (Nat.le_of_ble_eq_true rfl) ?_
  refine J_vret dX1_init_31 rfl (Nat.le_of_ble_eq_true rfl) (Nat.le_of_ble_eq_true rfl) ?_
  refine h _ (fun k hk => ?_) (fun t ht => ?_)
  · exact ((vu_ne (by omega)).trans (vu_ne (by omega))).trans ((a2 k (by omega)).trans (((vu_ne (by omega)).trans (vu_ne (by omega))).trans ((a1 k (by omega)).trans (vu_ne (by omega)))))
  · rcases (show t = 0 ∨ t = 1 ∨ t = 2 ∨ t = 3 ∨ t = 4 by omega) with rfl | rfl | rfl | rfl | rfl
    · exact vu_at
    · exact ((vu_ne (by omega)).trans (vu_ne (by omega))).trans e2
    · exact ((vu_ne (by omega)).trans (vu_ne (by omega))).trans g2
    · exact ((vu_ne (by omega)).trans (vu_ne (by omega))).trans b2
    · exact ((vu_ne (by omega)).trans (vu_ne (by omega))).trans c2
theorem k_X0_init {i : Nat} (hf : f i = .inr (0, [.null, .null, .null, .null, .int 0])) (h : ∀ f', (∀ k, k < i → f' k = f k) → f' i = .inr (0, [.ref (E.1 + (i + 1)), .ref (E.1 + (i + 2)), .ref (E.1 + (i + 3)), .ref (E.1 + (i + 4)), .int 0]) → (∀ t, t < 4 → f' (i + 1 + t) = i0 E 30) → P none (i + 5) f') : Kp E yX0_init cX0_init zk_X0 [.ref (E.1 + i)] (i + 1) f P := by
  refine Kp_of (own := RX0) (by decide) rfl (Nat.le_of_ble_eq_true rfl) (fun C hI => ?_)
  refine J_aload_n dX0_init_0 rfl ?_
  refine J_obj dX0_init_1 (hq 110 (by decide +kernel) rfl) (hq 34 (by decide +kernel) rfl) (hq 35 (by decide +kernel) rfl) (Nat.le_of_ble_eq_true rfl) (Nat.le_of_ble_eq_true rfl) ?_
  refine J_aload_n dX0_init_4 rfl ?_
  refine J_bipush (v := 30) dX0_init_5 (by decide) ?_
  refine J_newa (t0 := 0) (n := 30) (atype := .int) (ty := .int) (a0 := (30, .inl (fun _ => 0))) (cs' := 1) (ss' := 30) dX0_init_7 (hq 96 (by decide +kernel) rfl) rfl (fun _ h => by cases h) rfl (fun _ => rfl) (by decide) (by decide) (Nat.le_of_ble_eq_true rfl) rfl rfl (Nat.le_of_ble_eq_true rfl) (Nat.le_of_ble_eq_true rfl) ?_
  refine J_putF (i := i) (fs := [.null, .null, .null, .null, .int 0]) (ci := 0) (ty0 := tyX0) (ty := tyX0 0) dX0_init_9 hI fl_X0_9 inX0 rfl tyX0_ok nmX0 (by decide) rfl rfl rfl (tyX0_ok 0 (by decide)) rfl rfl (by omega) (by repeat (first | exact vu_at | assumption | refine (vu_ne (by omega)).trans ?_)) (Nat.le_of_ble_eq_true rfl) ?_
  refine J_aload_n dX0_init_12 rfl ?_
  refine J_bipush (v := 30) dX0_init_13 (by decide) ?_
  refine J_newa (t0 := 0) (n := 30) (atype := .int) (ty := .int) (a0 := (30, .inl (fun _ => 0))) (cs' := 2) (ss' := 60) dX0_init_15 (hq 96 (by decide +kernel) rfl) rfl (fun _ h => by cases h) rfl (fun _ => rfl) (by decide) (by decide) (Nat.le_of_ble_eq_true rfl) rfl rfl (Nat.le_of_ble_eq_true rfl) (Nat.le_of_ble_eq_true rfl) ?_
  refine J_putF (i := i) (fs := [.ref (E.1 + (i + 1)), .null, .null, .null, .int 0]) (ci := 0) (ty0 := tyX0) (ty := tyX0 1) dX0_init_17 hI fl_X0_15 inX0 rfl tyX0_ok nmX0 (by decide) rfl rfl rfl (tyX0_ok 1 (by decide)) rfl rfl (by omega) (by repeat (first | exact vu_at | assumption | refine (vu_ne (by omega)).trans ?_)) (Nat.le_of_ble_eq_true rfl) ?_
  refine J_aload_n dX0_init_20 rfl ?_
  refine J_bipush (v := 30) dX0_init_21 (by decide) ?_
  refine J_newa (t0 := 0) (n := 30) (atype := .int) (ty := .int) (a0 := (30, .inl (fun _ => 0))) (cs' := 3) (ss' := 90) dX0_init_23 (hq 96 (by decide +kernel) rfl) rfl (fun _ h => by cases h) rfl (fun _ => rfl) (by decide) (by decide) (Nat.le_of_ble_eq_true rfl) rfl rfl (Nat.le_of_ble_eq_true rfl) (Nat.le_of_ble_eq_true rfl) ?_
  refine J_putF (i := i) (fs := [.ref (E.1 + (i + 1)), .ref (E.1 + (i + 2)), .null, .null, .int 0]) (ci := 0) (ty0 := tyX0) (ty := tyX0 2) dX0_init_25 hI fl_X0_18 inX0 rfl tyX0_ok nmX0 (by decide) rfl rfl rfl (tyX0_ok 2 (by decide)) rfl rfl (by omega) (by repeat (first | exact vu_at | assumption | refine (vu_ne (by omega)).trans ?_)) (Nat.le_of_ble_eq_true rfl) ?_
  refine J_aload_n dX0_init_28 rfl ?_
  refine J_bipush (v := 30) dX0_init_29 (by decide) ?_
  refine J_newa (t0 := 0) (n := 30) (atype := .int) (ty := .int) (a0 := (30, .inl (fun _ => 0))) (cs' := 4) (ss' := 120) dX0_init_31 (hq 96 (by decide +kernel) rfl) rfl (fun _ h => by cases h) rfl (fun _ => rfl) (by decide) (by decide) (Nat.le_of_ble_eq_true rfl) rfl rfl (Nat.le_of_ble_eq_true rfl) (Nat.le_of_ble_eq_true rfl) ?_
  refine J_putF (i := i) (fs := [.ref (E.1 + (i + 1)), .ref (E.1 + (i + 2)), .ref (E.1 + (i + 3)), .null, .int 0]) (ci := 0) (ty0 := tyX0) (ty := tyX0 3) dX0_init_33 hI fl_X0_21 inX0 rfl tyX0_ok nmX0 (by decide) rfl rfl rfl (tyX0_ok 3 (by decide)) rfl rfl (by omega) (by repeat (first | exact vu_at | assumption | refine (vu_ne (by omega)).trans ?_)) (Nat.le_of_ble_eq_true rfl) ?_
  refine J_vret dX0_init_36 rfl (Nat.le_of_ble_eq_true rfl) (Nat.le_of_ble_eq_true rfl) ?_
  refine h _ (fun k hk => (by repeat (first | rfl | assumption | refine (vu_ne (by omega)).trans ?_))) (by repeat (first | exact vu_at | assumption | refine (vu_ne (by omega)).trans ?_)) (fun t ht => ?_)
  rcases (show t = 0 ∨ t = 1 ∨ t = 2 ∨ t = 3 by omega) with rfl | rfl | rfl | rfl
  · exact (by repeat (first | exact vu_at | assumption | refine (vu_ne (by omega)).trans ?_))
  · exact (by repeat (first | exact vu_at | assumption | refine (vu_ne (by omega)).trans ?_))
  · exact (by repeat (first | exact vu_at | assumption | refine (vu_ne (by omega)).trans ?_))
  · exact (by repeat (first | exact vu_at | assumption | refine (vu_ne (by omega)).trans ?_))
theorem k_X5_init {i n : Nat} (hn0 : 0 < n) (hn : n ≤ 500) (hf : f i = .inr (5, [.null, .int 0])) (h : ∀ f', (∀ k, k < i → f' k = f k) → f' i = .inr (5, [.ref (E.1 + (i + 1)), .int 0]) → f' (i + 1) = .inl (E.2.2.1 1, n, .inl (fun _ => 0)) → P none (i + 2) f') : Kp E yX5_init cX5_init zk_X5 [.ref (E.1 + i), .int (nI n)] (i + 1) f P := by
  refine Kp_of (own := RX5) (by decide) rfl (Nat.le_of_ble_eq_true rfl) (fun C hI => ?_)
  refine J_aload_n dX5_init_0 rfl ?_
  refine J_obj dX5_init_1 (hq 47 (by decide +kernel) rfl) (hq 34 (by decide +kernel) rfl) (hq 35 (by decide +kernel) rfl) (Nat.le_of_ble_eq_true rfl) (Nat.le_of_ble_eq_true rfl) ?_
  refine J_aload_n dX5_init_4 rfl ?_
  refine J_iload_n dX5_init_5 rfl ?_
  refine J_if_le (tgt := 13) dX5_init_6 (by decide) (fun c6 => ?_) (fun c6 => ?_)
  · exact absurd c6 (nI_nle hn0 (by omega))
  · refine J_iload_n dX5_init_9 rfl ?_
    refine J_goto (tgt := 14) dX5_init_10 (by decide) ?_
    refine J_newa (t0 := 1) (n := n) (atype := .byte) (ty := .byte) (a0 := (n, .inl (fun _ => 0))) (cs' := 1) (ss' := n) dX5_init_14 (hq 57 (by decide +kernel) rfl) rfl (fun _ h => by cases h) rfl (fun _ => rfl) rfl (by omega) (by show n * 1 ≤ 536870912; omega) rfl (Nat.zero_add n) (Nat.le_of_ble_eq_true rfl) (by show n ≤ 500; omega) ?_
    refine J_putF (i := i) (fs := [.null, .int 0]) (ci := 5) (ty0 := tyX5) (ty := tyX5 0) dX5_init_16 hI fl_X5_9 inX5 rfl tyX5_ok nmX5 (by decide) rfl rfl rfl (tyX5_ok 0 (by decide)) rfl rfl (by omega) (by repeat (first | exact vu_at | assumption | refine (vu_ne (by omega)).trans ?_)) (Nat.le_of_ble_eq_true rfl) ?_
    refine J_aload_n dX5_init_19 rfl ?_
    refine J_iconst (v := 0) dX5_init_20 (by decide) ?_
    refine J_putN (i := i) (fs := [.ref (E.1 + (i + 1)), .int 0]) (ci := 5) (ty0 := tyX5) (ty := tyX5 1) dX5_init_21 fl_X5_15 inX5 rfl tyX5_ok nmX5 (by decide) rfl rfl (tyX5_ok 1 (by decide)) rfl rfl (by omega) (by repeat (first | exact vu_at | assumption | refine (vu_ne (by omega)).trans ?_)) (Nat.le_of_ble_eq_true rfl) ?_
    refine J_vret dX5_init_24 rfl (Nat.le_of_ble_eq_true rfl) (by show n ≤ 500; omega) ?_
    exact h _ (fun k hk => (by repeat (first | rfl | assumption | refine (vu_ne (by omega)).trans ?_))) (by repeat (first | exact vu_at | assumption | refine (vu_ne (by omega)).trans ?_)) (by repeat (first | exact vu_at | assumption | refine (vu_ne (by omega)).trans ?_))
theorem k_X6_init {i : Nat} (hf : f i = .inr (6, [.null, .int 0, .int 0, .int 0, .int 0, .int 0, .int 0])) (h : ∀ f', (∀ k, k < i → f' k = f k) → f' i = .inr (6, [.ref (E.1 + (i + 1)), .int 0, .int 0, .int 0, .int 0, .int 0, .int (-1)]) → f' (i + 1) = .inr (5, [.ref (E.1 + (i + 2)), .int 0]) → f' (i + 2) = .inl (E.2.2.1 1, 500, .inl (fun _ => 0)) → P none (i + 3) f') : Kp E yX6_init cX6_init zk_X6 [.ref (E.1 + i)] (i + 1) f P := by
  refine Kp_of (own := RX6) (by decide) rfl (Nat.le_of_ble_eq_true rfl) (fun C hI => ?_)
  refine J_aload_n dX6_init_0 rfl ?_
  refine J_obj dX6_init_1 (hq 41 (by decide +kernel) rfl) (hq 34 (by decide +kernel) rfl) (hq 35 (by decide +kernel) rfl) (Nat.le_of_ble_eq_true rfl) (Nat.le_of_ble_eq_true rfl) ?_
  refine J_aload_n dX6_init_4 rfl ?_
  refine J_new (ci := 5) (ty := tyX5) (fs := [.null, .int 0]) (cs' := 1) (ss' := 2) dX6_init_5 inX5 rfl tyX5_ok (hq 42 (by decide +kernel) rfl) (hq 43 (by decide +kernel) rfl) (hq 4 (by decide +kernel) rfl) zfX5 rfl rfl (Nat.le_of_ble_eq_true rfl) (Nat.le_of_ble_eq_true rfl) ?_
  refine J_dup dX6_init_8 rfl ?_
  refine J_sipush (v := 500) dX6_init_9 (by decide) ?_
  refine J_callI (n := 1) (y := yX5_init) (b' := cX5_init) (z' := zk_X5) (as := [.int (nI 500)]) (rest := [.ref (E.1 + (i + 1)), .ref (E.1 + (i))]) (cs' := 2) (ss' := 502) dX6_init_12 (hq 44 (by decide +kernel) rfl) (hq 4 (by decide +kernel) rfl) (hq 46 (by decide +kernel) rfl) (hq 45 (by decide +kernel) rfl) rfl rfl ⟨by decide, by decide, by decide +kernel⟩ rfl rfl (Nat.le_of_ble_eq_true rfl) (Nat.le_of_ble_eq_true rfl) (Nat.le_of_ble_eq_true rfl) rfl rfl (Nat.le_of_ble_eq_true rfl) (Nat.le_of_ble_eq_true rfl) ?_
  refine k_X5_init (i := i + 1) (by decide) (by decide) (by repeat (first | exact vu_at | assumption | refine (vu_ne (by omega)).trans ?_)) (fun f1 a1 b1 c1 => ?_)
  have d1 : f1 i = .inr (6, [.null, .int 0, .int 0, .int 0, .int 0, .int 0, .int 0]) := (a1 i (by omega)).trans (by repeat (first | exact vu_at | assumption | refine (vu_ne (by omega)).trans ?_))
  show J _ _ _ _ _ _ _ _ (i + 3) _ _ _ _
  refine J_putF (i := i) (fs := [.null, .int 0, .int 0, .int 0, .int 0, .int 0, .int 0]) (ci := 6) (ty0 := tyX6) (ty := tyX6 0) dX6_init_15 hI fl_X6_14 inX6 rfl tyX6_ok nmX6 (by decide) rfl rfl rfl (tyX6_ok 0 (by decide)) rfl rfl (by omega) d1 (Nat.le_of_ble_eq_true rfl) ?_
  refine J_aload_n dX6_init_18 rfl ?_
  refine J_iconst (v := (-1)) dX6_init_19 (by decide) ?_
  refine J_putN (i := i) (fs := [.ref (E.1 + (i + 1)), .int 0, .int 0, .int 0, .int 0, .int 0, .int 0]) (ci := 6) (ty0 := tyX6) (ty := tyX6 6) dX6_init_20 fl_X6_20 inX6 rfl tyX6_ok nmX6 (by decide) rfl rfl (tyX6_ok 6 (by decide)) rfl rfl (by omega) (by repeat (first | exact vu_at | assumption | refine (vu_ne (by omega)).trans ?_)) (Nat.le_of_ble_eq_true rfl) ?_
  refine J_vret dX6_init_23 rfl (Nat.le_of_ble_eq_true rfl) (Nat.le_of_ble_eq_true rfl) ?_
  exact h _ (fun k hk => ((vu_ne (by omega)).trans (vu_ne (by omega))).trans ((a1 k (by omega)).trans (vu_ne (by omega)))) (by repeat (first | exact vu_at | assumption | refine (vu_ne (by omega)).trans ?_)) (by repeat (first | exact vu_at | assumption | refine (vu_ne (by omega)).trans ?_)) (by repeat (first | exact vu_at | assumption | refine (vu_ne (by omega)).trans ?_))
theorem k_X4_init {i : Nat} (hf : f i = .inr (4, [.null, .null, .int 0])) (h : ∀ f', (∀ k, k < i → f' k = f k) → f' i = .inr (4, [.ref (E.1 + (i + 1)), .ref (E.1 + (i + 2)), .int 0]) → f' (i + 1) = i0 E 25 → f' (i + 2) = i0 E 100 → P none (i + 3) f') : Kp E yX4_init cX4_init zk_X4 [.ref (E.1 + i)] (i + 1) f P := by
  refine Kp_of (own := RX4) (by decide) rfl (Nat.le_of_ble_eq_true rfl) (fun C hI => ?_)
  refine J_aload_n dX4_init_0 rfl ?_
  refine J_obj dX4_init_1 (hq 86 (by decide +kernel) rfl) (hq 34 (by decide +kernel) rfl) (hq 35 (by decide +kernel) rfl) (Nat.le_of_ble_eq_true rfl) (Nat.le_of_ble_eq_true rfl) ?_
  refine J_aload_n dX4_init_4 rfl ?_
  refine J_bipush (v := 25) dX4_init_5 (by decide) ?_
  refine J_newa (t0 := 0) (n := 25) (atype := .int) (ty := .int) (a0 := (25, .inl (fun _ => 0))) (cs' := 1) (ss' := 25) dX4_init_7 (hq 96 (by decide +kernel) rfl) rfl (fun _ h => by cases h) rfl (fun _ => rfl) (by decide) (by decide) (Nat.le_of_ble_eq_true rfl) rfl rfl (Nat.le_of_ble_eq_true rfl) (Nat.le_of_ble_eq_true rfl) ?_
  refine J_putF (i := i) (fs := [.null, .null, .int 0]) (ci := 4) (ty0 := tyX4) (ty := tyX4 0) dX4_init_9 hI fl_X4_9 inX4 rfl tyX4_ok nmX4 (by decide) rfl rfl rfl (tyX4_ok 0 (by decide)) rfl rfl (by omega) (by repeat (first | exact vu_at | assumption | refine (vu_ne (by omega)).trans ?_)) (Nat.le_of_ble_eq_true rfl) ?_
  refine J_aload_n dX4_init_12 rfl ?_
  refine J_bipush (v := 100) dX4_init_13 (by decide) ?_
  refine J_newa (t0 := 0) (n := 100) (atype := .int) (ty := .int) (a0 := (100, .inl (fun _ => 0))) (cs' := 2) (ss' := 125) dX4_init_15 (hq 96 (by decide +kernel) rfl) rfl (fun _ h => by cases h) rfl (fun _ => rfl) (by decide) (by decide) (Nat.le_of_ble_eq_true rfl) rfl rfl (Nat.le_of_ble_eq_true rfl) (Nat.le_of_ble_eq_true rfl) ?_
  refine J_putF (i := i) (fs := [.ref (E.1 + (i + 1)), .null, .int 0]) (ci := 4) (ty0 := tyX4) (ty := tyX4 1) dX4_init_17 hI fl_X4_15 inX4 rfl tyX4_ok nmX4 (by decide) rfl rfl rfl (tyX4_ok 1 (by decide)) rfl rfl (by omega) (by repeat (first | exact vu_at | assumption | refine (vu_ne (by omega)).trans ?_)) (Nat.le_of_ble_eq_true rfl) ?_
  refine J_vret dX4_init_20 rfl (Nat.le_of_ble_eq_true rfl) (Nat.le_of_ble_eq_true rfl) ?_
  exact h _ (fun k hk => (by repeat (first | rfl | assumption | refine (vu_ne (by omega)).trans ?_))) (by repeat (first | exact vu_at | assumption | refine (vu_ne (by omega)).trans ?_)) (by repeat (first | exact vu_at | assumption | refine (vu_ne (by omega)).trans ?_)) (by repeat (first | exact vu_at | assumption | refine (vu_ne (by omega)).trans ?_))
/-- a new school's 68 things from i on -/
def sC (E : Ed) (i r : Nat) : va_E :=
  if r = 0 then .inr (3, [.ref (E.1 + (i + 1)), .ref (E.1 + (i + 2)), .ref (E.1 + (i + 7)), .int 0, .int 0, .int 0, .int 0, .int 0, .int 0]) else if r = 1 then .inl (E.2.2.1 3, 12, .inr (.inr (.inr (.inr (fun q => some (E.1 + (i + 8 + 5 * q))))))) else if r = 2 then .inr (0, [.ref (E.1 + (i + 3)), .ref (E.1 + (i + 4)), .ref (E.1 + (i + 5)), .ref (E.1 + (i + 6)), .int 0])
  else if r < 7 then i0 E 30 else if r = 7 then i0 E 10 else pC E (i + 8 + 5 * ((r - 8) / 5)) ((r - 8) / 5) ((r - 8) % 5)
theorem k_X3_init {i : Nat} (hf : f i = .inr (3, [.null, .null, .null, .int 0, .int 0, .int 0, .int 0, .int 0, .int 0])) (h : ∀ f', (∀ k, k < i → f' k = f k) → (∀ r, r < 68 → f' (i + r) = sC E i r) → P none (i + 68) f') : Kp E yX3_init cX3_init zk_X3 [.ref (E.1 + i)] (i + 1) f P := by
  refine Kp_of (own := RX3) (by decide) rfl (Nat.le_of_ble_eq_true rfl) (fun C hI => ?_)
  have key : ∀ f0 : Nat → va_E, (∀ k, k < i → f0 k = f k) → f0 i = .inr (3, [.ref (E.1 + (i + 1)), .ref (E.1 + (i + 2)), .ref (E.1 + (i + 7)), .int 0, .int 0, .int 0, .int 0, .int 0, .int 0]) → f0 (i + 1) = .inl (E.2.2.1 3, 12, .inr (.inr (.inr (.inr (fun _ => none))))) → f0 (i + 2) = .inr (0, [.ref (E.1 + (i + 3)), .ref (E.1 + (i + 4)), .ref (E.1 + (i + 5)), .ref (E.1 + (i + 6)), .int 0]) → (∀ t, t < 4 → f0 (i + 3 + t) = i0 E 30) → f0 (i + 7) = i0 E 10 → J E C RX3 cX3_init zk_X3 P 7 147 (i + 8) f0 34 [(0, .ref (E.1 + i)), (1, .int (nI 0))] [] := by
    intro f0 k0 k1 k2 k3 k4 k5
    refine up0 (c := 12) (H := fun p => ∀ (f1 : Nat → va_E) (g1 : Nat → Option Nat), (∀ k, k < i + 8 → k ≠ i + 1 → f1 k = f0 k) → f1 (i + 1) = .inl (E.2.2.1 3, 12, .inr (.inr (.inr (.inr g1)))) → (∀ q, q < p → g1 q = some (E.1 + (i + 8 + 5 * q))) → (∀ q, q < p → ∀ t, t < 5 → f1 (i + 8 + 5 * q + t) = pC E (i + 8 + 5 * q) q t) → J E C RX3 cX3_init zk_X3 P (7 + 5 * p) (147 + 57 * p) (i + 8 + 5 * p) f1 34 [(0, .ref (E.1 + i)), (1, .int (nI p))] []) (fun f1 g1 l0 l1 l2 l3 => ?_) (fun p hp ih f1 g1 l0 l1 l2 l3 => ?_) f0 _ (fun _ _ _ => rfl) k2 (fun q hq => absurd hq (Nat.not_lt_zero q)) (fun q hq => absurd hq (Nat.not_lt_zero q))
    · refine J_iload_n dX3_init_34 rfl ?_
      refine J_bipush (v := 12) dX3_init_35 (by decide) ?_
      refine J_icmp_ge (tgt := 60) dX3_init_37 (by decide) (fun c37 => ?_) (fun c37 => ?_)
      · refine J_arr (i := i + 1) (by omega) l1 (g' := fun q => some (E.1 + (i + 8 + 5 * q))) l2 ?_
        refine J_vret dX3_init_60 rfl (Nat.le_of_ble_eq_true rfl) (Nat.le_of_ble_eq_true rfl) ?_
        refine h _ (fun k hk => (vu_ne (by omega)).trans ((l0 k (by omega) (by omega)).trans (k0 k hk))) (fun r hr => ?_)
        unfold sC
        by_cases r0 : r = 0
        · subst r0
          exact (vu_ne (by omega)).trans ((l0 _ (by omega) (by omega)).trans k1)
        rw [if_neg r0]
        by_cases r1 : r = 1
        · subst r1
          exact vu_at
        rw [if_neg r1]
        by_cases r2 : r = 2
        · subst r2
          exact (vu_ne (by omega)).trans ((l0 _ (by omega) (by omega)).trans k3)
        rw [if_neg r2]
        by_cases r7 : r < 7
        · rw [if_pos r7]
          have e := k4 (r - 3) (by omega)
          rw [show i + 3 + (r - 3) = i + r by omega] at e
          exact (vu_ne (by omega)).trans ((l0 _ (by omega) (by omega)).trans e)
        rw [if_neg r7]
        by_cases r8 : r = 7
        · subst r8
          exact (vu_ne (by omega)).trans ((l0 _ (by omega) (by omega)).trans k5)
        rw [if_neg r8]
        have e := l3 ((r - 8) / 5) (by omega) ((r - 8) % 5) (Nat.mod_lt _ (by decide))
        rw [show i + 8 + 5 * ((r - 8) / 5) + (r - 8) % 5 = i + r by omega] at e
        exact (vu_ne (by omega)).trans e
      · exact absurd (show nI 12 ≤ nI 12 from Int32.le_refl _) c37
    · refine J_iload_n dX3_init_34 rfl ?_
      refine J_bipush (v := 12) dX3_init_35 (by decide) ?_
      refine J_icmp_ge (tgt := 60) dX3_init_37 (by decide) (fun c37 => ?_) (fun c37 => ?_)
      · exact absurd (show nI 12 ≤ nI p from c37) (nI_ge hp (by decide))
      · have l4 : f1 i = .inr (3, [.ref (E.1 + (i + 1)), .ref (E.1 + (i + 2)), .ref (E.1 + (i + 7)), .int 0, .int 0, .int 0, .int 0, .int 0, .int 0]) := (l0 i (by omega) (by omega)).trans k1
        refine J_aload_n dX3_init_40 rfl ?_
        refine J_getf (i := i) (fs := [.ref (E.1 + (i + 1)), .ref (E.1 + (i + 2)), .ref (E.1 + (i + 7)), .int 0, .int 0, .int 0, .int 0, .int 0, .int 0]) (ci := 3) dX3_init_41 fl_X3_11 inX3 rfl (by decide) rfl (by omega) l4 rfl ?_
        refine J_iload_n dX3_init_44 rfl ?_
        refine J_new (ci := 1) (ty := tyX1) (fs := [.int 0, .null, .null, .int 0, .int 0, .int 0, .int 0, .int 0, .int 0, .int 0, .int 0, .int 0, .int 0]) (cs' := 7 + 5 * p + 1) (ss' := 147 + 57 * p + 13) dX3_init_45 inX1 rfl tyX1_ok (hq 103 (by decide +kernel) rfl) (hq 136 (by decide +kernel) rfl) (hq 8 (by decide +kernel) rfl) zfX1 rfl rfl (by show 7 + 5 * p + 1 ≤ 67; omega) (by show 147 + 57 * p + 13 ≤ 831; omega) ?_
        refine J_dup dX3_init_48 rfl ?_
        refine J_iload_n dX3_init_49 rfl ?_
        refine J_callI (n := 1) (y := yX1_init) (b' := cX1_init) (z' := zk_X1) (as := [.int (nI p)]) (rest := [.ref (E.1 + (i + 8 + 5 * p)), .int (nI p), .ref (E.1 + (i + 1))]) (cs' := 7 + 5 * (p + 1)) (ss' := 147 + 57 * (p + 1)) dX3_init_50 (hq 137 (by decide +kernel) rfl) (hq 8 (by decide +kernel) rfl) (hq 139 (by decide +kernel) rfl) (hq 138 (by decide +kernel) rfl) rfl rfl ⟨by decide, by decide, by decide +kernel⟩ rfl rfl (Nat.le_of_ble_eq_true rfl) (Nat.le_of_ble_eq_true rfl) (Nat.le_of_ble_eq_true rfl) (by show 7 + 5 * p + 1 + 4 = 7 + 5 * (p + 1); omega) (by show 147 + 57 * p + 13 + 44 = 147 + 57 * (p + 1); omega) (by show 7 + 5 * (p + 1) ≤ 67; omega) (by show 147 + 57 * (p + 1) ≤ 831; omega) ?_
        refine k_X1_init (i := i + 8 + 5 * p) (p := p) (by repeat (first | exact vu_at | assumption | refine (vu_ne (by omega)).trans ?_)) (fun f2 m0 m1 => ?_)
        have n1 : f2 (i + 1) = .inl (E.2.2.1 3, 12, .inr (.inr (.inr (.inr g1)))) := (m0 _ (by omega)).trans ((vu_ne (by omega)).trans l1)
        show J _ _ _ _ _ _ _ _ (i + 8 + 5 * p + 5) _ _ _ _
        refine J_aast (i := i + 1) (v := i + 8 + 5 * p) (t0 := 3) (ci := 1) dX3_init_53 (by omega) n1 rfl (by omega) (m1 0 (by decide)) rfl rfl hp (by decide) ?_
        refine J_iinc (v := 1) dX3_init_54 rfl (Nat.le_of_ble_eq_true rfl) (by decide) ?_
        refine J_goto (tgt := 34) dX3_init_57 (by decide) ?_
        refine J_lv2 (ih _ (va_up g1 p (some (E.1 + (i + 8 + 5 * p)))) (fun k hk hne => (vu_ne hne).trans ((m0 k (by omega)).trans ((vu_ne (by omega)).trans (l0 k hk hne)))) vu_at (fun q hq => ?_) (fun q hq t ht => ?_)) ⟨rfl, lvi (nI_1 p), trivial⟩
        · unfold va_up
          by_cases e : q = p
          · rw [if_pos e, e]
          · rw [if_neg e]
            exact l2 q (by omega)
        · by_cases e : q = p
          · subst e
            exact (vu_ne (by omega)).trans (m1 t ht)
          · exact (vu_ne (by omega)).trans ((m0 _ (by omega)).trans ((vu_ne (by omega)).trans (l3 q (by omega) t ht)))
  refine J_aload_n dX3_init_0 rfl ?_
  refine J_obj dX3_init_1 (hq 102 (by decide +kernel) rfl) (hq 34 (by decide +kernel) rfl) (hq 35 (by decide +kernel) rfl) (Nat.le_of_ble_eq_true rfl) (Nat.le_of_ble_eq_true rfl) ?_
  refine J_aload_n dX3_init_4 rfl ?_
  refine J_bipush (v := 12) dX3_init_5 (by decide) ?_
  refine J_newq (t0 := 3) (n := 12) (cs' := 1) (ss' := 12) dX3_init_7 (hq 103 (by decide +kernel) rfl) (fun U h => h.2.2.2.1) rfl (by decide) (by decide) (Nat.le_of_ble_eq_true rfl) rfl rfl (Nat.le_of_ble_eq_true rfl) (Nat.le_of_ble_eq_true rfl) ?_
  refine J_putF (i := i) (fs := [.null, .null, .null, .int 0, .int 0, .int 0, .int 0, .int 0, .int 0]) (ci := 3) (ty0 := tyX3) (ty := tyX3 0) dX3_init_10 hI fl_X3_11 inX3 rfl tyX3_ok nmX3 (by decide) rfl rfl rfl (tyX3_ok 0 (by decide)) rfl rfl (by omega) (by repeat (first | exact vu_at | assumption | refine (vu_ne (by omega)).trans ?_)) (Nat.le_of_ble_eq_true rfl) ?_
  refine J_aload_n dX3_init_13 rfl ?_
  refine J_new (ci := 0) (ty := tyX0) (fs := [.null, .null, .null, .null, .int 0]) (cs' := 2) (ss' := 17) dX3_init_14 inX0 rfl tyX0_ok (hq 105 (by decide +kernel) rfl) (hq 106 (by decide +kernel) rfl) (hq 7 (by decide +kernel) rfl) zfX0 rfl rfl (Nat.le_of_ble_eq_true rfl) (Nat.le_of_ble_eq_true rfl) ?_
  refine J_dup dX3_init_17 rfl ?_
  refine J_callIN (n := 0) (y := yX0_init) (b' := cX0_init) (z' := zk_X0) (as := []) (rest := [.ref (E.1 + (i + 2)), .ref (E.1 + (i))]) (cs' := 6) (ss' := 137) dX3_init_18 (fun U h => h.2.1) (hq 7 (by decide +kernel) rfl) (hq 109 (by decide +kernel) rfl) (hq 108 (by decide +kernel) rfl) rfl rfl ⟨by decide, by decide, by decide +kernel⟩ rfl rfl (Nat.le_of_ble_eq_true rfl) (Nat.le_of_ble_eq_true rfl) (Nat.le_of_ble_eq_true rfl) rfl rfl (Nat.le_of_ble_eq_true rfl) (Nat.le_of_ble_eq_true rfl) ?_
  refine k_X0_init (i := i + 2) (by repeat (first | exact vu_at | assumption | refine (vu_ne (by omega)).trans ?_)) (fun f1 a1 b1 c1 => ?_)
  have d1 : f1 i = .inr (3, [.ref (E.1 + (i + 1)), .null, .null, .int 0, .int 0, .int 0, .int 0, .int 0, .int 0]) := (a1 i (by omega)).trans (by repeat (first | exact vu_at | assumption | refine (vu_ne (by omega)).trans ?_))
  have e1 : f1 (i + 1) = .inl (E.2.2.1 3, 12, .inr (.inr (.inr (.inr (fun _ => none))))) := (a1 (i + 1) (by omega)).trans (by repeat (first | exact vu_at | assumption | refine (vu_ne (by omega)).trans ?_))
  show J _ _ _ _ _ _ _ _ (i + 7) _ _ _ _
  refine J_putF (i := i) (fs := [.ref (E.1 + (i + 1)), .null, .null, .int 0, .int 0, .int 0, .int 0, .int 0, .int 0]) (ci := 3) (ty0 := tyX3) (ty := tyX3 1) dX3_init_21 hI fl_X3_20 inX3 rfl tyX3_ok nmX3 (by decide) rfl rfl rfl (tyX3_ok 1 (by decide)) rfl rfl (by omega) d1 (Nat.le_of_ble_eq_true rfl) ?_
  refine J_aload_n dX3_init_24 rfl ?_
  refine J_bipush (v := 10) dX3_init_25 (by decide) ?_
  refine J_newa (t0 := 0) (n := 10) (atype := .int) (ty := .int) (a0 := (10, .inl (fun _ => 0))) (cs' := 7) (ss' := 147) dX3_init_27 (hq 96 (by decide +kernel) rfl) rfl (fun _ h => by cases h) rfl (fun _ => rfl) (by decide) (by decide) (Nat.le_of_ble_eq_true rfl) rfl rfl (Nat.le_of_ble_eq_true rfl) (Nat.le_of_ble_eq_true rfl) ?_
  refine J_putF (i := i) (fs := [.ref (E.1 + (i + 1)), .ref (E.1 + (i + 2)), .null, .int 0, .int 0, .int 0, .int 0, .int 0, .int 0]) (ci := 3) (ty0 := tyX3) (ty := tyX3 2) dX3_init_29 hI fl_X3_24 inX3 rfl tyX3_ok nmX3 (by decide) rfl rfl rfl (tyX3_ok 2 (by decide)) rfl rfl (by omega) (by repeat (first | exact vu_at | assumption | refine (vu_ne (by omega)).trans ?_)) (Nat.le_of_ble_eq_true rfl) ?_
  refine J_iconst (v := 0) dX3_init_32 (by decide) ?_
  refine J_istore_n dX3_init_33 (Nat.le_of_ble_eq_true rfl) ?_
  refine J_lv2 (key _ (fun k hk => ?_) (by repeat (first | exact vu_at | assumption | refine (vu_ne (by omega)).trans ?_)) (by repeat (first | exact vu_at | assumption | refine (vu_ne (by omega)).trans ?_)) (by repeat (first | exact vu_at | assumption | refine (vu_ne (by omega)).trans ?_)) (fun t ht => ?_) (by repeat (first | exact vu_at | assumption | refine (vu_ne (by omega)).trans ?_))) ⟨rfl, rfl, trivial⟩
  · exact ((vu_ne (by omega)).trans ((vu_ne (by omega)).trans (vu_ne (by omega)))).trans ((a1 k (by omega)).trans (by repeat (first | rfl | assumption | refine (vu_ne (by omega)).trans ?_)))
  · exact ((vu_ne (by omega)).trans ((vu_ne (by omega)).trans (vu_ne (by omega)))).trans (c1 t ht)
theorem k_X7_init {i : Nat} (hf : f i = .inr (7, [.null, .int 0, .int 0])) (h : ∀ f', (∀ k, k < i → f' k = f k) → f' i = .inr (7, [.ref (E.1 + (i + 1)), .int 0, .int 0]) → f' (i + 1) = .inl (E.2.2.1 4, 6, .inr (.inr (.inr (.inr (fun q => some (E.1 + (i + 2 + 68 * q))))))) → (∀ q, q < 6 → ∀ r, r < 68 → f' (i + 2 + 68 * q + r) = sC E (i + 2 + 68 * q) r) → P none (i + 410) f') : Kp E yX7_init cX7_init zk_X7 [.ref (E.1 + i)] (i + 1) f P := by
  refine Kp_of (own := RX7) (by decide) rfl (Nat.le_of_ble_eq_true rfl) (fun C hI => ?_)
  have key : ∀ f0 : Nat → va_E, (∀ k, k < i → f0 k = f k) → f0 i = .inr (7, [.ref (E.1 + (i + 1)), .int 0, .int 0]) → f0 (i + 1) = .inl (E.2.2.1 4, 6, .inr (.inr (.inr (.inr (fun _ => none))))) → J E C RX7 cX7_init zk_X7 P 1 6 (i + 2) f0 15 [(0, .ref (E.1 + i)), (1, .int (nI 0))] [] := by
    intro f0 k0 k1 k2
    refine up0 (c := 6) (H := fun p => ∀ (f1 : Nat → va_E) (g1 : Nat → Option Nat), (∀ k, k ≤ i → f1 k = f0 k) → f1 (i + 1) = .inl (E.2.2.1 4, 6, .inr (.inr (.inr (.inr g1)))) → (∀ q, q < p → g1 q = some (E.1 + (i + 2 + 68 * q))) → (∀ q, q < p → ∀ r, r < 68 → f1 (i + 2 + 68 * q + r) = sC E (i + 2 + 68 * q) r) → J E C RX7 cX7_init zk_X7 P (1 + 68 * p) (6 + 840 * p) (i + 2 + 68 * p) f1 15 [(0, .ref (E.1 + i)), (1, .int (nI p))] []) (fun f1 g1 l0 l1 l2 l3 => ?_) (fun p hp ih f1 g1 l0 l1 l2 l3 => ?_) f0 _ (fun _ _ => rfl) k2 (fun q hq => absurd hq (Nat.not_lt_zero q)) (fun q hq => absurd hq (Nat.not_lt_zero q))
    · refine J_iload_n dX7_init_15 rfl ?_
      refine J_bipush (v := 6) dX7_init_16 (by decide) ?_
      refine J_icmp_ge (tgt := 40) dX7_init_18 (by decide) (fun c18 => ?_) (fun c18 => ?_)
      · refine J_arr (i := i + 1) (by omega) l1 (g' := fun q => some (E.1 + (i + 2 + 68 * q))) l2 ?_
        refine J_vret dX7_init_40 rfl (Nat.le_of_ble_eq_true rfl) (Nat.le_of_ble_eq_true rfl) ?_
        exact h _ (fun k hk => (vu_ne (by omega)).trans ((l0 k (by omega)).trans (k0 k hk))) ((vu_ne (by omega)).trans ((l0 _ (Nat.le_refl _)).trans k1)) vu_at (fun q hq r hr => (vu_ne (by omega)).trans (l3 q hq r hr))
      · exact absurd (show nI 6 ≤ nI 6 from Int32.le_refl _) c18
    · refine J_iload_n dX7_init_15 rfl ?_
      refine J_bipush (v := 6) dX7_init_16 (by decide) ?_
      refine J_icmp_ge (tgt := 40) dX7_init_18 (by decide) (fun c18 => ?_) (fun c18 => ?_)
      · exact absurd (show nI 6 ≤ nI p from c18) (nI_ge hp (by decide))
      · have l4 : f1 i = .inr (7, [.ref (E.1 + (i + 1)), .int 0, .int 0]) := (l0 i (Nat.le_refl _)).trans k1
        refine J_aload_n dX7_init_21 rfl ?_
        refine J_getf (i := i) (fs := [.ref (E.1 + (i + 1)), .int 0, .int 0]) (ci := 7) dX7_init_22 fl_X7_11 inX7 rfl (by decide) rfl (by omega) l4 rfl ?_
        refine J_iload_n dX7_init_25 rfl ?_
        refine J_new (ci := 3) (ty := tyX3) (fs := [.null, .null, .null, .int 0, .int 0, .int 0, .int 0, .int 0, .int 0]) (cs' := 1 + 68 * p + 1) (ss' := 6 + 840 * p + 9) dX7_init_26 inX3 rfl tyX3_ok (hq 259 (by decide +kernel) rfl) (hq 98 (by decide +kernel) rfl) (hq 6 (by decide +kernel) rfl) zfX3 rfl rfl (by show 1 + 68 * p + 1 ≤ 409; omega) (by show 6 + 840 * p + 9 ≤ 5046; omega) ?_
        refine J_dup dX7_init_29 rfl ?_
        refine J_callI (n := 0) (y := yX3_init) (b' := cX3_init) (z' := zk_X3) (as := []) (rest := [.ref (E.1 + (i + 2 + 68 * p)), .int (nI p), .ref (E.1 + (i + 1))]) (cs' := 1 + 68 * (p + 1)) (ss' := 6 + 840 * (p + 1)) dX7_init_30 (hq 261 (by decide +kernel) rfl) (hq 6 (by decide +kernel) rfl) (hq 101 (by decide +kernel) rfl) (hq 100 (by decide +kernel) rfl) rfl rfl ⟨by decide, by decide, by decide +kernel⟩ rfl rfl (Nat.le_of_ble_eq_true rfl) (Nat.le_of_ble_eq_true rfl) (Nat.le_of_ble_eq_true rfl) (by show 1 + 68 * p + 1 + 67 = 1 + 68 * (p + 1); omega) (by show 6 + 840 * p + 9 + 831 = 6 + 840 * (p + 1); omega) (by show 1 + 68 * (p + 1) ≤ 409; omega) (by show 6 + 840 * (p + 1) ≤ 5046; omega) ?_
        refine k_X3_init (i := i + 2 + 68 * p) (by repeat (first | exact vu_at | assumption | refine (vu_ne (by omega)).trans ?_)) (fun f2 m0 m1 => ?_)
        have n1 : f2 (i + 1) = .inl (E.2.2.1 4, 6, .inr (.inr (.inr (.inr g1)))) := (m0 _ (by omega)).trans ((vu_ne (by omega)).trans l1)
        show J _ _ _ _ _ _ _ _ (i + 2 + 68 * p + 68) _ _ _ _
        refine J_aast (i := i + 1) (v := i + 2 + 68 * p) (t0 := 4) (ci := 3) dX7_init_33 (by omega) n1 rfl (by omega) (m1 0 (by decide)) rfl rfl hp (by decide) ?_
        refine J_iinc (v := 1) dX7_init_34 rfl (Nat.le_of_ble_eq_true rfl) (by decide) ?_
        refine J_goto (tgt := 15) dX7_init_37 (by decide) ?_
        refine J_lv2 (ih _ (va_up g1 p (some (E.1 + (i + 2 + 68 * p)))) (fun k hk => (vu_ne (by omega)).trans ((m0 k (by omega)).trans ((vu_ne (by omega)).trans (l0 k hk)))) vu_at (fun q hq => ?_) (fun q hq t ht => ?_)) ⟨rfl, lvi (nI_1 p), trivial⟩
        · unfold va_up
          by_cases e : q = p
          · rw [if_pos e, e]
          · rw [if_neg e]
            exact l2 q (by omega)
        · by_cases e : q = p
          · subst e
            exact (vu_ne (by omega)).trans (m1 t ht)
          · exact (vu_ne (by omega)).trans ((m0 _ (by omega)).trans ((vu_ne (by omega)).trans (l3 q (by omega) t ht)))
  refine J_aload_n dX7_init_0 rfl ?_
  refine J_obj dX7_init_1 (hq 258 (by decide +kernel) rfl) (hq 34 (by decide +kernel) rfl) (hq 35 (by decide +kernel) rfl) (Nat.le_of_ble_eq_true rfl) (Nat.le_of_ble_eq_true rfl) ?_
  refine J_aload_n dX7_init_4 rfl ?_
  refine J_bipush (v := 6) dX7_init_5 (by decide) ?_
  refine J_newq (t0 := 4) (n := 6) (cs' := 1) (ss' := 6) dX7_init_7 (hq 259 (by decide +kernel) rfl) (fun U h => h.2.2.2.2) rfl (by decide) (by decide) (Nat.le_of_ble_eq_true rfl) rfl rfl (Nat.le_of_ble_eq_true rfl) (Nat.le_of_ble_eq_true rfl) ?_
  refine J_putF (i := i) (fs := [.null, .int 0, .int 0]) (ci := 7) (ty0 := tyX7) (ty := tyX7 0) dX7_init_10 hI fl_X7_11 inX7 rfl tyX7_ok nmX7 (by decide) rfl rfl rfl (tyX7_ok 0 (by decide)) rfl rfl (by omega) (by repeat (first | exact vu_at | assumption | refine (vu_ne (by omega)).trans ?_)) (Nat.le_of_ble_eq_true rfl) ?_
  refine J_iconst (v := 0) dX7_init_13 (by decide) ?_
  refine J_istore_n dX7_init_14 (Nat.le_of_ble_eq_true rfl) ?_
  exact J_lv2 (key _ (fun k hk => (by repeat (first | rfl | assumption | refine (vu_ne (by omega)).trans ?_))) (by repeat (first | exact vu_at | assumption | refine (vu_ne (by omega)).trans ?_)) (by repeat (first | exact vu_at | assumption | refine (vu_ne (by omega)).trans ?_))) ⟨rfl, rfl, trivial⟩
end JCONS
