/-! ===== the constructors of HomeworkBarter, Told ===== -/
section JINIT
variable {E : Ed} {P : Rn} {N : Nat} {M : Mm} {f : Nat → va_E}
/-- all is 0 but the pupils' numbers and the two places of errors -/
def M0 : Mm := (fun k _ p t => if k = 12 ∧ t = 0 then nI p else if k = 1 ∧ t = 6 then -1 else 0, [])
theorem hInv_sB : ((List.range 10).all fun j => (List.range 68).all fun r => decide (hInv (hSb j + r) = hSch j r)) = true := by decide +kernel
theorem hInv_s {j r : Nat} (hj : j < 10) (hr : r < 68) : hInv (hSb j + r) = hSch j r := of_decide_eq_true (List.all_eq_true.mp (List.all_eq_true.mp hInv_sB j (List.mem_range.mpr hj)) r (List.mem_range.mpr hr))
theorem sC_fE {j r : Nat} (hj : j < 10) (hr : r < 68) : sC E (hSb j) r = fE E M0 (hSb j + r) := by
  unfold fE
  rw [hInv_s hj hr]
  unfold sC hSch
  by_cases r0 : r = 0
  · subst r0
    rfl
  rw [if_neg r0, if_neg r0]
  by_cases r1 : r = 1
  · subst r1
    rfl
  rw [if_neg r1, if_neg r1]
  by_cases r2 : r = 2
  · subst r2
    rfl
  rw [if_neg r2, if_neg r2]
  by_cases r7 : r < 7
  · rw [if_pos r7, if_pos r7]
    rfl
  rw [if_neg r7, if_neg r7]
  by_cases r8 : r = 7
  · subst r8
    rfl
  rw [if_neg r8, if_neg r8]
  generalize hq : (r - 8) / 5 = q
  have a0 : ad E 13 j (2 * q) = E.1 + (hSb j + 8 + 5 * q + 1) := by
    show E.1 + (hSb j + 9 + 5 * (2 * q / 2) + 2 * (2 * q % 2)) = _
    omega
  have a1 : ad E 13 j (2 * q + 1) = E.1 + (hSb j + 8 + 5 * q + 3) := by
    show E.1 + (hSb j + 9 + 5 * ((2 * q + 1) / 2) + 2 * ((2 * q + 1) % 2)) = _
    omega
  have a2 : ad E 14 j (2 * q) = E.1 + (hSb j + 8 + 5 * q + 2) := by
    show E.1 + (hSb j + 10 + 5 * (2 * q / 2) + 2 * (2 * q % 2)) = _
    omega
  have a3 : ad E 14 j (2 * q + 1) = E.1 + (hSb j + 8 + 5 * q + 4) := by
    show E.1 + (hSb j + 10 + 5 * ((2 * q + 1) / 2) + 2 * ((2 * q + 1) % 2)) = _
    omega
  have ht : (r - 8) % 5 < 5 := Nat.mod_lt _ (by decide)
  generalize (r - 8) % 5 = t at ht
  rcases (show t = 0 ∨ t = 1 ∨ t = 2 ∨ t = 3 ∨ t = 4 by omega) with rfl | rfl | rfl | rfl | rfl
  · show pC E (hSb j + 8 + 5 * q) q 0 = hC E M0 12 j q
    unfold pC hC
    rw [a0, a1]
    rfl
  · show pC E (hSb j + 8 + 5 * q) q 1 = hC E M0 13 j (2 * q)
    unfold pC hC
    rw [a2]
    rfl
  · rfl
  · show pC E (hSb j + 8 + 5 * q) q 3 = hC E M0 13 j (2 * q + 1)
    unfold pC hC
    rw [a3]
    rfl
  · rfl
theorem sCk {j n k : Nat} {g : Nat → va_E} (hj : j < 10) (hn : hSb j = n) (h1 : n ≤ k) (h2 : k < n + 68) (e : ∀ r, r < 68 → g (n + r) = sC E n r) : g k = fE E M0 k := by
  subst hn
  have e1 := e (k - hSb j) (by omega)
  rw [sC_fE hj (by omega), show hSb j + (k - hSb j) = k by omega] at e1
  exact e1
def enU (M : Mm) : Mm := enM (enM (enM (enM (enM M 0 0 0 8 3 0) 1 0 1 2 9 0) 2 1 0 5 5 1) 3 3 3 7 7 0) 4 3 4 1 6 1
def MA : Mm := enU (opM M0 30 4 2 1)
theorem k_X8_init (hf : f 0 = .inr (8, [.null, .null, .null, .null, .null, .null, .null, .null, .null])) (h : P none 694 (fE E MA)) : Kp E yX8_init cX8_init zk_X8 [.ref (E.1 + 0)] (0 + 1) f P := by
  refine Kp_of (own := RX8) (by decide) rfl (Nat.le_of_ble_eq_true rfl) (fun C hI => ?_)
  refine J_aload_n dX8_init_0 rfl ?_
  refine J_obj dX8_init_1 (hq 33 (by decide +kernel) rfl) (hq 34 (by decide +kernel) rfl) (hq 35 (by decide +kernel) rfl) (Nat.le_of_ble_eq_true rfl) (Nat.le_of_ble_eq_true rfl) ?_
  refine J_aload_n dX8_init_4 rfl ?_
  refine J_new (ci := 6) (ty := tyX6) (fs := [.null, .int 0, .int 0, .int 0, .int 0, .int 0, .int 0]) (cs' := 1) (ss' := 7) dX8_init_5 inX6 rfl tyX6_ok (hq 36 (by decide +kernel) rfl) (hq 37 (by decide +kernel) rfl) (hq 3 (by decide +kernel) rfl) zfX6 rfl rfl (Nat.le_of_ble_eq_true rfl) (Nat.le_of_ble_eq_true rfl) ?_
  refine J_dup dX8_init_8 rfl ?_
  refine J_callI (n := 0) (y := yX6_init) (b' := cX6_init) (z' := zk_X6) (as := []) (rest := [.ref (E.1 + 1), .ref (E.1 + 0)]) (cs' := 3) (ss' := 509) dX8_init_9 (hq 38 (by decide +kernel) rfl) (hq 3 (by decide +kernel) rfl) (hq 40 (by decide +kernel) rfl) (hq 39 (by decide +kernel) rfl) rfl rfl ⟨by decide, by decide, by decide +kernel⟩ rfl rfl (Nat.le_of_ble_eq_true rfl) (Nat.le_of_ble_eq_true rfl) (Nat.le_of_ble_eq_true rfl) rfl rfl (Nat.le_of_ble_eq_true rfl) (Nat.le_of_ble_eq_true rfl) ?_
  refine k_X6_init (i := 1) (by repeat (first | exact vu_at | assumption | refine (vu_ne (by omega)).trans ?_)) (fun f1 a1 b1 c1 d1 => ?_)
  have z1 : f1 0 = .inr (8, [.null, .null, .null, .null, .null, .null, .null, .null, .null]) := (a1 0 (by decide)).trans (by repeat (first | exact vu_at | assumption | refine (vu_ne (by omega)).trans ?_))
  have y1 : ∀ k, 1 ≤ k → k < 4 → f1 k = fE E M0 k := by
    intro k h1 h2
    rcases (show k = 1 ∨ k = 2 ∨ k = 3 by omega) with rfl | rfl | rfl
    · exact b1
    · exact c1
    · exact d1
  show J _ _ _ _ _ _ _ _ 4 _ _ _ _
  refine J_putF (i := 0) (fs := [.null, .null, .null, .null, .null, .null, .null, .null, .null]) (ci := 8) (ty0 := tyX8) (ty := tyX8 0) dX8_init_12 hI fl_X8_10 inX8 rfl tyX8_ok nmX8 (by decide) rfl rfl rfl (tyX8_ok 0 (by decide)) rfl rfl (by decide) z1 (Nat.le_of_ble_eq_true rfl) ?_
  refine J_aload_n dX8_init_15 rfl ?_
  refine J_new (ci := 4) (ty := tyX4) (fs := [.null, .null, .int 0]) (cs' := 4) (ss' := 512) dX8_init_16 inX4 rfl tyX4_ok (hq 81 (by decide +kernel) rfl) (hq 82 (by decide +kernel) rfl) (hq 5 (by decide +kernel) rfl) zfX4 rfl rfl (Nat.le_of_ble_eq_true rfl) (Nat.le_of_ble_eq_true rfl) ?_
  refine J_dup dX8_init_19 rfl ?_
  refine J_callIN (n := 0) (y := yX4_init) (b' := cX4_init) (z' := zk_X4) (as := []) (rest := [.ref (E.1 + 4), .ref (E.1 + 0)]) (cs' := 6) (ss' := 637) dX8_init_20 (fun U h => h.1) (hq 5 (by decide +kernel) rfl) (hq 85 (by decide +kernel) rfl) (hq 84 (by decide +kernel) rfl) rfl rfl ⟨by decide, by decide, by decide +kernel⟩ rfl rfl (Nat.le_of_ble_eq_true rfl) (Nat.le_of_ble_eq_true rfl) (Nat.le_of_ble_eq_true rfl) rfl rfl (Nat.le_of_ble_eq_true rfl) (Nat.le_of_ble_eq_true rfl) ?_
  refine k_X4_init (i := 4) (by repeat (first | exact vu_at | assumption | refine (vu_ne (by omega)).trans ?_)) (fun f2 a2 b2 c2 d2 => ?_)
  have z2 : f2 0 = .inr (8, [.ref (E.1 + 1), .null, .null, .null, .null, .null, .null, .null, .null]) := (a2 0 (by decide)).trans (by repeat (first | exact vu_at | assumption | refine (vu_ne (by omega)).trans ?_))
  have y2 : ∀ k, 1 ≤ k → k < 7 → f2 k = fE E M0 k := by
    intro k h1 h2
    by_cases q : k < 4
    · exact (a2 k q).trans ((vu_ne (by omega)).trans ((vu_ne (by omega)).trans (y1 k h1 q)))
    · rcases (show k = 4 ∨ k = 5 ∨ k = 6 by omega) with rfl | rfl | rfl
      · exact b2
      · exact c2
      · exact d2
  show J _ _ _ _ _ _ _ _ 7 _ _ _ _
  refine J_putF (i := 0) (fs := [.ref (E.1 + 1), .null, .null, .null, .null, .null, .null, .null, .null]) (ci := 8) (ty0 := tyX8) (ty := tyX8 1) dX8_init_23 hI fl_X8_19 inX8 rfl tyX8_ok nmX8 (by decide) rfl rfl rfl (tyX8_ok 1 (by decide)) rfl rfl (by decide) z2 (Nat.le_of_ble_eq_true rfl) ?_
  refine J_aload_n dX8_init_26 rfl ?_
  refine J_new (ci := 3) (ty := tyX3) (fs := [.null, .null, .null, .int 0, .int 0, .int 0, .int 0, .int 0, .int 0]) (cs' := 7) (ss' := 646) dX8_init_27 inX3 rfl tyX3_ok (hq 97 (by decide +kernel) rfl) (hq 98 (by decide +kernel) rfl) (hq 6 (by decide +kernel) rfl) zfX3 rfl rfl (Nat.le_of_ble_eq_true rfl) (Nat.le_of_ble_eq_true rfl) ?_
  refine J_dup dX8_init_30 rfl ?_
  refine J_callI (n := 0) (y := yX3_init) (b' := cX3_init) (z' := zk_X3) (as := []) (rest := [.ref (E.1 + 7), .ref (E.1 + 0)]) (cs' := 74) (ss' := 1477) dX8_init_31 (hq 99 (by decide +kernel) rfl) (hq 6 (by decide +kernel) rfl) (hq 101 (by decide +kernel) rfl) (hq 100 (by decide +kernel) rfl) rfl rfl ⟨by decide, by decide, by decide +kernel⟩ rfl rfl (Nat.le_of_ble_eq_true rfl) (Nat.le_of_ble_eq_true rfl) (Nat.le_of_ble_eq_true rfl) rfl rfl (Nat.le_of_ble_eq_true rfl) (Nat.le_of_ble_eq_true rfl) ?_
  refine k_X3_init (i := 7) (by repeat (first | exact vu_at | assumption | refine (vu_ne (by omega)).trans ?_)) (fun f3 a3 b3 => ?_)
  have z3 : f3 0 = .inr (8, [.ref (E.1 + 1), .ref (E.1 + 4), .null, .null, .null, .null, .null, .null, .null]) := (a3 0 (by decide)).trans (by repeat (first | exact vu_at | assumption | refine (vu_ne (by omega)).trans ?_))
  have y3 : ∀ k, 1 ≤ k → k < 75 → f3 k = fE E M0 k := by
    intro k h1 h2
    by_cases q : k < 7
    · exact (a3 k q).trans ((vu_ne (by omega)).trans ((vu_ne (by omega)).trans (y2 k h1 q)))
    · exact sCk (j := 0) (n := 7) (by decide) rfl (by omega) (by omega) b3
  show J _ _ _ _ _ _ _ _ 75 _ _ _ _
  refine J_putF (i := 0) (fs := [.ref (E.1 + 1), .ref (E.1 + 4), .null, .null, .null, .null, .null, .null, .null]) (ci := 8) (ty0 := tyX8) (ty := tyX8 2) dX8_init_34 hI fl_X8_26 inX8 rfl tyX8_ok nmX8 (by decide) rfl rfl rfl (tyX8_ok 2 (by decide)) rfl rfl (by decide) z3 (Nat.le_of_ble_eq_true rfl) ?_
  refine J_aload_n dX8_init_37 rfl ?_
  refine J_new (ci := 3) (ty := tyX3) (fs := [.null, .null, .null, .int 0, .int 0, .int 0, .int 0, .int 0, .int 0]) (cs' := 75) (ss' := 1486) dX8_init_38 inX3 rfl tyX3_ok (hq 97 (by decide +kernel) rfl) (hq 98 (by decide +kernel) rfl) (hq 6 (by decide +kernel) rfl) zfX3 rfl rfl (Nat.le_of_ble_eq_true rfl) (Nat.le_of_ble_eq_true rfl) ?_
  refine J_dup dX8_init_41 rfl ?_
  refine J_callI (n := 0) (y := yX3_init) (b' := cX3_init) (z' := zk_X3) (as := []) (rest := [.ref (E.1 + 75), .ref (E.1 + 0)]) (cs' := 142) (ss' := 2317) dX8_init_42 (hq 99 (by decide +kernel) rfl) (hq 6 (by decide +kernel) rfl) (hq 101 (by decide +kernel) rfl) (hq 100 (by decide +kernel) rfl) rfl rfl ⟨by decide, by decide, by decide +kernel⟩ rfl rfl (Nat.le_of_ble_eq_true rfl) (Nat.le_of_ble_eq_true rfl) (Nat.le_of_ble_eq_true rfl) rfl rfl (Nat.le_of_ble_eq_true rfl) (Nat.le_of_ble_eq_true rfl) ?_
  refine k_X3_init (i := 75) (by repeat (first | exact vu_at | assumption | refine (vu_ne (by omega)).trans ?_)) (fun f4 a4 b4 => ?_)
  have z4 : f4 0 = .inr (8, [.ref (E.1 + 1), .ref (E.1 + 4), .ref (E.1 + 7), .null, .null, .null, .null, .null, .null]) := (a4 0 (by decide)).trans (by repeat (first | exact vu_at | assumption | refine (vu_ne (by omega)).trans ?_))
  have y4 : ∀ k, 1 ≤ k → k < 143 → f4 k = fE E M0 k := by
    intro k h1 h2
    by_cases q : k < 75
    · exact (a4 k q).trans ((vu_ne (by omega)).trans ((vu_ne (by omega)).trans (y3 k h1 q)))
    · exact sCk (j := 1) (n := 75) (by decide) rfl (by omega) (by omega) b4
  show J _ _ _ _ _ _ _ _ 143 _ _ _ _
  refine J_putF (i := 0) (fs := [.ref (E.1 + 1), .ref (E.1 + 4), .ref (E.1 + 7), .null, .null, .null, .null, .null, .null]) (ci := 8) (ty0 := tyX8) (ty := tyX8 3) dX8_init_45 hI fl_X8_30 inX8 rfl tyX8_ok nmX8 (by decide) rfl rfl rfl (tyX8_ok 3 (by decide)) rfl rfl (by decide) z4 (Nat.le_of_ble_eq_true rfl) ?_
  refine J_aload_n dX8_init_48 rfl ?_
  refine J_new (ci := 7) (ty := tyX7) (fs := [.null, .int 0, .int 0]) (cs' := 143) (ss' := 2320) dX8_init_49 inX7 rfl tyX7_ok (hq 253 (by decide +kernel) rfl) (hq 254 (by decide +kernel) rfl) (hq 10 (by decide +kernel) rfl) zfX7 rfl rfl (Nat.le_of_ble_eq_true rfl) (Nat.le_of_ble_eq_true rfl) ?_
  refine J_dup dX8_init_52 rfl ?_
  refine J_callI (n := 0) (y := yX7_init) (b' := cX7_init) (z' := zk_X7) (as := []) (rest := [.ref (E.1 + 143), .ref (E.1 + 0)]) (cs' := 552) (ss' := 7366) dX8_init_53 (hq 255 (by decide +kernel) rfl) (hq 10 (by decide +kernel) rfl) (hq 257 (by decide +kernel) rfl) (hq 256 (by decide +kernel) rfl) rfl rfl ⟨by decide, by decide, by decide +kernel⟩ rfl rfl (Nat.le_of_ble_eq_true rfl) (Nat.le_of_ble_eq_true rfl) (Nat.le_of_ble_eq_true rfl) rfl rfl (Nat.le_of_ble_eq_true rfl) (Nat.le_of_ble_eq_true rfl) ?_
  refine k_X7_init (i := 143) (by repeat (first | exact vu_at | assumption | refine (vu_ne (by omega)).trans ?_)) (fun f5 a5 b5 c5 d5 => ?_)
  show J _ _ _ _ _ _ _ _ 553 _ _ _ _
  refine J_arr (i := 144) (by decide) c5 (g' := fun i => some (ad E 7 (2 + i) 0)) (fun q hq => ?_) ?_
  · rcases (show q = 0 ∨ q = 1 ∨ q = 2 ∨ q = 3 ∨ q = 4 ∨ q = 5 by omega) with rfl | rfl | rfl | rfl | rfl | rfl <;> rfl
  have z5 : va_up f5 144 (.inl (E.2.2.1 4, 6, .inr (.inr (.inr (.inr (fun i => some (ad E 7 (2 + i) 0))))))) 0 = .inr (8, [.ref (E.1 + 1), .ref (E.1 + 4), .ref (E.1 + 7), .ref (E.1 + 75), .null, .null, .null, .null, .null]) := (vu_ne (by decide)).trans ((a5 0 (by decide)).trans (by repeat (first | exact vu_at | assumption | refine (vu_ne (by omega)).trans ?_)))
  have y5 : ∀ k, 1 ≤ k → k < 553 → va_up f5 144 (.inl (E.2.2.1 4, 6, .inr (.inr (.inr (.inr (fun i => some (ad E 7 (2 + i) 0))))))) k = fE E M0 k := by
    intro k h1 h2
    by_cases q : k < 143
    · exact (vu_ne (by omega)).trans ((a5 k q).trans ((vu_ne (by omega)).trans ((vu_ne (by omega)).trans (y4 k h1 q))))
    · by_cases e3 : k = 143
      · subst e3
        exact (vu_ne (by decide)).trans b5
      · by_cases e4 : k = 144
        · subst e4
          exact vu_at
        · refine (vu_ne e4).trans ?_
          have hq6 : (k - 145) / 68 < 6 := by omega
          refine sCk (j := 2 + (k - 145) / 68) (n := 143 + 2 + 68 * ((k - 145) / 68)) (by omega) ?_ (by omega) (by omega) (d5 _ hq6)
          unfold hSb
          rw [if_neg (by omega), if_pos (by omega)]
          omega
  generalize va_up f5 144 (.inl (E.2.2.1 4, 6, .inr (.inr (.inr (.inr (fun i => some (ad E 7 (2 + i) 0))))))) = f6 at z5 y5 ⊢
  have key : ∀ f0 : Nat → va_E, (∀ k, 1 ≤ k → k < 558 → k ≠ 553 → f0 k = fE E M0 k) → f0 0 = .inr (8, [.ref (E.1 + 1), .ref (E.1 + 4), .ref (E.1 + 7), .ref (E.1 + 75), .ref (E.1 + 143), .ref (E.1 + 553), .ref (E.1 + 554), .ref (E.1 + 555), .ref (E.1 + 556)]) → f0 553 = .inl (E.2.2.1 4, 2, .inr (.inr (.inr (.inr (fun _ => none))))) → J E C RX8 cX8_init zk_X8 P 557 7883 558 f0 98 [(0, .ref (E.1 + 0)), (1, .int (nI 0))] [] := by
    intro f0 k0 k1 k2
    refine up0 (c := 2) (H := fun p => ∀ (f1 : Nat → va_E) (g1 : Nat → Option Nat), (∀ k, 1 ≤ k → k < 558 + 68 * p → k ≠ 553 → f1 k = fE E M0 k) → f1 0 = .inr (8, [.ref (E.1 + 1), .ref (E.1 + 4), .ref (E.1 + 7), .ref (E.1 + 75), .ref (E.1 + 143), .ref (E.1 + 553), .ref (E.1 + 554), .ref (E.1 + 555), .ref (E.1 + 556)]) → f1 553 = .inl (E.2.2.1 4, 2, .inr (.inr (.inr (.inr g1)))) → (∀ q, q < p → g1 q = some (ad E 7 (8 + q) 0)) → J E C RX8 cX8_init zk_X8 P (557 + 68 * p) (7883 + 840 * p) (558 + 68 * p) f1 98 [(0, .ref (E.1 + 0)), (1, .int (nI p))] []) (fun f1 g1 l0 l1 l2 l3 => ?_) (fun p hp ih f1 g1 l0 l1 l2 l3 => ?_) f0 _ k0 k1 k2 (fun q hq => absurd hq (Nat.not_lt_zero q))
    · refine J_iload_n dX8_init_98 rfl ?_
      refine J_iconst (v := 2) dX8_init_99 (by decide) ?_
      refine J_icmp_ge (tgt := 122) dX8_init_100 (by decide) (fun c100 => ?_) (fun c100 => ?_)
      · refine J_arr (i := 553) (by decide) l2 (g' := fun i => some (ad E 7 (8 + i) 0)) l3 ?_
        show J _ _ _ _ _ _ _ _ 694 _ _ _ _
        refine J_ext (f' := fE E M0) (fun i hi => ?_) ?_
        · by_cases e0 : i = 0
          · subst e0
            exact (vu_ne (by decide)).trans l1
          · by_cases e1 : i = 553
            · subst e1
              exact vu_at
            · exact (vu_ne e1).trans (l0 i (by omega) hi e1)
        have h0 : hOff 0 0 0 < 694 := (by decide)
        have h7 : hOff 7 0 0 < 694 := (by decide)
        refine J_aload_n dX8_init_122 rfl ?_
        refine jgf_X8_26 dX8_init_123  h0 ?_
        refine J_bipush (v := 30) dX8_init_126 (by decide) ?_
        refine J_iconst (v := 4) dX8_init_128 (by decide) ?_
        refine J_iconst (v := 2) dX8_init_129 (by decide) ?_
        refine J_iconst (v := 1) dX8_init_130 (by decide) ?_
        refine J_callV (i := hOff 7 0 0) (ci := 3) (T := TX3) (n9 := 9) (as := [.int 30, .int 4, .int 2, .int 1]) (rest := []) (cs' := 693) (ss' := 9563) dX8_init_131 lk_X8_61 h7 (fE_at ⟨by decide, rfl⟩ rfl) rfl rfl rfl (Nat.le_of_ble_eq_true rfl) (Nat.le_of_ble_eq_true rfl) (Nat.le_of_ble_eq_true rfl) rfl rfl (Nat.le_of_ble_eq_true rfl) (Nat.le_of_ble_eq_true rfl) ?_
        refine k_X3_open (by decide) (by decide) (hGj_v ?_)
        refine J_aload_n dX8_init_134 rfl ?_
        refine jgf_X8_26 dX8_init_135  h0 ?_
        refine J_iconst (v := 0) dX8_init_138 (by decide) ?_
        refine J_iconst (v := 0) dX8_init_139 (by decide) ?_
        refine J_bipush (v := 8) dX8_init_140 (by decide) ?_
        refine J_iconst (v := 3) dX8_init_142 (by decide) ?_
        refine J_iconst (v := 0) dX8_init_143 (by decide) ?_
        refine J_callV (i := hOff 7 0 0) (ci := 3) (T := TX3) (n9 := 9) (as := [.int 0, .int 0, .int 8, .int 3, .int 0]) (rest := []) (cs' := 693) (ss' := 9563) dX8_init_144 lk_X8_65 h7 (fE_at ⟨by decide, rfl⟩ rfl) rfl rfl rfl (Nat.le_of_ble_eq_true rfl) (Nat.le_of_ble_eq_true rfl) (Nat.le_of_ble_eq_true rfl) rfl rfl (Nat.le_of_ble_eq_true rfl) (Nat.le_of_ble_eq_true rfl) ?_
        refine k_X3_enrol (n := 0) (by decide) (by decide) (by decide) (by decide +kernel) (by decide) (hGj_v ?_)
        refine J_aload_n dX8_init_147 rfl ?_
        refine jgf_X8_26 dX8_init_148  h0 ?_
        refine J_iconst (v := 0) dX8_init_151 (by decide) ?_
        refine J_iconst (v := 1) dX8_init_152 (by decide) ?_
        refine J_iconst (v := 2) dX8_init_153 (by decide) ?_
        refine J_bipush (v := 9) dX8_init_154 (by decide) ?_
        refine J_iconst (v := 0) dX8_init_156 (by decide) ?_
        refine J_callV (i := hOff 7 0 0) (ci := 3) (T := TX3) (n9 := 9) (as := [.int 0, .int 1, .int 2, .int 9, .int 0]) (rest := []) (cs' := 693) (ss' := 9563) dX8_init_157 lk_X8_65 h7 (fE_at ⟨by decide, rfl⟩ rfl) rfl rfl rfl (Nat.le_of_ble_eq_true rfl) (Nat.le_of_ble_eq_true rfl) (Nat.le_of_ble_eq_true rfl) rfl rfl (Nat.le_of_ble_eq_true rfl) (Nat.le_of_ble_eq_true rfl) ?_
        refine k_X3_enrol (n := 1) (by decide) (by decide) (by decide) (by decide +kernel) (by decide) (hGj_v ?_)
        refine J_aload_n dX8_init_160 rfl ?_
        refine jgf_X8_26 dX8_init_161  h0 ?_
        refine J_iconst (v := 1) dX8_init_164 (by decide) ?_
        refine J_iconst (v := 0) dX8_init_165 (by decide) ?_
        refine J_iconst (v := 5) dX8_init_166 (by decide) ?_
        refine J_iconst (v := 5) dX8_init_167 (by decide) ?_
        refine J_iconst (v := 1) dX8_init_168 (by decide) ?_
        refine J_callV (i := hOff 7 0 0) (ci := 3) (T := TX3) (n9 := 9) (as := [.int 1, .int 0, .int 5, .int 5, .int 1]) (rest := []) (cs' := 693) (ss' := 9563) dX8_init_169 lk_X8_65 h7 (fE_at ⟨by decide, rfl⟩ rfl) rfl rfl rfl (Nat.le_of_ble_eq_true rfl) (Nat.le_of_ble_eq_true rfl) (Nat.le_of_ble_eq_true rfl) rfl rfl (Nat.le_of_ble_eq_true rfl) (Nat.le_of_ble_eq_true rfl) ?_
        refine k_X3_enrol (n := 2) (by decide) (by decide) (by decide) (by decide +kernel) (by decide) (hGj_v ?_)
        refine J_aload_n dX8_init_172 rfl ?_
        refine jgf_X8_26 dX8_init_173  h0 ?_
        refine J_iconst (v := 3) dX8_init_176 (by decide) ?_
        refine J_iconst (v := 3) dX8_init_177 (by decide) ?_
        refine J_bipush (v := 7) dX8_init_178 (by decide) ?_
        refine J_bipush (v := 7) dX8_init_180 (by decide) ?_
        refine J_iconst (v := 0) dX8_init_182 (by decide) ?_
        refine J_callV (i := hOff 7 0 0) (ci := 3) (T := TX3) (n9 := 9) (as := [.int 3, .int 3, .int 7, .int 7, .int 0]) (rest := []) (cs' := 693) (ss' := 9563) dX8_init_183 lk_X8_65 h7 (fE_at ⟨by decide, rfl⟩ rfl) rfl rfl rfl (Nat.le_of_ble_eq_true rfl) (Nat.le_of_ble_eq_true rfl) (Nat.le_of_ble_eq_true rfl) rfl rfl (Nat.le_of_ble_eq_true rfl) (Nat.le_of_ble_eq_true rfl) ?_
        refine k_X3_enrol (n := 3) (by decide) (by decide) (by decide) (by decide +kernel) (by decide) (hGj_v ?_)
        refine J_aload_n dX8_init_186 rfl ?_
        refine jgf_X8_26 dX8_init_187  h0 ?_
        refine J_iconst (v := 3) dX8_init_190 (by decide) ?_
        refine J_iconst (v := 4) dX8_init_191 (by decide) ?_
        refine J_iconst (v := 1) dX8_init_192 (by decide) ?_
        refine J_bipush (v := 6) dX8_init_193 (by decide) ?_
        refine J_iconst (v := 1) dX8_init_195 (by decide) ?_
        refine J_callV (i := hOff 7 0 0) (ci := 3) (T := TX3) (n9 := 9) (as := [.int 3, .int 4, .int 1, .int 6, .int 1]) (rest := []) (cs' := 693) (ss' := 9563) dX8_init_196 lk_X8_65 h7 (fE_at ⟨by decide, rfl⟩ rfl) rfl rfl rfl (Nat.le_of_ble_eq_true rfl) (Nat.le_of_ble_eq_true rfl) (Nat.le_of_ble_eq_true rfl) rfl rfl (Nat.le_of_ble_eq_true rfl) (Nat.le_of_ble_eq_true rfl) ?_
        refine k_X3_enrol (n := 4) (by decide) (by decide) (by decide) (by decide +kernel) (by decide) (hGj_v ?_)
        refine J_vret dX8_init_199 rfl (Nat.le_of_ble_eq_true rfl) (Nat.le_of_ble_eq_true rfl) ?_
        exact h
      · exact absurd (show nI 2 ≤ nI 2 from Int32.le_refl _) c100
    · refine J_iload_n dX8_init_98 rfl ?_
      refine J_iconst (v := 2) dX8_init_99 (by decide) ?_
      refine J_icmp_ge (tgt := 122) dX8_init_100 (by decide) (fun c100 => ?_) (fun c100 => ?_)
      · exact absurd (show nI 2 ≤ nI p from c100) (nI_ge hp (by decide))
      · refine J_aload_n dX8_init_103 rfl ?_
        refine J_getf (i := 0) (fs := [.ref (E.1 + 1), .ref (E.1 + 4), .ref (E.1 + 7), .ref (E.1 + 75), .ref (E.1 + 143), .ref (E.1 + 553), .ref (E.1 + 554), .ref (E.1 + 555), .ref (E.1 + 556)]) (ci := 8) dX8_init_104 fl_X8_40 inX8 rfl (by decide) rfl (by omega) l1 rfl ?_
        refine J_iload_n dX8_init_107 rfl ?_
        refine J_new (ci := 3) (ty := tyX3) (fs := [.null, .null, .null, .int 0, .int 0, .int 0, .int 0, .int 0, .int 0]) (cs' := 557 + 68 * p + 1) (ss' := 7883 + 840 * p + 9) dX8_init_108 inX3 rfl tyX3_ok (hq 97 (by decide +kernel) rfl) (hq 98 (by decide +kernel) rfl) (hq 6 (by decide +kernel) rfl) zfX3 rfl rfl (by show 557 + 68 * p + 1 ≤ 693; omega) (by show 7883 + 840 * p + 9 ≤ 9807; omega) ?_
        refine J_dup dX8_init_111 rfl ?_
        refine J_callI (n := 0) (y := yX3_init) (b' := cX3_init) (z' := zk_X3) (as := []) (rest := [.ref (E.1 + (558 + 68 * p)), .int (nI p), .ref (E.1 + 553)]) (cs' := 557 + 68 * (p + 1)) (ss' := 7883 + 840 * (p + 1)) dX8_init_112 (hq 99 (by decide +kernel) rfl) (hq 6 (by decide +kernel) rfl) (hq 101 (by decide +kernel) rfl) (hq 100 (by decide +kernel) rfl) rfl rfl ⟨by decide, by decide, by decide +kernel⟩ rfl rfl (Nat.le_of_ble_eq_true rfl) (Nat.le_of_ble_eq_true rfl) (Nat.le_of_ble_eq_true rfl) (by show 557 + 68 * p + 1 + 67 = 557 + 68 * (p + 1); omega) (by show 7883 + 840 * p + 9 + 831 = 7883 + 840 * (p + 1); omega) (by show 557 + 68 * (p + 1) ≤ 693; omega) (by show 7883 + 840 * (p + 1) ≤ 9807; omega) ?_
        refine k_X3_init (i := 558 + 68 * p) (by repeat (first | exact vu_at | assumption | refine (vu_ne (by omega)).trans ?_)) (fun f2 m0 m1 => ?_)
        have n1 : f2 553 = .inl (E.2.2.1 4, 2, .inr (.inr (.inr (.inr g1)))) := (m0 _ (by omega)).trans ((vu_ne (by omega)).trans l2)
        have hsb : hSb (8 + p) = 558 + 68 * p := by
          unfold hSb
          rw [if_neg (by omega), if_neg (by omega)]
          omega
        show J _ _ _ _ _ _ _ _ (558 + 68 * p + 68) _ _ _ _
        refine J_aast (i := 553) (v := 558 + 68 * p) (t0 := 4) (ci := 3) dX8_init_115 (by omega) n1 rfl (by omega) (m1 0 (by decide)) rfl rfl hp (by decide) ?_
        refine J_iinc (v := 1) dX8_init_116 rfl (Nat.le_of_ble_eq_true rfl) (by decide) ?_
        refine J_goto (tgt := 98) dX8_init_119 (by decide) ?_
        refine J_lv2 (ih _ (va_up g1 p (some (E.1 + (558 + 68 * p)))) (fun k h1 h2 hne => ?_) ((vu_ne (by decide)).trans ((m0 0 (by omega)).trans ((vu_ne (by omega)).trans l1))) vu_at (fun q hq => ?_)) ⟨rfl, lvi (nI_1 p), trivial⟩
        · refine (vu_ne hne).trans ?_
          by_cases q : k < 558 + 68 * p
          · exact (m0 k q).trans ((vu_ne (by omega)).trans (l0 k h1 q hne))
          · exact sCk (j := 8 + p) (n := 558 + 68 * p) (by omega) hsb (by omega) (by omega) m1
        · unfold va_up
          by_cases e : q = p
          · rw [if_pos e, e]
            show _ = some (E.1 + hSb (8 + p))
            rw [hsb]
          · rw [if_neg e]
            exact l3 q (by omega)
  refine J_putF (i := 0) (fs := [.ref (E.1 + 1), .ref (E.1 + 4), .ref (E.1 + 7), .ref (E.1 + 75), .null, .null, .null, .null, .null]) (ci := 8) (ty0 := tyX8) (ty := tyX8 4) dX8_init_56 hI fl_X8_36 inX8 rfl tyX8_ok nmX8 (by decide) rfl rfl rfl (tyX8_ok 4 (by decide)) rfl rfl (by decide) z5 (Nat.le_of_ble_eq_true rfl) ?_
  refine J_aload_n dX8_init_59 rfl ?_
  refine J_iconst (v := 2) dX8_init_60 (by decide) ?_
  refine J_newq (t0 := 4) (n := 2) (cs' := 553) (ss' := 7368) dX8_init_61 (hq 97 (by decide +kernel) rfl) (fun U h => h.2.2.2.2) rfl (by decide) (by decide) (Nat.le_of_ble_eq_true rfl) rfl rfl (Nat.le_of_ble_eq_true rfl) (Nat.le_of_ble_eq_true rfl) ?_
  refine J_putF (i := 0) (fs := [.ref (E.1 + 1), .ref (E.1 + 4), .ref (E.1 + 7), .ref (E.1 + 75), .ref (E.1 + 143), .null, .null, .null, .null]) (ci := 8) (ty0 := tyX8) (ty := tyX8 5) dX8_init_64 hI fl_X8_40 inX8 rfl tyX8_ok nmX8 (by decide) rfl rfl rfl (tyX8_ok 5 (by decide)) rfl rfl (by decide) (by repeat (first | exact vu_at | assumption | refine (vu_ne (by omega)).trans ?_)) (Nat.le_of_ble_eq_true rfl) ?_
  refine J_aload_n dX8_init_67 rfl ?_
  refine J_iconst (v := 2) dX8_init_68 (by decide) ?_
  refine J_newa (t0 := 2) (n := 2) (atype := .boolean) (ty := .boolean) (a0 := (2, .inl (fun _ => 0))) (cs' := 554) (ss' := 7370) dX8_init_69 (hq 327 (by decide +kernel) rfl) rfl (fun _ h => by cases h) rfl (fun _ => rfl) (by decide) (by decide) (Nat.le_of_ble_eq_true rfl) rfl rfl (Nat.le_of_ble_eq_true rfl) (Nat.le_of_ble_eq_true rfl) ?_
  refine J_putF (i := 0) (fs := [.ref (E.1 + 1), .ref (E.1 + 4), .ref (E.1 + 7), .ref (E.1 + 75), .ref (E.1 + 143), .ref (E.1 + 553), .null, .null, .null]) (ci := 8) (ty0 := tyX8) (ty := tyX8 6) dX8_init_71 hI fl_X8_44 inX8 rfl tyX8_ok nmX8 (by decide) rfl rfl rfl (tyX8_ok 6 (by decide)) rfl rfl (by decide) (by repeat (first | exact vu_at | assumption | refine (vu_ne (by omega)).trans ?_)) (Nat.le_of_ble_eq_true rfl) ?_
  refine J_aload_n dX8_init_74 rfl ?_
  refine J_bipush (v := 11) dX8_init_75 (by decide) ?_
  refine J_newa (t0 := 0) (n := 11) (atype := .int) (ty := .int) (a0 := (11, .inl (fun _ => 0))) (cs' := 555) (ss' := 7381) dX8_init_77 (hq 96 (by decide +kernel) rfl) rfl (fun _ h => by cases h) rfl (fun _ => rfl) (by decide) (by decide) (Nat.le_of_ble_eq_true rfl) rfl rfl (Nat.le_of_ble_eq_true rfl) (Nat.le_of_ble_eq_true rfl) ?_
  refine J_putF (i := 0) (fs := [.ref (E.1 + 1), .ref (E.1 + 4), .ref (E.1 + 7), .ref (E.1 + 75), .ref (E.1 + 143), .ref (E.1 + 553), .ref (E.1 + 554), .null, .null]) (ci := 8) (ty0 := tyX8) (ty := tyX8 7) dX8_init_79 hI fl_X8_48 inX8 rfl tyX8_ok nmX8 (by decide) rfl rfl rfl (tyX8_ok 7 (by decide)) rfl rfl (by decide) (by repeat (first | exact vu_at | assumption | refine (vu_ne (by omega)).trans ?_)) (Nat.le_of_ble_eq_true rfl) ?_
  refine J_aload_n dX8_init_82 rfl ?_
  refine J_new (ci := 5) (ty := tyX5) (fs := [.null, .int 0]) (cs' := 556) (ss' := 7383) dX8_init_83 inX5 rfl tyX5_ok (hq 273 (by decide +kernel) rfl) (hq 43 (by decide +kernel) rfl) (hq 4 (by decide +kernel) rfl) zfX5 rfl rfl (Nat.le_of_ble_eq_true rfl) (Nat.le_of_ble_eq_true rfl) ?_
  refine J_dup dX8_init_86 rfl ?_
  refine J_sipush (v := 256) dX8_init_87 (by decide) ?_
  refine J_callI (n := 1) (y := yX5_init) (b' := cX5_init) (z' := zk_X5) (as := [.int (nI 256)]) (rest := [.ref (E.1 + 556), .ref (E.1 + 0)]) (cs' := 557) (ss' := 7883) dX8_init_90 (hq 274 (by decide +kernel) rfl) (hq 4 (by decide +kernel) rfl) (hq 46 (by decide +kernel) rfl) (hq 45 (by decide +kernel) rfl) rfl rfl ⟨by decide, by decide, by decide +kernel⟩ rfl rfl (Nat.le_of_ble_eq_true rfl) (Nat.le_of_ble_eq_true rfl) (Nat.le_of_ble_eq_true rfl) rfl rfl (Nat.le_of_ble_eq_true rfl) (Nat.le_of_ble_eq_true rfl) ?_
  refine k_X5_init (i := 556) (by decide) (by decide) (by repeat (first | exact vu_at | assumption | refine (vu_ne (by omega)).trans ?_)) (fun f7 a7 b7 c7 => ?_)
  have z7 : f7 0 = .inr (8, [.ref (E.1 + 1), .ref (E.1 + 4), .ref (E.1 + 7), .ref (E.1 + 75), .ref (E.1 + 143), .ref (E.1 + 553), .ref (E.1 + 554), .ref (E.1 + 555), .null]) := (a7 0 (by decide)).trans (by repeat (first | exact vu_at | assumption | refine (vu_ne (by omega)).trans ?_))
  have x7 : f7 553 = .inl (E.2.2.1 4, 2, .inr (.inr (.inr (.inr (fun _ => none))))) := (a7 553 (by decide)).trans (by repeat (first | exact vu_at | assumption | refine (vu_ne (by omega)).trans ?_))
  show J _ _ _ _ _ _ _ _ 558 _ _ _ _
  refine J_putF (i := 0) (fs := [.ref (E.1 + 1), .ref (E.1 + 4), .ref (E.1 + 7), .ref (E.1 + 75), .ref (E.1 + 143), .ref (E.1 + 553), .ref (E.1 + 554), .ref (E.1 + 555), .null]) (ci := 8) (ty0 := tyX8) (ty := tyX8 8) dX8_init_93 hI fl_X8_57 inX8 rfl tyX8_ok nmX8 (by decide) rfl rfl rfl (tyX8_ok 8 (by decide)) rfl rfl (by decide) z7 (Nat.le_of_ble_eq_true rfl) ?_
  refine J_iconst (v := 0) dX8_init_96 (by decide) ?_
  refine J_istore_n dX8_init_97 (Nat.le_of_ble_eq_true rfl) ?_
  refine J_lv2 (key _ (fun k h1 h2 hne => ?_) vu_at ((vu_ne (by decide)).trans x7)) ⟨rfl, rfl, trivial⟩
  refine (vu_ne (by omega)).trans ?_
  by_cases q : k < 553
  · exact (a7 k (by omega)).trans ((vu_ne (by omega)).trans ((vu_ne (by omega)).trans ((vu_ne (by omega)).trans ((vu_ne (by omega)).trans ((vu_ne (by omega)).trans ((vu_ne (by omega)).trans ((vu_ne (by omega)).trans ((vu_ne (by omega)).trans (y5 k h1 q)))))))))
  · rcases (show k = 554 ∨ k = 555 ∨ k = 556 ∨ k = 557 by omega) with rfl | rfl | rfl | rfl
    · exact (a7 554 (by decide)).trans ((vu_ne (by decide)).trans ((vu_ne (by decide)).trans ((vu_ne (by decide)).trans ((vu_ne (by decide)).trans vu_at))))
    · exact (a7 555 (by decide)).trans ((vu_ne (by decide)).trans ((vu_ne (by decide)).trans vu_at))
    · exact b7
    · exact c7
theorem fl_X9_7 : Cond.fieldLink RX9 7 (TX9 0).1 (TX9 0).2.1 (TX9 0).2.2.1 ∈ hTB := (hq 596 (by decide +kernel) rfl)
theorem zfX9 : ∀ j, j < 2 → defaultValue (tyX9 j) = vp_V [.null, .int 0] j := by
  intro j hj
  rcases (show j = 0 ∨ j = 1 by omega) with rfl | rfl <;> rfl
abbrev zk_X9 : Zd := (2, none, (0, 0), 1, 20, [])
theorem k_X9_init {a : Nat} (hf : f 0 = .inr (9, [.null, .int 0])) (h : ∀ f', f' 0 = .inr (9, [.ref a, .int 0]) → P none 1 f') : Kp E yX9_init cX9_init zk_X9 [.ref (E.1 + 0), .ref a] (0 + 1) f P := by
  refine Kp_of (own := RX9) (by decide) rfl (Nat.le_of_ble_eq_true rfl) (fun C hI => ?_)
  refine J_aload_n dX9_init_0 rfl ?_
  refine J_obj dX9_init_1 (hq 595 (by decide +kernel) rfl) (hq 34 (by decide +kernel) rfl) (hq 35 (by decide +kernel) rfl) (Nat.le_of_ble_eq_true rfl) (Nat.le_of_ble_eq_true rfl) ?_
  refine J_aload_n dX9_init_4 rfl ?_
  refine J_aload_n dX9_init_5 rfl ?_
  refine J_putF (i := 0) (fs := [.null, .int 0]) (ci := 9) (ty0 := tyX9) (ty := tyX9 0) dX9_init_6 hI fl_X9_7 inX9 rfl tyX9_ok nmX9 (by decide) rfl rfl rfl (tyX9_ok 0 (by decide)) rfl rfl (by decide) hf (Nat.le_of_ble_eq_true rfl) ?_
  refine J_vret dX9_init_9 rfl (Nat.le_of_ble_eq_true rfl) (Nat.le_of_ble_eq_true rfl) ?_
  exact h _ (by repeat (first | exact vu_at | assumption | refine (vu_ne (by omega)).trans ?_))
end JINIT
