/-! ===== the law's small methods: areNear, marks, seers, detention ===== -/
section LSMALL
variable {E : Ed} {M : Mm} {P : Res → Mm → Prop} {g : Gs}
theorem l_areNear {x y : Nat} (hx : x < g.A.n) (hy : y < g.A.n) (hC : CG M g) (hO : Okg g) (h : P (.inl (some (.int (if nr g.A x y = true then 1 else 0)))) M) : Sp E yL_areNear cL_areNear zL_areNear [.ref (ad E 0 0 0), .int (nI x), .int (nI y)] M P := by
  refine Sp_of (own := RL) (by decide) rfl rfl (Nat.le_of_ble_eq_true rfl) (fun C => ?_)
  have key : nr g.A x y = decide (iabs (g.A.f x 0 - g.A.f y 0) ≤ 1 ∧ iabs (g.A.f x 1 - g.A.f y 1) ≤ 1) := rfl
  refine G_aload_n dL_areNear_0 rfl ?_
  refine G_iload_n dL_areNear_1 rfl ?_
  refine G_iconst (v := 0) dL_areNear_2 (by decide) ?_
  refine cv_L_59 (cs' := 0) (ss' := 0) dL_areNear_3  (Nat.le_of_ble_eq_true rfl) (Nat.le_of_ble_eq_true rfl) (Nat.le_of_ble_eq_true rfl) rfl rfl (Nat.le_of_ble_eq_true rfl) (Nat.le_of_ble_eq_true rfl) rfl ?_
  refine u_pupil (k := 0) (by first | assumption | omega) (by first | decide | assumption | omega) hC hO (hGo_i ?_)
  refine G_aload_n dL_areNear_6 rfl ?_
  refine G_iload_n dL_areNear_7 rfl ?_
  refine G_iconst (v := 0) dL_areNear_8 (by decide) ?_
  refine cv_L_59 (cs' := 0) (ss' := 0) dL_areNear_9  (Nat.le_of_ble_eq_true rfl) (Nat.le_of_ble_eq_true rfl) (Nat.le_of_ble_eq_true rfl) rfl rfl (Nat.le_of_ble_eq_true rfl) (Nat.le_of_ble_eq_true rfl) rfl ?_
  refine u_pupil (k := 0) (by first | assumption | omega) (by first | decide | assumption | omega) hC hO (hGo_i ?_)
  refine G_isub dL_areNear_12 ?_
  refine G_mabs dL_areNear_13 (hqx 1056 (by decide +kernel) rfl) (hqx 918 (by decide +kernel) rfl) (hqx 15 (by decide +kernel) rfl) (hqx 919 (by decide +kernel) rfl) (Nat.le_of_ble_eq_true rfl) (Nat.le_of_ble_eq_true rfl) (Nat.le_of_ble_eq_true rfl) (Nat.le_of_ble_eq_true rfl) ?_
  refine G_iconst (v := 1) dL_areNear_16 (by decide) ?_
  refine G_icmp_gt (tgt := 44) dL_areNear_17 (by decide) (fun c17 => ?_) (fun c17 => ?_)
  · have c : ¬ iabs (g.A.f x 0 - g.A.f y 0) ≤ 1 := Int32.not_le.mpr c17
    refine G_iconst (v := 0) dL_areNear_44 (by decide) ?_
    refine G_iret dL_areNear_45 rfl rfl (Nat.le_of_ble_eq_true rfl) (Nat.le_of_ble_eq_true rfl) ?_
    rw [key, if_neg (by rw [decide_eq_true_eq]; exact fun q => c q.1)] at h
    exact h
  · have c : iabs (g.A.f x 0 - g.A.f y 0) ≤ 1 := Int32.not_lt.mp c17
    refine G_aload_n dL_areNear_20 rfl ?_
    refine G_iload_n dL_areNear_21 rfl ?_
    refine G_iconst (v := 1) dL_areNear_22 (by decide) ?_
    refine cv_L_59 (cs' := 0) (ss' := 0) dL_areNear_23  (Nat.le_of_ble_eq_true rfl) (Nat.le_of_ble_eq_true rfl) (Nat.le_of_ble_eq_true rfl) rfl rfl (Nat.le_of_ble_eq_true rfl) (Nat.le_of_ble_eq_true rfl) rfl ?_
    refine u_pupil (k := 1) (by first | assumption | omega) (by first | decide | assumption | omega) hC hO (hGo_i ?_)
    refine G_aload_n dL_areNear_26 rfl ?_
    refine G_iload_n dL_areNear_27 rfl ?_
    refine G_iconst (v := 1) dL_areNear_28 (by decide) ?_
    refine cv_L_59 (cs' := 0) (ss' := 0) dL_areNear_29  (Nat.le_of_ble_eq_true rfl) (Nat.le_of_ble_eq_true rfl) (Nat.le_of_ble_eq_true rfl) rfl rfl (Nat.le_of_ble_eq_true rfl) (Nat.le_of_ble_eq_true rfl) rfl ?_
    refine u_pupil (k := 1) (by first | assumption | omega) (by first | decide | assumption | omega) hC hO (hGo_i ?_)
    refine G_isub dL_areNear_32 ?_
    refine G_mabs dL_areNear_33 (hqx 1056 (by decide +kernel) rfl) (hqx 918 (by decide +kernel) rfl) (hqx 15 (by decide +kernel) rfl) (hqx 919 (by decide +kernel) rfl) (Nat.le_of_ble_eq_true rfl) (Nat.le_of_ble_eq_true rfl) (Nat.le_of_ble_eq_true rfl) (Nat.le_of_ble_eq_true rfl) ?_
    refine G_iconst (v := 1) dL_areNear_36 (by decide) ?_
    refine G_icmp_gt (tgt := 44) dL_areNear_37 (by decide) (fun c37 => ?_) (fun c37 => ?_)
    · have c' : ¬ iabs (g.A.f x 1 - g.A.f y 1) ≤ 1 := Int32.not_le.mpr c37
      refine G_iconst (v := 0) dL_areNear_44 (by decide) ?_
      refine G_iret dL_areNear_45 rfl rfl (Nat.le_of_ble_eq_true rfl) (Nat.le_of_ble_eq_true rfl) ?_
      rw [key, if_neg (by rw [decide_eq_true_eq]; exact fun q => c' q.2)] at h
      exact h
    · have c' : iabs (g.A.f x 1 - g.A.f y 1) ≤ 1 := Int32.not_lt.mp c37
      refine G_iconst (v := 1) dL_areNear_40 (by decide) ?_
      refine G_goto (tgt := 45) dL_areNear_41 (by decide) ?_
      refine G_iret dL_areNear_45 rfl rfl (Nat.le_of_ble_eq_true rfl) (Nat.le_of_ble_eq_true rfl) ?_
      rw [key, if_pos (decide_eq_true ⟨c, c'⟩)] at h
      exact h
theorem max_sub {c : Int32} {n : Nat} (hc : 0 ≤ c) (hn : n ≤ 20) : (if 0 < c - nI n then c - nI n else 0) = c - imin c (nI n) := by
  obtain ⟨k, hk, rfl⟩ := nI_of (Int32.not_lt.mpr hc)
  unfold imin
  by_cases q : n < k
  · rw [if_pos (nI_lt q hk), pk_sub (by omega), if_pos]
    exact nI_lt (a := 0) (by omega) (by omega)
  · rw [if_neg (nI_nlt (by omega) (by omega)), Int32.sub_self]
    by_cases q2 : n = k
    · rw [q2, Int32.sub_self, if_neg (by decide)]
    · refine if_neg (fun z => ?_)
      rw [Int32.lt_iff_toInt_lt, pk_sub_toInt (by omega) (by omega)] at z
      have : (0 : Int32).toInt = 0 := rfl
      omega
theorem l_marks {x : Nat} (hx : x < g.A.n) (hC : CG M g) (hO : Okg g) (h : P (.inl (some (.int (lackV g.A x)))) M) : Sp E yL_marks cL_marks zL_marks [.ref (ad E 0 0 0), .int (nI x)] M P := by
  refine Sp_of (own := RL) (by decide) rfl rfl (Nat.le_of_ble_eq_true rfl) (fun C => ?_)
  have e1 : (if 0 < g.A.g 4 - nI (g.A.s (2 * x)).length then g.A.g 4 - nI (g.A.s (2 * x)).length else 0) = g.A.g 4 - hdV g.A x 0 := max_sub hO.1.2.1.2.1 (hO.1.2.2.2.1 (2 * x) (by omega)).1
  have e2 : (if 0 < g.A.g 5 - nI (g.A.s (2 * x + 1)).length then g.A.g 5 - nI (g.A.s (2 * x + 1)).length else 0) = g.A.g 5 - hdV g.A x 1 := max_sub hO.1.2.1.2.2 (hO.1.2.2.2.1 (2 * x + 1) (by omega)).1
  refine G_iconst (v := 0) dL_marks_0 (by decide) ?_
  refine G_aload_n dL_marks_1 rfl ?_
  refine G_iconst (v := 4) dL_marks_2 (by decide) ?_
  refine cv_L_68 (cs' := 0) (ss' := 0) dL_marks_3  (Nat.le_of_ble_eq_true rfl) (Nat.le_of_ble_eq_true rfl) (Nat.le_of_ble_eq_true rfl) rfl rfl (Nat.le_of_ble_eq_true rfl) (Nat.le_of_ble_eq_true rfl) rfl ?_
  refine u_count (k := 4) (by first | decide | assumption | omega) hC (hGo_i ?_)
  refine G_aload_n dL_marks_6 rfl ?_
  refine G_iload_n dL_marks_7 rfl ?_
  refine G_bipush (v := 9) dL_marks_8 (by decide) ?_
  refine cv_L_59 (cs' := 0) (ss' := 0) dL_marks_10  (Nat.le_of_ble_eq_true rfl) (Nat.le_of_ble_eq_true rfl) (Nat.le_of_ble_eq_true rfl) rfl rfl (Nat.le_of_ble_eq_true rfl) (Nat.le_of_ble_eq_true rfl) rfl ?_
  refine u_pupil (k := 9) (by first | assumption | omega) (by first | decide | assumption | omega) hC hO (hGo_i ?_)
  refine G_isub dL_marks_13 ?_
  refine G_mmax dL_marks_14 (hqx 1031 (by decide +kernel) rfl) (hqx 674 (by decide +kernel) rfl) (hqx 15 (by decide +kernel) rfl) (hqx 675 (by decide +kernel) rfl) (Nat.le_of_ble_eq_true rfl) (Nat.le_of_ble_eq_true rfl) (Nat.le_of_ble_eq_true rfl) (Nat.le_of_ble_eq_true rfl) ?_
  refine G_iconst (v := 0) dL_marks_17 (by decide) ?_
  refine G_aload_n dL_marks_18 rfl ?_
  refine G_iconst (v := 5) dL_marks_19 (by decide) ?_
  refine cv_L_68 (cs' := 0) (ss' := 0) dL_marks_20  (Nat.le_of_ble_eq_true rfl) (Nat.le_of_ble_eq_true rfl) (Nat.le_of_ble_eq_true rfl) rfl rfl (Nat.le_of_ble_eq_true rfl) (Nat.le_of_ble_eq_true rfl) rfl ?_
  refine u_count (k := 5) (by first | decide | assumption | omega) hC (hGo_i ?_)
  refine G_aload_n dL_marks_23 rfl ?_
  refine G_iload_n dL_marks_24 rfl ?_
  refine G_bipush (v := 10) dL_marks_25 (by decide) ?_
  refine cv_L_59 (cs' := 0) (ss' := 0) dL_marks_27  (Nat.le_of_ble_eq_true rfl) (Nat.le_of_ble_eq_true rfl) (Nat.le_of_ble_eq_true rfl) rfl rfl (Nat.le_of_ble_eq_true rfl) (Nat.le_of_ble_eq_true rfl) rfl ?_
  refine u_pupil (k := 10) (by first | assumption | omega) (by first | decide | assumption | omega) hC hO (hGo_i ?_)
  refine G_isub dL_marks_30 ?_
  refine G_mmax dL_marks_31 (hqx 1031 (by decide +kernel) rfl) (hqx 674 (by decide +kernel) rfl) (hqx 15 (by decide +kernel) rfl) (hqx 675 (by decide +kernel) rfl) (Nat.le_of_ble_eq_true rfl) (Nat.le_of_ble_eq_true rfl) (Nat.le_of_ble_eq_true rfl) (Nat.le_of_ble_eq_true rfl) ?_
  refine G_iadd dL_marks_34 ?_
  refine G_iret dL_marks_35 rfl rfl (Nat.le_of_ble_eq_true rfl) (Nat.le_of_ble_eq_true rfl) ?_
  show P (.inl (some (.int ((if 0 < g.A.g 4 - nI (g.A.s (2 * x)).length then g.A.g 4 - nI (g.A.s (2 * x)).length else 0) + (if 0 < g.A.g 5 - nI (g.A.s (2 * x + 1)).length then g.A.g 5 - nI (g.A.s (2 * x + 1)).length else 0))))) M
  rw [e1, e2]
  exact h
/-- what the law counts: a spy who isn't detained and sits near one of both -/
theorem seeP_law {A : Ab} {x y k : Nat} (hs : A.f k 4 = 0 ∨ A.f k 4 = 1) : seeP A x y k = (decide (k ≠ x) && (decide (k ≠ y) && (decide (A.f k 4 = 1) && (decide (A.f k 8 = 0) && (nr A k x || nr A k y))))) := by
  unfold seeP sp
  rcases hs with e | e
  · rw [decide_eq_false (show ¬ (A.f k 4 ≠ 0 ∧ A.f k 8 = 0) from fun q => q.1 e), decide_eq_false (show ¬ A.f k 4 = 1 by rw [e]; decide)]
    simp
  · rw [decide_eq_true (show A.f k 4 = 1 from e), Bool.true_and]
    by_cases z : A.f k 8 = 0
    · rw [decide_eq_true (show A.f k 4 ≠ 0 ∧ A.f k 8 = 0 from ⟨by rw [e]; decide, z⟩), decide_eq_true z]
    · rw [decide_eq_false (show ¬ (A.f k 4 ≠ 0 ∧ A.f k 8 = 0) from fun q => z q.2), decide_eq_false (show ¬ A.f k 8 = 0 from z)]
theorem l_seers {x y : Nat} (hx : x < g.A.n) (hy : y < g.A.n) (hC : CG M g) (hO : Okg g) (h : P (.inl (some (.int (bc (seersV g.A x y))))) M) : Sp E yL_seers cL_seers zL_seers [.ref (ad E 0 0 0), .int (nI x), .int (nI y)] M P := by
  have h12 := hC.1.n12
  have hbc : bc (seersV g.A x y) = sm g.A.n (fun k => if seeP g.A x y k = true then 1 else 0) := bc_bs _ h12
  refine Sp_of (own := RL) (by decide) rfl rfl (Nat.le_of_ble_eq_true rfl) (fun C => ?_)
  refine G_iconst (v := 0) dL_seers_0 (by decide) ?_
  refine G_istore_n dL_seers_1 (Nat.le_of_ble_eq_true rfl) ?_
  refine G_iconst (v := 0) dL_seers_2 (by decide) ?_
  refine G_istore dL_seers_3 (Nat.le_of_ble_eq_true rfl) ?_
  refine G_lv (lv' := [(0, .ref (ad E 0 0 0)), (1, .int (nI x)), (2, .int (nI y)), (3, .int (sm 0 (fun k => if seeP g.A x y k = true then 1 else 0))), (4, .int (nI 0))]) ⟨rfl, rfl, rfl, rfl, rfl, trivial⟩ ?_
  refine up0 (c := g.A.n) (H := fun i => G E C RL cL_seers zL_seers P 0 0 M 5 [(0, .ref (ad E 0 0 0)), (1, .int (nI x)), (2, .int (nI y)), (3, .int (sm i (fun k => if seeP g.A x y k = true then 1 else 0))), (4, .int (nI i))] []) ?_ (fun i hi ih => ?_)
  · refine G_iload dL_seers_5 rfl ?_
    refine G_aload_n dL_seers_7 rfl ?_
    refine G_iconst (v := 0) dL_seers_8 (by decide) ?_
    refine cv_L_68 (cs' := 0) (ss' := 0) dL_seers_9  (Nat.le_of_ble_eq_true rfl) (Nat.le_of_ble_eq_true rfl) (Nat.le_of_ble_eq_true rfl) rfl rfl (Nat.le_of_ble_eq_true rfl) (Nat.le_of_ble_eq_true rfl) rfl ?_
    refine u_count (k := 0) (by first | decide | assumption | omega) hC (hGo_i ?_)
    refine G_icmp_ge (tgt := 83) dL_seers_12 (by decide) (fun c12 => ?_) (fun c12 => ?_)
    · refine G_iload_n dL_seers_83 rfl ?_
      refine G_iret dL_seers_84 rfl rfl (Nat.le_of_ble_eq_true rfl) (Nat.le_of_ble_eq_true rfl) ?_
      rw [hbc] at h
      exact h
    · exact absurd (show nI g.A.n ≤ nI g.A.n from Int32.le_refl _) c12
  · have e := seeP_law (x := x) (y := y) (hO.1.spy i hi)
    have hno : seeP g.A x y i = false → G E C RL cL_seers zL_seers P 0 0 M 74 [(0, .ref (ad E 0 0 0)), (1, .int (nI x)), (2, .int (nI y)), (3, .int (sm i (fun k => if seeP g.A x y k = true then 1 else 0))), (4, .int (nI i))] [.int (sm i (fun k => if seeP g.A x y k = true then 1 else 0))] := fun q => by
      refine G_iconst (v := 0) dL_seers_74 (by decide) ?_
      refine G_iadd dL_seers_75 ?_
      refine G_istore_n dL_seers_76 (Nat.le_of_ble_eq_true rfl) ?_
      refine G_iinc (v := 1) dL_seers_77 rfl (Nat.le_of_ble_eq_true rfl) (by decide) ?_
      refine G_goto (tgt := 5) dL_seers_80 (by decide) ?_
      exact G_lv2 ih ⟨rfl, rfl, rfl, lvi (by rw [← sm_t (v := 0) (by rw [q]; rfl)]), lvi (nI_1 i), trivial⟩
    have hyes : seeP g.A x y i = true → G E C RL cL_seers zL_seers P 0 0 M 70 [(0, .ref (ad E 0 0 0)), (1, .int (nI x)), (2, .int (nI y)), (3, .int (sm i (fun k => if seeP g.A x y k = true then 1 else 0))), (4, .int (nI i))] [.int (sm i (fun k => if seeP g.A x y k = true then 1 else 0))] := fun q => by
      refine G_iconst (v := 1) dL_seers_70 (by decide) ?_
      refine G_goto (tgt := 75) dL_seers_71 (by decide) ?_
      refine G_iadd dL_seers_75 ?_
      refine G_istore_n dL_seers_76 (Nat.le_of_ble_eq_true rfl) ?_
      refine G_iinc (v := 1) dL_seers_77 rfl (Nat.le_of_ble_eq_true rfl) (by decide) ?_
      refine G_goto (tgt := 5) dL_seers_80 (by decide) ?_
      exact G_lv2 ih ⟨rfl, rfl, rfl, lvi (by rw [← sm_t (v := 1) (by rw [q]; rfl)]), lvi (nI_1 i), trivial⟩
    refine G_iload dL_seers_5 rfl ?_
    refine G_aload_n dL_seers_7 rfl ?_
    refine G_iconst (v := 0) dL_seers_8 (by decide) ?_
    refine cv_L_68 (cs' := 0) (ss' := 0) dL_seers_9  (Nat.le_of_ble_eq_true rfl) (Nat.le_of_ble_eq_true rfl) (Nat.le_of_ble_eq_true rfl) rfl rfl (Nat.le_of_ble_eq_true rfl) (Nat.le_of_ble_eq_true rfl) rfl ?_
    refine u_count (k := 0) (by first | decide | assumption | omega) hC (hGo_i ?_)
    refine G_icmp_ge (tgt := 83) dL_seers_12 (by decide) (fun c12 => ?_) (fun c12 => ?_)
    · exact absurd (show nI g.A.n ≤ nI i from c12) (nI_ge hi (by omega))
    · refine G_iload_n dL_seers_15 rfl ?_
      refine G_iload dL_seers_16 rfl ?_
      refine G_iload_n dL_seers_18 rfl ?_
      refine G_icmp_eq (tgt := 74) dL_seers_19 (by decide) (fun c19 => ?_) (fun c19 => ?_)
      · exact hno (by rw [e, decide_eq_false (fun q => q ((nI_eq (by omega) (by omega)).mp c19))]; rfl)
      · have n1 : i ≠ x := fun q => c19 (by rw [q])
        refine G_iload dL_seers_22 rfl ?_
        refine G_iload_n dL_seers_24 rfl ?_
        refine G_icmp_eq (tgt := 74) dL_seers_25 (by decide) (fun c25 => ?_) (fun c25 => ?_)
        · exact hno (by rw [e, decide_eq_false (show ¬ i ≠ y from fun q => q ((nI_eq (by omega) (by omega)).mp c25)), Bool.false_and, Bool.and_false])
        · have n2 : i ≠ y := fun q => c25 (by rw [q])
          refine G_aload_n dL_seers_28 rfl ?_
          refine G_iload dL_seers_29 rfl ?_
          refine G_iconst (v := 4) dL_seers_31 (by decide) ?_
          refine cv_L_59 (cs' := 0) (ss' := 0) dL_seers_32  (Nat.le_of_ble_eq_true rfl) (Nat.le_of_ble_eq_true rfl) (Nat.le_of_ble_eq_true rfl) rfl rfl (Nat.le_of_ble_eq_true rfl) (Nat.le_of_ble_eq_true rfl) rfl ?_
          refine u_pupil (k := 4) (by first | assumption | omega) (by first | decide | assumption | omega) hC hO (hGo_i ?_)
          refine G_iconst (v := 1) dL_seers_35 (by decide) ?_
          refine G_icmp_ne (tgt := 74) dL_seers_36 (by decide) (fun c36 => ?_) (fun c36 => ?_)
          · have d1 : ¬ g.A.f i 4 = 1 := c36
            exact hno (by rw [e, decide_eq_false d1, Bool.false_and, Bool.and_false, Bool.and_false])
          · have d1 : g.A.f i 4 = 1 := c36
            refine G_aload_n dL_seers_39 rfl ?_
            refine G_iload dL_seers_40 rfl ?_
            refine G_bipush (v := 8) dL_seers_42 (by decide) ?_
            refine cv_L_59 (cs' := 0) (ss' := 0) dL_seers_44  (Nat.le_of_ble_eq_true rfl) (Nat.le_of_ble_eq_true rfl) (Nat.le_of_ble_eq_true rfl) rfl rfl (Nat.le_of_ble_eq_true rfl) (Nat.le_of_ble_eq_true rfl) rfl ?_
            refine u_pupil (k := 8) (by first | assumption | omega) (by first | decide | assumption | omega) hC hO (hGo_i ?_)
            refine G_if_ne (tgt := 74) dL_seers_47 (by decide) (fun c47 => ?_) (fun c47 => ?_)
            · have d2 : ¬ g.A.f i 8 = 0 := c47
              exact hno (by rw [e, decide_eq_false d2, Bool.false_and, Bool.and_false, Bool.and_false, Bool.and_false])
            · have d2 : g.A.f i 8 = 0 := c47
              have e3 : seeP g.A x y i = (nr g.A i x || nr g.A i y) := by rw [e, decide_eq_true n1, decide_eq_true n2, decide_eq_true d1, decide_eq_true d2, Bool.true_and, Bool.true_and, Bool.true_and, Bool.true_and]
              refine G_aload_n dL_seers_50 rfl ?_
              refine G_iload dL_seers_51 rfl ?_
              refine G_iload_n dL_seers_53 rfl ?_
              refine cv_L_71 (cs' := 0) (ss' := 0) dL_seers_54  (Nat.le_of_ble_eq_true rfl) (Nat.le_of_ble_eq_true rfl) (Nat.le_of_ble_eq_true rfl) rfl rfl (Nat.le_of_ble_eq_true rfl) (Nat.le_of_ble_eq_true rfl) rfl ?_
              refine l_areNear (by first | assumption | omega) (by first | assumption | omega) hC hO (hGo_i ?_)
              by_cases q1 : nr g.A i x = true
              · rw [if_pos q1]
                refine G_if_ne (tgt := 70) dL_seers_57 (by decide) (fun c57 => ?_) (fun c57 => ?_)
                · exact hyes (by rw [e3, q1]; rfl)
                · exact absurd c57 (by decide)
              · rw [if_neg q1]
                refine G_if_ne (tgt := 70) dL_seers_57 (by decide) (fun c57 => ?_) (fun c57 => ?_)
                · exact absurd rfl c57
                · refine G_aload_n dL_seers_60 rfl ?_
                  refine G_iload dL_seers_61 rfl ?_
                  refine G_iload_n dL_seers_63 rfl ?_
                  refine cv_L_71 (cs' := 0) (ss' := 0) dL_seers_64  (Nat.le_of_ble_eq_true rfl) (Nat.le_of_ble_eq_true rfl) (Nat.le_of_ble_eq_true rfl) rfl rfl (Nat.le_of_ble_eq_true rfl) (Nat.le_of_ble_eq_true rfl) rfl ?_
                  refine l_areNear (by first | assumption | omega) (by first | assumption | omega) hC hO (hGo_i ?_)
                  by_cases q2 : nr g.A i y = true
                  · rw [if_pos q2]
                    refine G_if_eq (tgt := 74) dL_seers_67 (by decide) (fun c67 => ?_) (fun c67 => ?_)
                    · exact absurd c67 (by decide)
                    · exact hyes (by rw [e3, q2, Bool.or_true])
                  · rw [if_neg q2]
                    refine G_if_eq (tgt := 74) dL_seers_67 (by decide) (fun c67 => ?_) (fun c67 => ?_)
                    · exact hno (by rw [e3, Bool.eq_false_iff.mpr q1, Bool.eq_false_iff.mpr q2]; rfl)
                    · exact absurd rfl c67
end LSMALL
