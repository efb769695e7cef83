/-! ===== HomeworkBarter$Debts: sums and copies ===== -/
section CDEB2
variable {E : Ed} {M : Mm} {P : Res → Mm → Prop} {j : Nat} {d : List De}
theorem s_X0_piecesOwed (hj : j < 10) (hd : Dbt M j d) (h : P (.inl (some (.int (sm d.length (fun i => dg d i 3))))) M) : Sp E yX0_piecesOwed cX0_piecesOwed zX0_piecesOwed [.ref (ad E 9 j 0)] M P := by
  have h30 := hd.2.1
  refine Sp_of (own := RX0) (by decide) rfl rfl (Nat.le_of_ble_eq_true rfl) (fun C => ?_)
  refine G_iconst (v := 0) dX0_piecesOwed_0 (by decide) ?_
  refine G_istore_n dX0_piecesOwed_1 (Nat.le_of_ble_eq_true rfl) ?_
  refine G_iconst (v := 0) dX0_piecesOwed_2 (by decide) ?_
  refine G_istore_n dX0_piecesOwed_3 (Nat.le_of_ble_eq_true rfl) ?_
  refine G_lv (lv' := [(0, .ref (ad E 9 j 0)), (1, .int (sm 0 (fun i => dg d i 3))), (2, .int (nI 0))]) ⟨rfl, rfl, rfl, trivial⟩ ?_
  refine up0 (c := d.length) (H := fun i => G E C RX0 cX0_piecesOwed zX0_piecesOwed P 0 0 M 4 [(0, .ref (ad E 9 j 0)), (1, .int (sm i (fun i => dg d i 3))), (2, .int (nI i))] []) ?_ (fun i hi ih => ?_)
  · refine G_iload_n dX0_piecesOwed_4 rfl ?_
    refine G_aload_n dX0_piecesOwed_5 rfl ?_
    refine gf_X0_30 dX0_piecesOwed_6 hj ?_
    refine G_icmp_ge (tgt := 27) dX0_piecesOwed_9 (by decide) (fun c9 => ?_) (fun c9 => ?_)
    · refine G_iload_n dX0_piecesOwed_27 rfl ?_
      refine G_iret dX0_piecesOwed_28 rfl rfl (Nat.le_of_ble_eq_true rfl) (Nat.le_of_ble_eq_true rfl) ?_
      exact h
    · rw [hd.1] at c9
      exact absurd (Int32.le_refl _) c9
  · refine G_iload_n dX0_piecesOwed_4 rfl ?_
    refine G_aload_n dX0_piecesOwed_5 rfl ?_
    refine gf_X0_30 dX0_piecesOwed_6 hj ?_
    refine G_icmp_ge (tgt := 27) dX0_piecesOwed_9 (by decide) (fun c9 => ?_) (fun c9 => ?_)
    · rw [hd.1] at c9
      exact absurd c9 (nI_ge hi (by omega))
    · refine G_iload_n dX0_piecesOwed_12 rfl ?_
      refine G_aload_n dX0_piecesOwed_13 rfl ?_
      refine gf_X0_21 dX0_piecesOwed_14 hj ?_
      refine G_iload_n dX0_piecesOwed_17 rfl ?_
      refine G_iald dX0_piecesOwed_18 ⟨hj, (by decide)⟩ rfl rfl (show i < 30 by omega) (by decide) ?_
      rw [hd.2.2 i hi 3 (by decide)]
      refine G_iadd dX0_piecesOwed_19 ?_
      refine G_istore_n dX0_piecesOwed_20 (Nat.le_of_ble_eq_true rfl) ?_
      refine G_iinc (v := 1) dX0_piecesOwed_21 rfl (Nat.le_of_ble_eq_true rfl) (by decide) ?_
      refine G_goto (tgt := 4) dX0_piecesOwed_24 (by decide) ?_
      refine G_lv ?_ ih
      exact ⟨rfl, rfl, lvi (nI_1 i), trivial⟩
theorem s_X0_owedBy {x : Int32} (hj : j < 10) (hd : Dbt M j d) (h : P (.inl (some (.int (sm d.length (fun i => if dg d i 0 = x then dg d i 3 else 0))))) M) : Sp E yX0_owedBy cX0_owedBy zX0_owedBy [.ref (ad E 9 j 0), .int x] M P := by
  have h30 := hd.2.1
  refine Sp_of (own := RX0) (by decide) rfl rfl (Nat.le_of_ble_eq_true rfl) (fun C => ?_)
  refine G_iconst (v := 0) dX0_owedBy_0 (by decide) ?_
  refine G_istore_n dX0_owedBy_1 (Nat.le_of_ble_eq_true rfl) ?_
  refine G_iconst (v := 0) dX0_owedBy_2 (by decide) ?_
  refine G_istore_n dX0_owedBy_3 (Nat.le_of_ble_eq_true rfl) ?_
  refine G_lv (lv' := [(0, .ref (ad E 9 j 0)), (1, .int x), (2, .int (sm 0 (fun i => if dg d i 0 = x then dg d i 3 else 0))), (3, .int (nI 0))]) ⟨rfl, rfl, rfl, rfl, trivial⟩ ?_
  refine up0 (c := d.length) (H := fun i => G E C RX0 cX0_owedBy zX0_owedBy P 0 0 M 4 [(0, .ref (ad E 9 j 0)), (1, .int x), (2, .int (sm i (fun i => if dg d i 0 = x then dg d i 3 else 0))), (3, .int (nI i))] []) ?_ (fun i hi ih => ?_)
  · refine G_iload_n dX0_owedBy_4 rfl ?_
    refine G_aload_n dX0_owedBy_5 rfl ?_
    refine gf_X0_30 dX0_owedBy_6 hj ?_
    refine G_icmp_ge (tgt := 37) dX0_owedBy_9 (by decide) (fun c9 => ?_) (fun c9 => ?_)
    · refine G_iload_n dX0_owedBy_37 rfl ?_
      refine G_iret dX0_owedBy_38 rfl rfl (Nat.le_of_ble_eq_true rfl) (Nat.le_of_ble_eq_true rfl) ?_
      exact h
    · rw [hd.1] at c9
      exact absurd (Int32.le_refl _) c9
  · refine G_iload_n dX0_owedBy_4 rfl ?_
    refine G_aload_n dX0_owedBy_5 rfl ?_
    refine gf_X0_30 dX0_owedBy_6 hj ?_
    refine G_icmp_ge (tgt := 37) dX0_owedBy_9 (by decide) (fun c9 => ?_) (fun c9 => ?_)
    · rw [hd.1] at c9
      exact absurd c9 (nI_ge hi (by omega))
    · refine G_aload_n dX0_owedBy_12 rfl ?_
      refine gf_X0_9 dX0_owedBy_13 hj ?_
      refine G_iload_n dX0_owedBy_16 rfl ?_
      refine G_iald dX0_owedBy_17 ⟨hj, (by decide)⟩ rfl rfl (show i < 30 by omega) (by decide) ?_
      refine G_iload_n dX0_owedBy_18 rfl ?_
      refine G_icmp_ne (tgt := 31) dX0_owedBy_19 (by decide) (fun c19 => ?_) (fun c19 => ?_)
      · rw [hd.2.2 i hi 0 (by decide)] at c19
        refine G_iinc (v := 1) dX0_owedBy_31 rfl (Nat.le_of_ble_eq_true rfl) (by decide) ?_
        refine G_goto (tgt := 4) dX0_owedBy_34 (by decide) ?_
        refine G_lv ?_ ih
        exact ⟨rfl, rfl, lvi (sm_0 (if_neg c19)), lvi (nI_1 i), trivial⟩
      · rw [hd.2.2 i hi 0 (by decide)] at c19
        refine G_iload_n dX0_owedBy_22 rfl ?_
        refine G_aload_n dX0_owedBy_23 rfl ?_
        refine gf_X0_21 dX0_owedBy_24 hj ?_
        refine G_iload_n dX0_owedBy_27 rfl ?_
        refine G_iald dX0_owedBy_28 ⟨hj, (by decide)⟩ rfl rfl (show i < 30 by omega) (by decide) ?_
        rw [hd.2.2 i hi 3 (by decide)]
        refine G_iadd dX0_owedBy_29 ?_
        refine G_istore_n dX0_owedBy_30 (Nat.le_of_ble_eq_true rfl) ?_
        refine G_iinc (v := 1) dX0_owedBy_31 rfl (Nat.le_of_ble_eq_true rfl) (by decide) ?_
        refine G_goto (tgt := 4) dX0_owedBy_34 (by decide) ?_
        refine G_lv ?_ ih
        exact ⟨rfl, rfl, lvi (sm_t (if_pos c19)), lvi (nI_1 i), trivial⟩
theorem s_X0_owedTo {x : Int32} (hj : j < 10) (hd : Dbt M j d) (h : P (.inl (some (.int (sm d.length (fun i => if dg d i 1 = x then dg d i 3 else 0))))) M) : Sp E yX0_owedTo cX0_owedTo zX0_owedTo [.ref (ad E 9 j 0), .int x] M P := by
  have h30 := hd.2.1
  refine Sp_of (own := RX0) (by decide) rfl rfl (Nat.le_of_ble_eq_true rfl) (fun C => ?_)
  refine G_iconst (v := 0) dX0_owedTo_0 (by decide) ?_
  refine G_istore_n dX0_owedTo_1 (Nat.le_of_ble_eq_true rfl) ?_
  refine G_iconst (v := 0) dX0_owedTo_2 (by decide) ?_
  refine G_istore_n dX0_owedTo_3 (Nat.le_of_ble_eq_true rfl) ?_
  refine G_lv (lv' := [(0, .ref (ad E 9 j 0)), (1, .int x), (2, .int (sm 0 (fun i => if dg d i 1 = x then dg d i 3 else 0))), (3, .int (nI 0))]) ⟨rfl, rfl, rfl, rfl, trivial⟩ ?_
  refine up0 (c := d.length) (H := fun i => G E C RX0 cX0_owedTo zX0_owedTo P 0 0 M 4 [(0, .ref (ad E 9 j 0)), (1, .int x), (2, .int (sm i (fun i => if dg d i 1 = x then dg d i 3 else 0))), (3, .int (nI i))] []) ?_ (fun i hi ih => ?_)
  · refine G_iload_n dX0_owedTo_4 rfl ?_
    refine G_aload_n dX0_owedTo_5 rfl ?_
    refine gf_X0_30 dX0_owedTo_6 hj ?_
    refine G_icmp_ge (tgt := 37) dX0_owedTo_9 (by decide) (fun c9 => ?_) (fun c9 => ?_)
    · refine G_iload_n dX0_owedTo_37 rfl ?_
      refine G_iret dX0_owedTo_38 rfl rfl (Nat.le_of_ble_eq_true rfl) (Nat.le_of_ble_eq_true rfl) ?_
      exact h
    · rw [hd.1] at c9
      exact absurd (Int32.le_refl _) c9
  · refine G_iload_n dX0_owedTo_4 rfl ?_
    refine G_aload_n dX0_owedTo_5 rfl ?_
    refine gf_X0_30 dX0_owedTo_6 hj ?_
    refine G_icmp_ge (tgt := 37) dX0_owedTo_9 (by decide) (fun c9 => ?_) (fun c9 => ?_)
    · rw [hd.1] at c9
      exact absurd c9 (nI_ge hi (by omega))
    · refine G_aload_n dX0_owedTo_12 rfl ?_
      refine gf_X0_15 dX0_owedTo_13 hj ?_
      refine G_iload_n dX0_owedTo_16 rfl ?_
      refine G_iald dX0_owedTo_17 ⟨hj, (by decide)⟩ rfl rfl (show i < 30 by omega) (by decide) ?_
      refine G_iload_n dX0_owedTo_18 rfl ?_
      refine G_icmp_ne (tgt := 31) dX0_owedTo_19 (by decide) (fun c19 => ?_) (fun c19 => ?_)
      · rw [hd.2.2 i hi 1 (by decide)] at c19
        refine G_iinc (v := 1) dX0_owedTo_31 rfl (Nat.le_of_ble_eq_true rfl) (by decide) ?_
        refine G_goto (tgt := 4) dX0_owedTo_34 (by decide) ?_
        refine G_lv ?_ ih
        exact ⟨rfl, rfl, lvi (sm_0 (if_neg c19)), lvi (nI_1 i), trivial⟩
      · rw [hd.2.2 i hi 1 (by decide)] at c19
        refine G_iload_n dX0_owedTo_22 rfl ?_
        refine G_aload_n dX0_owedTo_23 rfl ?_
        refine gf_X0_21 dX0_owedTo_24 hj ?_
        refine G_iload_n dX0_owedTo_27 rfl ?_
        refine G_iald dX0_owedTo_28 ⟨hj, (by decide)⟩ rfl rfl (show i < 30 by omega) (by decide) ?_
        rw [hd.2.2 i hi 3 (by decide)]
        refine G_iadd dX0_owedTo_29 ?_
        refine G_istore_n dX0_owedTo_30 (Nat.le_of_ble_eq_true rfl) ?_
        refine G_iinc (v := 1) dX0_owedTo_31 rfl (Nat.le_of_ble_eq_true rfl) (by decide) ?_
        refine G_goto (tgt := 4) dX0_owedTo_34 (by decide) ?_
        refine G_lv ?_ ih
        exact ⟨rfl, rfl, lvi (sm_t (if_pos c19)), lvi (nI_1 i), trivial⟩
def imin (x y : Int32) : Int32 := if y < x then y else x
def owedInV (d : List De) (x s w : Int32) : Int32 := sm d.length (fun i => if dg d i 0 = x ∧ dg d i 2 = s then imin (dg d i 3 + w) 99 else 0)
def debtOfV (d : List De) (x pl : Int32) : Int32 := nth (fun i => decide (dg d i 0 = x)) d.length 0 pl
theorem s_X0_debtOwedBy {x pl : Int32} (hj : j < 10) (hd : Dbt M j d) (h : P (.inl (some (.int (debtOfV d x pl)))) M) : Sp E yX0_debtOwedBy cX0_debtOwedBy zX0_debtOwedBy [.ref (ad E 9 j 0), .int x, .int pl] M P := by
  have h30 := hd.2.1
  refine Sp_of (own := RX0) (by decide) rfl rfl (Nat.le_of_ble_eq_true rfl) (fun C => ?_)
  refine G_iload_n dX0_debtOwedBy_0 rfl ?_
  refine G_istore_n dX0_debtOwedBy_1 (Nat.le_of_ble_eq_true rfl) ?_
  refine G_iconst (v := 0) dX0_debtOwedBy_2 (by decide) ?_
  refine G_istore dX0_debtOwedBy_3 (Nat.le_of_ble_eq_true rfl) ?_
  refine G_lv (lv' := [(0, .ref (ad E 9 j 0)), (1, .int x), (2, .int pl), (3, .int pl), (4, .int (nI 0))]) ⟨rfl, rfl, rfl, rfl, rfl, trivial⟩ ?_
  refine up0 (c := d.length) (H := fun i => ∀ lf : Int32, nth (fun i => decide (dg d i 0 = x)) (d.length - i) i lf = debtOfV d x pl → G E C RX0 cX0_debtOwedBy zX0_debtOwedBy P 0 0 M 5 [(0, .ref (ad E 9 j 0)), (1, .int x), (2, .int pl), (3, .int lf), (4, .int (nI i))] []) ?_ (fun i hi ih => ?_) pl rfl
  · intro lf hlf
    rw [Nat.sub_self] at hlf
    refine G_iload dX0_debtOwedBy_5 rfl ?_
    refine G_aload_n dX0_debtOwedBy_7 rfl ?_
    refine gf_X0_30 dX0_debtOwedBy_8 hj ?_
    refine G_icmp_ge (tgt := 44) dX0_debtOwedBy_11 (by decide) (fun c11 => ?_) (fun c11 => ?_)
    · refine G_iconst (v := (-1)) dX0_debtOwedBy_44 (by decide) ?_
      refine G_iret dX0_debtOwedBy_45 rfl rfl (Nat.le_of_ble_eq_true rfl) (Nat.le_of_ble_eq_true rfl) ?_
      rw [← hlf] at h
      exact h
    · rw [hd.1] at c11
      exact absurd (Int32.le_refl _) c11
  · intro lf hlf
    rw [show d.length - i = (d.length - (i + 1)) + 1 by omega] at hlf
    unfold nth at hlf
    refine G_iload dX0_debtOwedBy_5 rfl ?_
    refine G_aload_n dX0_debtOwedBy_7 rfl ?_
    refine gf_X0_30 dX0_debtOwedBy_8 hj ?_
    refine G_icmp_ge (tgt := 44) dX0_debtOwedBy_11 (by decide) (fun c11 => ?_) (fun c11 => ?_)
    · rw [hd.1] at c11
      exact absurd c11 (nI_ge hi (by omega))
    · refine G_aload_n dX0_debtOwedBy_14 rfl ?_
      refine gf_X0_9 dX0_debtOwedBy_15 hj ?_
      refine G_iload dX0_debtOwedBy_18 rfl ?_
      refine G_iald dX0_debtOwedBy_20 ⟨hj, (by decide)⟩ rfl rfl (show i < 30 by omega) (by decide) ?_
      refine G_iload_n dX0_debtOwedBy_21 rfl ?_
      refine G_icmp_eq (tgt := 28) dX0_debtOwedBy_22 (by decide) (fun c22 => ?_) (fun c22 => ?_)
      · rw [hd.2.2 i hi 0 (by decide)] at c22
        rw [if_pos (decide_eq_true c22)] at hlf
        refine G_iload_n dX0_debtOwedBy_28 rfl ?_
        refine G_if_ne (tgt := 35) dX0_debtOwedBy_29 (by decide) (fun c29 => ?_) (fun c29 => ?_)
        · rw [if_neg c29] at hlf
          refine G_iinc (v := (-1)) dX0_debtOwedBy_35 rfl (Nat.le_of_ble_eq_true rfl) (by decide) ?_
          refine G_iinc (v := 1) dX0_debtOwedBy_38 rfl (Nat.le_of_ble_eq_true rfl) (by decide) ?_
          refine G_goto (tgt := 5) dX0_debtOwedBy_41 (by decide) ?_
          refine G_lv ?_ (ih _ hlf)
          exact ⟨rfl, rfl, rfl, lvi (Int32.sub_eq_add_neg lf 1).symm, lvi (nI_1 i), trivial⟩
        · rw [if_pos c29] at hlf
          refine G_iload dX0_debtOwedBy_32 rfl ?_
          refine G_iret dX0_debtOwedBy_34 rfl rfl (Nat.le_of_ble_eq_true rfl) (Nat.le_of_ble_eq_true rfl) ?_
          rw [← hlf] at h
          exact h
      · rw [hd.2.2 i hi 0 (by decide)] at c22
        rw [if_neg (fun q => c22 (of_decide_eq_true q))] at hlf
        refine G_goto (tgt := 38) dX0_debtOwedBy_25 (by decide) ?_
        refine G_iinc (v := 1) dX0_debtOwedBy_38 rfl (Nat.le_of_ble_eq_true rfl) (by decide) ?_
        refine G_goto (tgt := 5) dX0_debtOwedBy_41 (by decide) ?_
        refine G_lv ?_ (ih _ hlf)
        exact ⟨rfl, rfl, rfl, rfl, lvi (nI_1 i), trivial⟩
/-- all debts grow by one, up to 99 -/
def grE (e : De) : De := if e.2.2.2 < 99 then (e.1, e.2.1, e.2.2.1, e.2.2.2 + 1) else e
def grD (d : List De) : List De := d.map grE
def grV (d : List De) : Int32 := sm d.length (fun i => if dg d i 3 < 99 then 1 else 0)
theorem dg_grD {i t : Nat} (hi : i < d.length) (ht : t < 4) : dg (grD d) i t = if t = 3 ∧ dg d i 3 < 99 then dg d i 3 + 1 else dg d i t := by
  rw [dg_E, dg_E d i t, dg_E d i 3]
  unfold grD
  rw [List.getD_eq_getElem?_getD, List.getD_eq_getElem?_getD, List.getElem?_map, List.getElem?_eq_getElem hi]
  show dgE (grE d[i]) t = if t = 3 ∧ dgE d[i] 3 < 99 then dgE d[i] 3 + 1 else dgE d[i] t
  unfold grE
  rcases (show t = 0 ∨ t = 1 ∨ t = 2 ∨ t = 3 by omega) with rfl | rfl | rfl | rfl
  all_goals
    by_cases h : d[i].2.2.2 < 99
    · rw [if_pos h]
      simp [dgE, h]
    · rw [if_neg h]
      simp [dgE, h]
theorem s_X0_growAll (hj : j < 10) (hd : Dbt M j d) (h : ∀ M', Dbt M' j (grD d) → Fr (dD j) M M' → P (.inl (some (.int (grV d)))) M') : Sp E yX0_growAll cX0_growAll zX0_growAll [.ref (ad E 9 j 0)] M P := by
  have h30 := hd.2.1
  refine Sp_of (own := RX0) (by decide) rfl rfl (Nat.le_of_ble_eq_true rfl) (fun C => ?_)
  refine G_iconst (v := 0) dX0_growAll_0 (by decide) ?_
  refine G_istore_n dX0_growAll_1 (Nat.le_of_ble_eq_true rfl) ?_
  refine G_iconst (v := 0) dX0_growAll_2 (by decide) ?_
  refine G_istore_n dX0_growAll_3 (Nat.le_of_ble_eq_true rfl) ?_
  refine G_lv (lv' := [(0, .ref (ad E 9 j 0)), (1, .int (sm 0 (fun i => if dg d i 3 < 99 then 1 else 0))), (2, .int (nI 0))]) ⟨rfl, rfl, rfl, trivial⟩ ?_
  refine up0 (c := d.length) (H := fun i => ∀ M', M'.1 9 j 0 4 = nI d.length → (∀ k, k < d.length → ∀ t, t < 4 → M'.1 10 j t k = if t = 3 ∧ k < i ∧ dg d k 3 < 99 then dg d k 3 + 1 else dg d k t) → Fr (dD j) M M' → G E C RX0 cX0_growAll zX0_growAll P 0 0 M' 4 [(0, .ref (ad E 9 j 0)), (1, .int (sm i (fun i => if dg d i 3 < 99 then 1 else 0))), (2, .int (nI i))] []) ?_ (fun i hi ih => ?_) M hd.1 (fun k hk t ht => by rw [if_neg (by omega)]; exact hd.2.2 k hk t ht) Fr.rfl
  · intro M' hs hm hf
    refine G_iload_n dX0_growAll_4 rfl ?_
    refine G_aload_n dX0_growAll_5 rfl ?_
    refine gf_X0_30 dX0_growAll_6 hj ?_
    refine G_icmp_ge (tgt := 45) dX0_growAll_9 (by decide) (fun c9 => ?_) (fun c9 => ?_)
    · refine G_iload_n dX0_growAll_45 rfl ?_
      refine G_iret dX0_growAll_46 rfl rfl (Nat.le_of_ble_eq_true rfl) (Nat.le_of_ble_eq_true rfl) ?_
      refine h M' ⟨by rw [hs]; unfold grD; rw [List.length_map], by unfold grD; rw [List.length_map]; exact h30, fun k hk t ht => ?_⟩ hf
      unfold grD at hk
      rw [List.length_map] at hk
      rw [hm k hk t ht, dg_grD hk ht]
      by_cases h5 : t = 3 ∧ dg d k 3 < 99
      · rw [if_pos ⟨h5.1, hk, h5.2⟩, if_pos h5]
      · rw [if_neg (fun q => h5 ⟨q.1, q.2.2⟩), if_neg h5]
    · rw [hs] at c9
      exact absurd (Int32.le_refl _) c9
  · intro M' hs hm hf
    have e3 : M'.1 10 j 3 i = dg d i 3 := by rw [hm i hi 3 (by decide), if_neg (by omega)]
    refine G_iload_n dX0_growAll_4 rfl ?_
    refine G_aload_n dX0_growAll_5 rfl ?_
    refine gf_X0_30 dX0_growAll_6 hj ?_
    refine G_icmp_ge (tgt := 45) dX0_growAll_9 (by decide) (fun c9 => ?_) (fun c9 => ?_)
    · rw [hs] at c9
      exact absurd c9 (nI_ge hi (by omega))
    · refine G_aload_n dX0_growAll_12 rfl ?_
      refine gf_X0_21 dX0_growAll_13 hj ?_
      refine G_iload_n dX0_growAll_16 rfl ?_
      refine G_iald dX0_growAll_17 ⟨hj, (by decide)⟩ rfl rfl (show i < 30 by omega) (by decide) ?_
      refine G_bipush (v := 99) dX0_growAll_18 (by decide) ?_
      refine G_icmp_lt (tgt := 26) dX0_growAll_20 (by decide) (fun c20 => ?_) (fun c20 => ?_)
      · rw [e3] at c20
        refine G_aload_n dX0_growAll_26 rfl ?_
        refine gf_X0_21 dX0_growAll_27 hj ?_
        refine G_iload_n dX0_growAll_30 rfl ?_
        refine G_dup2 dX0_growAll_31 rfl rfl ?_
        refine G_iald dX0_growAll_32 ⟨hj, (by decide)⟩ rfl rfl (show i < 30 by omega) (by decide) ?_
        refine G_iconst (v := 1) dX0_growAll_33 (by decide) ?_
        refine G_iadd dX0_growAll_34 ?_
        refine G_iast dX0_growAll_35 ⟨hj, (by decide)⟩ (fun _ => rfl) rfl (show i < 30 by omega) (by decide) ?_
        refine G_iinc (v := 1) dX0_growAll_36 rfl (Nat.le_of_ble_eq_true rfl) (by decide) ?_
        refine G_iinc (v := 1) dX0_growAll_39 rfl (Nat.le_of_ble_eq_true rfl) (by decide) ?_
        refine G_goto (tgt := 4) dX0_growAll_42 (by decide) ?_
        refine G_lv ?_ (ih _ (by rw [up_nk (k' := 9) (by decide)]; exact hs) (fun k hk t ht => ?_) (hf.up ⟨Or.inr rfl, rfl⟩))
        · exact ⟨rfl, lvi (sm_t (if_pos c20)), lvi (nI_1 i), trivial⟩
        · by_cases ht3 : t = 3
          · subst ht3
            by_cases hk3 : k = i
            · subst hk3
              rw [up_at, if_pos ⟨rfl, by omega, c20⟩, e3]
            · rw [up_t hk3, hm k hk 3 ht]
              by_cases h6 : k < i ∧ dg d k 3 < 99
              · rw [if_pos ⟨rfl, h6⟩, if_pos ⟨rfl, by omega, h6.2⟩]
              · rw [if_neg (fun q => h6 q.2), if_neg (fun q => h6 ⟨by omega, q.2.2⟩)]
          · rw [up_np ht3, hm k hk t ht, if_neg (fun q => ht3 q.1), if_neg (fun q => ht3 q.1)]
      · rw [e3] at c20
        refine G_goto (tgt := 39) dX0_growAll_23 (by decide) ?_
        refine G_iinc (v := 1) dX0_growAll_39 rfl (Nat.le_of_ble_eq_true rfl) (by decide) ?_
        refine G_goto (tgt := 4) dX0_growAll_42 (by decide) ?_
        refine G_lv ?_ (ih _ hs (fun k hk t ht => ?_) hf)
        · exact ⟨rfl, lvi (sm_0 (if_neg c20)), lvi (nI_1 i), trivial⟩
        · rw [hm k hk t ht]
          by_cases h6 : t = 3 ∧ k < i ∧ dg d k 3 < 99
          · rw [if_pos h6, if_pos ⟨h6.1, by omega, h6.2.2⟩]
          · rw [if_neg h6, if_neg (fun q => h6 ⟨q.1, by
              rcases Nat.lt_or_ge k i with z | z
              · exact z
              · have : k = i := by omega
                subst this
                exact absurd q.2.2 c20, q.2.2⟩)]
theorem s_X0_copyFrom {j2 : Nat} (hj : j < 10) (hj2 : j2 < 10) (hne : j2 ≠ j) (hd : Dbt M j2 d) (h : ∀ M', Dbt M' j d → Fr (dD j) M M' → P (.inl none) M') : Sp E yX0_copyFrom cX0_copyFrom zX0_copyFrom [.ref (ad E 9 j 0), .ref (ad E 9 j2 0)] M P := by
  have h30 := hd.2.1
  refine Sp_of (own := RX0) (by decide) rfl rfl (Nat.le_of_ble_eq_true rfl) (fun C => ?_)
  refine G_aload_n dX0_copyFrom_0 rfl ?_
  refine gf_X0_9 dX0_copyFrom_1 hj2 ?_
  refine G_iconst (v := 0) dX0_copyFrom_4 (by decide) ?_
  refine G_aload_n dX0_copyFrom_5 rfl ?_
  refine gf_X0_9 dX0_copyFrom_6 hj ?_
  refine G_iconst (v := 0) dX0_copyFrom_9 (by decide) ?_
  refine G_bipush (v := 30) dX0_copyFrom_10 (by decide) ?_
  refine G_copyE dX0_copyFrom_12 (hqx 481 (by decide +kernel) rfl) ⟨hj2, (by decide)⟩ ⟨hj, (by decide)⟩ rfl (fun _ => rfl) (rfl : (0 : Int32) = nI 0) (rfl : (0 : Int32) = nI 0) (rfl : (30 : Int32) = nI 30) (by decide) (by decide) (by decide) (by decide) (Nat.le_of_ble_eq_true rfl) (Nat.le_of_ble_eq_true rfl) ?_
  refine G_aload_n dX0_copyFrom_15 rfl ?_
  refine gf_X0_15 dX0_copyFrom_16 hj2 ?_
  refine G_iconst (v := 0) dX0_copyFrom_19 (by decide) ?_
  refine G_aload_n dX0_copyFrom_20 rfl ?_
  refine gf_X0_15 dX0_copyFrom_21 hj ?_
  refine G_iconst (v := 0) dX0_copyFrom_24 (by decide) ?_
  refine G_bipush (v := 30) dX0_copyFrom_25 (by decide) ?_
  refine G_copyE dX0_copyFrom_27 (hqx 481 (by decide +kernel) rfl) ⟨hj2, (by decide)⟩ ⟨hj, (by decide)⟩ rfl (fun _ => rfl) (rfl : (0 : Int32) = nI 0) (rfl : (0 : Int32) = nI 0) (rfl : (30 : Int32) = nI 30) (by decide) (by decide) (by decide) (by decide) (Nat.le_of_ble_eq_true rfl) (Nat.le_of_ble_eq_true rfl) ?_
  refine G_aload_n dX0_copyFrom_30 rfl ?_
  refine gf_X0_18 dX0_copyFrom_31 hj2 ?_
  refine G_iconst (v := 0) dX0_copyFrom_34 (by decide) ?_
  refine G_aload_n dX0_copyFrom_35 rfl ?_
  refine gf_X0_18 dX0_copyFrom_36 hj ?_
  refine G_iconst (v := 0) dX0_copyFrom_39 (by decide) ?_
  refine G_bipush (v := 30) dX0_copyFrom_40 (by decide) ?_
  refine G_copyE dX0_copyFrom_42 (hqx 481 (by decide +kernel) rfl) ⟨hj2, (by decide)⟩ ⟨hj, (by decide)⟩ rfl (fun _ => rfl) (rfl : (0 : Int32) = nI 0) (rfl : (0 : Int32) = nI 0) (rfl : (30 : Int32) = nI 30) (by decide) (by decide) (by decide) (by decide) (Nat.le_of_ble_eq_true rfl) (Nat.le_of_ble_eq_true rfl) ?_
  refine G_aload_n dX0_copyFrom_45 rfl ?_
  refine gf_X0_21 dX0_copyFrom_46 hj2 ?_
  refine G_iconst (v := 0) dX0_copyFrom_49 (by decide) ?_
  refine G_aload_n dX0_copyFrom_50 rfl ?_
  refine gf_X0_21 dX0_copyFrom_51 hj ?_
  refine G_iconst (v := 0) dX0_copyFrom_54 (by decide) ?_
  refine G_bipush (v := 30) dX0_copyFrom_55 (by decide) ?_
  refine G_copyE dX0_copyFrom_57 (hqx 481 (by decide +kernel) rfl) ⟨hj2, (by decide)⟩ ⟨hj, (by decide)⟩ rfl (fun _ => rfl) (rfl : (0 : Int32) = nI 0) (rfl : (0 : Int32) = nI 0) (rfl : (30 : Int32) = nI 30) (by decide) (by decide) (by decide) (by decide) (Nat.le_of_ble_eq_true rfl) (Nat.le_of_ble_eq_true rfl) ?_
  refine G_aload_n dX0_copyFrom_60 rfl ?_
  refine G_aload_n dX0_copyFrom_61 rfl ?_
  refine gf_X0_30 dX0_copyFrom_62 hj2 ?_
  refine pf_X0_30 dX0_copyFrom_65 hj ?_
  refine G_vret dX0_copyFrom_68 rfl (Nat.le_of_ble_eq_true rfl) (Nat.le_of_ble_eq_true rfl) ?_
  refine h _ ⟨?_, h30, fun k hk t ht => ?_⟩ (((((Fr.rfl.of_cp ⟨Or.inr rfl, rfl⟩).of_cp ⟨Or.inr rfl, rfl⟩).of_cp ⟨Or.inr rfl, rfl⟩).of_cp ⟨Or.inr rfl, rfl⟩).up ⟨Or.inl rfl, rfl⟩)
  · rw [up_at, cp_nk (k' := 9) (by decide), cp_nk (k' := 9) (by decide), cp_nk (k' := 9) (by decide), cp_nk (k' := 9) (by decide)]
    exact hd.1
  · have key : ∀ r : Nat → Int32, (∀ n, r n = M.1 10 j2 t n) → ∀ g : Nat → Int32, va_cpy r g 0 0 30 k = dg d k t := fun r hr g => by
      rw [pk_cpy_in (Nat.zero_le k) (show k < 0 + 30 by omega), Nat.sub_zero, Nat.zero_add, hr]
      exact hd.2.2 k hk t ht
    rw [up_nk (k' := 10) (by decide)]
    rcases (show t = 0 ∨ t = 1 ∨ t = 2 ∨ t = 3 by omega) with rfl | rfl | rfl | rfl
    · rw [cp_np (by decide), cp_np (by decide), cp_np (by decide), cp_at]
      exact key _ (fun n => rfl) _
    · rw [cp_np (by decide), cp_np (by decide), cp_at]
      exact key _ (fun n => by rw [cp_nj hne]) _
    · rw [cp_np (by decide), cp_at]
      exact key _ (fun n => by rw [cp_nj hne, cp_nj hne]) _
    · rw [cp_at]
      exact key _ (fun n => by rw [cp_nj hne, cp_nj hne, cp_nj hne]) _
end CDEB2
