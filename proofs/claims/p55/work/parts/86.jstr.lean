/-! ===== a new StringBuilder; its text; a made String ===== -/
section JSTR
variable {E : Ed} {M : Mm} {P : Res → Mm → Prop} {T : va_W} {a v n cap i j k s w : Nat} {f : Nat → Int32} {L : List Int32}
theorem sbR_nil (hc : cap ≤ 402) : sbR [] cap (fun _ => 0) := ⟨Nat.zero_le _, hc, fit_0, fun k hk => absurd hk (Nat.not_lt_zero k)⟩
set_option maxRecDepth 20000 in
theorem c_init5 (hX : xOk E M.2) (hM : M.2 = T ++ [(a, .inr (11, [.null, .int 0, .int 0, .int 0]))]) (hi : i < 16) (hl0 : (hSb2 i).length ≤ 80) (h : ∀ v' cap' f', xOk E (sbX E T a v' (hSb2 i).length cap' f') → sbR (hSb2 i) cap' f' → P (.inl none) (M.x (sbX E T a v' (hSb2 i).length cap' f'))) : Sp E yJ5_init_a7421 cJ5_init_a7421 zJ5_init_a7421 [.ref a, .ref (sK E i)] M P := by
  have hl := sb2_len i hi
  have h0 : M.2[T.length + 0]? = some (a, .inr (11, [.null, .int 0, .int 0, .int 0])) := by
    rw [hM]
    exact app_at
  refine Sp_of (own := RJ5) (by decide) rfl rfl (Nat.le_of_ble_eq_true rfl) (fun C => ?_)
  refine G_aload_n dJ5_init_a7421_0 rfl ?_
  refine G_obj dJ5_init_a7421_1 (hqx 633 (by decide +kernel) rfl) (hqx 34 (by decide +kernel) rfl) (hqx 35 (by decide +kernel) rfl) (Nat.le_of_ble_eq_true rfl) (Nat.le_of_ble_eq_true rfl) ?_
  refine G_aload_n dJ5_init_a7421_4 rfl ?_
  refine G_callVK (n := 0) (i := i) (y := yJ0_length_8abf5) (b' := cJ0_length_8abf5) (z' := zJ0_length_8abf5) (as := []) (rest := []) (cs' := 0) (ss' := 0) dJ5_init_a7421_5 ⟨⟨(hqx 634 (by decide +kernel) rfl), (hqx 21 (by decide +kernel) rfl), (hqx 372 (by decide +kernel) rfl), rfl, by decide, by decide, by decide +kernel⟩, (hqx 370 (by decide +kernel) rfl), (hqx 371 (by decide +kernel) rfl)⟩ hi rfl rfl rfl (Nat.le_of_ble_eq_true rfl) (Nat.le_of_ble_eq_true rfl) (Nat.le_of_ble_eq_true rfl) rfl rfl (Nat.le_of_ble_eq_true rfl) (Nat.le_of_ble_eq_true rfl) rfl ?_
  refine s_J0_length hi (hGo_i ?_)
  refine G_istore_n dJ5_init_a7421_8 (Nat.le_of_ble_eq_true rfl) ?_
  refine G_iload_n dJ5_init_a7421_9 rfl ?_
  refine G_ldc (v := 2147483631) dJ5_init_a7421_10 (hqx 635 (by decide +kernel) rfl) ?_
  refine G_icmp_ge (tgt := 22) dJ5_init_a7421_12 (by decide) (fun c12 => ?_) (fun c12 => ?_)
  · exact absurd c12 (show ¬ nI 2147483631 ≤ nI (hSb2 i).length from nI_ge (by omega) (by decide))
  · refine G_iload_n dJ5_init_a7421_15 rfl ?_
    refine G_bipush (v := 16) dJ5_init_a7421_16 (by decide) ?_
    refine G_iadd dJ5_init_a7421_18 ?_
    rw [show nI (hSb2 i).length + 16 = nI ((hSb2 i).length + 16) from nI_add _ 16]
    generalize hc : (hSb2 i).length + 16 = c
    refine G_goto (tgt := 24) dJ5_init_a7421_19 (by decide) ?_
    refine G_istore_n dJ5_init_a7421_24 (Nat.le_of_ble_eq_true rfl) ?_
    refine G_aload_n dJ5_init_a7421_25 rfl ?_
    refine G_callVK (n := 0) (i := i) (y := yJ0_coder_7d493) (b' := cJ0_coder_7d493) (z' := zJ0_coder_7d493) (as := []) (rest := []) (cs' := 0) (ss' := 0) dJ5_init_a7421_26 ⟨⟨(hqx 637 (by decide +kernel) rfl), (hqx 21 (by decide +kernel) rfl), (hqx 376 (by decide +kernel) rfl), rfl, by decide, by decide, by decide +kernel⟩, (hqx 374 (by decide +kernel) rfl), (hqx 375 (by decide +kernel) rfl)⟩ hi rfl rfl rfl (Nat.le_of_ble_eq_true rfl) (Nat.le_of_ble_eq_true rfl) (Nat.le_of_ble_eq_true rfl) rfl rfl (Nat.le_of_ble_eq_true rfl) (Nat.le_of_ble_eq_true rfl) rfl ?_
    refine s_J0_coder hi (hGo_i ?_)
    refine G_istore dJ5_init_a7421_29 (Nat.le_of_ble_eq_true rfl) ?_
    refine G_aload_n dJ5_init_a7421_31 rfl ?_
    refine G_iload dJ5_init_a7421_32 rfl ?_
    refine G_xput (T := TJ4) (t := 1) (N := 4) (ty := .byte) (ty0 := tyJ4) hX h0 dJ5_init_a7421_34 (hqx 747 (by decide +kernel) rfl) inJ4 rfl tyJ4_ok nmJ4 (by decide) rfl rfl (tyJ4_ok 1 (by decide)) rfl rfl (by show 1 < 4; decide) (fun hX1 => ?_)
    have e1 : M.2.set (T.length + 0) (a, .inr (11, ([.null, .int 0, .int 0, .int 0] : List Value).set 1 (.int 0))) = M.2 := by
      rw [hM, app_set]
      rfl
    refine G_st (M' := M) rfl rfl (congrArg M.x e1) ?_
    refine G_aload_n dJ5_init_a7421_37 rfl ?_
    refine G_iload dJ5_init_a7421_38 rfl ?_
    refine G_if_ne (tgt := 49) dJ5_init_a7421_40 (by decide) (fun c40 => ?_) (fun c40 => ?_)
    · exact absurd rfl c40
    · refine G_iload_n dJ5_init_a7421_43 rfl ?_
      refine G_xnewa (t0 := 1) (n := c) (atype := .byte) (ty := .byte) (a0 := (c, .inl (fun _ => 0))) (cs' := 1) (ss' := c) hX dJ5_init_a7421_44 (hqx 57 (by decide +kernel) rfl) rfl (fun _ h => by cases h) rfl (fun _ => rfl) rfl (by omega) (by show c * 1 ≤ 536870912; omega) rfl (Nat.zero_add c) (Nat.le_of_ble_eq_true rfl) (by show c ≤ 1300; omega) (fun v' hX2 => ?_)
      have hM2 : M.2 ++ [(v', .inl (E.2.2.1 1, c, .inl (fun _ => 0)))] = T ++ [(a, .inr (11, [.null, .int 0, .int 0, .int 0])), byC E v' c (fun _ => 0)] := by
        rw [hM, List.append_assoc]
        rfl
      have hX3 : xOk E (T ++ [(a, .inr (11, [.null, .int 0, .int 0, .int 0])), byC E v' c (fun _ => 0)]) := hM2 ▸ hX2
      refine G_st (M' := M.x (T ++ [(a, .inr (11, [.null, .int 0, .int 0, .int 0])), byC E v' c (fun _ => 0)])) rfl rfl (congrArg M.x hM2) ?_
      refine G_goto (tgt := 53) dJ5_init_a7421_46 (by decide) ?_
      refine G_xput (M := M.x (T ++ [(a, .inr (11, [.null, .int 0, .int 0, .int 0])), byC E v' c (fun _ => 0)])) (i := T.length + 0) (a := a) (fs := [.null, .int 0, .int 0, .int 0]) (ci := 11) (T := TJ4) (t := 0) (N := 4) (ty := .array .byte) (ty0 := tyJ4) hX3 app_at dJ5_init_a7421_53 (hqx 746 (by decide +kernel) rfl) inJ4 rfl tyJ4_ok nmJ4 (by decide) rfl rfl (tyJ4_ok 0 (by decide)) rfl rfl (by show 0 < 4; decide) (fun hX4 => ?_)
      have e2 : (T ++ [(a, .inr (11, [.null, .int 0, .int 0, .int 0])), byC E v' c (fun _ => 0)] : va_W).set (T.length + 0) (a, .inr (11, ([.null, .int 0, .int 0, .int 0] : List Value).set 0 (.ref v'))) = sbX E T a v' ([] : List Int32).length c (fun _ => 0) := app_set
      have hX5 : xOk E (sbX E T a v' ([] : List Int32).length c (fun _ => 0)) := e2 ▸ hX4
      refine G_st (M' := M.x (sbX E T a v' ([] : List Int32).length c (fun _ => 0))) rfl rfl (congrArg M.x e2) ?_
      refine G_wid (cs1 := 1) (ss1 := 100) (Nat.le_refl _) (by omega) ?_
      refine G_aload_n dJ5_init_a7421_56 rfl ?_
      refine G_aload_n dJ5_init_a7421_57 rfl ?_
      refine G_callVO (n := 1) (Cn := RJ4) (T := TJ4) (N := 4) (x := yJ5_append_cf1ce) (b0 := cJ5_append_cf1ce) (m0 := zJ5_append_cf1ce.1) (r0 := zJ5_append_cf1ce.2.1) (y := yJ4_append_cf1ce) (b' := cJ4_append_cf1ce) (z' := zJ4_append_cf1ce) (as := [.ref (sK E i)]) (rest := []) (cs' := 1 + 1) (ss' := 100 + 1200) hX5 (sbX_at0 (M := M.x (sbX E T a v' ([] : List Int32).length c (fun _ => 0))) rfl) dJ5_init_a7421_58 (hqx 645 (by decide +kernel) rfl) (hqx 647 (by decide +kernel) rfl) (hqx 646 (by decide +kernel) rfl) (hqx 648 (by decide +kernel) rfl) (hqx 649 (by decide +kernel) rfl) (hqx 20 (by decide +kernel) rfl) (hqx 650 (by decide +kernel) rfl) (hqx 657 (by decide +kernel) rfl) rfl ⟨by decide, by decide, by decide +kernel⟩ rfl rfl rfl (Nat.le_of_ble_eq_true rfl) (Nat.le_of_ble_eq_true rfl) (Nat.le_of_ble_eq_true rfl) rfl rfl (by show 1 + 1 ≤ 2; omega) (by show 100 + 1200 ≤ 1300; omega) ?_
      refine c_append4B (L := []) hX5 rfl (sbR_nil (by omega)) hi (by show (hSb2 i).length ≤ 200; omega) (fun v1 cap1 f1 hX6 hR6 => hGo_a ?_)
      refine G_pop dJ5_init_a7421_61 rfl ?_
      refine G_vret dJ5_init_a7421_62 rfl (Nat.le_of_ble_eq_true rfl) (Nat.le_of_ble_eq_true rfl) ?_
      exact h v1 cap1 f1 hX6 hR6
theorem c_init4 (hX : xOk E M.2) (hM : M.2 = T ++ [(a, .inr (11, [.null, .int 0, .int 0, .int 0]))]) (hi : i < 16) (hl0 : (hSb2 i).length ≤ 80) (h : ∀ v' cap' f', xOk E (sbX E T a v' (hSb2 i).length cap' f') → sbR (hSb2 i) cap' f' → P (.inl none) (M.x (sbX E T a v' (hSb2 i).length cap' f'))) : Sp E yJ4_init_a7421 cJ4_init_a7421 zJ4_init_a7421 [.ref a, .ref (sK E i)] M P := by
  refine Sp_of (own := RJ4) (by decide) rfl rfl (Nat.le_of_ble_eq_true rfl) (fun C => ?_)
  refine G_aload_n dJ4_init_a7421_0 rfl ?_
  refine G_aload_n dJ4_init_a7421_1 rfl ?_
  refine G_callI (n := 1) (a := a) (y := yJ5_init_a7421) (b' := cJ5_init_a7421) (z' := zJ5_init_a7421) (as := [.ref (sK E i)]) (rest := []) (cs' := 2) (ss' := 1300) dJ4_init_a7421_2 (hqx 630 (by decide +kernel) rfl) (hqx 19 (by decide +kernel) rfl) (hqx 632 (by decide +kernel) rfl) (hqx 631 (by decide +kernel) rfl) rfl rfl rfl ⟨by decide, by decide, by decide +kernel⟩ rfl rfl (Nat.le_of_ble_eq_true rfl) (Nat.le_of_ble_eq_true rfl) (Nat.le_of_ble_eq_true rfl) rfl rfl (Nat.le_of_ble_eq_true rfl) (Nat.le_of_ble_eq_true rfl) ?_
  refine c_init5 hX hM hi hl0 (fun v1 cap1 f1 hX6 hR6 => hGo_v ?_)
  refine G_vret dJ4_init_a7421_5 rfl (Nat.le_of_ble_eq_true rfl) (Nat.le_of_ble_eq_true rfl) ?_
  exact h v1 cap1 f1 hX6 hR6
-- a copy of the first n bytes
theorem c_checkLength (hn : n < 2 ^ 31) (h : P (.inl none) M) : Sp E yJ7_checkLength_df160 cJ7_checkLength_df160 zJ7_checkLength_df160 [.int 0, .int (nI n)] M P := by
  refine Sp_of (own := RJ7) (by decide) rfl rfl (Nat.le_of_ble_eq_true rfl) (fun C => ?_)
  refine G_iload_n dJ7_checkLength_df160_0 rfl ?_
  refine G_iload_n dJ7_checkLength_df160_1 rfl ?_
  refine G_icmp_ge (tgt := 37) dJ7_checkLength_df160_2 (by decide) (fun c2 => ?_) (fun c2 => ?_)
  · refine G_vret dJ7_checkLength_df160_37 rfl (Nat.le_of_ble_eq_true rfl) (Nat.le_of_ble_eq_true rfl) ?_
    exact h
  · exact absurd (nI_pos' hn) c2
theorem c_copyRangeB (hX : xOk E M.2) (hi : M.2[i]? = some (v, .inl (E.2.2.1 1, cap, .inl f))) (hc : n ≤ cap) (hq : cap ≤ 500) (hf : ∀ k, fits .byte (.int (f k)) = true) (h : ∀ v' f', xOk E (M.2 ++ [byC E v' n f']) → (∀ k, k < n → f' k = f k) → P (.inl (some (.ref v'))) (M.x (M.2 ++ [byC E v' n f']))) : Sp E yJ7_copyOfRangeByte_39247 cJ7_copyOfRangeByte_39247 zJ7_copyOfRangeByte_39247 [.ref v, .int 0, .int (nI n)] M P := by
  have e0 : nI n - 0 = nI n := pk_sub (a := n) (b := 0) (Nat.zero_le _)
  have e00 : nI cap - 0 = nI cap := pk_sub (a := cap) (b := 0) (Nat.zero_le _)
  have e1 : (if nI n < nI cap then nI n else nI cap) = nI n := by
    by_cases q : n < cap
    · rw [if_pos (nI_lt q (by omega))]
    · rw [if_neg (nI_nlt (by omega) (by omega)), show cap = n by omega]
  refine Sp_of (own := RJ7) (by decide) rfl rfl (Nat.le_of_ble_eq_true rfl) (fun C => ?_)
  refine G_iload_n dJ7_copyOfRangeByte_39247_0 rfl ?_
  refine G_iload_n dJ7_copyOfRangeByte_39247_1 rfl ?_
  refine G_callS2 (n := 2) (y := yJ7_checkLength_df160) (b' := cJ7_checkLength_df160) (z' := zJ7_checkLength_df160) (as := [.int 0, .int (nI n)]) (rest := []) (cs' := 0) (ss' := 0) dJ7_copyOfRangeByte_39247_2 ⟨⟨(hqx 841 (by decide +kernel) rfl), (hqx 24 (by decide +kernel) rfl), (hqx 843 (by decide +kernel) rfl), rfl, by decide, by decide, by decide +kernel⟩, (hqx 842 (by decide +kernel) rfl)⟩ rfl rfl (Nat.le_of_ble_eq_true rfl) (Nat.le_of_ble_eq_true rfl) (Nat.le_of_ble_eq_true rfl) rfl rfl (Nat.le_of_ble_eq_true rfl) (Nat.le_of_ble_eq_true rfl) rfl ?_
  refine c_checkLength (by omega) (hGo_v ?_)
  refine G_iload_n dJ7_copyOfRangeByte_39247_5 rfl ?_
  refine G_iload_n dJ7_copyOfRangeByte_39247_6 rfl ?_
  refine G_isub dJ7_copyOfRangeByte_39247_7 ?_
  rw [e0]
  refine G_istore_n dJ7_copyOfRangeByte_39247_8 (Nat.le_of_ble_eq_true rfl) ?_
  refine G_iload_n dJ7_copyOfRangeByte_39247_9 rfl ?_
  refine G_xnewa (t0 := 1) (n := n) (atype := .byte) (ty := .byte) (a0 := (n, .inl (fun _ => 0))) (cs' := 1) (ss' := n) hX dJ7_copyOfRangeByte_39247_10 (hqx 57 (by decide +kernel) rfl) rfl (fun _ h => by cases h) rfl (fun _ => rfl) rfl (by omega) (by show n * 1 ≤ 536870912; omega) rfl (Nat.zero_add n) (Nat.le_of_ble_eq_true rfl) (by show n ≤ 1200; omega) (fun v' hX1 => ?_)
  refine G_astore dJ7_copyOfRangeByte_39247_12 (Nat.le_of_ble_eq_true rfl) ?_
  have hi1 : (M.2 ++ [byC E v' n (fun _ => 0)])[i]? = some (v, .inl (E.2.2.1 1, cap, .inl f)) := by
    rw [List.getElem?_append_left (List.getElem?_eq_some_iff.mp hi).1]
    exact hi
  refine G_aload_n dJ7_copyOfRangeByte_39247_14 rfl ?_
  refine G_iload_n dJ7_copyOfRangeByte_39247_15 rfl ?_
  refine G_aload dJ7_copyOfRangeByte_39247_16 rfl ?_
  refine G_iconst (v := 0) dJ7_copyOfRangeByte_39247_18 (by decide) ?_
  refine G_aload_n dJ7_copyOfRangeByte_39247_19 rfl ?_
  refine G_xalen (t := 1) (ty := .byte) (v := nI cap) hX1 hi1 dJ7_copyOfRangeByte_39247_20 rfl rfl ?_
  refine G_iload_n dJ7_copyOfRangeByte_39247_21 rfl ?_
  refine G_isub dJ7_copyOfRangeByte_39247_22 ?_
  rw [e00]
  refine G_iload_n dJ7_copyOfRangeByte_39247_23 rfl ?_
  refine G_mmin dJ7_copyOfRangeByte_39247_24 (hqx 690 (by decide +kernel) rfl) (hqx 358 (by decide +kernel) rfl) (hqx 15 (by decide +kernel) rfl) (hqx 359 (by decide +kernel) rfl) (Nat.le_of_ble_eq_true rfl) (Nat.le_of_ble_eq_true rfl) (Nat.le_of_ble_eq_true rfl) (by show n ≤ 1200; omega) ?_
  rw [e1]
  have e2 : (M.2 ++ [byC E v' n (fun _ => 0)]).set M.2.length (v', .inl (E.2.2.1 1, n, .inl (va_cpy f (fun _ => 0) 0 0 n))) = M.2 ++ [byC E v' n (va_cpy f (fun _ => 0) 0 0 n)] := x_set
  refine G_copyX (sp := 0) (dp := 0) (n := n) hX1 hi1 x_at dJ7_copyOfRangeByte_39247_27 (hqx 691 (by decide +kernel) rfl) rfl rfl rfl (by omega) (by omega) (by omega) (by omega) hf (Nat.le_of_ble_eq_true rfl) (Nat.le_of_ble_eq_true rfl) (fun hX2 => ?_)
  have hX3 : xOk E (M.2 ++ [byC E v' n (va_cpy f (fun _ => 0) 0 0 n)]) := e2 ▸ hX2
  refine G_st (M' := M.x (M.2 ++ [byC E v' n (va_cpy f (fun _ => 0) 0 0 n)])) rfl rfl (congrArg M.x e2) ?_
  refine G_aload dJ7_copyOfRangeByte_39247_30 rfl ?_
  refine G_aretA dJ7_copyOfRangeByte_39247_32 rfl (Nat.le_of_ble_eq_true rfl) (by show n ≤ 1200; omega) ?_
  exact h v' _ hX3 (fun k hk => by rw [pk_cpy_in (by omega) (by omega), show 0 + (k - 0) = k by omega])
theorem c_copyRange (hX : xOk E M.2) (hi : M.2[i]? = some (v, .inl (E.2.2.1 1, cap, .inl f))) (hc : n ≤ cap) (hq : cap ≤ 500) (hf : ∀ k, fits .byte (.int (f k)) = true) (h : ∀ v' f', xOk E (M.2 ++ [byC E v' n f']) → (∀ k, k < n → f' k = f k) → P (.inl (some (.ref v'))) (M.x (M.2 ++ [byC E v' n f']))) : Sp E yJ7_copyOfRange_39247 cJ7_copyOfRange_39247 zJ7_copyOfRange_39247 [.ref v, .int 0, .int (nI n)] M P := by
  refine Sp_of (own := RJ7) (by decide) rfl rfl (Nat.le_of_ble_eq_true rfl) (fun C => ?_)
  refine G_iload_n dJ7_copyOfRange_39247_0 rfl ?_
  refine G_if_ne (tgt := 10) dJ7_copyOfRange_39247_1 (by decide) (fun c1 => ?_) (fun c1 => ?_)
  · exact absurd rfl c1
  · refine G_iload_n dJ7_copyOfRange_39247_4 rfl ?_
    refine G_aload_n dJ7_copyOfRange_39247_5 rfl ?_
    refine G_xalen (t := 1) (ty := .byte) (v := nI cap) hX hi dJ7_copyOfRange_39247_6 rfl rfl ?_
    refine G_icmp_eq (tgt := 17) dJ7_copyOfRange_39247_7 (by decide) (fun c7 => ?_) (fun c7 => ?_)
    · have e : n = cap := (nI_eq (by omega) (by omega)).mp c7
      subst e
      refine G_aload_n dJ7_copyOfRange_39247_17 rfl ?_
      refine G_cloneX hX hi dJ7_copyOfRange_39247_18 hf (hqx 683 (by decide +kernel) rfl) (hqx 684 (by decide +kernel) rfl) (hqx 685 (by decide +kernel) rfl) (hqx 686 (by decide +kernel) rfl) (hqx 687 (by decide +kernel) rfl) (Nat.le_of_ble_eq_true rfl) (Nat.le_of_ble_eq_true rfl) rfl (Nat.zero_add n) (Nat.le_of_ble_eq_true rfl) (by show n ≤ 1200; omega) (fun v' hX1 => ?_)
      have hi1 : (M.2 ++ [byC E v' n f])[M.2.length]? = some (v', .inl (E.2.2.1 1, n, .inl f)) := x_at
      refine G_castB hX1 hi1 dJ7_copyOfRange_39247_21 (hqx 689 (by decide +kernel) rfl) ?_
      refine G_aretA dJ7_copyOfRange_39247_24 rfl (Nat.le_of_ble_eq_true rfl) (by show n ≤ 1200; omega) ?_
      exact h v' f hX1 (fun _ _ => rfl)
    · refine G_aload_n dJ7_copyOfRange_39247_10 rfl ?_
      refine G_iload_n dJ7_copyOfRange_39247_11 rfl ?_
      refine G_iload_n dJ7_copyOfRange_39247_12 rfl ?_
      refine G_callS2 (n := 3) (y := yJ7_copyOfRangeByte_39247) (b' := cJ7_copyOfRangeByte_39247) (z' := zJ7_copyOfRangeByte_39247) (as := [.ref v, .int 0, .int (nI n)]) (rest := []) (cs' := 1) (ss' := 1200) dJ7_copyOfRange_39247_13 ⟨⟨(hqx 838 (by decide +kernel) rfl), (hqx 24 (by decide +kernel) rfl), (hqx 840 (by decide +kernel) rfl), rfl, by decide, by decide, by decide +kernel⟩, (hqx 839 (by decide +kernel) rfl)⟩ rfl rfl (Nat.le_of_ble_eq_true rfl) (Nat.le_of_ble_eq_true rfl) (Nat.le_of_ble_eq_true rfl) rfl rfl (Nat.le_of_ble_eq_true rfl) (Nat.le_of_ble_eq_true rfl) rfl ?_
      refine c_copyRangeB hX hi hc hq hf (fun v' f' hX1 hf1 => hGo_a ?_)
      refine G_aretA dJ7_copyOfRange_39247_16 rfl (Nat.le_of_ble_eq_true rfl) (Nat.le_of_ble_eq_true rfl) ?_
      exact h v' f' hX1 hf1
-- a String made of a StringBuilder
def stC (s w : Nat) : Nat × va_E := (s, .inr (10, [.ref w, .int 0, .int 0, .int 0]))
theorem c_initS2 (hX : xOk E M.2) (hM : M.2 = sbX E (T ++ [(s, .inr (10, [.null, .int 0, .int 0, .int 0]))]) a v n cap f) (hR : sbR L cap f) (hn : n = L.length) (h : ∀ w f', xOk E (sbX E (T ++ [stC s w]) a v n cap f ++ [byC E w n f']) → (∀ k, k < n → f' k = L.getD k 0) → P (.inl none) (M.x (sbX E (T ++ [stC s w]) a v n cap f ++ [byC E w n f']))) : Sp E yJ0_init_db425 cJ0_init_db425 zJ0_init_db425 [.ref s, .ref a, .null] M P := by
  obtain ⟨r1, r2, r3, r4⟩ := id hR
  have hS : ∀ (c1 c2 : Nat × va_E) (Y : va_W), (sbX E (T ++ [c1]) a v n cap f ++ Y).set T.length c2 = sbX E (T ++ [c2]) a v n cap f ++ Y := fun c1 c2 Y => by
    unfold sbX
    rw [List.append_assoc, List.append_assoc, List.append_assoc, List.append_assoc, List.set_append_right _ _ (Nat.le_refl _), Nat.sub_self]
    rfl
  have hG : ∀ (c1 : Nat × va_E) (Y : va_W), (sbX E (T ++ [c1]) a v n cap f ++ Y)[T.length]? = some c1 := fun c1 Y => by
    unfold sbX
    rw [List.append_assoc, List.append_assoc, List.getElem?_append_right (Nat.le_refl _), Nat.sub_self]
    rfl
  refine Sp_ofI (own := RJ0) (by decide) rfl rfl (Nat.le_of_ble_eq_true rfl) (fun C hI => ?_)
  refine G_aload_n dJ0_init_db425_0 rfl ?_
  refine G_obj dJ0_init_db425_1 (hqx 820 (by decide +kernel) rfl) (hqx 34 (by decide +kernel) rfl) (hqx 35 (by decide +kernel) rfl) (Nat.le_of_ble_eq_true rfl) (Nat.le_of_ble_eq_true rfl) ?_
  refine G_aload_n dJ0_init_db425_4 rfl ?_
  refine G_callVO (n := 0) (Cn := RJ4) (T := TJ4) (N := 4) (x := yJ5_getValue_6d5f1) (b0 := cJ5_getValue_6d5f1) (m0 := zJ5_getValue_6d5f1.1) (r0 := zJ5_getValue_6d5f1.2.1) (y := yJ5_getValue_6d5f1) (b' := cJ5_getValue_6d5f1) (z' := zJ5_getValue_6d5f1) (as := []) (rest := []) (cs' := 0) (ss' := 0) hX (sbX_at0 hM) dJ0_init_db425_5 (hqx 821 (by decide +kernel) rfl) (hqx 823 (by decide +kernel) rfl) (hqx 822 (by decide +kernel) rfl) (hqx 824 (by decide +kernel) rfl) (hqx 822 (by decide +kernel) rfl) (hqx 19 (by decide +kernel) rfl) (hqx 825 (by decide +kernel) rfl) (hqx 825 (by decide +kernel) rfl) rfl ⟨by decide, by decide, by decide +kernel⟩ rfl rfl rfl (Nat.le_of_ble_eq_true rfl) (Nat.le_of_ble_eq_true rfl) (Nat.le_of_ble_eq_true rfl) rfl rfl (Nat.le_of_ble_eq_true rfl) (Nat.le_of_ble_eq_true rfl) ?_
  refine c_getValue hX hM (hGo_a ?_)
  refine G_astore_n dJ0_init_db425_8 (Nat.le_of_ble_eq_true rfl) ?_
  refine G_aload_n dJ0_init_db425_9 rfl ?_
  refine G_callVO (n := 0) (Cn := RJ4) (T := TJ4) (N := 4) (x := yJ5_length_8abf5) (b0 := cJ5_length_8abf5) (m0 := zJ5_length_8abf5.1) (r0 := zJ5_length_8abf5.2.1) (y := yJ4_length_8abf5) (b' := cJ4_length_8abf5) (z' := zJ4_length_8abf5) (as := []) (rest := []) (cs' := 0) (ss' := 0) hX (sbX_at0 hM) dJ0_init_db425_10 (hqx 826 (by decide +kernel) rfl) (hqx 828 (by decide +kernel) rfl) (hqx 827 (by decide +kernel) rfl) (hqx 829 (by decide +kernel) rfl) (hqx 830 (by decide +kernel) rfl) (hqx 20 (by decide +kernel) rfl) (hqx 831 (by decide +kernel) rfl) (hqx 833 (by decide +kernel) rfl) rfl ⟨by decide, by decide, by decide +kernel⟩ rfl rfl rfl (Nat.le_of_ble_eq_true rfl) (Nat.le_of_ble_eq_true rfl) (Nat.le_of_ble_eq_true rfl) rfl rfl (Nat.le_of_ble_eq_true rfl) (Nat.le_of_ble_eq_true rfl) ?_
  refine c_len4 hX hM (hGo_i ?_)
  refine G_istore dJ0_init_db425_13 (Nat.le_of_ble_eq_true rfl) ?_
  refine G_aload_n dJ0_init_db425_15 rfl ?_
  refine G_callVO (n := 0) (Cn := RJ4) (T := TJ4) (N := 4) (x := yJ5_isLatin1_aae02) (b0 := cJ5_isLatin1_aae02) (m0 := zJ5_isLatin1_aae02.1) (r0 := zJ5_isLatin1_aae02.2.1) (y := yJ5_isLatin1_aae02) (b' := cJ5_isLatin1_aae02) (z' := zJ5_isLatin1_aae02) (as := []) (rest := []) (cs' := 0) (ss' := 0) hX (sbX_at0 hM) dJ0_init_db425_16 (hqx 834 (by decide +kernel) rfl) (hqx 694 (by decide +kernel) rfl) (hqx 693 (by decide +kernel) rfl) (hqx 695 (by decide +kernel) rfl) (hqx 693 (by decide +kernel) rfl) (hqx 19 (by decide +kernel) rfl) (hqx 696 (by decide +kernel) rfl) (hqx 696 (by decide +kernel) rfl) rfl ⟨by decide, by decide, by decide +kernel⟩ rfl rfl rfl (Nat.le_of_ble_eq_true rfl) (Nat.le_of_ble_eq_true rfl) (Nat.le_of_ble_eq_true rfl) rfl rfl (Nat.le_of_ble_eq_true rfl) (Nat.le_of_ble_eq_true rfl) ?_
  refine c_isLatin1 hX hM (hGo_i ?_)
  refine G_if_eq (tgt := 41) dJ0_init_db425_19 (by decide) (fun c19 => ?_) (fun c19 => ?_)
  · exact absurd c19 (by decide)
  · have g0 : M.2[T.length]? = some (s, .inr (10, [.null, .int 0, .int 0, .int 0])) := by
      have := hG (s, .inr (10, [.null, .int 0, .int 0, .int 0])) []
      rw [List.append_nil, ← hM] at this
      exact this
    refine G_aload_n dJ0_init_db425_22 rfl ?_
    refine G_iconst (v := 0) dJ0_init_db425_23 (by decide) ?_
    refine G_xputF (T := TJ0) (t := 1) (N := 4) (ty := tyJ0 1) (ty0 := tyJ0) hI hX g0 dJ0_init_db425_24 (hqx 855 (by decide +kernel) rfl) inJ0 rfl tyJ0_ok nmJ0 (by decide) rfl rfl rfl (tyJ0_ok 1 (by decide)) rfl rfl (by show 1 < 4; decide) (fun hX1 => ?_)
    have e1 : M.2.set T.length (s, .inr (10, ([.null, .int 0, .int 0, .int 0] : List Value).set 1 (.int 0))) = M.2 := by
      have := hS (s, .inr (10, [.null, .int 0, .int 0, .int 0])) (s, .inr (10, [.null, .int 0, .int 0, .int 0])) []
      rw [List.append_nil, ← hM] at this
      exact this
    refine G_st (M' := M) rfl rfl (congrArg M.x e1) ?_
    refine G_aload_n dJ0_init_db425_27 rfl ?_
    refine G_aload_n dJ0_init_db425_28 rfl ?_
    refine G_iconst (v := 0) dJ0_init_db425_29 (by decide) ?_
    refine G_iload dJ0_init_db425_30 rfl ?_
    refine G_callS2 (n := 3) (y := yJ7_copyOfRange_39247) (b' := cJ7_copyOfRange_39247) (z' := zJ7_copyOfRange_39247) (as := [.ref v, .int 0, .int (nI n)]) (rest := [.ref s]) (cs' := 1) (ss' := 1200) dJ0_init_db425_32 ⟨⟨(hqx 835 (by decide +kernel) rfl), (hqx 24 (by decide +kernel) rfl), (hqx 837 (by decide +kernel) rfl), rfl, by decide, by decide, by decide +kernel⟩, (hqx 836 (by decide +kernel) rfl)⟩ rfl rfl (Nat.le_of_ble_eq_true rfl) (Nat.le_of_ble_eq_true rfl) (Nat.le_of_ble_eq_true rfl) rfl rfl (Nat.le_of_ble_eq_true rfl) (Nat.le_of_ble_eq_true rfl) rfl ?_
    refine c_copyRange hX (sbX_at1 hM) (by omega) (by omega) r3 (fun w f' hX2 hf' => hGo_a ?_)
    have e3 : M.2 ++ [byC E w n f'] = sbX E (T ++ [(s, .inr (10, [.null, .int 0, .int 0, .int 0]))]) a v n cap f ++ [byC E w n f'] := by
      rw [hM]
    have g1 : (M.2 ++ [byC E w n f'])[T.length]? = some (s, .inr (10, [.null, .int 0, .int 0, .int 0])) := by
      rw [e3]
      exact hG _ _
    refine G_xputF (T := TJ0) (t := 0) (N := 4) (ty := tyJ0 0) (ty0 := tyJ0) hI hX2 g1 dJ0_init_db425_35 (hqx 854 (by decide +kernel) rfl) inJ0 rfl tyJ0_ok nmJ0 (by decide) rfl rfl rfl (tyJ0_ok 0 (by decide)) rfl rfl (by show 0 < 4; decide) (fun hX3 => ?_)
    have e2 : (M.2 ++ [byC E w n f']).set T.length (s, .inr (10, ([.null, .int 0, .int 0, .int 0] : List Value).set 0 (.ref w))) = sbX E (T ++ [stC s w]) a v n cap f ++ [byC E w n f'] := by
      rw [e3]
      exact hS _ _ _
    have hX4 : xOk E (sbX E (T ++ [stC s w]) a v n cap f ++ [byC E w n f']) := e2 ▸ hX3
    refine G_st (M' := M.x (sbX E (T ++ [stC s w]) a v n cap f ++ [byC E w n f'])) rfl rfl (congrArg M.x e2) ?_
    refine G_goto (tgt := 97) dJ0_init_db425_38 (by decide) ?_
    refine G_vret dJ0_init_db425_97 rfl (Nat.le_of_ble_eq_true rfl) (Nat.le_of_ble_eq_true rfl) ?_
    exact h w f' hX4 (fun k hk => (hf' k hk).trans (r4 k (by omega)))
theorem c_initS1 (hX : xOk E M.2) (hM : M.2 = sbX E (T ++ [(s, .inr (10, [.null, .int 0, .int 0, .int 0]))]) a v n cap f) (hR : sbR L cap f) (hn : n = L.length) (h : ∀ w f', xOk E (sbX E (T ++ [stC s w]) a v n cap f ++ [byC E w n f']) → (∀ k, k < n → f' k = L.getD k 0) → P (.inl none) (M.x (sbX E (T ++ [stC s w]) a v n cap f ++ [byC E w n f']))) : Sp E yJ0_init_81219 cJ0_init_81219 zJ0_init_81219 [.ref s, .ref a] M P := by
  refine Sp_of (own := RJ0) (by decide) rfl rfl (Nat.le_of_ble_eq_true rfl) (fun C => ?_)
  refine G_aload_n dJ0_init_81219_0 rfl ?_
  refine G_aload_n dJ0_init_81219_1 rfl ?_
  refine G_null dJ0_init_81219_2 ?_
  refine G_callI (n := 2) (a := s) (y := yJ0_init_db425) (b' := cJ0_init_db425) (z' := zJ0_init_db425) (as := [.ref a, .null]) (rest := []) (cs' := 1) (ss' := 1200) dJ0_init_81219_3 (hqx 817 (by decide +kernel) rfl) (hqx 21 (by decide +kernel) rfl) (hqx 819 (by decide +kernel) rfl) (hqx 818 (by decide +kernel) rfl) rfl rfl rfl ⟨by decide, by decide, by decide +kernel⟩ rfl rfl (Nat.le_of_ble_eq_true rfl) (Nat.le_of_ble_eq_true rfl) (Nat.le_of_ble_eq_true rfl) rfl rfl (Nat.le_of_ble_eq_true rfl) (Nat.le_of_ble_eq_true rfl) ?_
  refine c_initS2 hX hM hR hn (fun w f' hX1 hf1 => hGo_v ?_)
  refine G_vret dJ0_init_81219_6 rfl (Nat.le_of_ble_eq_true rfl) (Nat.le_of_ble_eq_true rfl) ?_
  exact h w f' hX1 hf1
section
variable {C : Cx} {own : String} {b : ByteArray} {z : Zd} {cs ss pc : Nat} {lv : List (Nat × Value)} {st : List Value}
/-- the newest cell told ahead of the StringBuilder -/
theorem G_strTop {c : Nat × va_E} (hx : xOk E M.2) (hM : M.2 = sbX E T a v n cap f ++ [c]) (g : xOk E (sbX E (T ++ [c]) a v n cap f) → G E C own b z P cs ss (M.x (sbX E (T ++ [c]) a v n cap f)) pc lv st) : G E C own b z P cs ss M pc lv st := by
  have ek : sbX E (T ++ [c]) a v n cap f = T ++ [c, sbC a v n, byC E v cap f] := by
    unfold sbX
    rw [List.append_assoc]
    rfl
  have eo : M.2 = T ++ [sbC a v n, byC E v cap f, c] := by
    rw [hM]
    unfold sbX
    rw [List.append_assoc]
    rfl
  refine G_xsub (fun k => if k < T.length then k else if k = T.length then k + 2 else k - 1) hx (fun k q hk => ?_) (fun i j hi hj he => ?_) g
  · have hk3 : k < T.length + 3 := by
      have := (List.getElem?_eq_some_iff.mp hk).1
      simpa [sbX] using this
    rw [ek] at hk
    show M.2[_]? = _
    rw [eo]
    by_cases q1 : k < T.length
    · rw [if_pos q1]
      rw [List.getElem?_append_left q1] at hk ⊢
      exact hk
    · rw [if_neg q1]
      rcases (show k = T.length + 0 ∨ k = T.length + 1 ∨ k = T.length + 2 by omega) with rfl | rfl | rfl
      · rw [if_pos (by omega)]
        rw [app_at] at hk
        exact app_at.trans hk
      · rw [if_neg (by omega), Nat.add_sub_cancel]
        rw [app_at] at hk
        exact (app_at (k := 0)).trans hk
      · rw [if_neg (by omega), show T.length + 2 - 1 = T.length + 1 by omega]
        rw [app_at] at hk
        exact app_at.trans hk
  · have hl : (sbX E (T ++ [c]) a v n cap f).length = T.length + 3 := by simp [sbX]
    rw [hl] at hi hj
    have he : (if i < T.length then i else if i = T.length then i + 2 else i - 1) = (if j < T.length then j else if j = T.length then j + 2 else j - 1) := he
    split at he <;> split at he <;> (try split at he) <;> (try split at he) <;> omega
/-- the StringBuilder forgotten -/
theorem G_strEnd {c c2 : Nat × va_E} (hx : xOk E M.2) (hM : M.2 = sbX E (T ++ [c]) a v n cap f ++ [c2]) (g : xOk E (T ++ [c, c2]) → G E C own b z P cs ss (M.x (T ++ [c, c2])) pc lv st) : G E C own b z P cs ss M pc lv st := by
  have eo : M.2 = T ++ [c, sbC a v n, byC E v cap f, c2] := by
    rw [hM]
    unfold sbX
    rw [List.append_assoc, List.append_assoc]
    rfl
  refine G_xsub (fun k => if k ≤ T.length then k else k + 2) hx (fun k q hk => ?_) (fun i j hi hj he => ?_) g
  · have hk3 : k < T.length + 2 := by
      have := (List.getElem?_eq_some_iff.mp hk).1
      simpa using this
    show M.2[_]? = _
    rw [eo]
    by_cases q1 : k < T.length
    · rw [if_pos (by omega)]
      rw [List.getElem?_append_left q1] at hk ⊢
      exact hk
    · rcases (show k = T.length + 0 ∨ k = T.length + 1 by omega) with rfl | rfl
      · rw [if_pos (by omega)]
        rw [app_at] at hk
        exact app_at.trans hk
      · rw [if_neg (by omega)]
        rw [app_at] at hk
        exact (app_at (k := 3)).trans hk
  · have he : (if i ≤ T.length then i else i + 2) = (if j ≤ T.length then j else j + 2) := he
    split at he <;> split at he <;> omega
theorem G_newS {a0 cs' ss' : Nat} (hx : xOk E M.2) (d : decode b pc = .ok (.new 18, 3)) (ho : own = RJ4) (hcs : cs + 1 = cs') (hss : ss + 4 = ss') (hcm : cs' ≤ z.2.2.1.1) (hsm : ss' ≤ z.2.2.1.2) (g : ∀ s : Nat, xOk E (M.2 ++ [(s, .inr (10, [.null, .int 0, .int 0, .int 0]))]) → G E C own b z P cs' ss' (M.x (M.2 ++ [(s, .inr (10, [.null, .int 0, .int 0, .int 0]))])) (pc + 3) lv (.ref s :: st)) : G E C own b z P cs ss M pc lv st := by
  subst ho
  refine G_xnewo (ci := 10) (T := TJ0) (n := 4) (fs := [.null, .int 0, .int 0, .int 0]) (ty := tyJ0) hx d inJ0 rfl tyJ0_ok (hqx 812 (by decide +kernel) rfl) (hqx 813 (by decide +kernel) rfl) (hqx 21 (by decide +kernel) rfl) (fun j hj => ?_) hcs hss hcm hsm g
  rcases (show j = 0 ∨ j = 1 ∨ j = 2 ∨ j = 3 by omega) with rfl | rfl | rfl | rfl <;> rfl
end
/-- a made String and its bytes, behind other cells -/
def stX (E : Ed) (T : va_W) (s w n : Nat) (f : Nat → Int32) : va_W := T ++ [stC s w, byC E w n f]
theorem c_toString (hX : xOk E M.2) (hM : M.2 = sbX E T a v L.length cap f) (hR : sbR L cap f) (h : ∀ s w f', xOk E (stX E T s w L.length f') → (∀ k, k < L.length → f' k = L.getD k 0) → P (.inl (some (.ref s))) (M.x (stX E T s w L.length f'))) : Sp E yJ4_toString_0e30d cJ4_toString_0e30d zJ4_toString_0e30d [.ref a] M P := by
  refine Sp_of (own := RJ4) (by decide) rfl rfl (Nat.le_of_ble_eq_true rfl) (fun C => ?_)
  refine G_newS (a0 := 0) (cs' := 1) (ss' := 4) hX dJ4_toString_0e30d_0 rfl rfl rfl (Nat.le_of_ble_eq_true rfl) (Nat.le_of_ble_eq_true rfl) (fun s hX1 => ?_)
  generalize hc0 : ((s, .inr (10, [.null, .int 0, .int 0, .int 0])) : Nat × va_E) = c0 at hX1 ⊢
  refine G_strTop (M := M.x (M.2 ++ [c0])) (c := c0) hX1 (congrArg (fun X => X ++ [c0]) hM) (fun hX2 => ?_)
  refine G_st (M' := M.x (sbX E (T ++ [c0]) a v L.length cap f)) rfl rfl rfl ?_
  refine G_dup dJ4_toString_0e30d_3 rfl ?_
  refine G_aload_n dJ4_toString_0e30d_4 rfl ?_
  refine G_callI (n := 1) (a := s) (y := yJ0_init_81219) (b' := cJ0_init_81219) (z' := zJ0_init_81219) (as := [.ref a]) (rest := [.ref s]) (cs' := 2) (ss' := 1204) dJ4_toString_0e30d_5 (hqx 814 (by decide +kernel) rfl) (hqx 21 (by decide +kernel) rfl) (hqx 816 (by decide +kernel) rfl) (hqx 815 (by decide +kernel) rfl) rfl rfl rfl ⟨by decide, by decide, by decide +kernel⟩ rfl rfl (Nat.le_of_ble_eq_true rfl) (Nat.le_of_ble_eq_true rfl) (Nat.le_of_ble_eq_true rfl) rfl rfl (Nat.le_of_ble_eq_true rfl) (Nat.le_of_ble_eq_true rfl) ?_
  refine c_initS1 (M := M.x (sbX E (T ++ [c0]) a v L.length cap f)) (s := s) hX2 (by rw [hc0]) hR rfl (fun w f' hX3 hf3 => hGo_v ?_)
  refine G_strEnd (M := M.x (sbX E (T ++ [stC s w]) a v L.length cap f ++ [byC E w L.length f'])) hX3 rfl (fun hX4 => ?_)
  refine G_aret dJ4_toString_0e30d_8 rfl (Nat.le_of_ble_eq_true rfl) (Nat.le_of_ble_eq_true rfl) ?_
  exact h s w f' hX4 hf3
end JSTR
