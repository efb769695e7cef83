/-! ===== a StringBuilder's capacity; a text laid behind ===== -/
section JCAP
variable {E : Ed} {M : Mm} {P : Res → Mm → Prop} {T : va_W} {a v n cap : Nat} {f : Nat → Int32} {L : List Int32}
theorem c_isLatin1 (hX : xOk E M.2) (hM : M.2 = sbX E T a v n cap f) (h : P (.inl (some (.int 1))) M) : Sp E yJ5_isLatin1_aae02 cJ5_isLatin1_aae02 zJ5_isLatin1_aae02 [.ref a] M P := by
  refine Sp_of (own := RJ5) (by decide) rfl rfl (Nat.le_of_ble_eq_true rfl) (fun C => ?_)
  refine G_gcs dJ5_isLatin1_aae02_0 (hqx 697 (by decide +kernel) rfl) ?_
  refine G_if_eq (tgt := 17) dJ5_isLatin1_aae02_3 (by decide) (fun c3 => ?_) (fun c3 => ?_)
  · exact absurd c3 (by decide)
  · refine G_aload_n dJ5_isLatin1_aae02_6 rfl ?_
    refine G_sbget (t := 1) hX hM dJ5_isLatin1_aae02_7 (hqx 747 (by decide +kernel) rfl) (by decide) rfl ?_
    refine G_if_ne (tgt := 17) dJ5_isLatin1_aae02_10 (by decide) (fun c10 => ?_) (fun c10 => ?_)
    · exact absurd rfl c10
    · refine G_iconst (v := 1) dJ5_isLatin1_aae02_13 (by decide) ?_
      refine G_goto (tgt := 18) dJ5_isLatin1_aae02_14 (by decide) ?_
      refine G_iret dJ5_isLatin1_aae02_18 rfl rfl (Nat.le_of_ble_eq_true rfl) (Nat.le_of_ble_eq_true rfl) ?_
      exact h
theorem c_getValue (hX : xOk E M.2) (hM : M.2 = sbX E T a v n cap f) (h : P (.inl (some (.ref v))) M) : Sp E yJ5_getValue_6d5f1 cJ5_getValue_6d5f1 zJ5_getValue_6d5f1 [.ref a] M P := by
  refine Sp_of (own := RJ5) (by decide) rfl rfl (Nat.le_of_ble_eq_true rfl) (fun C => ?_)
  refine G_aload_n dJ5_getValue_6d5f1_0 rfl ?_
  refine G_sbget (t := 0) hX hM dJ5_getValue_6d5f1_1 (hqx 746 (by decide +kernel) rfl) (by decide) rfl ?_
  refine G_aretA dJ5_getValue_6d5f1_4 rfl (Nat.le_of_ble_eq_true rfl) (Nat.le_of_ble_eq_true rfl) ?_
  exact h
theorem c_len5 (hX : xOk E M.2) (hM : M.2 = sbX E T a v n cap f) (h : P (.inl (some (.int (nI n)))) M) : Sp E yJ5_length_8abf5 cJ5_length_8abf5 zJ5_length_8abf5 [.ref a] M P := by
  refine Sp_of (own := RJ5) (by decide) rfl rfl (Nat.le_of_ble_eq_true rfl) (fun C => ?_)
  refine G_aload_n dJ5_length_8abf5_0 rfl ?_
  refine G_sbget (t := 3) hX hM dJ5_length_8abf5_1 (hqx 749 (by decide +kernel) rfl) (by decide) rfl ?_
  refine G_iret dJ5_length_8abf5_4 rfl rfl (Nat.le_of_ble_eq_true rfl) (Nat.le_of_ble_eq_true rfl) ?_
  exact h
theorem c_len4 (hX : xOk E M.2) (hM : M.2 = sbX E T a v n cap f) (h : P (.inl (some (.int (nI n)))) M) : Sp E yJ4_length_8abf5 cJ4_length_8abf5 zJ4_length_8abf5 [.ref a] M P := by
  refine Sp_of (own := RJ4) (by decide) rfl rfl (Nat.le_of_ble_eq_true rfl) (fun C => ?_)
  refine G_aload_n dJ4_length_8abf5_0 rfl ?_
  refine G_callSU (n := 0) (Cn := RJ4) (T := TJ4) (N := 4) (y := yJ5_length_8abf5) (b' := cJ5_length_8abf5) (z' := zJ5_length_8abf5) (as := []) (rest := []) (cs' := 0) (ss' := 0) hX (sbX_at0 hM) dJ4_length_8abf5_1 (hqx 832 (by decide +kernel) rfl) (hqx 828 (by decide +kernel) rfl) (hqx 656 (by decide +kernel) rfl) (hqx 827 (by decide +kernel) rfl) (hqx 19 (by decide +kernel) rfl) (hqx 833 (by decide +kernel) rfl) rfl ⟨by decide, by decide +kernel⟩ rfl rfl rfl (Nat.le_of_ble_eq_true rfl) (Nat.le_of_ble_eq_true rfl) (Nat.le_of_ble_eq_true rfl) rfl rfl (Nat.le_of_ble_eq_true rfl) (Nat.le_of_ble_eq_true rfl) ?_
  refine c_len5 hX hM (hGo_i ?_)
  refine G_iret dJ4_length_8abf5_4 rfl rfl (Nat.le_of_ble_eq_true rfl) (Nat.le_of_ble_eq_true rfl) ?_
  exact h
theorem c_newLength {o m g : Nat} (h1 : o + max m g < 2 ^ 30) (h2 : 0 < o + max m g) (h : P (.inl (some (.int (nI (o + max m g))))) M) : Sp E yJ8_newLength_cabcc cJ8_newLength_cabcc zJ8_newLength_cabcc [.int (nI o), .int (nI m), .int (nI g)] M P := by
  have e1 : (if nI m < nI g then nI g else nI m) = nI (max m g) := by
    by_cases q : m < g
    · rw [if_pos (nI_lt q (by omega)), Nat.max_eq_right (by omega)]
    · rw [if_neg (nI_nlt (by omega) (by omega)), Nat.max_eq_left (by omega)]
  refine Sp_of (own := RJ8) (by decide) rfl rfl (Nat.le_of_ble_eq_true rfl) (fun C => ?_)
  refine G_iload_n dJ8_newLength_cabcc_0 rfl ?_
  refine G_iload_n dJ8_newLength_cabcc_1 rfl ?_
  refine G_iload_n dJ8_newLength_cabcc_2 rfl ?_
  refine G_mmax dJ8_newLength_cabcc_3 (hqx 673 (by decide +kernel) rfl) (hqx 674 (by decide +kernel) rfl) (hqx 15 (by decide +kernel) rfl) (hqx 675 (by decide +kernel) rfl) (Nat.le_of_ble_eq_true rfl) (Nat.le_of_ble_eq_true rfl) (Nat.le_of_ble_eq_true rfl) (Nat.le_of_ble_eq_true rfl) ?_
  rw [e1]
  refine G_iadd dJ8_newLength_cabcc_6 ?_
  rw [nI_add]
  refine G_istore_n dJ8_newLength_cabcc_7 (Nat.le_of_ble_eq_true rfl) ?_
  refine G_iconst (v := 0) dJ8_newLength_cabcc_8 (by decide) ?_
  refine G_iload_n dJ8_newLength_cabcc_9 rfl ?_
  refine G_icmp_ge (tgt := 21) dJ8_newLength_cabcc_10 (by decide) (fun c10 => ?_) (fun c10 => ?_)
  · exact absurd c10 (nI_nle h2 (by omega))
  · refine G_iload_n dJ8_newLength_cabcc_13 rfl ?_
    refine G_ldc (v := 2147483639) dJ8_newLength_cabcc_14 (hqx 676 (by decide +kernel) rfl) ?_
    refine G_icmp_gt (tgt := 21) dJ8_newLength_cabcc_16 (by decide) (fun c16 => ?_) (fun c16 => ?_)
    · exact absurd c16 (show ¬ nI 2147483639 < nI (o + max m g) from nI_nlt (by omega) (by decide))
    · refine G_iload_n dJ8_newLength_cabcc_19 rfl ?_
      refine G_iret dJ8_newLength_cabcc_20 rfl rfl (Nat.le_of_ble_eq_true rfl) (Nat.le_of_ble_eq_true rfl) ?_
      exact h
theorem c_newCapacity {q : Nat} (hX : xOk E M.2) (hM : M.2 = sbX E T a v n cap f) (hq : q ≤ 200) (hc : cap < q) (h : P (.inl (some (.int (nI (cap + max (q - cap) (cap + 2)))))) M) : Sp E yJ5_newCapacity_0f7a4 cJ5_newCapacity_0f7a4 zJ5_newCapacity_0f7a4 [.ref a, .int (nI q)] M P := by
  have hb : max (q - cap) (cap + 2) ≤ 202 := by omega
  refine Sp_of (own := RJ5) (by decide) rfl rfl (Nat.le_of_ble_eq_true rfl) (fun C => ?_)
  refine G_aload_n dJ5_newCapacity_0f7a4_0 rfl ?_
  refine G_sbget (t := 0) hX hM dJ5_newCapacity_0f7a4_1 (hqx 746 (by decide +kernel) rfl) (by decide) rfl ?_
  refine G_sblen hX hM dJ5_newCapacity_0f7a4_4 ?_
  refine G_istore_n dJ5_newCapacity_0f7a4_5 (Nat.le_of_ble_eq_true rfl) ?_
  refine G_iload_n dJ5_newCapacity_0f7a4_6 rfl ?_
  refine G_aload_n dJ5_newCapacity_0f7a4_7 rfl ?_
  refine G_sbget (t := 1) hX hM dJ5_newCapacity_0f7a4_8 (hqx 747 (by decide +kernel) rfl) (by decide) rfl ?_
  refine G_ishl dJ5_newCapacity_0f7a4_11 ?_
  rw [shl0]
  refine G_istore_n dJ5_newCapacity_0f7a4_12 (Nat.le_of_ble_eq_true rfl) ?_
  refine G_iload_n dJ5_newCapacity_0f7a4_13 rfl ?_
  refine G_iload_n dJ5_newCapacity_0f7a4_14 rfl ?_
  refine G_isub dJ5_newCapacity_0f7a4_15 ?_
  rw [show nI q - nI cap = nI (q - cap) from pk_sub (by omega)]
  refine G_istore dJ5_newCapacity_0f7a4_16 (Nat.le_of_ble_eq_true rfl) ?_
  refine G_iload_n dJ5_newCapacity_0f7a4_18 rfl ?_
  refine G_iload dJ5_newCapacity_0f7a4_19 rfl ?_
  refine G_iload_n dJ5_newCapacity_0f7a4_21 rfl ?_
  refine G_iconst (v := 2) dJ5_newCapacity_0f7a4_22 (by decide) ?_
  refine G_aload_n dJ5_newCapacity_0f7a4_23 rfl ?_
  refine G_sbget (t := 1) hX hM dJ5_newCapacity_0f7a4_24 (hqx 747 (by decide +kernel) rfl) (by decide) rfl ?_
  refine G_ishl dJ5_newCapacity_0f7a4_27 ?_
  rw [shl0]
  refine G_iadd dJ5_newCapacity_0f7a4_28 ?_
  rw [show nI cap + 2 = nI (cap + 2) from nI_add cap 2]
  refine G_callS2 (n := 3) (y := yJ8_newLength_cabcc) (b' := cJ8_newLength_cabcc) (z' := zJ8_newLength_cabcc) (as := [.int (nI cap), .int (nI (q - cap)), .int (nI (cap + 2))]) (rest := []) (cs' := 0) (ss' := 0) dJ5_newCapacity_0f7a4_29 ⟨⟨(hqx 670 (by decide +kernel) rfl), (hqx 23 (by decide +kernel) rfl), (hqx 672 (by decide +kernel) rfl), rfl, by decide, by decide, by decide +kernel⟩, (hqx 671 (by decide +kernel) rfl)⟩ rfl rfl (Nat.le_of_ble_eq_true rfl) (Nat.le_of_ble_eq_true rfl) (Nat.le_of_ble_eq_true rfl) rfl rfl (Nat.le_of_ble_eq_true rfl) (Nat.le_of_ble_eq_true rfl) rfl ?_
  refine c_newLength (by omega) (by omega) (hGo_i ?_)
  refine G_istore dJ5_newCapacity_0f7a4_32 (Nat.le_of_ble_eq_true rfl) ?_
  refine G_iload dJ5_newCapacity_0f7a4_34 rfl ?_
  refine G_ldc (v := 2147483647) dJ5_newCapacity_0f7a4_36 (hqx 636 (by decide +kernel) rfl) ?_
  refine G_icmp_ne (tgt := 51) dJ5_newCapacity_0f7a4_38 (by decide) (fun c38 => ?_) (fun c38 => ?_)
  · refine G_iload dJ5_newCapacity_0f7a4_51 rfl ?_
    refine G_aload_n dJ5_newCapacity_0f7a4_53 rfl ?_
    refine G_sbget (t := 1) hX hM dJ5_newCapacity_0f7a4_54 (hqx 747 (by decide +kernel) rfl) (by decide) rfl ?_
    refine G_ishr dJ5_newCapacity_0f7a4_57 ?_
    rw [shr0]
    refine G_iret dJ5_newCapacity_0f7a4_58 rfl rfl (Nat.le_of_ble_eq_true rfl) (Nat.le_of_ble_eq_true rfl) ?_
    exact h
  · exact absurd c38 (fun z => by have := (nI_eq (by omega) (by decide)).mp (show nI (cap + max (q - cap) (cap + 2)) = nI 2147483647 from z); omega)
theorem c_copyOf {i q : Nat} (hX : xOk E M.2) (hi : M.2[i]? = some (v, .inl (E.2.2.1 1, cap, .inl f))) (hc : cap < q) (hq : q ≤ 500) (hf : ∀ k, fits .byte (.int (f k)) = true) (h : ∀ v', xOk E (M.2 ++ [byC E v' q (va_cpy f (fun _ => 0) 0 0 cap)]) → P (.inl (some (.ref v'))) (M.x (M.2 ++ [byC E v' q (va_cpy f (fun _ => 0) 0 0 cap)]))) : Sp E yJ7_copyOf_9075b cJ7_copyOf_9075b zJ7_copyOf_9075b [.ref v, .int (nI q)] M P := by
  have e1 : (if nI q < nI cap then nI q else nI cap) = nI cap := if_neg (nI_nlt (by omega) (by omega))
  refine Sp_of (own := RJ7) (by decide) rfl rfl (Nat.le_of_ble_eq_true rfl) (fun C => ?_)
  refine G_iload_n dJ7_copyOf_9075b_0 rfl ?_
  refine G_aload_n dJ7_copyOf_9075b_1 rfl ?_
  refine G_xalen (t := 1) (ty := .byte) (v := nI cap) hX hi dJ7_copyOf_9075b_2 rfl rfl ?_
  refine G_icmp_ne (tgt := 14) dJ7_copyOf_9075b_3 (by decide) (fun c3 => ?_) (fun c3 => ?_)
  · refine G_iload_n dJ7_copyOf_9075b_14 rfl ?_
    refine G_xnewa (t0 := 1) (n := q) (atype := .byte) (ty := .byte) (a0 := (q, .inl (fun _ => 0))) (cs' := 1) (ss' := q) hX dJ7_copyOf_9075b_15 (hqx 57 (by decide +kernel) rfl) rfl (fun _ h => by cases h) rfl (fun _ => rfl) rfl (by omega) (by show q * 1 ≤ 536870912; omega) rfl (Nat.zero_add q) (Nat.le_of_ble_eq_true rfl) (by show q ≤ 1200; omega) (fun v' hX1 => ?_)
    refine G_astore_n dJ7_copyOf_9075b_17 (Nat.le_of_ble_eq_true rfl) ?_
    have hi1 : (M.2 ++ [byC E v' q (fun _ => 0)])[i]? = some (v, .inl (E.2.2.1 1, cap, .inl f)) := by
      rw [List.getElem?_append_left (List.getElem?_eq_some_iff.mp hi).1]
      exact hi
    refine G_aload_n dJ7_copyOf_9075b_18 rfl ?_
    refine G_iconst (v := 0) dJ7_copyOf_9075b_19 (by decide) ?_
    refine G_aload_n dJ7_copyOf_9075b_20 rfl ?_
    refine G_iconst (v := 0) dJ7_copyOf_9075b_21 (by decide) ?_
    refine G_aload_n dJ7_copyOf_9075b_22 rfl ?_
    refine G_xalen (t := 1) (ty := .byte) (v := nI cap) hX1 hi1 dJ7_copyOf_9075b_23 rfl rfl ?_
    refine G_iload_n dJ7_copyOf_9075b_24 rfl ?_
    refine G_mmin dJ7_copyOf_9075b_25 (hqx 690 (by decide +kernel) rfl) (hqx 358 (by decide +kernel) rfl) (hqx 15 (by decide +kernel) rfl) (hqx 359 (by decide +kernel) rfl) (Nat.le_of_ble_eq_true rfl) (Nat.le_of_ble_eq_true rfl) (Nat.le_of_ble_eq_true rfl) (by show q ≤ 1200; omega) ?_
    rw [e1]
    have e2 : (M.2 ++ [byC E v' q (fun _ => 0)]).set M.2.length (v', .inl (E.2.2.1 1, q, .inl (va_cpy f (fun _ => 0) 0 0 cap))) = M.2 ++ [byC E v' q (va_cpy f (fun _ => 0) 0 0 cap)] := x_set
    refine G_copyX (sp := 0) (dp := 0) (n := cap) hX1 hi1 x_at dJ7_copyOf_9075b_28 (hqx 691 (by decide +kernel) rfl) rfl rfl rfl (by omega) (by omega) (by omega) (by omega) hf (Nat.le_of_ble_eq_true rfl) (Nat.le_of_ble_eq_true rfl) (fun hX2 => ?_)
    have hX3 : xOk E (M.2 ++ [byC E v' q (va_cpy f (fun _ => 0) 0 0 cap)]) := e2 ▸ hX2
    refine G_st (M' := M.x (M.2 ++ [byC E v' q (va_cpy f (fun _ => 0) 0 0 cap)])) rfl rfl (congrArg M.x e2) ?_
    refine G_aload_n dJ7_copyOf_9075b_31 rfl ?_
    refine G_aretA dJ7_copyOf_9075b_32 rfl (Nat.le_of_ble_eq_true rfl) (by show q ≤ 1200; omega) ?_
    exact h v' hX3
  · exact absurd ((nI_eq (by omega) (by omega)).mp (show nI q = nI cap from c3)) (by omega)
theorem c_ensure {q : Nat} (hX : xOk E M.2) (hM : M.2 = sbX E T a v n cap f) (hR : sbR L cap f) (hq : q ≤ 200) (h : ∀ v' cap' f', xOk E (sbX E T a v' n cap' f') → q ≤ cap' → sbR L cap' f' → P (.inl none) (M.x (sbX E T a v' n cap' f'))) : Sp E yJ5_ensureCapacityInternal_d00df cJ5_ensureCapacityInternal_d00df zJ5_ensureCapacityInternal_d00df [.ref a, .int (nI q)] M P := by
  obtain ⟨r1, r2, r3, r4⟩ := id hR
  have e0 : (nI q - nI cap).toInt = (q : Int) - cap := pk_sub_toInt (by omega) (by omega)
  refine Sp_of (own := RJ5) (by decide) rfl rfl (Nat.le_of_ble_eq_true rfl) (fun C => ?_)
  refine G_aload_n dJ5_ensureCapacityInternal_d00df_0 rfl ?_
  refine G_sbget (t := 0) hX hM dJ5_ensureCapacityInternal_d00df_1 (hqx 746 (by decide +kernel) rfl) (by decide) rfl ?_
  refine G_sblen hX hM dJ5_ensureCapacityInternal_d00df_4 ?_
  refine G_aload_n dJ5_ensureCapacityInternal_d00df_5 rfl ?_
  refine G_sbget (t := 1) hX hM dJ5_ensureCapacityInternal_d00df_6 (hqx 747 (by decide +kernel) rfl) (by decide) rfl ?_
  refine G_ishr dJ5_ensureCapacityInternal_d00df_9 ?_
  rw [shr0]
  refine G_istore_n dJ5_ensureCapacityInternal_d00df_10 (Nat.le_of_ble_eq_true rfl) ?_
  refine G_iload_n dJ5_ensureCapacityInternal_d00df_11 rfl ?_
  refine G_iload_n dJ5_ensureCapacityInternal_d00df_12 rfl ?_
  refine G_isub dJ5_ensureCapacityInternal_d00df_13 ?_
  refine G_if_le (tgt := 38) dJ5_ensureCapacityInternal_d00df_14 (by decide) (fun c14 => ?_) (fun c14 => ?_)
  · have hqc : q ≤ cap := by
      rw [Int32.le_iff_toInt_le, e0, Int32.toInt_zero] at c14
      omega
    refine G_vret dJ5_ensureCapacityInternal_d00df_38 rfl (Nat.le_of_ble_eq_true rfl) (Nat.le_of_ble_eq_true rfl) ?_
    have e9 : M = M.x (sbX E T a v n cap f) := by rw [← hM]
    rw [e9]
    exact h v cap f (hM ▸ hX) hqc hR
  · have hqc : cap < q := by
      rw [Int32.le_iff_toInt_le, e0, Int32.toInt_zero] at c14
      omega
    refine G_aload_n dJ5_ensureCapacityInternal_d00df_17 rfl ?_
    refine G_aload_n dJ5_ensureCapacityInternal_d00df_18 rfl ?_
    refine G_sbget (t := 0) hX hM dJ5_ensureCapacityInternal_d00df_19 (hqx 746 (by decide +kernel) rfl) (by decide) rfl ?_
    refine G_aload_n dJ5_ensureCapacityInternal_d00df_22 rfl ?_
    refine G_iload_n dJ5_ensureCapacityInternal_d00df_23 rfl ?_
    refine G_callVO (n := 1) (Cn := RJ4) (T := TJ4) (N := 4) (x := yJ5_newCapacity_0f7a4) (b0 := cJ5_newCapacity_0f7a4) (m0 := zJ5_newCapacity_0f7a4.1) (r0 := zJ5_newCapacity_0f7a4.2.1) (y := yJ5_newCapacity_0f7a4) (b' := cJ5_newCapacity_0f7a4) (z' := zJ5_newCapacity_0f7a4) (as := [.int (nI q)]) (rest := [.ref v, .ref a]) (cs' := 0) (ss' := 0) hX (sbX_at0 hM) dJ5_ensureCapacityInternal_d00df_24 (hqx 666 (by decide +kernel) rfl) (hqx 1443 (by decide +kernel) rfl) (hqx 668 (by decide +kernel) rfl) (hqs 1 rfl rfl) (hqx 668 (by decide +kernel) rfl) (hqx 19 (by decide +kernel) rfl) (hqx 669 (by decide +kernel) rfl) (hqx 669 (by decide +kernel) rfl) rfl ⟨by decide, by decide, by decide +kernel⟩ rfl rfl rfl (Nat.le_of_ble_eq_true rfl) (Nat.le_of_ble_eq_true rfl) (Nat.le_of_ble_eq_true rfl) rfl rfl (Nat.le_of_ble_eq_true rfl) (Nat.le_of_ble_eq_true rfl) ?_
    refine c_newCapacity hX hM hq hqc (hGo_i ?_)
    generalize hc2 : cap + max (q - cap) (cap + 2) = c2
    refine G_aload_n dJ5_ensureCapacityInternal_d00df_27 rfl ?_
    refine G_sbget (t := 1) hX hM dJ5_ensureCapacityInternal_d00df_28 (hqx 747 (by decide +kernel) rfl) (by decide) rfl ?_
    refine G_ishl dJ5_ensureCapacityInternal_d00df_31 ?_
    rw [shl0]
    refine G_callS2 (n := 2) (y := yJ7_copyOf_9075b) (b' := cJ7_copyOf_9075b) (z' := zJ7_copyOf_9075b) (as := [.ref v, .int (nI c2)]) (rest := [.ref a]) (cs' := 1) (ss' := 1200) dJ5_ensureCapacityInternal_d00df_32 ⟨⟨(hqx 680 (by decide +kernel) rfl), (hqx 24 (by decide +kernel) rfl), (hqx 682 (by decide +kernel) rfl), rfl, by decide, by decide, by decide +kernel⟩, (hqx 681 (by decide +kernel) rfl)⟩ rfl rfl (Nat.le_of_ble_eq_true rfl) (Nat.le_of_ble_eq_true rfl) (Nat.le_of_ble_eq_true rfl) rfl rfl (Nat.le_of_ble_eq_true rfl) (Nat.le_of_ble_eq_true rfl) rfl ?_
    refine c_copyOf (v := v) (f := f) hX (sbX_at1 hM) (by omega) (by omega) r3 (fun v' hX1 => hGo_a ?_)
    have hM1 : (M.x (M.2 ++ [byC E v' c2 (va_cpy f (fun _ => 0) 0 0 cap)])).2 = sbX E T a v n cap f ++ [byC E v' c2 (va_cpy f (fun _ => 0) 0 0 cap)] := by
      rw [← hM]
    refine G_sbval hX1 hM1 dJ5_ensureCapacityInternal_d00df_35 (hqx 746 (by decide +kernel) rfl) (fun hX9 => ?_)
    refine G_vret dJ5_ensureCapacityInternal_d00df_38 rfl (Nat.le_of_ble_eq_true rfl) (Nat.le_of_ble_eq_true rfl) ?_
    refine h v' c2 _ hX9 (by omega) ⟨by omega, by omega, fit_cpy (fun k _ => r3 _) fit_0, fun k hk => ?_⟩
    rw [pk_cpy_in (by omega) (by omega), show 0 + (k - 0) = k by omega]
    exact r4 k hk
end JCAP
