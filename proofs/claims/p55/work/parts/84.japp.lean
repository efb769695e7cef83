/-! ===== StringBuilder.append ===== -/
section JAPP
variable {E : Ed} {M : Mm} {P : Res → Mm → Prop} {T : va_W} {a v n cap i : Nat} {f : Nat → Int32} {L : List Int32}
theorem gD_l {L S : List Int32} {k : Nat} {d : Int32} (h : k < L.length) : (L ++ S).getD k d = L.getD k d := by
  rw [List.getD_eq_getElem?_getD, List.getD_eq_getElem?_getD, List.getElem?_append_left h]
theorem gD_r {L S : List Int32} {k : Nat} {d : Int32} (h : L.length ≤ k) : (L ++ S).getD k d = S.getD (k - L.length) d := by
  rw [List.getD_eq_getElem?_getD, List.getD_eq_getElem?_getD, List.getElem?_append_right h]
theorem c_inflateIf (hX : xOk E M.2) (hM : M.2 = sbX E T a v n cap f) (hi : i < 16) (h : P (.inl none) M) : Sp E yJ5_inflateIfNeededFor_a7421 cJ5_inflateIfNeededFor_a7421 zJ5_inflateIfNeededFor_a7421 [.ref a, .ref (sK E i)] M P := by
  refine Sp_of (own := RJ5) (by decide) rfl rfl (Nat.le_of_ble_eq_true rfl) (fun C => ?_)
  refine G_gcs dJ5_inflateIfNeededFor_a7421_0 (hqx 697 (by decide +kernel) rfl) ?_
  refine G_if_eq (tgt := 21) dJ5_inflateIfNeededFor_a7421_3 (by decide) (fun c3 => ?_) (fun c3 => ?_)
  · exact absurd c3 (by decide)
  · refine G_aload_n dJ5_inflateIfNeededFor_a7421_6 rfl ?_
    refine G_sbget (t := 1) hX hM dJ5_inflateIfNeededFor_a7421_7 (hqx 747 (by decide +kernel) rfl) (by decide) rfl ?_
    refine G_aload_n dJ5_inflateIfNeededFor_a7421_10 rfl ?_
    refine G_callVK (n := 0) (i := i) (y := yJ0_coder_7d493) (b' := cJ0_coder_7d493) (z' := zJ0_coder_7d493) (as := []) (rest := [.int 0]) (cs' := 0) (ss' := 0) dJ5_inflateIfNeededFor_a7421_11 ⟨⟨(hqx 637 (by decide +kernel) rfl), (hqx 21 (by decide +kernel) rfl), (hqx 376 (by decide +kernel) rfl), rfl, by decide, by decide, by decide +kernel⟩, (hqx 374 (by decide +kernel) rfl), (hqx 375 (by decide +kernel) rfl)⟩ hi rfl rfl rfl (Nat.le_of_ble_eq_true rfl) (Nat.le_of_ble_eq_true rfl) (Nat.le_of_ble_eq_true rfl) rfl rfl (Nat.le_of_ble_eq_true rfl) (Nat.le_of_ble_eq_true rfl) rfl ?_
    refine s_J0_coder hi (hGo_i ?_)
    refine G_icmp_eq (tgt := 21) dJ5_inflateIfNeededFor_a7421_14 (by decide) (fun c14 => ?_) (fun c14 => ?_)
    · refine G_vret dJ5_inflateIfNeededFor_a7421_21 rfl (Nat.le_of_ble_eq_true rfl) (Nat.le_of_ble_eq_true rfl) ?_
      exact h
    · exact absurd rfl c14
theorem c_getBytes (hX : xOk E M.2) (hM : M.2 = sbX E T a v n cap f) (hR : sbR L cap f) (hi : i < 16) (hl : (L ++ hSb2 i).length ≤ cap) (h : ∀ f', xOk E (sbX E T a v n cap f') → sbR (L ++ hSb2 i) cap f' → P (.inl none) (M.x (sbX E T a v n cap f'))) : Sp E yJ0_getBytes_840e7 cJ0_getBytes_840e7 zJ0_getBytes_840e7 [.ref (sK E i), .ref v, .int (nI L.length), .int 0] M P := by
  obtain ⟨r1, r2, r3, r4⟩ := id hR
  have hl2 := hl
  rw [List.length_append] at hl2
  refine Sp_of (own := RJ0) (by decide) rfl rfl (Nat.le_of_ble_eq_true rfl) (fun C => ?_)
  refine G_aload_n dJ0_getBytes_840e7_0 rfl ?_
  refine G_callVK (n := 0) (i := i) (y := yJ0_coder_7d493) (b' := cJ0_coder_7d493) (z' := zJ0_coder_7d493) (as := []) (rest := []) (cs' := 0) (ss' := 0) dJ0_getBytes_840e7_1 ⟨⟨(hqx 373 (by decide +kernel) rfl), (hqx 21 (by decide +kernel) rfl), (hqx 376 (by decide +kernel) rfl), rfl, by decide, by decide, by decide +kernel⟩, (hqx 374 (by decide +kernel) rfl), (hqx 375 (by decide +kernel) rfl)⟩ hi rfl rfl rfl (Nat.le_of_ble_eq_true rfl) (Nat.le_of_ble_eq_true rfl) (Nat.le_of_ble_eq_true rfl) rfl rfl (Nat.le_of_ble_eq_true rfl) (Nat.le_of_ble_eq_true rfl) rfl ?_
  refine s_J0_coder hi (hGo_i ?_)
  refine G_iload_n dJ0_getBytes_840e7_4 rfl ?_
  refine G_icmp_ne (tgt := 28) dJ0_getBytes_840e7_5 (by decide) (fun c5 => ?_) (fun c5 => ?_)
  · exact absurd rfl c5
  · refine G_aload_n dJ0_getBytes_840e7_8 rfl ?_
    refine G_sval dJ0_getBytes_840e7_9 hi rfl ?_
    refine G_iconst (v := 0) dJ0_getBytes_840e7_12 (by decide) ?_
    refine G_aload_n dJ0_getBytes_840e7_13 rfl ?_
    refine G_iload_n dJ0_getBytes_840e7_14 rfl ?_
    refine G_iload_n dJ0_getBytes_840e7_15 rfl ?_
    refine G_ishl dJ0_getBytes_840e7_16 ?_
    rw [shl0]
    refine G_aload_n dJ0_getBytes_840e7_17 rfl ?_
    refine G_sval dJ0_getBytes_840e7_18 hi rfl ?_
    refine G_slen dJ0_getBytes_840e7_21 hi ?_
    have e1 : M.2.set (T.length + 1) (v, .inl (E.2.2.1 1, cap, .inl (va_cpy (fun k => (hSb2 i).getD k 0) f 0 L.length (hSb2 i).length))) = sbX E T a v n cap (va_cpy (fun k => (hSb2 i).getD k 0) f 0 L.length (hSb2 i).length) := by
      rw [hM]
      exact sbX_s1
    refine G_copyS (i := i) (dp := L.length) hX hi (sbX_at1 hM) dJ0_getBytes_840e7_22 (hqx 744 (by decide +kernel) rfl) rfl rfl rfl hl2 (by omega) (Nat.le_of_ble_eq_true rfl) (Nat.le_of_ble_eq_true rfl) (fun hX2 => ?_)
    have hX3 : xOk E (sbX E T a v n cap (va_cpy (fun k => (hSb2 i).getD k 0) f 0 L.length (hSb2 i).length)) := e1 ▸ hX2
    refine G_st (M' := M.x (sbX E T a v n cap (va_cpy (fun k => (hSb2 i).getD k 0) f 0 L.length (hSb2 i).length))) rfl rfl (by rw [← e1]) ?_
    refine G_goto (tgt := 43) dJ0_getBytes_840e7_25 (by decide) ?_
    refine G_vret dJ0_getBytes_840e7_43 rfl (Nat.le_of_ble_eq_true rfl) (Nat.le_of_ble_eq_true rfl) ?_
    refine h _ hX3 ⟨hl, r2, fit_cpy (fun k hk => ?_) r3, fun k hk => ?_⟩
    · rw [Nat.zero_add]
      exact sb2_fit i hi k hk
    · by_cases q : k < L.length
      · rw [pk_cpy_out (Or.inl q), r4 k q, gD_l q]
      · rw [List.length_append] at hk
        rw [pk_cpy_in (by omega) (by omega), gD_r (by omega), Nat.zero_add]
theorem c_putStringAt (hX : xOk E M.2) (hM : M.2 = sbX E T a v n cap f) (hR : sbR L cap f) (hi : i < 16) (hl : (L ++ hSb2 i).length ≤ cap) (h : ∀ f', xOk E (sbX E T a v n cap f') → sbR (L ++ hSb2 i) cap f' → P (.inl none) (M.x (sbX E T a v n cap f'))) : Sp E yJ5_putStringAt_47b60 cJ5_putStringAt_47b60 zJ5_putStringAt_47b60 [.ref a, .int (nI L.length), .ref (sK E i)] M P := by
  refine Sp_of (own := RJ5) (by decide) rfl rfl (Nat.le_of_ble_eq_true rfl) (fun C => ?_)
  refine G_aload_n dJ5_putStringAt_47b60_0 rfl ?_
  refine G_aload_n dJ5_putStringAt_47b60_1 rfl ?_
  refine G_callVO (n := 1) (Cn := RJ4) (T := TJ4) (N := 4) (x := yJ5_inflateIfNeededFor_a7421) (b0 := cJ5_inflateIfNeededFor_a7421) (m0 := zJ5_inflateIfNeededFor_a7421.1) (r0 := zJ5_inflateIfNeededFor_a7421.2.1) (y := yJ5_inflateIfNeededFor_a7421) (b' := cJ5_inflateIfNeededFor_a7421) (z' := zJ5_inflateIfNeededFor_a7421) (as := [.ref (sK E i)]) (rest := []) (cs' := 0) (ss' := 0) hX (sbX_at0 hM) dJ5_putStringAt_47b60_2 (hqx 717 (by decide +kernel) rfl) (hqx 1445 (by decide +kernel) rfl) (hqx 719 (by decide +kernel) rfl) (hqs 3 rfl rfl) (hqx 719 (by decide +kernel) rfl) (hqx 19 (by decide +kernel) rfl) (hqx 720 (by decide +kernel) rfl) (hqx 720 (by decide +kernel) rfl) rfl ⟨by decide, by decide, by decide +kernel⟩ rfl rfl rfl (Nat.le_of_ble_eq_true rfl) (Nat.le_of_ble_eq_true rfl) (Nat.le_of_ble_eq_true rfl) rfl rfl (Nat.le_of_ble_eq_true rfl) (Nat.le_of_ble_eq_true rfl) ?_
  refine c_inflateIf hX hM hi (hGo_v ?_)
  refine G_aload_n dJ5_putStringAt_47b60_5 rfl ?_
  refine G_aload_n dJ5_putStringAt_47b60_6 rfl ?_
  refine G_sbget (t := 0) hX hM dJ5_putStringAt_47b60_7 (hqx 746 (by decide +kernel) rfl) (by decide) rfl ?_
  refine G_iload_n dJ5_putStringAt_47b60_10 rfl ?_
  refine G_aload_n dJ5_putStringAt_47b60_11 rfl ?_
  refine G_sbget (t := 1) hX hM dJ5_putStringAt_47b60_12 (hqx 747 (by decide +kernel) rfl) (by decide) rfl ?_
  refine G_callVK (n := 3) (i := i) (y := yJ0_getBytes_840e7) (b' := cJ0_getBytes_840e7) (z' := zJ0_getBytes_840e7) (as := [.ref v, .int (nI L.length), .int 0]) (rest := []) (cs' := 0) (ss' := 0) dJ5_putStringAt_47b60_15 ⟨⟨(hqx 740 (by decide +kernel) rfl), (hqx 21 (by decide +kernel) rfl), (hqx 743 (by decide +kernel) rfl), rfl, by decide, by decide, by decide +kernel⟩, (hqx 741 (by decide +kernel) rfl), (hqx 742 (by decide +kernel) rfl)⟩ hi rfl rfl rfl (Nat.le_of_ble_eq_true rfl) (Nat.le_of_ble_eq_true rfl) (Nat.le_of_ble_eq_true rfl) rfl rfl (Nat.le_of_ble_eq_true rfl) (Nat.le_of_ble_eq_true rfl) rfl ?_
  refine c_getBytes hX hM hR hi hl (fun f' hX1 hR1 => hGo_v ?_)
  refine G_vret dJ5_putStringAt_47b60_18 rfl (Nat.le_of_ble_eq_true rfl) (Nat.le_of_ble_eq_true rfl) ?_
  exact h f' hX1 hR1
theorem c_append5S (hX : xOk E M.2) (hM : M.2 = sbX E T a v L.length cap f) (hR : sbR L cap f) (hi : i < 16) (hl : (L ++ hSb2 i).length ≤ 200) (h : ∀ v' cap' f', xOk E (sbX E T a v' (L ++ hSb2 i).length cap' f') → sbR (L ++ hSb2 i) cap' f' → P (.inl (some (.ref a))) (M.x (sbX E T a v' (L ++ hSb2 i).length cap' f'))) : Sp E yJ5_append_cf1ce cJ5_append_cf1ce zJ5_append_cf1ce [.ref a, .ref (sK E i)] M P := by
  have e1 : nI L.length + nI (hSb2 i).length = nI (L ++ hSb2 i).length := by
    rw [nI_add, List.length_append]
  refine Sp_of (own := RJ5) (by decide) rfl rfl (Nat.le_of_ble_eq_true rfl) (fun C => ?_)
  refine G_aload_n dJ5_append_cf1ce_0 rfl ?_
  refine G_ifnonnull (tgt := 9) dJ5_append_cf1ce_1 (by decide) ?_
  refine G_aload_n dJ5_append_cf1ce_9 rfl ?_
  refine G_callVK (n := 0) (i := i) (y := yJ0_length_8abf5) (b' := cJ0_length_8abf5) (z' := zJ0_length_8abf5) (as := []) (rest := []) (cs' := 0) (ss' := 0) dJ5_append_cf1ce_10 ⟨⟨(hqx 634 (by decide +kernel) rfl), (hqx 21 (by decide +kernel) rfl), (hqx 372 (by decide +kernel) rfl), rfl, by decide, by decide, by decide +kernel⟩, (hqx 370 (by decide +kernel) rfl), (hqx 371 (by decide +kernel) rfl)⟩ hi rfl rfl rfl (Nat.le_of_ble_eq_true rfl) (Nat.le_of_ble_eq_true rfl) (Nat.le_of_ble_eq_true rfl) rfl rfl (Nat.le_of_ble_eq_true rfl) (Nat.le_of_ble_eq_true rfl) rfl ?_
  refine s_J0_length hi (hGo_i ?_)
  refine G_istore_n dJ5_append_cf1ce_13 (Nat.le_of_ble_eq_true rfl) ?_
  refine G_aload_n dJ5_append_cf1ce_14 rfl ?_
  refine G_aload_n dJ5_append_cf1ce_15 rfl ?_
  refine G_sbget (t := 3) hX hM dJ5_append_cf1ce_16 (hqx 749 (by decide +kernel) rfl) (by decide) rfl ?_
  refine G_iload_n dJ5_append_cf1ce_19 rfl ?_
  refine G_iadd dJ5_append_cf1ce_20 ?_
  rw [e1]
  refine G_callVO (n := 1) (Cn := RJ4) (T := TJ4) (N := 4) (x := yJ5_ensureCapacityInternal_d00df) (b0 := cJ5_ensureCapacityInternal_d00df) (m0 := zJ5_ensureCapacityInternal_d00df.1) (r0 := zJ5_ensureCapacityInternal_d00df.2.1) (y := yJ5_ensureCapacityInternal_d00df) (b' := cJ5_ensureCapacityInternal_d00df) (z' := zJ5_ensureCapacityInternal_d00df) (as := [.int (nI (L ++ hSb2 i).length)]) (rest := []) (cs' := 1) (ss' := 1200) hX (sbX_at0 hM) dJ5_append_cf1ce_21 (hqx 662 (by decide +kernel) rfl) (hqx 1442 (by decide +kernel) rfl) (hqx 664 (by decide +kernel) rfl) (hqs 0 rfl rfl) (hqx 664 (by decide +kernel) rfl) (hqx 19 (by decide +kernel) rfl) (hqx 665 (by decide +kernel) rfl) (hqx 665 (by decide +kernel) rfl) rfl ⟨by decide, by decide, by decide +kernel⟩ rfl rfl rfl (Nat.le_of_ble_eq_true rfl) (Nat.le_of_ble_eq_true rfl) (Nat.le_of_ble_eq_true rfl) rfl rfl (Nat.le_of_ble_eq_true rfl) (Nat.le_of_ble_eq_true rfl) ?_
  refine c_ensure hX hM hR hl (fun v1 cap1 f1 hX1 hq1 hR1 => hGo_v ?_)
  refine G_aload_n dJ5_append_cf1ce_24 rfl ?_
  refine G_aload_n dJ5_append_cf1ce_25 rfl ?_
  refine G_sbget (t := 3) hX1 rfl dJ5_append_cf1ce_26 (hqx 749 (by decide +kernel) rfl) (by decide) rfl ?_
  refine G_aload_n dJ5_append_cf1ce_29 rfl ?_
  refine G_callVO (n := 2) (Cn := RJ4) (T := TJ4) (N := 4) (x := yJ5_putStringAt_47b60) (b0 := cJ5_putStringAt_47b60) (m0 := zJ5_putStringAt_47b60.1) (r0 := zJ5_putStringAt_47b60.2.1) (y := yJ5_putStringAt_47b60) (b' := cJ5_putStringAt_47b60) (z' := zJ5_putStringAt_47b60) (as := [.int (nI L.length), .ref (sK E i)]) (rest := []) (cs' := 1) (ss' := 1200) hX1 (sbX_at0 (M := M.x (sbX E T a v1 L.length cap1 f1)) rfl) dJ5_append_cf1ce_30 (hqx 713 (by decide +kernel) rfl) (hqx 1444 (by decide +kernel) rfl) (hqx 715 (by decide +kernel) rfl) (hqs 2 rfl rfl) (hqx 715 (by decide +kernel) rfl) (hqx 19 (by decide +kernel) rfl) (hqx 716 (by decide +kernel) rfl) (hqx 716 (by decide +kernel) rfl) rfl ⟨by decide, by decide, by decide +kernel⟩ rfl rfl rfl (Nat.le_of_ble_eq_true rfl) (Nat.le_of_ble_eq_true rfl) (Nat.le_of_ble_eq_true rfl) rfl rfl (Nat.le_of_ble_eq_true rfl) (Nat.le_of_ble_eq_true rfl) ?_
  refine c_putStringAt (M := M.x (sbX E T a v1 L.length cap1 f1)) hX1 rfl hR1 hi hq1 (fun f2 hX2 hR2 => hGo_v ?_)
  refine G_aload_n dJ5_append_cf1ce_33 rfl ?_
  refine G_dup dJ5_append_cf1ce_34 rfl ?_
  refine G_sbget (t := 3) hX2 rfl dJ5_append_cf1ce_35 (hqx 749 (by decide +kernel) rfl) (by decide) rfl ?_
  refine G_iload_n dJ5_append_cf1ce_38 rfl ?_
  refine G_iadd dJ5_append_cf1ce_39 ?_
  rw [e1]
  refine G_sbcnt hX2 rfl dJ5_append_cf1ce_40 (hqx 749 (by decide +kernel) rfl) rfl (fun hX3 => ?_)
  refine G_aload_n dJ5_append_cf1ce_43 rfl ?_
  refine G_aret dJ5_append_cf1ce_44 rfl (Nat.le_of_ble_eq_true rfl) (Nat.le_of_ble_eq_true rfl) ?_
  exact h v1 cap1 f2 hX3 hR2
theorem c_append4S (hX : xOk E M.2) (hM : M.2 = sbX E T a v L.length cap f) (hR : sbR L cap f) (hi : i < 16) (hl : (L ++ hSb2 i).length ≤ 200) (h : ∀ v' cap' f', xOk E (sbX E T a v' (L ++ hSb2 i).length cap' f') → sbR (L ++ hSb2 i) cap' f' → P (.inl (some (.ref a))) (M.x (sbX E T a v' (L ++ hSb2 i).length cap' f'))) : Sp E yJ4_append_15ec4 cJ4_append_15ec4 zJ4_append_15ec4 [.ref a, .ref (sK E i)] M P := by
  refine Sp_of (own := RJ4) (by decide) rfl rfl (Nat.le_of_ble_eq_true rfl) (fun C => ?_)
  refine G_aload_n dJ4_append_15ec4_0 rfl ?_
  refine G_aload_n dJ4_append_15ec4_1 rfl ?_
  refine G_callSU (n := 1) (Cn := RJ4) (T := TJ4) (N := 4) (y := yJ5_append_cf1ce) (b' := cJ5_append_cf1ce) (z' := zJ5_append_cf1ce) (as := [.ref (sK E i)]) (rest := []) (cs' := 1) (ss' := 1200) hX (sbX_at0 hM) dJ4_append_15ec4_2 (hqx 655 (by decide +kernel) rfl) (hqx 647 (by decide +kernel) rfl) (hqx 656 (by decide +kernel) rfl) (hqx 646 (by decide +kernel) rfl) (hqx 19 (by decide +kernel) rfl) (hqx 657 (by decide +kernel) rfl) rfl ⟨by decide, by decide +kernel⟩ rfl rfl rfl (Nat.le_of_ble_eq_true rfl) (Nat.le_of_ble_eq_true rfl) (Nat.le_of_ble_eq_true rfl) rfl rfl (Nat.le_of_ble_eq_true rfl) (Nat.le_of_ble_eq_true rfl) ?_
  refine c_append5S hX hM hR hi hl (fun v1 cap1 f1 hX1 hR1 => hGo_a ?_)
  refine G_pop dJ4_append_15ec4_5 rfl ?_
  refine G_aload_n dJ4_append_15ec4_6 rfl ?_
  refine G_aret dJ4_append_15ec4_7 rfl (Nat.le_of_ble_eq_true rfl) (Nat.le_of_ble_eq_true rfl) ?_
  exact h v1 cap1 f1 hX1 hR1
theorem c_append4B (hX : xOk E M.2) (hM : M.2 = sbX E T a v L.length cap f) (hR : sbR L cap f) (hi : i < 16) (hl : (L ++ hSb2 i).length ≤ 200) (h : ∀ v' cap' f', xOk E (sbX E T a v' (L ++ hSb2 i).length cap' f') → sbR (L ++ hSb2 i) cap' f' → P (.inl (some (.ref a))) (M.x (sbX E T a v' (L ++ hSb2 i).length cap' f'))) : Sp E yJ4_append_cf1ce cJ4_append_cf1ce zJ4_append_cf1ce [.ref a, .ref (sK E i)] M P := by
  refine Sp_of (own := RJ4) (by decide) rfl rfl (Nat.le_of_ble_eq_true rfl) (fun C => ?_)
  refine G_aload_n dJ4_append_cf1ce_0 rfl ?_
  refine G_aload_n dJ4_append_cf1ce_1 rfl ?_
  refine G_callVX (n := 1) (T := TJ4) (N := 4) (y := yJ4_append_15ec4) (b' := cJ4_append_15ec4) (z' := zJ4_append_15ec4) (as := [.ref (sK E i)]) (rest := []) (cs' := 1) (ss' := 1200) hX (sbX_at0 hM) dJ4_append_cf1ce_2 ⟨⟨(hqx 651 (by decide +kernel) rfl), (hqx 20 (by decide +kernel) rfl), (hqx 654 (by decide +kernel) rfl), rfl, by decide, by decide, by decide +kernel⟩, (hqx 652 (by decide +kernel) rfl), (hqx 653 (by decide +kernel) rfl)⟩ rfl rfl rfl (Nat.le_of_ble_eq_true rfl) (Nat.le_of_ble_eq_true rfl) (Nat.le_of_ble_eq_true rfl) rfl rfl (Nat.le_of_ble_eq_true rfl) (Nat.le_of_ble_eq_true rfl) rfl ?_
  refine c_append4S hX hM hR hi hl (fun v1 cap1 f1 hX1 hR1 => hGo_a ?_)
  refine G_aret dJ4_append_cf1ce_5 rfl (Nat.le_of_ble_eq_true rfl) (Nat.le_of_ble_eq_true rfl) ?_
  exact h v1 cap1 f1 hX1 hR1
-- a letter
theorem c_canEncode {k : Nat} (hk : k < 128) (h : P (.inl (some (.int 1))) M) : Sp E yJ1_canEncode_fc78d cJ1_canEncode_fc78d zJ1_canEncode_fc78d [.int (nI k)] M P := by
  refine Sp_of (own := RJ1) (by decide) rfl rfl (Nat.le_of_ble_eq_true rfl) (fun C => ?_)
  refine G_iload_n dJ1_canEncode_fc78d_0 rfl ?_
  refine G_sipush (v := 255) dJ1_canEncode_fc78d_1 (by decide) ?_
  refine G_icmp_gt (tgt := 11) dJ1_canEncode_fc78d_4 (by decide) (fun c4 => ?_) (fun c4 => ?_)
  · exact absurd c4 (show ¬ nI 255 < nI k from nI_nlt (by omega) (by decide))
  · refine G_iconst (v := 1) dJ1_canEncode_fc78d_7 (by decide) ?_
    refine G_goto (tgt := 12) dJ1_canEncode_fc78d_8 (by decide) ?_
    refine G_iret dJ1_canEncode_fc78d_12 rfl rfl (Nat.le_of_ble_eq_true rfl) (Nat.le_of_ble_eq_true rfl) ?_
    exact h
theorem let_b : ∀ k, k < 128 → vp_nar .byte (nI k).toInt8.toInt32 = nI k ∧ fits .byte (.int (nI k)) = true := by decide +kernel
theorem let_b2 : ∀ k, k < 128 → vp_nar .byte (nI k) = nI k := by decide +kernel
/-- one letter laid behind -/
theorem sbR_put {k : Nat} (hR : sbR L cap f) (hk : k < 128) (hl : L.length < cap) : sbR (L ++ [nI k]) cap (upd f L.length (nI k)) := by
  obtain ⟨r1, r2, r3, r4⟩ := hR
  refine ⟨by rw [List.length_append]; exact hl, r2, fit_upd r3 (let_b k hk).2, fun j hj => ?_⟩
  rw [List.length_append] at hj
  have hj2 : j < L.length + 1 := hj
  unfold upd
  by_cases q : j = L.length
  · subst q
    rw [if_pos rfl, gD_r (Nat.le_refl _), Nat.sub_self]
    rfl
  · rw [if_neg q, r4 j (by omega), gD_l (by omega)]
theorem c_append5C {k : Nat} (hX : xOk E M.2) (hM : M.2 = sbX E T a v L.length cap f) (hR : sbR L cap f) (hk : k < 128) (hl : L.length < 200) (h : ∀ v' cap' f', xOk E (sbX E T a v' (L ++ [nI k]).length cap' f') → sbR (L ++ [nI k]) cap' f' → P (.inl (some (.ref a))) (M.x (sbX E T a v' (L ++ [nI k]).length cap' f'))) : Sp E yJ5_append_3fe6f cJ5_append_3fe6f zJ5_append_3fe6f [.ref a, .int (nI k)] M P := by
  have e1 : nI L.length + 1 = nI (L ++ [nI k]).length := by
    rw [nI_1, List.length_append]
    rfl
  have e2 : (L ++ [nI k]).length = L.length + 1 := List.length_append
  refine Sp_of (own := RJ5) (by decide) rfl rfl (Nat.le_of_ble_eq_true rfl) (fun C => ?_)
  refine G_aload_n dJ5_append_3fe6f_0 rfl ?_
  refine G_aload_n dJ5_append_3fe6f_1 rfl ?_
  refine G_sbget (t := 3) hX hM dJ5_append_3fe6f_2 (hqx 749 (by decide +kernel) rfl) (by decide) rfl ?_
  refine G_iconst (v := 1) dJ5_append_3fe6f_5 (by decide) ?_
  refine G_iadd dJ5_append_3fe6f_6 ?_
  rw [e1]
  refine G_callVO (n := 1) (Cn := RJ4) (T := TJ4) (N := 4) (x := yJ5_ensureCapacityInternal_d00df) (b0 := cJ5_ensureCapacityInternal_d00df) (m0 := zJ5_ensureCapacityInternal_d00df.1) (r0 := zJ5_ensureCapacityInternal_d00df.2.1) (y := yJ5_ensureCapacityInternal_d00df) (b' := cJ5_ensureCapacityInternal_d00df) (z' := zJ5_ensureCapacityInternal_d00df) (as := [.int (nI (L ++ [nI k]).length)]) (rest := []) (cs' := 1) (ss' := 1200) hX (sbX_at0 hM) dJ5_append_3fe6f_7 (hqx 662 (by decide +kernel) rfl) (hqx 1442 (by decide +kernel) rfl) (hqx 664 (by decide +kernel) rfl) (hqs 0 rfl rfl) (hqx 664 (by decide +kernel) rfl) (hqx 19 (by decide +kernel) rfl) (hqx 665 (by decide +kernel) rfl) (hqx 665 (by decide +kernel) rfl) rfl ⟨by decide, by decide, by decide +kernel⟩ rfl rfl rfl (Nat.le_of_ble_eq_true rfl) (Nat.le_of_ble_eq_true rfl) (Nat.le_of_ble_eq_true rfl) rfl rfl (Nat.le_of_ble_eq_true rfl) (Nat.le_of_ble_eq_true rfl) ?_
  refine c_ensure hX hM hR (by omega) (fun v1 cap1 f1 hX1 hq1 hR1 => hGo_v ?_)
  have hM1 : (M.x (sbX E T a v1 L.length cap1 f1)).2 = sbX E T a v1 L.length cap1 f1 := rfl
  have hc1 := hR1.2.1
  refine G_aload_n dJ5_append_3fe6f_10 rfl ?_
  refine G_callVO (n := 0) (Cn := RJ4) (T := TJ4) (N := 4) (x := yJ5_isLatin1_aae02) (b0 := cJ5_isLatin1_aae02) (m0 := zJ5_isLatin1_aae02.1) (r0 := zJ5_isLatin1_aae02.2.1) (y := yJ5_isLatin1_aae02) (b' := cJ5_isLatin1_aae02) (z' := zJ5_isLatin1_aae02) (as := []) (rest := []) (cs' := 1) (ss' := 1200) hX1 (sbX_at0 hM1) dJ5_append_3fe6f_11 (hqx 692 (by decide +kernel) rfl) (hqx 694 (by decide +kernel) rfl) (hqx 693 (by decide +kernel) rfl) (hqx 695 (by decide +kernel) rfl) (hqx 693 (by decide +kernel) rfl) (hqx 19 (by decide +kernel) rfl) (hqx 696 (by decide +kernel) rfl) (hqx 696 (by decide +kernel) rfl) rfl ⟨by decide, by decide, by decide +kernel⟩ rfl rfl rfl (Nat.le_of_ble_eq_true rfl) (Nat.le_of_ble_eq_true rfl) (Nat.le_of_ble_eq_true rfl) rfl rfl (Nat.le_of_ble_eq_true rfl) (Nat.le_of_ble_eq_true rfl) ?_
  refine c_isLatin1 hX1 hM1 (hGo_i ?_)
  refine G_if_eq (tgt := 45) dJ5_append_3fe6f_14 (by decide) (fun c14 => ?_) (fun c14 => ?_)
  · exact absurd c14 (by decide)
  · refine G_iload_n dJ5_append_3fe6f_17 rfl ?_
    refine G_callS2 (n := 1) (y := yJ1_canEncode_fc78d) (b' := cJ1_canEncode_fc78d) (z' := zJ1_canEncode_fc78d) (as := [.int (nI k)]) (rest := []) (cs' := 1) (ss' := 1200) dJ5_append_3fe6f_18 ⟨⟨(hqx 798 (by decide +kernel) rfl), (hqx 26 (by decide +kernel) rfl), (hqx 800 (by decide +kernel) rfl), rfl, by decide, by decide, by decide +kernel⟩, (hqx 799 (by decide +kernel) rfl)⟩ rfl rfl (Nat.le_of_ble_eq_true rfl) (Nat.le_of_ble_eq_true rfl) (Nat.le_of_ble_eq_true rfl) rfl rfl (Nat.le_of_ble_eq_true rfl) (Nat.le_of_ble_eq_true rfl) rfl ?_
    refine c_canEncode hk (hGo_i ?_)
    refine G_if_eq (tgt := 45) dJ5_append_3fe6f_21 (by decide) (fun c21 => ?_) (fun c21 => ?_)
    · exact absurd c21 (by decide)
    · refine G_aload_n dJ5_append_3fe6f_24 rfl ?_
      refine G_sbget (t := 0) hX1 hM1 dJ5_append_3fe6f_25 (hqx 746 (by decide +kernel) rfl) (by decide) rfl ?_
      refine G_aload_n dJ5_append_3fe6f_28 rfl ?_
      refine G_dup dJ5_append_3fe6f_29 rfl ?_
      refine G_sbget (t := 3) hX1 hM1 dJ5_append_3fe6f_30 (hqx 749 (by decide +kernel) rfl) (by decide) rfl ?_
      refine G_dup_x1 dJ5_append_3fe6f_33 rfl rfl ?_
      refine G_iconst (v := 1) dJ5_append_3fe6f_34 (by decide) ?_
      refine G_iadd dJ5_append_3fe6f_35 ?_
      rw [e1]
      refine G_sbcnt hX1 hM1 dJ5_append_3fe6f_36 (hqx 749 (by decide +kernel) rfl) rfl (fun hX2 => ?_)
      refine G_iload_n dJ5_append_3fe6f_39 rfl ?_
      refine G_i2b dJ5_append_3fe6f_40 ?_
      refine G_sbast (y' := nI k) hX2 rfl dJ5_append_3fe6f_41 rfl (by omega) (by omega) (let_b k hk).1 (fun hX3 => ?_)
      refine G_goto (tgt := 75) dJ5_append_3fe6f_42 (by decide) ?_
      refine G_aload_n dJ5_append_3fe6f_75 rfl ?_
      refine G_aret dJ5_append_3fe6f_76 rfl (Nat.le_of_ble_eq_true rfl) (Nat.le_of_ble_eq_true rfl) ?_
      exact h v1 cap1 _ hX3 (sbR_put hR1 hk (by omega))
theorem c_append4C {k : Nat} (hX : xOk E M.2) (hM : M.2 = sbX E T a v L.length cap f) (hR : sbR L cap f) (hk : k < 128) (hl : L.length < 200) (h : ∀ v' cap' f', xOk E (sbX E T a v' (L ++ [nI k]).length cap' f') → sbR (L ++ [nI k]) cap' f' → P (.inl (some (.ref a))) (M.x (sbX E T a v' (L ++ [nI k]).length cap' f'))) : Sp E yJ4_append_cf468 cJ4_append_cf468 zJ4_append_cf468 [.ref a, .int (nI k)] M P := by
  refine Sp_of (own := RJ4) (by decide) rfl rfl (Nat.le_of_ble_eq_true rfl) (fun C => ?_)
  refine G_aload_n dJ4_append_cf468_0 rfl ?_
  refine G_iload_n dJ4_append_cf468_1 rfl ?_
  refine G_callSU (n := 1) (Cn := RJ4) (T := TJ4) (N := 4) (y := yJ5_append_3fe6f) (b' := cJ5_append_3fe6f) (z' := zJ5_append_3fe6f) (as := [.int (nI k)]) (rest := []) (cs' := 1) (ss' := 1200) hX (sbX_at0 hM) dJ4_append_cf468_2 (hqx 795 (by decide +kernel) rfl) (hqx 1448 (by decide +kernel) rfl) (hqx 656 (by decide +kernel) rfl) (hqx 796 (by decide +kernel) rfl) (hqx 19 (by decide +kernel) rfl) (hqx 797 (by decide +kernel) rfl) rfl ⟨by decide, by decide +kernel⟩ rfl rfl rfl (Nat.le_of_ble_eq_true rfl) (Nat.le_of_ble_eq_true rfl) (Nat.le_of_ble_eq_true rfl) rfl rfl (Nat.le_of_ble_eq_true rfl) (Nat.le_of_ble_eq_true rfl) ?_
  refine c_append5C hX hM hR hk hl (fun v1 cap1 f1 hX1 hR1 => hGo_a ?_)
  refine G_pop dJ4_append_cf468_5 rfl ?_
  refine G_aload_n dJ4_append_cf468_6 rfl ?_
  refine G_aret dJ4_append_cf468_7 rfl (Nat.le_of_ble_eq_true rfl) (Nat.le_of_ble_eq_true rfl) ?_
  exact h v1 cap1 f1 hX1 hR1
end JAPP
