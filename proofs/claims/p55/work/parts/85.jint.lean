/-! ===== StringBuilder.append of a number below 100 ===== -/
section JINT
variable {E : Ed} {M : Mm} {P : Res → Mm → Prop} {T : va_W} {a v n cap k : Nat} {f : Nat → Int32} {L : List Int32}
def dgs (k : Nat) : List Int32 := if k < 10 then [nI (48 + k)] else [nI (48 + k / 10), nI (48 + k % 10)]
theorem ss_all : ∀ k, k < 100 → (k < 10 → ¬ (-nI k ≤ -10) ∧ -9 ≤ -nI k) ∧ (10 ≤ k → -nI k ≤ -10 ∧ ¬ (-9 ≤ -nI k)) ∧ ¬ (-nI k ≤ 10 * -10) ∧ -100 < -nI k ∧ (dgs k).length ≤ 2 := by decide +kernel
theorem c_stringSize (hk : k < 100) (h : P (.inl (some (.int (nI (dgs k).length)))) M) : Sp E yJ6_stringSize_0f7a4 cJ6_stringSize_0f7a4 zJ6_stringSize_0f7a4 [.int (nI k)] M P := by
  obtain ⟨h1, h2, h3, h4, h5⟩ := ss_all k hk
  refine Sp_of (own := RJ6) (by decide) rfl rfl (Nat.le_of_ble_eq_true rfl) (fun C => ?_)
  refine G_iconst (v := 1) dJ6_stringSize_0f7a4_0 (by decide) ?_
  refine G_istore_n dJ6_stringSize_0f7a4_1 (Nat.le_of_ble_eq_true rfl) ?_
  refine G_iload_n dJ6_stringSize_0f7a4_2 rfl ?_
  refine G_if_lt (tgt := 11) dJ6_stringSize_0f7a4_3 (by decide) (fun c3 => ?_) (fun c3 => ?_)
  · exact absurd c3 (nI_pos (by omega))
  · refine G_iconst (v := 0) dJ6_stringSize_0f7a4_6 (by decide) ?_
    refine G_istore_n dJ6_stringSize_0f7a4_7 (Nat.le_of_ble_eq_true rfl) ?_
    refine G_iload_n dJ6_stringSize_0f7a4_8 rfl ?_
    refine G_ineg dJ6_stringSize_0f7a4_9 ?_
    refine G_istore_n dJ6_stringSize_0f7a4_10 (Nat.le_of_ble_eq_true rfl) ?_
    refine G_bipush (v := (-10)) dJ6_stringSize_0f7a4_11 (by decide) ?_
    refine G_istore_n dJ6_stringSize_0f7a4_13 (Nat.le_of_ble_eq_true rfl) ?_
    refine G_iconst (v := 1) dJ6_stringSize_0f7a4_14 (by decide) ?_
    refine G_istore_n dJ6_stringSize_0f7a4_15 (Nat.le_of_ble_eq_true rfl) ?_
    refine G_iload_n dJ6_stringSize_0f7a4_16 rfl ?_
    refine G_bipush (v := 10) dJ6_stringSize_0f7a4_17 (by decide) ?_
    refine G_icmp_ge (tgt := 42) dJ6_stringSize_0f7a4_19 (by decide) (fun c19 => ?_) (fun c19 => ?_)
    · exact absurd c19 (by decide)
    · refine G_iload_n dJ6_stringSize_0f7a4_22 rfl ?_
      refine G_iload_n dJ6_stringSize_0f7a4_23 rfl ?_
      refine G_icmp_le (tgt := 31) dJ6_stringSize_0f7a4_24 (by decide) (fun c24 => ?_) (fun c24 => ?_)
      · have q : 10 ≤ k := Nat.not_lt.mp (fun z => (h1 z).1 c24)
        refine G_bipush (v := 10) dJ6_stringSize_0f7a4_31 (by decide) ?_
        refine G_iload_n dJ6_stringSize_0f7a4_33 rfl ?_
        refine G_imul dJ6_stringSize_0f7a4_34 ?_
        refine G_istore_n dJ6_stringSize_0f7a4_35 (Nat.le_of_ble_eq_true rfl) ?_
        refine G_iinc (v := 1) dJ6_stringSize_0f7a4_36 rfl (Nat.le_of_ble_eq_true rfl) (by decide) ?_
        refine G_goto (tgt := 16) dJ6_stringSize_0f7a4_39 (by decide) ?_
        refine G_iload_n dJ6_stringSize_0f7a4_16 rfl ?_
        refine G_bipush (v := 10) dJ6_stringSize_0f7a4_17 (by decide) ?_
        refine G_icmp_ge (tgt := 42) dJ6_stringSize_0f7a4_19 (by decide) (fun c19 => ?_) (fun c19 => ?_)
        · exact absurd c19 (by decide)
        · refine G_iload_n dJ6_stringSize_0f7a4_22 rfl ?_
          refine G_iload_n dJ6_stringSize_0f7a4_23 rfl ?_
          refine G_icmp_le (tgt := 31) dJ6_stringSize_0f7a4_24 (by decide) (fun c24 => ?_) (fun c24 => ?_)
          · exact absurd c24 h3
          · refine G_iload_n dJ6_stringSize_0f7a4_27 rfl ?_
            refine G_iload_n dJ6_stringSize_0f7a4_28 rfl ?_
            refine G_iadd dJ6_stringSize_0f7a4_29 ?_
            refine G_iret dJ6_stringSize_0f7a4_30 rfl rfl (Nat.le_of_ble_eq_true rfl) (Nat.le_of_ble_eq_true rfl) ?_
            have e : (1 + 1 + 0 : Int32) = nI (dgs k).length := by
              unfold dgs
              rw [if_neg (by omega)]
              rfl
            rw [e]
            exact h
      · have q : k < 10 := Nat.not_le.mp (fun z => c24 (h2 z).1)
        refine G_iload_n dJ6_stringSize_0f7a4_27 rfl ?_
        refine G_iload_n dJ6_stringSize_0f7a4_28 rfl ?_
        refine G_iadd dJ6_stringSize_0f7a4_29 ?_
        refine G_iret dJ6_stringSize_0f7a4_30 rfl rfl (Nat.le_of_ble_eq_true rfl) (Nat.le_of_ble_eq_true rfl) ?_
        have e : (1 + 0 : Int32) = nI (dgs k).length := by
          unfold dgs
          rw [if_pos q]
          rfl
        rw [e]
        exact h
theorem nI_m1 {e : Nat} (h : 1 ≤ e) : nI e + (-1) = nI (e - 1) := by
  obtain ⟨d, rfl⟩ : ∃ d, e = d + 1 := ⟨e - 1, by omega⟩
  rw [Nat.add_sub_cancel, ← nI_1]
  grind
theorem nn_nI (x : Int32) : - -x = x := by grind
theorem sbR_dgs1 (hR : sbR L cap f) (hk : k < 10) (hl : (L ++ dgs k).length ≤ cap) : sbR (L ++ dgs k) cap (upd f L.length (hDg 0 k)) := by
  have e : dgs k = [nI (48 + k)] := if_pos hk
  rw [e] at hl ⊢
  rw [List.length_append] at hl
  have e2 : hDg 0 k = nI (48 + k) := by
    unfold hDg
    rw [if_pos rfl, Nat.mod_eq_of_lt hk]
  rw [e2]
  exact sbR_put hR (by omega) hl
theorem sbR_dgs2 (hR : sbR L cap f) (hk : 10 ≤ k) (hk2 : k < 100) (hl : (L ++ dgs k).length ≤ cap) : sbR (L ++ dgs k) cap (upd (upd f (L.length + 1) (hDg 0 k)) L.length (hDg 1 k)) := by
  have e : dgs k = [hDg 1 k, hDg 0 k] := if_neg (by omega)
  have f0 : fits .byte (.int (hDg 0 k)) = true := (let_b (48 + k % 10) (by omega)).2
  have f1 : fits .byte (.int (hDg 1 k)) = true := (let_b (48 + k / 10) (by omega)).2
  obtain ⟨r1, r2, r3, r4⟩ := hR
  refine ⟨hl, r2, fit_upd (fit_upd r3 f0) f1, fun j hj => ?_⟩
  rw [e] at hj ⊢
  rw [List.length_append] at hj
  have hj2 : j < L.length + 2 := hj
  unfold upd
  by_cases q : j = L.length
  · subst q
    rw [if_pos rfl, gD_r (Nat.le_refl _), Nat.sub_self]
    rfl
  · rw [if_neg q]
    by_cases q2 : j = L.length + 1
    · subst q2
      rw [if_pos rfl, gD_r (by omega), Nat.add_sub_cancel_left]
      rfl
    · rw [if_neg q2, r4 j (by omega), gD_l (by omega)]
theorem hDg_b {i : Nat} (hi : i < 2) (hk : k < 100) : vp_nar .byte (hDg i k) = hDg i k := by
  rcases (show i = 0 ∨ i = 1 by omega) with rfl | rfl
  · exact let_b2 (48 + k % 10) (by omega)
  · exact let_b2 (48 + k / 10) (by omega)
theorem c_getChars (hX : xOk E M.2) (hM : M.2 = sbX E T a v n cap f) (hR : sbR L cap f) (hk : k < 100) (hl : (L ++ dgs k).length ≤ cap) (h : ∀ f' x, xOk E (sbX E T a v n cap f') → sbR (L ++ dgs k) cap f' → P (.inl (some (.int x))) (M.x (sbX E T a v n cap f'))) : Sp E yJ6_getChars_ba4f3 cJ6_getChars_ba4f3 zJ6_getChars_ba4f3 [.int (nI k), .int (nI (L ++ dgs k).length), .ref v] M P := by
  obtain ⟨h1, h2, h3, h4, h5⟩ := ss_all k hk
  have hc1 := hR.2.1
  have hd : 1 ≤ (L ++ dgs k).length := by
    rw [List.length_append]
    unfold dgs
    split
    · show 1 ≤ L.length + 1
      omega
    · show 1 ≤ L.length + 2
      omega
  refine Sp_of (own := RJ6) (by decide) rfl rfl (Nat.le_of_ble_eq_true rfl) (fun C => ?_)
  refine G_iload_n dJ6_getChars_ba4f3_0 rfl ?_
  refine G_istore dJ6_getChars_ba4f3_1 (Nat.le_of_ble_eq_true rfl) ?_
  refine G_iload_n dJ6_getChars_ba4f3_3 rfl ?_
  refine G_if_ge (tgt := 11) dJ6_getChars_ba4f3_4 (by decide) (fun c4 => ?_) (fun c4 => ?_)
  · refine G_iconst (v := 0) dJ6_getChars_ba4f3_11 (by decide) ?_
    refine G_istore dJ6_getChars_ba4f3_12 (Nat.le_of_ble_eq_true rfl) ?_
    refine G_iload dJ6_getChars_ba4f3_14 rfl ?_
    refine G_if_ne (tgt := 22) dJ6_getChars_ba4f3_16 (by decide) (fun c16 => ?_) (fun c16 => ?_)
    · exact absurd rfl c16
    · refine G_iload_n dJ6_getChars_ba4f3_19 rfl ?_
      refine G_ineg dJ6_getChars_ba4f3_20 ?_
      refine G_istore_n dJ6_getChars_ba4f3_21 (Nat.le_of_ble_eq_true rfl) ?_
      refine G_iload_n dJ6_getChars_ba4f3_22 rfl ?_
      refine G_bipush (v := (-100)) dJ6_getChars_ba4f3_23 (by decide) ?_
      refine G_icmp_gt (tgt := 72) dJ6_getChars_ba4f3_25 (by decide) (fun c25 => ?_) (fun c25 => ?_)
      · refine G_aload_n dJ6_getChars_ba4f3_72 rfl ?_
        refine G_iinc (v := (-1)) dJ6_getChars_ba4f3_73 rfl (Nat.le_of_ble_eq_true rfl) (by decide) ?_
        rw [nI_m1 hd]
        refine G_iload dJ6_getChars_ba4f3_76 rfl ?_
        refine G_gdg 0 (by decide) dJ6_getChars_ba4f3_78 (hqx 779 (by decide +kernel) rfl) ?_
        refine G_iload_n dJ6_getChars_ba4f3_81 rfl ?_
        refine G_ineg dJ6_getChars_ba4f3_82 ?_
        rw [nn_nI]
        refine G_dald 0 (by decide) dJ6_getChars_ba4f3_83 rfl hk ?_
        refine G_sbast hX hM dJ6_getChars_ba4f3_84 rfl (by omega) (by omega) (hDg_b (by decide) hk) (fun hX2 => ?_)
        refine G_iload_n dJ6_getChars_ba4f3_85 rfl ?_
        refine G_bipush (v := (-9)) dJ6_getChars_ba4f3_86 (by decide) ?_
        refine G_icmp_ge (tgt := 104) dJ6_getChars_ba4f3_88 (by decide) (fun c88 => ?_) (fun c88 => ?_)
        · have q : k < 10 := Nat.not_le.mp (fun z => (h2 z).2 c88)
          have e : (L ++ dgs k).length - 1 = L.length := by
            rw [List.length_append]
            unfold dgs
            rw [if_pos q]
            rfl
          rw [e] at hX2 ⊢
          refine G_iload dJ6_getChars_ba4f3_104 rfl ?_
          refine G_if_eq (tgt := 118) dJ6_getChars_ba4f3_106 (by decide) (fun c106 => ?_) (fun c106 => ?_)
          · refine G_iload dJ6_getChars_ba4f3_118 rfl ?_
            refine G_iret dJ6_getChars_ba4f3_120 rfl rfl (Nat.le_of_ble_eq_true rfl) (Nat.le_of_ble_eq_true rfl) ?_
            exact h _ _ hX2 (sbR_dgs1 hR q hl)
          · exact absurd rfl c106
        · have q : 10 ≤ k := Nat.not_lt.mp (fun z => c88 (h1 z).2)
          have e : (L ++ dgs k).length - 1 = L.length + 1 := by
            rw [List.length_append]
            unfold dgs
            rw [if_neg (by omega)]
            rfl
          rw [e] at hX2 ⊢
          refine G_aload_n dJ6_getChars_ba4f3_91 rfl ?_
          refine G_iinc (v := (-1)) dJ6_getChars_ba4f3_92 rfl (Nat.le_of_ble_eq_true rfl) (by decide) ?_
          rw [nI_m1 (by omega), Nat.add_sub_cancel]
          refine G_iload dJ6_getChars_ba4f3_95 rfl ?_
          refine G_gdg 1 (by decide) dJ6_getChars_ba4f3_97 (hqx 781 (by decide +kernel) rfl) ?_
          refine G_iload_n dJ6_getChars_ba4f3_100 rfl ?_
          refine G_ineg dJ6_getChars_ba4f3_101 ?_
          rw [nn_nI]
          refine G_dald 1 (by decide) dJ6_getChars_ba4f3_102 rfl hk ?_
          refine G_sbast (M := M.x (sbX E T a v n cap (upd f (L.length + 1) (hDg 0 k)))) hX2 rfl dJ6_getChars_ba4f3_103 rfl (by omega) (by omega) (hDg_b (by decide) hk) (fun hX3 => ?_)
          refine G_iload dJ6_getChars_ba4f3_104 rfl ?_
          refine G_if_eq (tgt := 118) dJ6_getChars_ba4f3_106 (by decide) (fun c106 => ?_) (fun c106 => ?_)
          · refine G_iload dJ6_getChars_ba4f3_118 rfl ?_
            refine G_iret dJ6_getChars_ba4f3_120 rfl rfl (Nat.le_of_ble_eq_true rfl) (Nat.le_of_ble_eq_true rfl) ?_
            exact h _ _ hX3 (sbR_dgs2 hR q hk hl)
          · exact absurd rfl c106
      · exact absurd h4 c25
  · exact absurd (nI_pos' (by omega)) c4
theorem c_append5I (hX : xOk E M.2) (hM : M.2 = sbX E T a v L.length cap f) (hR : sbR L cap f) (hk : k < 100) (hl : (L ++ dgs k).length ≤ 200) (h : ∀ v' cap' f', xOk E (sbX E T a v' (L ++ dgs k).length cap' f') → sbR (L ++ dgs k) cap' f' → P (.inl (some (.ref a))) (M.x (sbX E T a v' (L ++ dgs k).length cap' f'))) : Sp E yJ5_append_c97b9 cJ5_append_c97b9 zJ5_append_c97b9 [.ref a, .int (nI k)] M P := by
  have e1 : nI L.length + nI (dgs k).length = nI (L ++ dgs k).length := by
    rw [nI_add, List.length_append]
  refine Sp_of (own := RJ5) (by decide) rfl rfl (Nat.le_of_ble_eq_true rfl) (fun C => ?_)
  refine G_aload_n dJ5_append_c97b9_0 rfl ?_
  refine G_sbget (t := 3) hX hM dJ5_append_c97b9_1 (hqx 749 (by decide +kernel) rfl) (by decide) rfl ?_
  refine G_istore_n dJ5_append_c97b9_4 (Nat.le_of_ble_eq_true rfl) ?_
  refine G_iload_n dJ5_append_c97b9_5 rfl ?_
  refine G_iload_n dJ5_append_c97b9_6 rfl ?_
  refine G_callS2 (n := 1) (y := yJ6_stringSize_0f7a4) (b' := cJ6_stringSize_0f7a4) (z' := zJ6_stringSize_0f7a4) (as := [.int (nI k)]) (rest := [.int (nI L.length)]) (cs' := 0) (ss' := 0) dJ5_append_c97b9_7 ⟨⟨(hqx 773 (by decide +kernel) rfl), (hqx 17 (by decide +kernel) rfl), (hqx 775 (by decide +kernel) rfl), rfl, by decide, by decide, by decide +kernel⟩, (hqx 774 (by decide +kernel) rfl)⟩ rfl rfl (Nat.le_of_ble_eq_true rfl) (Nat.le_of_ble_eq_true rfl) (Nat.le_of_ble_eq_true rfl) rfl rfl (Nat.le_of_ble_eq_true rfl) (Nat.le_of_ble_eq_true rfl) rfl ?_
  refine c_stringSize hk (hGo_i ?_)
  refine G_iadd dJ5_append_c97b9_10 ?_
  rw [e1]
  refine G_istore_n dJ5_append_c97b9_11 (Nat.le_of_ble_eq_true rfl) ?_
  refine G_aload_n dJ5_append_c97b9_12 rfl ?_
  refine G_iload_n dJ5_append_c97b9_13 rfl ?_
  refine G_callVO (n := 1) (Cn := RJ4) (T := TJ4) (N := 4) (x := yJ5_ensureCapacityInternal_d00df) (b0 := cJ5_ensureCapacityInternal_d00df) (m0 := zJ5_ensureCapacityInternal_d00df.1) (r0 := zJ5_ensureCapacityInternal_d00df.2.1) (y := yJ5_ensureCapacityInternal_d00df) (b' := cJ5_ensureCapacityInternal_d00df) (z' := zJ5_ensureCapacityInternal_d00df) (as := [.int (nI (L ++ dgs k).length)]) (rest := []) (cs' := 1) (ss' := 1200) hX (sbX_at0 hM) dJ5_append_c97b9_14 (hqx 662 (by decide +kernel) rfl) (hqx 1442 (by decide +kernel) rfl) (hqx 664 (by decide +kernel) rfl) (hqs 0 rfl rfl) (hqx 664 (by decide +kernel) rfl) (hqx 19 (by decide +kernel) rfl) (hqx 665 (by decide +kernel) rfl) (hqx 665 (by decide +kernel) rfl) rfl ⟨by decide, by decide, by decide +kernel⟩ rfl rfl rfl (Nat.le_of_ble_eq_true rfl) (Nat.le_of_ble_eq_true rfl) (Nat.le_of_ble_eq_true rfl) rfl rfl (Nat.le_of_ble_eq_true rfl) (Nat.le_of_ble_eq_true rfl) ?_
  refine c_ensure hX hM hR hl (fun v1 cap1 f1 hX1 hq1 hR1 => hGo_v ?_)
  have hM1 : (M.x (sbX E T a v1 L.length cap1 f1)).2 = sbX E T a v1 L.length cap1 f1 := rfl
  refine G_aload_n dJ5_append_c97b9_17 rfl ?_
  refine G_callVO (n := 0) (Cn := RJ4) (T := TJ4) (N := 4) (x := yJ5_isLatin1_aae02) (b0 := cJ5_isLatin1_aae02) (m0 := zJ5_isLatin1_aae02.1) (r0 := zJ5_isLatin1_aae02.2.1) (y := yJ5_isLatin1_aae02) (b' := cJ5_isLatin1_aae02) (z' := zJ5_isLatin1_aae02) (as := []) (rest := []) (cs' := 1) (ss' := 1200) hX1 (sbX_at0 hM1) dJ5_append_c97b9_18 (hqx 692 (by decide +kernel) rfl) (hqx 694 (by decide +kernel) rfl) (hqx 693 (by decide +kernel) rfl) (hqx 695 (by decide +kernel) rfl) (hqx 693 (by decide +kernel) rfl) (hqx 19 (by decide +kernel) rfl) (hqx 696 (by decide +kernel) rfl) (hqx 696 (by decide +kernel) rfl) rfl ⟨by decide, by decide, by decide +kernel⟩ rfl rfl rfl (Nat.le_of_ble_eq_true rfl) (Nat.le_of_ble_eq_true rfl) (Nat.le_of_ble_eq_true rfl) rfl rfl (Nat.le_of_ble_eq_true rfl) (Nat.le_of_ble_eq_true rfl) ?_
  refine c_isLatin1 hX1 hM1 (hGo_i ?_)
  refine G_if_eq (tgt := 37) dJ5_append_c97b9_21 (by decide) (fun c21 => ?_) (fun c21 => ?_)
  · exact absurd c21 (by decide)
  · refine G_iload_n dJ5_append_c97b9_24 rfl ?_
    refine G_iload_n dJ5_append_c97b9_25 rfl ?_
    refine G_aload_n dJ5_append_c97b9_26 rfl ?_
    refine G_sbget (t := 0) hX1 hM1 dJ5_append_c97b9_27 (hqx 746 (by decide +kernel) rfl) (by decide) rfl ?_
    refine G_callS2 (n := 3) (y := yJ6_getChars_ba4f3) (b' := cJ6_getChars_ba4f3) (z' := zJ6_getChars_ba4f3) (as := [.int (nI k), .int (nI (L ++ dgs k).length), .ref v1]) (rest := []) (cs' := 1) (ss' := 1200) dJ5_append_c97b9_30 ⟨⟨(hqx 776 (by decide +kernel) rfl), (hqx 17 (by decide +kernel) rfl), (hqx 778 (by decide +kernel) rfl), rfl, by decide, by decide, by decide +kernel⟩, (hqx 777 (by decide +kernel) rfl)⟩ rfl rfl (Nat.le_of_ble_eq_true rfl) (Nat.le_of_ble_eq_true rfl) (Nat.le_of_ble_eq_true rfl) rfl rfl (Nat.le_of_ble_eq_true rfl) (Nat.le_of_ble_eq_true rfl) rfl ?_
    refine c_getChars (M := M.x (sbX E T a v1 L.length cap1 f1)) hX1 hM1 hR1 hk hq1 (fun f2 x2 hX2 hR2 => hGo_i ?_)
    refine G_pop dJ5_append_c97b9_33 rfl ?_
    refine G_goto (tgt := 48) dJ5_append_c97b9_34 (by decide) ?_
    refine G_aload_n dJ5_append_c97b9_48 rfl ?_
    refine G_iload_n dJ5_append_c97b9_49 rfl ?_
    refine G_sbcnt hX2 rfl dJ5_append_c97b9_50 (hqx 749 (by decide +kernel) rfl) rfl (fun hX3 => ?_)
    refine G_aload_n dJ5_append_c97b9_53 rfl ?_
    refine G_aret dJ5_append_c97b9_54 rfl (Nat.le_of_ble_eq_true rfl) (Nat.le_of_ble_eq_true rfl) ?_
    exact h v1 cap1 f2 hX3 hR2
theorem c_append4I (hX : xOk E M.2) (hM : M.2 = sbX E T a v L.length cap f) (hR : sbR L cap f) (hk : k < 100) (hl : (L ++ dgs k).length ≤ 200) (h : ∀ v' cap' f', xOk E (sbX E T a v' (L ++ dgs k).length cap' f') → sbR (L ++ dgs k) cap' f' → P (.inl (some (.ref a))) (M.x (sbX E T a v' (L ++ dgs k).length cap' f'))) : Sp E yJ4_append_bf812 cJ4_append_bf812 zJ4_append_bf812 [.ref a, .int (nI k)] M P := by
  refine Sp_of (own := RJ4) (by decide) rfl rfl (Nat.le_of_ble_eq_true rfl) (fun C => ?_)
  refine G_aload_n dJ4_append_bf812_0 rfl ?_
  refine G_iload_n dJ4_append_bf812_1 rfl ?_
  refine G_callSU (n := 1) (Cn := RJ4) (T := TJ4) (N := 4) (y := yJ5_append_c97b9) (b' := cJ5_append_c97b9) (z' := zJ5_append_c97b9) (as := [.int (nI k)]) (rest := []) (cs' := 1) (ss' := 1200) hX (sbX_at0 hM) dJ4_append_bf812_2 (hqx 770 (by decide +kernel) rfl) (hqx 1447 (by decide +kernel) rfl) (hqx 656 (by decide +kernel) rfl) (hqx 771 (by decide +kernel) rfl) (hqx 19 (by decide +kernel) rfl) (hqx 772 (by decide +kernel) rfl) rfl ⟨by decide, by decide +kernel⟩ rfl rfl rfl (Nat.le_of_ble_eq_true rfl) (Nat.le_of_ble_eq_true rfl) (Nat.le_of_ble_eq_true rfl) rfl rfl (Nat.le_of_ble_eq_true rfl) (Nat.le_of_ble_eq_true rfl) ?_
  refine c_append5I hX hM hR hk hl (fun v1 cap1 f1 hX1 hR1 => hGo_a ?_)
  refine G_pop dJ4_append_bf812_5 rfl ?_
  refine G_aload_n dJ4_append_bf812_6 rfl ?_
  refine G_aret dJ4_append_bf812_7 rfl (Nat.le_of_ble_eq_true rfl) (Nat.le_of_ble_eq_true rfl) ?_
  exact h v1 cap1 f1 hX1 hR1
end JINT
