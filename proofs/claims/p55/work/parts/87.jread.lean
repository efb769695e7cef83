/-! ===== a made String read ===== -/
section JREAD
variable {E : Ed} {M : Mm} {P : Res → Mm → Prop} {T : va_W} {n k s w : Nat} {f : Nat → Int32} {L : List Int32}
theorem stX_at0 (h : M.2 = stX E T s w n f) : M.2[T.length + 0]? = some (s, .inr (10, [.ref w, .int 0, .int 0, .int 0])) := by
  rw [h]
  exact app_at
theorem stX_at1 (h : M.2 = stX E T s w n f) : M.2[T.length + 1]? = some (w, .inl (E.2.2.1 1, n, .inl f)) := by
  rw [h]
  exact app_at
theorem x_coder (hX : xOk E M.2) (hM : M.2 = stX E T s w n f) (h : P (.inl (some (.int 0))) M) : Sp E yJ0_coder_7d493 cJ0_coder_7d493 zJ0_coder_7d493 [.ref s] M P := by
  refine Sp_of (own := RJ0) (by decide) rfl rfl (Nat.le_of_ble_eq_true rfl) (fun C => ?_)
  refine G_gcs dJ0_coder_7d493_0 (hqx 377 (by decide +kernel) rfl) ?_
  refine G_if_eq (tgt := 13) dJ0_coder_7d493_3 (by decide) (fun c3 => ?_) (fun c3 => ?_)
  · exact absurd c3 (by decide)
  · refine G_aload_n dJ0_coder_7d493_6 rfl ?_
    refine G_xget (T := TJ0) (t := 1) (N := 4) hX (stX_at0 hM) dJ0_coder_7d493_7 (hqx 855 (by decide +kernel) rfl) inJ0 rfl (by decide) rfl rfl ?_
    refine G_goto (tgt := 14) dJ0_coder_7d493_10 (by decide) ?_
    refine G_iret dJ0_coder_7d493_14 rfl rfl (Nat.le_of_ble_eq_true rfl) (Nat.le_of_ble_eq_true rfl) ?_
    exact h
theorem x_isLatin1 (hX : xOk E M.2) (hM : M.2 = stX E T s w n f) (h : P (.inl (some (.int 1))) M) : Sp E yJ0_isLatin1_aae02 cJ0_isLatin1_aae02 zJ0_isLatin1_aae02 [.ref s] M P := by
  refine Sp_of (own := RJ0) (by decide) rfl rfl (Nat.le_of_ble_eq_true rfl) (fun C => ?_)
  refine G_gcs dJ0_isLatin1_aae02_0 (hqx 377 (by decide +kernel) rfl) ?_
  refine G_if_eq (tgt := 17) dJ0_isLatin1_aae02_3 (by decide) (fun c3 => ?_) (fun c3 => ?_)
  · exact absurd c3 (by decide)
  · refine G_aload_n dJ0_isLatin1_aae02_6 rfl ?_
    refine G_xget (T := TJ0) (t := 1) (N := 4) hX (stX_at0 hM) dJ0_isLatin1_aae02_7 (hqx 855 (by decide +kernel) rfl) inJ0 rfl (by decide) rfl rfl ?_
    refine G_if_ne (tgt := 17) dJ0_isLatin1_aae02_10 (by decide) (fun c10 => ?_) (fun c10 => ?_)
    · exact absurd rfl c10
    · refine G_iconst (v := 1) dJ0_isLatin1_aae02_13 (by decide) ?_
      refine G_goto (tgt := 18) dJ0_isLatin1_aae02_14 (by decide) ?_
      refine G_iret dJ0_isLatin1_aae02_18 rfl rfl (Nat.le_of_ble_eq_true rfl) (Nat.le_of_ble_eq_true rfl) ?_
      exact h
theorem x_length (hX : xOk E M.2) (hM : M.2 = stX E T s w n f) (h : P (.inl (some (.int (nI n)))) M) : Sp E yJ0_length_8abf5 cJ0_length_8abf5 zJ0_length_8abf5 [.ref s] M P := by
  refine Sp_of (own := RJ0) (by decide) rfl rfl (Nat.le_of_ble_eq_true rfl) (fun C => ?_)
  refine G_aload_n dJ0_length_8abf5_0 rfl ?_
  refine G_xget (T := TJ0) (t := 0) (N := 4) hX (stX_at0 hM) dJ0_length_8abf5_1 (hqx 854 (by decide +kernel) rfl) inJ0 rfl (by decide) rfl rfl ?_
  refine G_xalen (t := 1) (ty := .byte) (v := nI n) hX (stX_at1 hM) dJ0_length_8abf5_4 rfl rfl ?_
  refine G_aload_n dJ0_length_8abf5_5 rfl ?_
  refine G_callVX (n := 0) (T := TJ0) (N := 4) (y := yJ0_coder_7d493) (b' := cJ0_coder_7d493) (z' := zJ0_coder_7d493) (as := []) (rest := [.int (nI n)]) (cs' := 0) (ss' := 0) hX (stX_at0 hM) dJ0_length_8abf5_6 ⟨⟨(hqx 373 (by decide +kernel) rfl), (hqx 21 (by decide +kernel) rfl), (hqx 376 (by decide +kernel) rfl), rfl, by decide, by decide, by decide +kernel⟩, (hqx 374 (by decide +kernel) rfl), (hqx 375 (by decide +kernel) rfl)⟩ rfl rfl rfl (Nat.le_of_ble_eq_true rfl) (Nat.le_of_ble_eq_true rfl) (Nat.le_of_ble_eq_true rfl) rfl rfl (Nat.le_of_ble_eq_true rfl) (Nat.le_of_ble_eq_true rfl) rfl ?_
  refine x_coder hX hM (hGo_i ?_)
  refine G_ishr dJ0_length_8abf5_9 ?_
  rw [shr0]
  refine G_iret dJ0_length_8abf5_10 rfl rfl (Nat.le_of_ble_eq_true rfl) (Nat.le_of_ble_eq_true rfl) ?_
  exact h
theorem let_c : ∀ c, c < 128 → ((nI c &&& 255).toUInt32 % 65536).toInt32 = nI c ∧ narrow .char (.int (nI c)) = .int (nI c) := by decide +kernel
theorem x_charAt1 {c : Nat} (hX : xOk E M.2) (hM : M.2 = stX E T s w n f) (hk : k < n) (hn : n < 2 ^ 31) (hc : c < 128) (hf : f k = nI c) (h : P (.inl (some (.int (nI c)))) M) : Sp E yJ1_charAt_3b067 cJ1_charAt_3b067 zJ1_charAt_3b067 [.ref w, .int (nI k)] M P := by
  refine Sp_of (own := RJ1) (by decide) rfl rfl (Nat.le_of_ble_eq_true rfl) (fun C => ?_)
  refine G_iload_n dJ1_charAt_3b067_0 rfl ?_
  refine G_aload_n dJ1_charAt_3b067_1 rfl ?_
  refine G_xalen (t := 1) (ty := .byte) (v := nI n) hX (stX_at1 hM) dJ1_charAt_3b067_2 rfl rfl ?_
  refine G_callS2 (n := 2) (y := yJ0_checkIndex_df160) (b' := cJ0_checkIndex_df160) (z' := zJ0_checkIndex_df160) (as := [.int (nI k), .int (nI n)]) (rest := []) (cs' := 0) (ss' := 0) dJ1_charAt_3b067_3 ⟨⟨(hqx 390 (by decide +kernel) rfl), (hqx 21 (by decide +kernel) rfl), (hqx 392 (by decide +kernel) rfl), rfl, by decide, by decide, by decide +kernel⟩, (hqx 391 (by decide +kernel) rfl)⟩ rfl rfl (Nat.le_of_ble_eq_true rfl) (Nat.le_of_ble_eq_true rfl) (Nat.le_of_ble_eq_true rfl) rfl rfl (Nat.le_of_ble_eq_true rfl) (Nat.le_of_ble_eq_true rfl) rfl ?_
  refine s_J0_checkIndex hk hn (hGo_v ?_)
  refine G_aload_n dJ1_charAt_3b067_6 rfl ?_
  refine G_iload_n dJ1_charAt_3b067_7 rfl ?_
  refine G_xbald hX (stX_at1 hM) dJ1_charAt_3b067_8 rfl hk hn ?_
  rw [hf]
  refine G_sipush (v := 255) dJ1_charAt_3b067_9 (by decide) ?_
  refine G_iand dJ1_charAt_3b067_12 ?_
  refine G_i2c dJ1_charAt_3b067_13 ?_
  rw [(let_c c hc).1]
  refine G_iret dJ1_charAt_3b067_14 rfl (let_c c hc).2 (Nat.le_of_ble_eq_true rfl) (Nat.le_of_ble_eq_true rfl) ?_
  exact h
theorem x_charAt {c : Nat} (hX : xOk E M.2) (hM : M.2 = stX E T s w n f) (hk : k < n) (hn : n < 2 ^ 31) (hc : c < 128) (hf : f k = nI c) (h : P (.inl (some (.int (nI c)))) M) : Sp E yJ0_charAt_5068e cJ0_charAt_5068e zJ0_charAt_5068e [.ref s, .int (nI k)] M P := by
  refine Sp_of (own := RJ0) (by decide) rfl rfl (Nat.le_of_ble_eq_true rfl) (fun C => ?_)
  refine G_aload_n dJ0_charAt_5068e_0 rfl ?_
  refine G_callVX (n := 0) (T := TJ0) (N := 4) (y := yJ0_isLatin1_aae02) (b' := cJ0_isLatin1_aae02) (z' := zJ0_isLatin1_aae02) (as := []) (rest := []) (cs' := 0) (ss' := 0) hX (stX_at0 hM) dJ0_charAt_5068e_1 ⟨⟨(hqx 383 (by decide +kernel) rfl), (hqx 21 (by decide +kernel) rfl), (hqx 386 (by decide +kernel) rfl), rfl, by decide, by decide, by decide +kernel⟩, (hqx 384 (by decide +kernel) rfl), (hqx 385 (by decide +kernel) rfl)⟩ rfl rfl rfl (Nat.le_of_ble_eq_true rfl) (Nat.le_of_ble_eq_true rfl) (Nat.le_of_ble_eq_true rfl) rfl rfl (Nat.le_of_ble_eq_true rfl) (Nat.le_of_ble_eq_true rfl) rfl ?_
  refine x_isLatin1 hX hM (hGo_i ?_)
  refine G_if_eq (tgt := 16) dJ0_charAt_5068e_4 (by decide) (fun c4 => ?_) (fun c4 => ?_)
  · exact absurd c4 (by decide)
  · refine G_aload_n dJ0_charAt_5068e_7 rfl ?_
    refine G_xget (T := TJ0) (t := 0) (N := 4) hX (stX_at0 hM) dJ0_charAt_5068e_8 (hqx 854 (by decide +kernel) rfl) inJ0 rfl (by decide) rfl rfl ?_
    refine G_iload_n dJ0_charAt_5068e_11 rfl ?_
    refine G_callS2 (n := 2) (y := yJ1_charAt_3b067) (b' := cJ1_charAt_3b067) (z' := zJ1_charAt_3b067) (as := [.ref w, .int (nI k)]) (rest := []) (cs' := 0) (ss' := 0) dJ0_charAt_5068e_12 ⟨⟨(hqx 387 (by decide +kernel) rfl), (hqx 26 (by decide +kernel) rfl), (hqx 389 (by decide +kernel) rfl), rfl, by decide, by decide, by decide +kernel⟩, (hqx 388 (by decide +kernel) rfl)⟩ rfl rfl (Nat.le_of_ble_eq_true rfl) (Nat.le_of_ble_eq_true rfl) (Nat.le_of_ble_eq_true rfl) rfl rfl (Nat.le_of_ble_eq_true rfl) (Nat.le_of_ble_eq_true rfl) rfl ?_
    refine x_charAt1 hX hM hk hn hc hf (hGo_i ?_)
    refine G_iret dJ0_charAt_5068e_15 rfl (let_c c hc).2 (Nat.le_of_ble_eq_true rfl) (Nat.le_of_ble_eq_true rfl) ?_
    exact h
end JREAD
