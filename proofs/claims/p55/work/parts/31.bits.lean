/-! ===== Integer.bitCount; the rest of HomeworkBarter$Satchel ===== -/
section CBITS
variable {E : Ed} {M : Mm} {P : Res → Mm → Prop} {j q : Nat} {L : List Int32}
theorem s_J6_bitCount {x : Int32} (h : P (.inl (some (.int (bc x)))) M) : Sp E yJ6_bitCount_0f7a4 cJ6_bitCount_0f7a4 zJ6_bitCount_0f7a4 [.int x] M P := by
  refine Sp_of (own := RJ6) (by decide) rfl rfl (Nat.le_of_ble_eq_true rfl) (fun C => ?_)
  refine G_iload_n dJ6_bitCount_0f7a4_0 rfl ?_
  refine G_iload_n dJ6_bitCount_0f7a4_1 rfl ?_
  refine G_iconst (v := 1) dJ6_bitCount_0f7a4_2 (by decide) ?_
  refine G_iushr dJ6_bitCount_0f7a4_3 ?_
  refine G_ldcw (v := 1431655765) dJ6_bitCount_0f7a4_4 (hqx 983 (by decide +kernel) rfl) ?_
  refine G_iand dJ6_bitCount_0f7a4_7 ?_
  refine G_isub dJ6_bitCount_0f7a4_8 ?_
  refine G_istore_n dJ6_bitCount_0f7a4_9 (Nat.le_of_ble_eq_true rfl) ?_
  refine G_iload_n dJ6_bitCount_0f7a4_10 rfl ?_
  refine G_ldcw (v := 858993459) dJ6_bitCount_0f7a4_11 (hqx 984 (by decide +kernel) rfl) ?_
  refine G_iand dJ6_bitCount_0f7a4_14 ?_
  refine G_iload_n dJ6_bitCount_0f7a4_15 rfl ?_
  refine G_iconst (v := 2) dJ6_bitCount_0f7a4_16 (by decide) ?_
  refine G_iushr dJ6_bitCount_0f7a4_17 ?_
  refine G_ldcw (v := 858993459) dJ6_bitCount_0f7a4_18 (hqx 984 (by decide +kernel) rfl) ?_
  refine G_iand dJ6_bitCount_0f7a4_21 ?_
  refine G_iadd dJ6_bitCount_0f7a4_22 ?_
  refine G_istore_n dJ6_bitCount_0f7a4_23 (Nat.le_of_ble_eq_true rfl) ?_
  refine G_iload_n dJ6_bitCount_0f7a4_24 rfl ?_
  refine G_iload_n dJ6_bitCount_0f7a4_25 rfl ?_
  refine G_iconst (v := 4) dJ6_bitCount_0f7a4_26 (by decide) ?_
  refine G_iushr dJ6_bitCount_0f7a4_27 ?_
  refine G_iadd dJ6_bitCount_0f7a4_28 ?_
  refine G_ldcw (v := 252645135) dJ6_bitCount_0f7a4_29 (hqx 985 (by decide +kernel) rfl) ?_
  refine G_iand dJ6_bitCount_0f7a4_32 ?_
  refine G_istore_n dJ6_bitCount_0f7a4_33 (Nat.le_of_ble_eq_true rfl) ?_
  refine G_iload_n dJ6_bitCount_0f7a4_34 rfl ?_
  refine G_iload_n dJ6_bitCount_0f7a4_35 rfl ?_
  refine G_bipush (v := 8) dJ6_bitCount_0f7a4_36 (by decide) ?_
  refine G_iushr dJ6_bitCount_0f7a4_38 ?_
  refine G_iadd dJ6_bitCount_0f7a4_39 ?_
  refine G_istore_n dJ6_bitCount_0f7a4_40 (Nat.le_of_ble_eq_true rfl) ?_
  refine G_iload_n dJ6_bitCount_0f7a4_41 rfl ?_
  refine G_iload_n dJ6_bitCount_0f7a4_42 rfl ?_
  refine G_bipush (v := 16) dJ6_bitCount_0f7a4_43 (by decide) ?_
  refine G_iushr dJ6_bitCount_0f7a4_45 ?_
  refine G_iadd dJ6_bitCount_0f7a4_46 ?_
  refine G_istore_n dJ6_bitCount_0f7a4_47 (Nat.le_of_ble_eq_true rfl) ?_
  refine G_iload_n dJ6_bitCount_0f7a4_48 rfl ?_
  refine G_bipush (v := 63) dJ6_bitCount_0f7a4_49 (by decide) ?_
  refine G_iand dJ6_bitCount_0f7a4_51 ?_
  refine G_iret dJ6_bitCount_0f7a4_52 rfl rfl (Nat.le_of_ble_eq_true rfl) (Nat.le_of_ble_eq_true rfl) ?_
  exact h
theorem cv_bc {C : Cx} {own : String} {b : ByteArray} {z : Zd} {cs ss pc idx : Nat} {lv : List (Nat × Value)} {st : List Value} {x : Int32} (d : decode b pc = .ok (.invokestatic idx, 3)) (hl : Cond.methodLink own idx yJ6_bitCount_0f7a4 ∈ hTB) (hroom : (st.map fun v => v.category).sum ≤ 8) (hfr : 1 ≤ z.2.2.2.1) (hlo : 20 ≤ z.2.2.2.2.1) (hcm : cs ≤ z.2.2.1.1) (hsm : ss ≤ z.2.2.1.2) (hz : z.2.2.2.2.2 = [])
    (g : G E C own b z P cs ss M (pc + 3) lv (.int (bc x) :: st)) : G E C own b z P cs ss M pc lv (.int x :: st) :=
  G_callS2 (as := [.int x]) (rest := st) (y := yJ6_bitCount_0f7a4) (b' := cJ6_bitCount_0f7a4) (z' := zJ6_bitCount_0f7a4) (n := 1) d ⟨⟨hl, hq 17 (by decide +kernel) rfl, hqx 982 (by decide +kernel) rfl, rfl, by decide, by decide, by decide +kernel⟩, hqx 981 (by decide +kernel) rfl⟩ rfl rfl hroom hfr hlo rfl rfl hcm hsm hz (s_J6_bitCount (hGo_i g))
theorem s_X2_differentMakers (hj : j < 10) (hq : q < 24) (hs : Sat M j q L) (h : P (.inl (some (.int (bc (bitsL L (-1) L.length))))) M) : Sp E yX2_differentMakers cX2_differentMakers zX2_differentMakers [.ref (ad E 13 j q)] M P := by
  refine Sp_of (own := RX2) (by decide) rfl rfl (Nat.le_of_ble_eq_true rfl) (fun C => ?_)
  refine G_aload_n dX2_differentMakers_0 rfl ?_
  refine G_aload_n dX2_differentMakers_1 rfl ?_
  refine gf_X2_21 dX2_differentMakers_2 hj hq ?_
  refine G_iconst (v := (-1)) dX2_differentMakers_5 (by decide) ?_
  rw [hs.1]
  refine cv_X2_33 (cs' := 0) (ss' := 0) dX2_differentMakers_6 hj hq (Nat.le_of_ble_eq_true rfl) (Nat.le_of_ble_eq_true rfl) (Nat.le_of_ble_eq_true rfl) rfl rfl (Nat.le_of_ble_eq_true rfl) (Nat.le_of_ble_eq_true rfl) rfl ?_
  refine s_X2_makersButOne hj hq hs (Nat.le_refl _) (hGo_i ?_)
  refine cv_bc dX2_differentMakers_9 (hqx 1016 (by decide +kernel) rfl) (Nat.le_of_ble_eq_true rfl) (Nat.le_of_ble_eq_true rfl) (Nat.le_of_ble_eq_true rfl) (Nat.le_of_ble_eq_true rfl) (Nat.le_of_ble_eq_true rfl) rfl ?_
  refine G_iret dX2_differentMakers_12 rfl rfl (Nat.le_of_ble_eq_true rfl) (Nat.le_of_ble_eq_true rfl) ?_
  exact h
theorem Sat.drop {j q e : Nat} {L : List Int32} (h : Sat M j q L) (he : e ≤ L.length) : Sat ((M.cp 14 j q (va_cpy (M.1 14 j q) (M.1 14 j q) e 0 (L.length - e))).up 13 j q 1 (nI (L.length - e))) j q (L.drop e) := by
  refine ⟨?_, ?_, fun k hk => ?_⟩
  · rw [up_at, List.length_drop]
  · rw [List.length_drop]
    have := h.2.1
    omega
  · rw [up_nk (k' := 14) (by decide)]
    rw [List.length_drop] at hk
    rw [cp_at, pk_cpy_in (Nat.zero_le k) (by omega), h.2.2 _ (by omega)]
    simp [List.getD_eq_getElem?_getD, List.getElem?_drop]
theorem s_X2_dropEldest {e : Nat} (hj : j < 10) (hq : q < 24) (hs : Sat M j q L) (he : e ≤ L.length) (h : ∀ M', Sat M' j q (L.drop e) → Fr (dS j q) M M' → P (.inl none) M') : Sp E yX2_dropEldest cX2_dropEldest zX2_dropEldest [.ref (ad E 13 j q), .int (nI e)] M P := by
  have h20 := hs.2.1
  refine Sp_of (own := RX2) (by decide) rfl rfl (Nat.le_of_ble_eq_true rfl) (fun C => ?_)
  refine G_iload_n dX2_dropEldest_0 rfl ?_
  refine G_if_lt (tgt := 12) dX2_dropEldest_1 (by decide) (fun c1 => ?_) (fun c1 => ?_)
  · exact absurd c1 (nI_pos (by omega))
  · refine G_iload_n dX2_dropEldest_4 rfl ?_
    refine G_aload_n dX2_dropEldest_5 rfl ?_
    refine gf_X2_21 dX2_dropEldest_6 hj hq ?_
    refine G_icmp_le (tgt := 13) dX2_dropEldest_9 (by decide) (fun c9 => ?_) (fun c9 => ?_)
    · refine G_aload_n dX2_dropEldest_13 rfl ?_
      refine gf_X2_9 dX2_dropEldest_14 hj hq ?_
      refine G_iload_n dX2_dropEldest_17 rfl ?_
      refine G_aload_n dX2_dropEldest_18 rfl ?_
      refine gf_X2_9 dX2_dropEldest_19 hj hq ?_
      refine G_iconst (v := 0) dX2_dropEldest_22 (by decide) ?_
      refine G_aload_n dX2_dropEldest_23 rfl ?_
      refine gf_X2_21 dX2_dropEldest_24 hj hq ?_
      refine G_iload_n dX2_dropEldest_27 rfl ?_
      refine G_isub dX2_dropEldest_28 ?_
      rw [hs.1]
      refine G_copyE dX2_dropEldest_29 (hqx 474 (by decide +kernel) rfl) ⟨hj, hq⟩ ⟨hj, hq⟩ rfl (fun _ => rfl) rfl rfl (pk_sub he) (show e + (L.length - e) ≤ 20 by omega) (show 0 + (L.length - e) ≤ 20 by omega) (by decide) (by decide) (Nat.le_of_ble_eq_true rfl) (Nat.le_of_ble_eq_true rfl) ?_
      refine G_aload_n dX2_dropEldest_32 rfl ?_
      refine G_dup dX2_dropEldest_33 rfl ?_
      refine gf_X2_21 dX2_dropEldest_34 hj hq ?_
      refine G_iload_n dX2_dropEldest_37 rfl ?_
      refine G_isub dX2_dropEldest_38 ?_
      rw [cp_nk (k' := 13) (by decide), hs.1, pk_sub he]
      refine pf_X2_21 dX2_dropEldest_39 hj hq ?_
      refine G_vret dX2_dropEldest_42 rfl (Nat.le_of_ble_eq_true rfl) (Nat.le_of_ble_eq_true rfl) ?_
      exact h _ (hs.drop he) ((Fr.rfl.cp ⟨Or.inr rfl, rfl, rfl⟩).up ⟨Or.inl rfl, rfl, rfl⟩)
    · rw [hs.1] at c9
      exact absurd (nI_le he (by omega)) c9
end CBITS
