/-! ===== HomeworkBarter$Text ===== -/
section CTXT
variable {E : Ed} {M : Mm} {P : Res → Mm → Prop} {j : Nat} {L : List Int32}
def tR (j : Nat) : Nat := if j = 0 then 500 else 256
def Txt (M : Mm) (j : Nat) (L : List Int32) : Prop := M.1 2 j 0 1 = nI L.length ∧ L.length ≤ tR j ∧ ∀ k, k < L.length → M.1 3 j 0 k &&& 255 = L.getD k 0
def dX (j : Nat) : Nat → Nat → Nat → Prop := fun k j' _ => (k = 2 ∨ k = 3) ∧ j' = j
theorem tR_lt : tR j < 501 := by
  unfold tR
  split <;> decide
theorem Txt.keep {M' : Mm} (h : Txt M j L) (e : ∀ k, k = 2 ∨ k = 3 → ∀ t, M'.1 k j 0 t = M.1 k j 0 t) : Txt M' j L := ⟨(e 2 (Or.inl rfl) 1).trans h.1, h.2.1, fun k hk => by rw [e 3 (Or.inr rfl) k]; exact h.2.2 k hk⟩
theorem nar255 (x : Int32) : vp_nar .byte x.toInt8.toInt32 &&& 255 = x &&& 255 := by
  show (x.toInt8.toInt32.toInt8.toInt32 : Int32) &&& 255 = x &&& 255
  rw [Int8.toInt8_toInt32]
  apply Int32.toBitVec_inj.mp
  rw [Int32.toBitVec_and, Int32.toBitVec_and]
  show (BitVec.signExtend 32 (BitVec.signExtend 8 x.toBitVec)) &&& 255#32 = x.toBitVec &&& 255#32
  apply BitVec.eq_of_getLsbD_eq
  intro i hi
  rw [BitVec.getLsbD_and, BitVec.getLsbD_and, BitVec.getLsbD_signExtend]
  by_cases h8 : i < 8
  · rw [if_pos h8, BitVec.getLsbD_signExtend, if_pos (by omega)]
    simp [hi, h8]
  · have : (255#32).getLsbD i = false := by
      rcases (show i = 8 ∨ i = 9 ∨ i = 10 ∨ i = 11 ∨ i = 12 ∨ i = 13 ∨ i = 14 ∨ i = 15 ∨ i = 16 ∨ i = 17 ∨ i = 18 ∨ i = 19 ∨ i = 20 ∨ i = 21 ∨ i = 22 ∨ i = 23 ∨ i = 24 ∨ i = 25 ∨ i = 26 ∨ i = 27 ∨ i = 28 ∨ i = 29 ∨ i = 30 ∨ i = 31 by omega) with h | h | h | h | h | h | h | h | h | h | h | h | h | h | h | h | h | h | h | h | h | h | h | h <;> subst h <;> decide
    rw [this, Bool.and_false, Bool.and_false]
theorem s_X5_append {x : Int32} (hj : j < 2) (hT : Txt M j L) (hr : L.length < tR j) (h : ∀ M', Txt M' j (L ++ [x &&& 255]) → Fr (dX j) M M' → P (.inl none) M') : Sp E yX5_append cX5_append zX5_append [.ref (ad E 2 j 0), .int x] M P := by
  have h5 := tR_lt (j := j)
  obtain ⟨t1, t2, t3⟩ := id hT
  refine Sp_of (own := RX5) (by decide) rfl rfl (Nat.le_of_ble_eq_true rfl) (fun C => ?_)
  refine G_aload_n dX5_append_0 rfl ?_
  refine gf_X5_15 dX5_append_1 hj ?_
  refine G_aload_n dX5_append_4 rfl ?_
  refine gf_X5_9 dX5_append_5 hj ?_
  refine G_alen (t := 1) (ty := .byte) (k := 3) (j := j) (p := 0) (x := ((if j = 0 then 500 else 256), .inl (M.1 3 j 0))) dX5_append_8 ⟨hj, rfl⟩ rfl rfl rfl ?_
  refine G_icmp_lt (tgt := 13) dX5_append_9 (by decide) (fun c9 => ?_) (fun c9 => ?_)
  · rw [t1] at c9
    refine G_aload_n dX5_append_13 rfl ?_
    refine gf_X5_9 dX5_append_14 hj ?_
    refine G_aload_n dX5_append_17 rfl ?_
    refine gf_X5_15 dX5_append_18 hj ?_
    rw [t1]
    refine G_iload_n dX5_append_21 rfl ?_
    refine G_i2b dX5_append_22 ?_
    refine G_bast (n := (if j = 0 then 500 else 256)) (a := L.length) dX5_append_23 ⟨hj, rfl⟩ (fun _ => rfl) rfl hr (Nat.lt_trans h5 (by decide)) ?_
    refine G_aload_n dX5_append_24 rfl ?_
    refine G_dup dX5_append_25 rfl ?_
    refine gf_X5_15 dX5_append_26 hj ?_
    rw [up_nk (k' := 2) (by decide), t1]
    refine G_iconst (v := 1) dX5_append_29 (by decide) ?_
    refine G_iadd dX5_append_30 ?_
    refine pf_X5_15 dX5_append_31 hj ?_
    refine G_vret dX5_append_34 rfl (Nat.le_of_ble_eq_true rfl) (Nat.le_of_ble_eq_true rfl) ?_
    refine h _ ⟨?_, by rw [List.length_append]; exact hr, fun k hk => ?_⟩ ((Fr.rfl.up ⟨Or.inr rfl, rfl⟩).up ⟨Or.inl rfl, rfl⟩)
    · rw [up_at, nI_1, List.length_append]; rfl
    · rw [up_nk (k' := 3) (by decide)]
      rw [List.length_append] at hk
      by_cases hk2 : k = L.length
      · subst hk2
        rw [up_at, nar255]
        simp
      · rw [up_t hk2, t3 k (by have : k < L.length + 1 := hk; omega)]
        have : k < L.length := by have : k < L.length + 1 := hk; omega
        simp [List.getD_eq_getElem?_getD, List.getElem?_append_left this]
  · rw [t1] at c9
    exact absurd (nI_lt hr (Nat.lt_trans h5 (by decide))) c9
theorem s_X5_cut {n : Nat} (hj : j < 2) (hT : Txt M j L) (hn : n ≤ L.length) (h : ∀ M', Txt M' j (L.take n) → Fr (dX j) M M' → P (.inl none) M') : Sp E yX5_cut cX5_cut zX5_cut [.ref (ad E 2 j 0), .int (nI n)] M P := by
  have h5 := tR_lt (j := j)
  obtain ⟨t1, t2, t3⟩ := id hT
  refine Sp_of (own := RX5) (by decide) rfl rfl (Nat.le_of_ble_eq_true rfl) (fun C => ?_)
  refine G_iload_n dX5_cut_0 rfl ?_
  refine G_if_lt (tgt := 17) dX5_cut_1 (by decide) (fun c1 => ?_) (fun c1 => ?_)
  · exact absurd c1 (nI_pos (by omega))
  · refine G_iload_n dX5_cut_4 rfl ?_
    refine G_aload_n dX5_cut_5 rfl ?_
    refine gf_X5_15 dX5_cut_6 hj ?_
    refine G_icmp_ge (tgt := 17) dX5_cut_9 (by decide) (fun c9 => ?_) (fun c9 => ?_)
    · rw [t1] at c9
      refine G_vret dX5_cut_17 rfl (Nat.le_of_ble_eq_true rfl) (Nat.le_of_ble_eq_true rfl) ?_
      have e : n = L.length := by
        have : ¬ n < L.length := fun q => absurd c9 (nI_ge q (by omega))
        omega
      subst e
      rw [List.take_length] at h
      exact h M hT Fr.rfl
    · refine G_aload_n dX5_cut_12 rfl ?_
      refine G_iload_n dX5_cut_13 rfl ?_
      refine pf_X5_15 dX5_cut_14 hj ?_
      refine G_vret dX5_cut_17 rfl (Nat.le_of_ble_eq_true rfl) (Nat.le_of_ble_eq_true rfl) ?_
      refine h _ ⟨by rw [up_at, List.length_take, Nat.min_eq_left hn], by rw [List.length_take]; omega, fun k hk => ?_⟩ (Fr.rfl.up ⟨Or.inl rfl, rfl⟩)
      rw [List.length_take] at hk
      rw [up_nk (k' := 3) (by decide), t3 k (by omega)]
      simp [List.getD_eq_getElem?_getD, List.getElem?_take, show k < n by omega]
theorem s_X5_at {x : Int32} (hj : j < 2) (hT : Txt M j L) (h : P (.inl (some (.int (atL L x)))) M) : Sp E yX5_at cX5_at zX5_at [.ref (ad E 2 j 0), .int x] M P := by
  have h5 := tR_lt (j := j)
  obtain ⟨t1, t2, t3⟩ := id hT
  unfold atL at h
  refine Sp_of (own := RX5) (by decide) rfl rfl (Nat.le_of_ble_eq_true rfl) (fun C => ?_)
  refine G_iload_n dX5_at_0 rfl ?_
  refine G_if_lt (tgt := 25) dX5_at_1 (by decide) (fun c1 => ?_) (fun c1 => ?_)
  · rw [if_pos (Or.inl c1)] at h
    refine G_iconst (v := (-1)) dX5_at_25 (by decide) ?_
    refine G_iret dX5_at_26 rfl rfl (Nat.le_of_ble_eq_true rfl) (Nat.le_of_ble_eq_true rfl) ?_
    exact h
  · refine G_iload_n dX5_at_4 rfl ?_
    refine G_aload_n dX5_at_5 rfl ?_
    refine gf_X5_15 dX5_at_6 hj ?_
    refine G_icmp_ge (tgt := 25) dX5_at_9 (by decide) (fun c9 => ?_) (fun c9 => ?_)
    · rw [t1] at c9
      rw [if_pos (Or.inr c9)] at h
      refine G_iconst (v := (-1)) dX5_at_25 (by decide) ?_
      refine G_iret dX5_at_26 rfl rfl (Nat.le_of_ble_eq_true rfl) (Nat.le_of_ble_eq_true rfl) ?_
      exact h
    · rw [t1] at c9
      rw [if_neg (fun q => q.elim c1 c9)] at h
      obtain ⟨a, ha, rfl⟩ := nI_of c1
      have hal : a < L.length := by
        by_cases q : a < L.length
        · exact q
        · exact absurd (nI_le (by omega) ha) c9
      rw [nI_clamp ha, ← t3 a hal] at h
      refine G_aload_n dX5_at_12 rfl ?_
      refine gf_X5_9 dX5_at_13 hj ?_
      refine G_iload_n dX5_at_16 rfl ?_
      refine G_bald (n := (if j = 0 then 500 else 256)) (a := a) dX5_at_17 ⟨hj, rfl⟩ rfl rfl (Nat.lt_of_lt_of_le hal t2) (Nat.lt_trans h5 (by decide)) ?_
      refine G_sipush (v := 255) dX5_at_18 (by decide) ?_
      refine G_iand dX5_at_21 ?_
      refine G_goto (tgt := 26) dX5_at_22 (by decide) ?_
      refine G_iret dX5_at_26 rfl rfl (Nat.le_of_ble_eq_true rfl) (Nat.le_of_ble_eq_true rfl) ?_
      exact h
end CTXT
