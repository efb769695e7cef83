/-! ===== HomeworkBarter$Satchel ===== -/
section CSAT
variable {E : Ed} {M : Mm} {P : Res → Mm → Prop} {j q : Nat} {L : List Int32}
theorem s_X2_hasRoomFor {x : Int32} (hj : j < 10) (hq : q < 24) (hs : Sat M j q L) (h : P (.inl (some (.int (if x ≤ 20 - nI L.length then 1 else 0)))) M) : Sp E yX2_hasRoomFor cX2_hasRoomFor zX2_hasRoomFor [.ref (ad E 13 j q), .int x] M P := by
  refine Sp_of (own := RX2) (by decide) rfl rfl (Nat.le_of_ble_eq_true rfl) (fun C => ?_)
  refine G_iload_n dX2_hasRoomFor_0 rfl ?_
  refine G_bipush (v := 20) dX2_hasRoomFor_1 (by decide) ?_
  refine G_aload_n dX2_hasRoomFor_3 rfl ?_
  refine gf_X2_21 dX2_hasRoomFor_4 hj hq ?_
  refine G_isub dX2_hasRoomFor_7 ?_
  refine G_icmp_gt (tgt := 15) dX2_hasRoomFor_8 (by decide) (fun c8 => ?_) (fun c8 => ?_)
  · refine G_iconst (v := 0) dX2_hasRoomFor_15 (by decide) ?_
    refine G_iret dX2_hasRoomFor_16 rfl rfl (Nat.le_of_ble_eq_true rfl) (Nat.le_of_ble_eq_true rfl) ?_
    rw [hs.1] at c8
    rw [if_neg (fun h => by rw [Int32.lt_iff_toInt_lt] at c8; rw [Int32.le_iff_toInt_le] at h; omega)] at h
    exact h
  · refine G_iconst (v := 1) dX2_hasRoomFor_11 (by decide) ?_
    refine G_goto (tgt := 16) dX2_hasRoomFor_12 (by decide) ?_
    refine G_iret dX2_hasRoomFor_16 rfl rfl (Nat.le_of_ble_eq_true rfl) (Nat.le_of_ble_eq_true rfl) ?_
    rw [hs.1] at c8
    rw [if_pos (by rw [Int32.lt_iff_toInt_lt] at c8; rw [Int32.le_iff_toInt_le]; omega)] at h
    exact h
theorem s_X2_makerAt {x : Int32} (hj : j < 10) (hq : q < 24) (hs : Sat M j q L) (h : P (.inl (some (.int (atL L x)))) M) : Sp E yX2_makerAt cX2_makerAt zX2_makerAt [.ref (ad E 13 j q), .int x] M P := by
  refine Sp_of (own := RX2) (by decide) rfl rfl (Nat.le_of_ble_eq_true rfl) (fun C => ?_)
  have h20 := hs.2.1
  refine G_iload_n dX2_makerAt_0 rfl ?_
  refine G_if_lt (tgt := 21) dX2_makerAt_1 (by decide) (fun c1 => ?_) (fun c1 => ?_)
  · refine G_iconst (v := (-1)) dX2_makerAt_21 (by decide) ?_
    refine G_iret dX2_makerAt_22 rfl rfl (Nat.le_of_ble_eq_true rfl) (Nat.le_of_ble_eq_true rfl) ?_
    unfold atL at h
    rw [if_pos (Or.inl c1)] at h
    exact h
  · refine G_iload_n dX2_makerAt_4 rfl ?_
    refine G_aload_n dX2_makerAt_5 rfl ?_
    refine gf_X2_21 dX2_makerAt_6 hj hq ?_
    refine G_icmp_ge (tgt := 21) dX2_makerAt_9 (by decide) (fun c9 => ?_) (fun c9 => ?_)
    · refine G_iconst (v := (-1)) dX2_makerAt_21 (by decide) ?_
      refine G_iret dX2_makerAt_22 rfl rfl (Nat.le_of_ble_eq_true rfl) (Nat.le_of_ble_eq_true rfl) ?_
      rw [hs.1] at c9
      unfold atL at h
      rw [if_pos (Or.inr c9)] at h
      exact h
    · rw [hs.1] at c9
      obtain ⟨a, ha, rfl⟩ : ∃ a, a < L.length ∧ x = nI a := (pk_ix x (show L.length < 2 ^ 31 by omega)).elim (fun q => absurd q c1) (fun q => q.elim (fun q => absurd q c9) id)
      refine G_aload_n dX2_makerAt_12 rfl ?_
      refine gf_X2_9 dX2_makerAt_13 hj hq ?_
      refine G_iload_n dX2_makerAt_16 rfl ?_
      refine G_iald dX2_makerAt_17 ⟨hj, hq⟩ rfl rfl (show a < 20 by omega) (by decide) ?_
      refine G_goto (tgt := 22) dX2_makerAt_18 (by decide) ?_
      refine G_iret dX2_makerAt_22 rfl rfl (Nat.le_of_ble_eq_true rfl) (Nat.le_of_ble_eq_true rfl) ?_
      rw [hs.2.2 a ha]
      rw [atL_in ha (by omega)] at h
      exact h
theorem s_X2_piecesBy {m : Int32} (hj : j < 10) (hq : q < 24) (hs : Sat M j q L) (h : P (.inl (some (.int (sm L.length (fun k => if L.getD k 0 = m then 1 else 0))))) M) : Sp E yX2_piecesBy cX2_piecesBy zX2_piecesBy [.ref (ad E 13 j q), .int m] M P := by
  refine Sp_of (own := RX2) (by decide) rfl rfl (Nat.le_of_ble_eq_true rfl) (fun C => ?_)
  have h20 := hs.2.1
  refine G_iconst (v := 0) dX2_piecesBy_0 (by decide) ?_
  refine G_istore_n dX2_piecesBy_1 (Nat.le_of_ble_eq_true rfl) ?_
  refine G_iconst (v := 0) dX2_piecesBy_2 (by decide) ?_
  refine G_istore_n dX2_piecesBy_3 (Nat.le_of_ble_eq_true rfl) ?_
  refine G_lv (lv' := [(0, .ref (ad E 13 j q)), (1, .int m), (2, .int (sm 0 (fun k => if L.getD k 0 = m then 1 else 0))), (3, .int (nI 0))]) ⟨rfl, rfl, rfl, rfl, trivial⟩ ?_
  refine up0 (c := L.length) (H := fun i => G E C RX2 cX2_piecesBy zX2_piecesBy P 0 0 M 4 [(0, .ref (ad E 13 j q)), (1, .int m), (2, .int (sm i (fun k => if L.getD k 0 = m then 1 else 0))), (3, .int (nI i))] []) ?_ (fun i hi ih => ?_)
  · refine G_iload_n dX2_piecesBy_4 rfl ?_
    refine G_aload_n dX2_piecesBy_5 rfl ?_
    refine gf_X2_21 dX2_piecesBy_6 hj hq ?_
    refine G_icmp_ge (tgt := 31) dX2_piecesBy_9 (by decide) (fun c9 => ?_) (fun c9 => ?_)
    · refine G_iload_n dX2_piecesBy_31 rfl ?_
      refine G_iret dX2_piecesBy_32 rfl rfl (Nat.le_of_ble_eq_true rfl) (Nat.le_of_ble_eq_true rfl) ?_
      exact h
    · rw [hs.1] at c9
      exact absurd (Int32.le_refl _) c9
  · refine G_iload_n dX2_piecesBy_4 rfl ?_
    refine G_aload_n dX2_piecesBy_5 rfl ?_
    refine gf_X2_21 dX2_piecesBy_6 hj hq ?_
    refine G_icmp_ge (tgt := 31) dX2_piecesBy_9 (by decide) (fun c9 => ?_) (fun c9 => ?_)
    · rw [hs.1] at c9
      exact absurd c9 (nI_ge hi (by omega))
    · refine G_aload_n dX2_piecesBy_12 rfl ?_
      refine gf_X2_9 dX2_piecesBy_13 hj hq ?_
      refine G_iload_n dX2_piecesBy_16 rfl ?_
      refine G_iald dX2_piecesBy_17 ⟨hj, hq⟩ rfl rfl (show i < 20 by omega) (by decide) ?_
      refine G_iload_n dX2_piecesBy_18 rfl ?_
      refine G_icmp_ne (tgt := 25) dX2_piecesBy_19 (by decide) (fun c19 => ?_) (fun c19 => ?_)
      · refine G_iinc (v := 1) dX2_piecesBy_25 rfl (Nat.le_of_ble_eq_true rfl) (by decide) ?_
        refine G_goto (tgt := 4) dX2_piecesBy_28 (by decide) ?_
        rw [hs.2.2 i hi] at c19
        refine G_lv ⟨rfl, rfl, ?_, ?_, trivial⟩ ih
        · show some (Value.int (sm i _)) = some (Value.int (sm i _ + (if L.getD i 0 = m then 1 else 0)))
          rw [if_neg c19]
          simp
        · exact congrArg (fun v => some (Value.int v)) (nI_1 i)
      · refine G_iinc (v := 1) dX2_piecesBy_22 rfl (Nat.le_of_ble_eq_true rfl) (by decide) ?_
        refine G_iinc (v := 1) dX2_piecesBy_25 rfl (Nat.le_of_ble_eq_true rfl) (by decide) ?_
        refine G_goto (tgt := 4) dX2_piecesBy_28 (by decide) ?_
        rw [hs.2.2 i hi] at c19
        refine G_lv ⟨rfl, rfl, ?_, ?_, trivial⟩ ih
        · show some (Value.int (sm i _ + 1)) = some (Value.int (sm i _ + (if L.getD i 0 = m then 1 else 0)))
          rw [if_pos c19]
        · exact congrArg (fun v => some (Value.int v)) (nI_1 i)
end CSAT
