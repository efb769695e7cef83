/-! ===== HomeworkBarter$Satchel ===== -/
section CSAT
variable {E : Ed} {M : Mm} {P : Res → Mm → Prop} {j q : Nat} {L : List Int32}
theorem s_X2_hasRoomFor {x : Int32} (hj : j < 10) (hq : q < 24) (hs : Sat M j q L) (h : P (.inl (some (.int (if x ≤ 20 - nI L.length then 1 else 0)))) M) : Sp E yX2_hasRoomFor cX2_hasRoomFor zX2_hasRoomFor [.ref (ad E 13 j q), .int x] M P := by
  refine Sp_of (own := RX2) (by decide) rfl rfl (Nat.le_of_ble_eq_true rfl) (fun C => ?_)
  refine G_iload_n dX2_hasRoomFor_0 rfl ?_
  refine G_bipush (v := 20) dX2_hasRoomFor_1 (by decide) ?_
  refine G_aload_n dX2_hasRoomFor_3 rfl ?_
  refine gf_X2_21 dX2_hasRoomFor_4 hj hq ?_
  refine G_isub dX2_hasRoomFor_7 ?_
  refine G_icmp_gt (tgt := 15) dX2_hasRoomFor_8 (by decide) (fun c8 => ?_) (fun c8 => ?_)
  · refine G_iconst (v := 0) dX2_hasRoomFor_15 (by decide) ?_
    refine G_iret dX2_hasRoomFor_16 rfl rfl (Nat.le_of_ble_eq_true rfl) (Nat.le_of_ble_eq_true rfl) ?_
    rw [hs.1] at c8
    rw [if_neg (fun h => by rw [Int32.lt_iff_toInt_lt] at c8; rw [Int32.le_iff_toInt_le] at h; omega)] at h
    exact h
  · refine G_iconst (v := 1) dX2_hasRoomFor_11 (by decide) ?_
    refine G_goto (tgt := 16) dX2_hasRoomFor_12 (by decide) ?_
    refine G_iret dX2_hasRoomFor_16 rfl rfl (Nat.le_of_ble_eq_true rfl) (Nat.le_of_ble_eq_true rfl) ?_
    rw [hs.1] at c8
    rw [if_pos (by rw [Int32.lt_iff_toInt_lt] at c8; rw [Int32.le_iff_toInt_le]; omega)] at h
    exact h
theorem s_X2_makerAt {x : Int32} (hj : j < 10) (hq : q < 24) (hs : Sat M j q L) (h : P (.inl (some (.int (atL L x)))) M) : Sp E yX2_makerAt cX2_makerAt zX2_makerAt [.ref (ad E 13 j q), .int x] M P := by
  refine Sp_of (own := RX2) (by decide) rfl rfl (Nat.le_of_ble_eq_true rfl) (fun C => ?_)
  have h20 := hs.2.1
  refine G_iload_n dX2_makerAt_0 rfl ?_
  refine G_if_lt (tgt := 21) dX2_makerAt_1 (by decide) (fun c1 => ?_) (fun c1 => ?_)
  · refine G_iconst (v := (-1)) dX2_makerAt_21 (by decide) ?_
    refine G_iret dX2_makerAt_22 rfl rfl (Nat.le_of_ble_eq_true rfl) (Nat.le_of_ble_eq_true rfl) ?_
    unfold atL at h
    rw [if_pos (Or.inl c1)] at h
    exact h
  · refine G_iload_n dX2_makerAt_4 rfl ?_
    refine G_aload_n dX2_makerAt_5 rfl ?_
    refine gf_X2_21 dX2_makerAt_6 hj hq ?_
    refine G_icmp_ge (tgt := 21) dX2_makerAt_9 (by decide) (fun c9 => ?_) (fun c9 => ?_)
    · refine G_iconst (v := (-1)) dX2_makerAt_21 (by decide) ?_
      refine G_iret dX2_makerAt_22 rfl rfl (Nat.le_of_ble_eq_true rfl) (Nat.le_of_ble_eq_true rfl) ?_
      rw [hs.1] at c9
      unfold atL at h
      rw [if_pos (Or.inr c9)] at h
      exact h
    · rw [hs.1] at c9
      obtain ⟨a, ha, rfl⟩ : ∃ a, a < L.length ∧ x = nI a := (pk_ix x (show L.length < 2 ^ 31 by omega)).elim (fun q => absurd q c1) (fun q => q.elim (fun q => absurd q c9) id)
      refine G_aload_n dX2_makerAt_12 rfl ?_
      refine gf_X2_9 dX2_makerAt_13 hj hq ?_
      refine G_iload_n dX2_makerAt_16 rfl ?_
      refine G_iald dX2_makerAt_17 ⟨hj, hq⟩ rfl rfl (show a < 20 by omega) (by decide) ?_
      refine G_goto (tgt := 22) dX2_makerAt_18 (by decide) ?_
      refine G_iret dX2_makerAt_22 rfl rfl (Nat.le_of_ble_eq_true rfl) (Nat.le_of_ble_eq_true rfl) ?_
      rw [hs.2.2 a ha]
      rw [atL_in ha (by omega)] at h
      exact h
theorem s_X2_piecesBy {m : Int32} (hj : j < 10) (hq : q < 24) (hs : Sat M j q L) (h : P (.inl (some (.int (sm L.length (fun k => if L.getD k 0 = m then 1 else 0))))) M) : Sp E yX2_piecesBy cX2_piecesBy zX2_piecesBy [.ref (ad E 13 j q), .int m] M P := by
  refine Sp_of (own := RX2) (by decide) rfl rfl (Nat.le_of_ble_eq_true rfl) (fun C => ?_)
  have h20 := hs.2.1
  refine G_iconst (v := 0) dX2_piecesBy_0 (by decide) ?_
  refine G_istore_n dX2_piecesBy_1 (Nat.le_of_ble_eq_true rfl) ?_
  refine G_iconst (v := 0) dX2_piecesBy_2 (by decide) ?_
  refine G_istore_n dX2_piecesBy_3 (Nat.le_of_ble_eq_true rfl) ?_
  refine G_lv (lv' := [(0, .ref (ad E 13 j q)), (1, .int m), (2, .int (sm 0 (fun k => if L.getD k 0 = m then 1 else 0))), (3, .int (nI 0))]) ⟨rfl, rfl, rfl, rfl, trivial⟩ ?_
  refine up0 (c := L.length) (H := fun i => G E C RX2 cX2_piecesBy zX2_piecesBy P 0 0 M 4 [(0, .ref (ad E 13 j q)), (1, .int m), (2, .int (sm i (fun k => if L.getD k 0 = m then 1 else 0))), (3, .int (nI i))] []) ?_ (fun i hi ih => ?_)
  · refine G_iload_n dX2_piecesBy_4 rfl ?_
    refine G_aload_n dX2_piecesBy_5 rfl ?_
    refine gf_X2_21 dX2_piecesBy_6 hj hq ?_
    refine G_icmp_ge (tgt := 31) dX2_piecesBy_9 (by decide) (fun c9 => ?_) (fun c9 => ?_)
    · refine G_iload_n dX2_piecesBy_31 rfl ?_
      refine G_iret dX2_piecesBy_32 rfl rfl (Nat.le_of_ble_eq_true rfl) (Nat.le_of_ble_eq_true rfl) ?_
      exact h
    · rw [hs.1] at c9
      exact absurd (Int32.le_refl _) c9
  · refine G_iload_n dX2_piecesBy_4 rfl ?_
    refine G_aload_n dX2_piecesBy_5 rfl ?_
    refine gf_X2_21 dX2_piecesBy_6 hj hq ?_
    refine G_icmp_ge (tgt := 31) dX2_piecesBy_9 (by decide) (fun c9 => ?_) (fun c9 => ?_)
    · rw [hs.1] at c9
      exact absurd c9 (nI_ge hi (by omega))
    · refine G_aload_n dX2_piecesBy_12 rfl ?_
      refine gf_X2_9 dX2_piecesBy_13 hj hq ?_
      refine G_iload_n dX2_piecesBy_16 rfl ?_
      refine G_iald dX2_piecesBy_17 ⟨hj, hq⟩ rfl rfl (show i < 20 by omega) (by decide) ?_
      refine G_iload_n dX2_piecesBy_18 rfl ?_
      refine G_icmp_ne (tgt := 25) dX2_piecesBy_19 (by decide) (fun c19 => ?_) (fun c19 => ?_)
      · refine G_iinc (v := 1) dX2_piecesBy_25 rfl (Nat.le_of_ble_eq_true rfl) (by decide) ?_
        refine G_goto (tgt := 4) dX2_piecesBy_28 (by decide) ?_
        rw [hs.2.2 i hi] at c19
        refine G_lv ?_ ih
        exact ⟨rfl, rfl, lvi (sm_0 (if_neg c19)), lvi (nI_1 i), trivial⟩
      · refine G_iinc (v := 1) dX2_piecesBy_22 rfl (Nat.le_of_ble_eq_true rfl) (by decide) ?_
        refine G_iinc (v := 1) dX2_piecesBy_25 rfl (Nat.le_of_ble_eq_true rfl) (by decide) ?_
        refine G_goto (tgt := 4) dX2_piecesBy_28 (by decide) ?_
        rw [hs.2.2 i hi] at c19
        refine G_lv ?_ ih
        exact ⟨rfl, rfl, lvi (sm_t (if_pos c19)), lvi (nI_1 i), trivial⟩
theorem s_X2_foreignPieces {e : Nat} {m : Int32} (hj : j < 10) (hq : q < 24) (hs : Sat M j q L) (he : e ≤ L.length) (h : P (.inl (some (.int (sm e (fun k => if L.getD k 0 = m then 0 else 1))))) M) : Sp E yX2_foreignPieces cX2_foreignPieces zX2_foreignPieces [.ref (ad E 13 j q), .int (nI e), .int m] M P := by
  refine Sp_of (own := RX2) (by decide) rfl rfl (Nat.le_of_ble_eq_true rfl) (fun C => ?_)
  have h20 := hs.2.1
  refine G_iconst (v := 0) dX2_foreignPieces_0 (by decide) ?_
  refine G_istore_n dX2_foreignPieces_1 (Nat.le_of_ble_eq_true rfl) ?_
  refine G_iconst (v := 0) dX2_foreignPieces_2 (by decide) ?_
  refine G_istore dX2_foreignPieces_3 (Nat.le_of_ble_eq_true rfl) ?_
  refine G_lv (lv' := [(0, .ref (ad E 13 j q)), (1, .int (nI e)), (2, .int m), (3, .int (sm 0 (fun k => if L.getD k 0 = m then 0 else 1))), (4, .int (nI 0))]) ⟨rfl, rfl, rfl, rfl, rfl, trivial⟩ ?_
  refine up0 (c := e) (H := fun i => G E C RX2 cX2_foreignPieces zX2_foreignPieces P 0 0 M 5 [(0, .ref (ad E 13 j q)), (1, .int (nI e)), (2, .int m), (3, .int (sm i (fun k => if L.getD k 0 = m then 0 else 1))), (4, .int (nI i))] []) ?_ (fun i hi ih => ?_)
  · refine G_iload dX2_foreignPieces_5 rfl ?_
    refine G_iload_n dX2_foreignPieces_7 rfl ?_
    refine G_icmp_ge (tgt := 40) dX2_foreignPieces_8 (by decide) (fun c8 => ?_) (fun c8 => ?_)
    · refine G_iload_n dX2_foreignPieces_40 rfl ?_
      refine G_iret dX2_foreignPieces_41 rfl rfl (Nat.le_of_ble_eq_true rfl) (Nat.le_of_ble_eq_true rfl) ?_
      exact h
    · exact absurd (Int32.le_refl _) c8
  · refine G_iload dX2_foreignPieces_5 rfl ?_
    refine G_iload_n dX2_foreignPieces_7 rfl ?_
    refine G_icmp_ge (tgt := 40) dX2_foreignPieces_8 (by decide) (fun c8 => ?_) (fun c8 => ?_)
    · exact absurd c8 (nI_ge hi (by omega))
    · refine G_iload dX2_foreignPieces_11 rfl ?_
      refine G_aload_n dX2_foreignPieces_13 rfl ?_
      refine gf_X2_21 dX2_foreignPieces_14 hj hq ?_
      refine G_icmp_ge (tgt := 40) dX2_foreignPieces_17 (by decide) (fun c17 => ?_) (fun c17 => ?_)
      · rw [hs.1] at c17
        exact absurd c17 (nI_ge (show i < L.length by omega) (by omega))
      · refine G_aload_n dX2_foreignPieces_20 rfl ?_
        refine gf_X2_9 dX2_foreignPieces_21 hj hq ?_
        refine G_iload dX2_foreignPieces_24 rfl ?_
        refine G_iald dX2_foreignPieces_26 ⟨hj, hq⟩ rfl rfl (show i < 20 by omega) (by decide) ?_
        refine G_iload_n dX2_foreignPieces_27 rfl ?_
        refine G_icmp_eq (tgt := 34) dX2_foreignPieces_28 (by decide) (fun c28 => ?_) (fun c28 => ?_)
        · refine G_iinc (v := 1) dX2_foreignPieces_34 rfl (Nat.le_of_ble_eq_true rfl) (by decide) ?_
          refine G_goto (tgt := 5) dX2_foreignPieces_37 (by decide) ?_
          rw [hs.2.2 i (by omega)] at c28
          refine G_lv ?_ ih
          exact ⟨rfl, rfl, rfl, lvi (sm_0 (if_pos c28)), lvi (nI_1 i), trivial⟩
        · refine G_iinc (v := 1) dX2_foreignPieces_31 rfl (Nat.le_of_ble_eq_true rfl) (by decide) ?_
          refine G_iinc (v := 1) dX2_foreignPieces_34 rfl (Nat.le_of_ble_eq_true rfl) (by decide) ?_
          refine G_goto (tgt := 5) dX2_foreignPieces_37 (by decide) ?_
          rw [hs.2.2 i (by omega)] at c28
          refine G_lv ?_ ih
          exact ⟨rfl, rfl, rfl, lvi (sm_t (if_neg c28)), lvi (nI_1 i), trivial⟩
/-- the set of the makers of the eldest e, without one -/
def bitsL (L : List Int32) (m : Int32) : Nat → Int32
  | 0 => 0
  | e + 1 => if L.getD e 0 = m then bitsL L m e else bitsL L m e ||| (1 <<< (L.getD e 0 &&& 31))
theorem s_X2_makersButOne {e : Nat} {m : Int32} (hj : j < 10) (hq : q < 24) (hs : Sat M j q L) (he : e ≤ L.length) (h : P (.inl (some (.int (bitsL L m e)))) M) : Sp E yX2_makersButOne cX2_makersButOne zX2_makersButOne [.ref (ad E 13 j q), .int (nI e), .int m] M P := by
  refine Sp_of (own := RX2) (by decide) rfl rfl (Nat.le_of_ble_eq_true rfl) (fun C => ?_)
  have h20 := hs.2.1
  refine G_iconst (v := 0) dX2_makersButOne_0 (by decide) ?_
  refine G_istore_n dX2_makersButOne_1 (Nat.le_of_ble_eq_true rfl) ?_
  refine G_iconst (v := 0) dX2_makersButOne_2 (by decide) ?_
  refine G_istore dX2_makersButOne_3 (Nat.le_of_ble_eq_true rfl) ?_
  refine G_lv (lv' := [(0, .ref (ad E 13 j q)), (1, .int (nI e)), (2, .int m), (3, .int (bitsL L m 0)), (4, .int (nI 0))]) ⟨rfl, rfl, rfl, rfl, rfl, trivial⟩ ?_
  refine up0 (c := e) (H := fun i => G E C RX2 cX2_makersButOne zX2_makersButOne P 0 0 M 5 [(0, .ref (ad E 13 j q)), (1, .int (nI e)), (2, .int m), (3, .int (bitsL L m i)), (4, .int (nI i))] []) ?_ (fun i hi ih => ?_)
  · refine G_iload dX2_makersButOne_5 rfl ?_
    refine G_iload_n dX2_makersButOne_7 rfl ?_
    refine G_icmp_ge (tgt := 49) dX2_makersButOne_8 (by decide) (fun c8 => ?_) (fun c8 => ?_)
    · refine G_iload_n dX2_makersButOne_49 rfl ?_
      refine G_iret dX2_makersButOne_50 rfl rfl (Nat.le_of_ble_eq_true rfl) (Nat.le_of_ble_eq_true rfl) ?_
      exact h
    · exact absurd (Int32.le_refl _) c8
  · refine G_iload dX2_makersButOne_5 rfl ?_
    refine G_iload_n dX2_makersButOne_7 rfl ?_
    refine G_icmp_ge (tgt := 49) dX2_makersButOne_8 (by decide) (fun c8 => ?_) (fun c8 => ?_)
    · exact absurd c8 (nI_ge hi (by omega))
    · refine G_iload dX2_makersButOne_11 rfl ?_
      refine G_aload_n dX2_makersButOne_13 rfl ?_
      refine gf_X2_21 dX2_makersButOne_14 hj hq ?_
      refine G_icmp_ge (tgt := 49) dX2_makersButOne_17 (by decide) (fun c17 => ?_) (fun c17 => ?_)
      · rw [hs.1] at c17
        exact absurd c17 (nI_ge (show i < L.length by omega) (by omega))
      · refine G_aload_n dX2_makersButOne_20 rfl ?_
        refine gf_X2_9 dX2_makersButOne_21 hj hq ?_
        refine G_iload dX2_makersButOne_24 rfl ?_
        refine G_iald dX2_makersButOne_26 ⟨hj, hq⟩ rfl rfl (show i < 20 by omega) (by decide) ?_
        refine G_iload_n dX2_makersButOne_27 rfl ?_
        refine G_icmp_eq (tgt := 43) dX2_makersButOne_28 (by decide) (fun c28 => ?_) (fun c28 => ?_)
        · refine G_iinc (v := 1) dX2_makersButOne_43 rfl (Nat.le_of_ble_eq_true rfl) (by decide) ?_
          refine G_goto (tgt := 5) dX2_makersButOne_46 (by decide) ?_
          rw [hs.2.2 i (by omega)] at c28
          refine G_lv ?_ ih
          exact ⟨rfl, rfl, rfl, lvi (if_pos c28).symm, lvi (nI_1 i), trivial⟩
        · refine G_iload_n dX2_makersButOne_31 rfl ?_
          refine G_iconst (v := 1) dX2_makersButOne_32 (by decide) ?_
          refine G_aload_n dX2_makersButOne_33 rfl ?_
          refine gf_X2_9 dX2_makersButOne_34 hj hq ?_
          refine G_iload dX2_makersButOne_37 rfl ?_
          refine G_iald dX2_makersButOne_39 ⟨hj, hq⟩ rfl rfl (show i < 20 by omega) (by decide) ?_
          refine G_ishl dX2_makersButOne_40 ?_
          refine G_ior dX2_makersButOne_41 ?_
          refine G_istore_n dX2_makersButOne_42 (Nat.le_of_ble_eq_true rfl) ?_
          refine G_iinc (v := 1) dX2_makersButOne_43 rfl (Nat.le_of_ble_eq_true rfl) (by decide) ?_
          refine G_goto (tgt := 5) dX2_makersButOne_46 (by decide) ?_
          rw [hs.2.2 i (by omega)] at c28 ⊢
          refine G_lv ?_ ih
          exact ⟨rfl, rfl, rfl, lvi (if_neg c28).symm, lvi (nI_1 i), trivial⟩
theorem s_X2_put {n : Nat} {m : Int32} (hj : j < 10) (hq : q < 24) (hs : Sat M j q L) (hn : L.length + n ≤ 20) (h : ∀ M', Sat M' j q (L ++ List.replicate n m) → Fr (dS j q) M M' → P (.inl none) M') : Sp E yX2_put cX2_put zX2_put [.ref (ad E 13 j q), .int m, .int (nI n)] M P := by
  refine Sp_of (own := RX2) (by decide) rfl rfl (Nat.le_of_ble_eq_true rfl) (fun C => ?_)
  refine G_iconst (v := 0) dX2_put_0 (by decide) ?_
  refine G_istore_n dX2_put_1 (Nat.le_of_ble_eq_true rfl) ?_
  refine G_lv (lv' := [(0, .ref (ad E 13 j q)), (1, .int m), (2, .int (nI n)), (3, .int (nI 0))]) ⟨rfl, rfl, rfl, rfl, trivial⟩ ?_
  refine up0 (c := n) (H := fun i => ∀ M', Sat M' j q (L ++ List.replicate i m) → Fr (dS j q) M M' → G E C RX2 cX2_put zX2_put P 0 0 M' 2 [(0, .ref (ad E 13 j q)), (1, .int m), (2, .int (nI n)), (3, .int (nI i))] []) ?_ (fun i hi ih => ?_) M (by simpa using hs) Fr.rfl
  · intro M' hs' hf
    refine G_iload_n dX2_put_2 rfl ?_
    refine G_iload_n dX2_put_3 rfl ?_
    refine G_icmp_ge (tgt := 42) dX2_put_4 (by decide) (fun c4 => ?_) (fun c4 => ?_)
    · refine G_vret dX2_put_42 rfl (Nat.le_of_ble_eq_true rfl) (Nat.le_of_ble_eq_true rfl) ?_
      exact h M' hs' hf
    · exact absurd (Int32.le_refl _) c4
  · intro M' hs' hf
    have hl : (L ++ List.replicate i m).length = L.length + i := by simp
    refine G_iload_n dX2_put_2 rfl ?_
    refine G_iload_n dX2_put_3 rfl ?_
    refine G_icmp_ge (tgt := 42) dX2_put_4 (by decide) (fun c4 => ?_) (fun c4 => ?_)
    · exact absurd c4 (nI_ge hi (by omega))
    · refine G_aload_n dX2_put_7 rfl ?_
      refine gf_X2_21 dX2_put_8 hj hq ?_
      refine G_bipush (v := 20) dX2_put_11 (by decide) ?_
      refine G_icmp_ge (tgt := 42) dX2_put_13 (by decide) (fun c13 => ?_) (fun c13 => ?_)
      · rw [hs'.1, hl] at c13
        exact absurd c13 (nI_ge (b := 20) (show L.length + i < 20 by omega) (by decide))
      · refine G_aload_n dX2_put_16 rfl ?_
        refine gf_X2_9 dX2_put_17 hj hq ?_
        refine G_aload_n dX2_put_20 rfl ?_
        refine gf_X2_21 dX2_put_21 hj hq ?_
        refine G_iload_n dX2_put_24 rfl ?_
        refine G_iast dX2_put_25 ⟨hj, hq⟩ (fun _ => rfl) (hs'.1) (show (L ++ List.replicate i m).length < 20 by omega) (by decide) ?_
        refine G_aload_n dX2_put_26 rfl ?_
        refine G_dup dX2_put_27 rfl ?_
        refine gf_X2_21 dX2_put_28 hj hq ?_
        refine G_iconst (v := 1) dX2_put_31 (by decide) ?_
        refine G_iadd dX2_put_32 ?_
        refine pf_X2_21 dX2_put_33 hj hq ?_
        refine G_iinc (v := 1) dX2_put_36 rfl (Nat.le_of_ble_eq_true rfl) (by decide) ?_
        refine G_goto (tgt := 2) dX2_put_39 (by decide) ?_
        refine G_lv ?_ (ih _ ?_ ?_)
        · exact ⟨rfl, rfl, rfl, lvi (nI_1 i), trivial⟩
        · have h5 := hs'.push (m := m) (by omega)
          rw [up_nk (by decide), hs'.1]
          rw [List.replicate_succ', ← List.append_assoc]
          exact h5
        · exact (hf.up ⟨Or.inr rfl, rfl, rfl⟩).up ⟨Or.inl rfl, rfl, rfl⟩
end CSAT
