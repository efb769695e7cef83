/-! ===== HomeworkBarter$School: reasons, weeks looked at ===== -/
section CREA
variable {E : Ed} {M : Mm} {P : Res → Mm → Prop} {j : Nat} {A : Ab}
def rMake (A : Ab) (x s n : Nat) : Int32 := if A.f x 5 < nI n * (10 - A.f x (2 + s)) then 2 else if nI n ≤ 20 - nI (A.s (2 * x + s)).length then 0 else 3
theorem s_X3_reasonAgainstMaking {x s n : Nat} (hj : j < 10) (hA : CR M j A) (hx : x < A.n) (hs : s < 2) (h : P (.inl (some (.int (rMake A x s n)))) M) : Sp E yX3_reasonAgainstMaking cX3_reasonAgainstMaking zX3_reasonAgainstMaking [.ref (ad E 7 j 0), .int (nI x), .int (nI s), .int (nI n)] M P := by
  have h12 := hA.n12
  have e5 : M.1 12 j x 6 = A.f x 5 := hA.f hx 5 (by decide)
  unfold rMake at h
  refine Sp_of (own := RX3) (by decide) rfl rfl (Nat.le_of_ble_eq_true rfl) (fun C => ?_)
  refine G_aload_n dX3_reasonAgainstMaking_0 rfl ?_
  refine gf_X3_11 dX3_reasonAgainstMaking_1 hj ?_
  refine G_iload_n dX3_reasonAgainstMaking_4 rfl ?_
  refine G_aald dX3_reasonAgainstMaking_5 ⟨hj, rfl⟩ rfl rfl rfl (show x < 12 by omega) (by decide) rfl ?_
  refine G_astore dX3_reasonAgainstMaking_6 (Nat.le_of_ble_eq_true rfl) ?_
  refine G_iload_n dX3_reasonAgainstMaking_8 rfl ?_
  refine G_aload dX3_reasonAgainstMaking_9 rfl ?_
  refine G_iload_n dX3_reasonAgainstMaking_11 rfl ?_
  refine cv_X3_176 (cs' := 0) (ss' := 0) dX3_reasonAgainstMaking_12 hj (show x < 12 by omega) (Nat.le_of_ble_eq_true rfl) (Nat.le_of_ble_eq_true rfl) (Nat.le_of_ble_eq_true rfl) rfl rfl (Nat.le_of_ble_eq_true rfl) (Nat.le_of_ble_eq_true rfl) rfl ?_
  refine s_X1_effort hj (by omega) hs (hA.f hx) (hGo_i ?_)
  refine G_imul dX3_reasonAgainstMaking_15 ?_
  refine G_aload dX3_reasonAgainstMaking_16 rfl ?_
  refine gf_X3_179 dX3_reasonAgainstMaking_18 hj (show x < 12 by omega) ?_
  refine G_icmp_le (tgt := 26) dX3_reasonAgainstMaking_21 (by decide) (fun c21 => ?_) (fun c21 => ?_)
  · rw [e5] at c21
    rw [if_neg (Int32.not_lt.mpr c21)] at h
    refine G_aload dX3_reasonAgainstMaking_26 rfl ?_
    refine G_iload_n dX3_reasonAgainstMaking_28 rfl ?_
    refine cv_X3_135 (cs' := 0) (ss' := 0) dX3_reasonAgainstMaking_29 hj (show x < 12 by omega) (Nat.le_of_ble_eq_true rfl) (Nat.le_of_ble_eq_true rfl) (Nat.le_of_ble_eq_true rfl) rfl rfl (Nat.le_of_ble_eq_true rfl) (Nat.le_of_ble_eq_true rfl) rfl ?_
    refine s_X1_satchel hj (by omega) hs (hGo_a ?_)
    refine G_iload_n dX3_reasonAgainstMaking_32 rfl ?_
    refine cv_X3_182 (cs' := 0) (ss' := 0) dX3_reasonAgainstMaking_33 hj (show 2 * x + s < 24 by omega) (Nat.le_of_ble_eq_true rfl) (Nat.le_of_ble_eq_true rfl) (Nat.le_of_ble_eq_true rfl) rfl rfl (Nat.le_of_ble_eq_true rfl) (Nat.le_of_ble_eq_true rfl) rfl ?_
    refine s_X2_hasRoomFor hj (by omega) (hA.s hx hs) (hGo_i ?_)
    by_cases hr : nI n ≤ 20 - nI (A.s (2 * x + s)).length
    · rw [if_pos hr] at h ⊢
      refine G_if_eq (tgt := 43) dX3_reasonAgainstMaking_36 (by decide) (fun c36 => ?_) (fun c36 => ?_)
      · exact absurd c36 (by decide)
      · refine G_iconst (v := 0) dX3_reasonAgainstMaking_39 (by decide) ?_
        refine G_goto (tgt := 44) dX3_reasonAgainstMaking_40 (by decide) ?_
        refine G_iret dX3_reasonAgainstMaking_44 rfl rfl (Nat.le_of_ble_eq_true rfl) (Nat.le_of_ble_eq_true rfl) ?_
        exact h
    · rw [if_neg hr] at h ⊢
      refine G_if_eq (tgt := 43) dX3_reasonAgainstMaking_36 (by decide) (fun c36 => ?_) (fun c36 => ?_)
      · refine G_iconst (v := 3) dX3_reasonAgainstMaking_43 (by decide) ?_
        refine G_iret dX3_reasonAgainstMaking_44 rfl rfl (Nat.le_of_ble_eq_true rfl) (Nat.le_of_ble_eq_true rfl) ?_
        exact h
      · exact absurd rfl c36
  · rw [e5] at c21
    rw [if_pos (Int32.not_le.mp c21)] at h
    refine G_iconst (v := 2) dX3_reasonAgainstMaking_24 (by decide) ?_
    refine G_iret dX3_reasonAgainstMaking_25 rfl rfl (Nat.le_of_ble_eq_true rfl) (Nat.le_of_ble_eq_true rfl) ?_
    exact h
/-- one of both is detained -/
def dt (A : Ab) (x y : Nat) : Prop := 0 < A.f x 8 ∨ 0 < A.f y 8
def rGive (A : Ab) (x y s n : Nat) : Int32 := if 0 < A.f x 8 ∨ 0 < A.f y 8 then 1 else if nI (A.s (2 * x + s)).length < nI n then 4 else if nI n ≤ 20 - nI (A.s (2 * y + s)).length then 0 else 3
theorem s_X3_reasonAgainstGiving {x y s n : Nat} (hj : j < 10) (hA : CR M j A) (hx : x < A.n) (hy : y < A.n) (hs : s < 2) (h : P (.inl (some (.int (rGive A x y s n)))) M) : Sp E yX3_reasonAgainstGiving cX3_reasonAgainstGiving zX3_reasonAgainstGiving [.ref (ad E 7 j 0), .int (nI x), .int (nI y), .int (nI s), .int (nI n)] M P := by
  have h12 := hA.n12
  unfold rGive at h
  refine Sp_of (own := RX3) (by decide) rfl rfl (Nat.le_of_ble_eq_true rfl) (fun C => ?_)
  refine G_aload_n dX3_reasonAgainstGiving_0 rfl ?_
  refine gf_X3_11 dX3_reasonAgainstGiving_1 hj ?_
  refine G_iload_n dX3_reasonAgainstGiving_4 rfl ?_
  refine G_aald dX3_reasonAgainstGiving_5 ⟨hj, rfl⟩ rfl rfl rfl (show x < 12 by omega) (by decide) rfl ?_
  refine G_astore dX3_reasonAgainstGiving_6 (Nat.le_of_ble_eq_true rfl) ?_
  refine G_aload_n dX3_reasonAgainstGiving_8 rfl ?_
  refine gf_X3_11 dX3_reasonAgainstGiving_9 hj ?_
  refine G_iload_n dX3_reasonAgainstGiving_12 rfl ?_
  refine G_aald dX3_reasonAgainstGiving_13 ⟨hj, rfl⟩ rfl rfl rfl (show y < 12 by omega) (by decide) rfl ?_
  refine G_astore dX3_reasonAgainstGiving_14 (Nat.le_of_ble_eq_true rfl) ?_
  refine G_aload dX3_reasonAgainstGiving_16 rfl ?_
  refine cv_X3_142 (cs' := 0) (ss' := 0) dX3_reasonAgainstGiving_18 hj (show x < 12 by omega) (Nat.le_of_ble_eq_true rfl) (Nat.le_of_ble_eq_true rfl) (Nat.le_of_ble_eq_true rfl) rfl rfl (Nat.le_of_ble_eq_true rfl) (Nat.le_of_ble_eq_true rfl) rfl ?_
  refine s_X1_isDetained hj (by omega) (hA.f hx) (hGo_i ?_)
  have go : ¬ (0 < A.f x 8 ∨ 0 < A.f y 8) → G E C RX3 cX3_reasonAgainstGiving zX3_reasonAgainstGiving P 0 0 M 34 [(0, .ref (ad E 7 j 0)), (1, .int (nI x)), (2, .int (nI y)), (3, .int (nI s)), (4, .int (nI n)), (5, .ref (ad E 12 j x)), (6, .ref (ad E 12 j y))] [] := by
    intro hd
    rw [if_neg hd] at h
    refine G_aload dX3_reasonAgainstGiving_34 rfl ?_
    refine G_iload_n dX3_reasonAgainstGiving_36 rfl ?_
    refine cv_X3_135 (cs' := 0) (ss' := 0) dX3_reasonAgainstGiving_37 hj (show x < 12 by omega) (Nat.le_of_ble_eq_true rfl) (Nat.le_of_ble_eq_true rfl) (Nat.le_of_ble_eq_true rfl) rfl rfl (Nat.le_of_ble_eq_true rfl) (Nat.le_of_ble_eq_true rfl) rfl ?_
    refine s_X1_satchel hj (by omega) hs (hGo_a ?_)
    refine gf_X3_139 dX3_reasonAgainstGiving_40 hj (show 2 * x + s < 24 by omega) ?_
    rw [(hA.s hx hs).1]
    refine G_iload dX3_reasonAgainstGiving_43 rfl ?_
    refine G_icmp_ge (tgt := 50) dX3_reasonAgainstGiving_45 (by decide) (fun c45 => ?_) (fun c45 => ?_)
    · rw [if_neg (Int32.not_lt.mpr c45)] at h
      refine G_aload dX3_reasonAgainstGiving_50 rfl ?_
      refine G_iload_n dX3_reasonAgainstGiving_52 rfl ?_
      refine cv_X3_135 (cs' := 0) (ss' := 0) dX3_reasonAgainstGiving_53 hj (show y < 12 by omega) (Nat.le_of_ble_eq_true rfl) (Nat.le_of_ble_eq_true rfl) (Nat.le_of_ble_eq_true rfl) rfl rfl (Nat.le_of_ble_eq_true rfl) (Nat.le_of_ble_eq_true rfl) rfl ?_
      refine s_X1_satchel hj (by omega) hs (hGo_a ?_)
      refine G_iload dX3_reasonAgainstGiving_56 rfl ?_
      refine cv_X3_182 (cs' := 0) (ss' := 0) dX3_reasonAgainstGiving_58 hj (show 2 * y + s < 24 by omega) (Nat.le_of_ble_eq_true rfl) (Nat.le_of_ble_eq_true rfl) (Nat.le_of_ble_eq_true rfl) rfl rfl (Nat.le_of_ble_eq_true rfl) (Nat.le_of_ble_eq_true rfl) rfl ?_
      refine s_X2_hasRoomFor hj (by omega) (hA.s hy hs) (hGo_i ?_)
      by_cases hr : nI n ≤ 20 - nI (A.s (2 * y + s)).length
      · rw [if_pos hr] at h ⊢
        refine G_if_eq (tgt := 68) dX3_reasonAgainstGiving_61 (by decide) (fun c61 => ?_) (fun c61 => ?_)
        · exact absurd c61 (by decide)
        · refine G_iconst (v := 0) dX3_reasonAgainstGiving_64 (by decide) ?_
          refine G_goto (tgt := 69) dX3_reasonAgainstGiving_65 (by decide) ?_
          refine G_iret dX3_reasonAgainstGiving_69 rfl rfl (Nat.le_of_ble_eq_true rfl) (Nat.le_of_ble_eq_true rfl) ?_
          exact h
      · rw [if_neg hr] at h ⊢
        refine G_if_eq (tgt := 68) dX3_reasonAgainstGiving_61 (by decide) (fun c61 => ?_) (fun c61 => ?_)
        · refine G_iconst (v := 3) dX3_reasonAgainstGiving_68 (by decide) ?_
          refine G_iret dX3_reasonAgainstGiving_69 rfl rfl (Nat.le_of_ble_eq_true rfl) (Nat.le_of_ble_eq_true rfl) ?_
          exact h
        · exact absurd rfl c61
    · rw [if_pos (Int32.not_le.mp c45)] at h
      refine G_iconst (v := 4) dX3_reasonAgainstGiving_48 (by decide) ?_
      refine G_iret dX3_reasonAgainstGiving_49 rfl rfl (Nat.le_of_ble_eq_true rfl) (Nat.le_of_ble_eq_true rfl) ?_
      exact h
  by_cases hd1 : 0 < A.f x 8
  · rw [if_pos hd1]
    refine G_if_ne (tgt := 32) dX3_reasonAgainstGiving_21 (by decide) (fun c21 => ?_) (fun c21 => ?_)
    · refine G_iconst (v := 1) dX3_reasonAgainstGiving_32 (by decide) ?_
      refine G_iret dX3_reasonAgainstGiving_33 rfl rfl (Nat.le_of_ble_eq_true rfl) (Nat.le_of_ble_eq_true rfl) ?_
      rw [if_pos (Or.inl hd1)] at h
      exact h
    · exact absurd c21 (by decide)
  · rw [if_neg hd1]
    refine G_if_ne (tgt := 32) dX3_reasonAgainstGiving_21 (by decide) (fun c21 => ?_) (fun c21 => ?_)
    · exact absurd rfl c21
    · refine G_aload dX3_reasonAgainstGiving_24 rfl ?_
      refine cv_X3_142 (cs' := 0) (ss' := 0) dX3_reasonAgainstGiving_26 hj (show y < 12 by omega) (Nat.le_of_ble_eq_true rfl) (Nat.le_of_ble_eq_true rfl) (Nat.le_of_ble_eq_true rfl) rfl rfl (Nat.le_of_ble_eq_true rfl) (Nat.le_of_ble_eq_true rfl) rfl ?_
      refine s_X1_isDetained hj (by omega) (hA.f hy) (hGo_i ?_)
      by_cases hd2 : 0 < A.f y 8
      · rw [if_pos hd2]
        refine G_if_eq (tgt := 34) dX3_reasonAgainstGiving_29 (by decide) (fun c29 => ?_) (fun c29 => ?_)
        · exact absurd c29 (by decide)
        · refine G_iconst (v := 1) dX3_reasonAgainstGiving_32 (by decide) ?_
          refine G_iret dX3_reasonAgainstGiving_33 rfl rfl (Nat.le_of_ble_eq_true rfl) (Nat.le_of_ble_eq_true rfl) ?_
          rw [if_pos (Or.inr hd2)] at h
          exact h
      · rw [if_neg hd2]
        refine G_if_eq (tgt := 34) dX3_reasonAgainstGiving_29 (by decide) (fun c29 => ?_) (fun c29 => ?_)
        · exact G_lv2 (go (fun q => q.elim hd1 hd2)) ⟨rfl, rfl, rfl, rfl, rfl, rfl, rfl, trivial⟩
        · exact absurd rfl c29
def rLend (A : Ab) (x y s n : Nat) : Int32 := if x = y then 5 else if rGive A x y s n ≠ 0 then rGive A x y s n else if fnd A.d (nI y) (nI x) (nI (1 - s)) = -1 then (if A.d.length < 30 then 0 else 9) else if dg A.d (fnd A.d (nI y) (nI x) (nI (1 - s))).toNatClampNeg 3 + nI n ≤ 99 then 0 else 9
theorem s_X3_reasonAgainstLending {x y s n : Nat} (hj : j < 10) (hA : CR M j A) (hx : x < A.n) (hy : y < A.n) (hs : s < 2) (h : P (.inl (some (.int (rLend A x y s n)))) M) : Sp E yX3_reasonAgainstLending cX3_reasonAgainstLending zX3_reasonAgainstLending [.ref (ad E 7 j 0), .int (nI x), .int (nI y), .int (nI s), .int (nI n)] M P := by
  have h12 := hA.n12
  unfold rLend at h
  refine Sp_of (own := RX3) (by decide) rfl rfl (Nat.le_of_ble_eq_true rfl) (fun C => ?_)
  refine G_iload_n dX3_reasonAgainstLending_0 rfl ?_
  refine G_iload_n dX3_reasonAgainstLending_1 rfl ?_
  refine G_icmp_ne (tgt := 7) dX3_reasonAgainstLending_2 (by decide) (fun c2 => ?_) (fun c2 => ?_)
  · have hxy : x ≠ y := fun q => c2 (by rw [q])
    rw [if_neg hxy] at h
    refine G_aload_n dX3_reasonAgainstLending_7 rfl ?_
    refine G_iload_n dX3_reasonAgainstLending_8 rfl ?_
    refine G_iload_n dX3_reasonAgainstLending_9 rfl ?_
    refine G_iload_n dX3_reasonAgainstLending_10 rfl ?_
    refine G_iload dX3_reasonAgainstLending_11 rfl ?_
    refine cv_X3_193 (cs' := 0) (ss' := 0) dX3_reasonAgainstLending_13 hj (Nat.le_of_ble_eq_true rfl) (Nat.le_of_ble_eq_true rfl) (Nat.le_of_ble_eq_true rfl) rfl rfl (Nat.le_of_ble_eq_true rfl) (Nat.le_of_ble_eq_true rfl) rfl ?_
    refine s_X3_reasonAgainstGiving hj hA hx hy hs (hGo_i ?_)
    refine G_istore dX3_reasonAgainstLending_16 (Nat.le_of_ble_eq_true rfl) ?_
    refine G_iload dX3_reasonAgainstLending_18 rfl ?_
    refine G_if_eq (tgt := 26) dX3_reasonAgainstLending_20 (by decide) (fun c20 => ?_) (fun c20 => ?_)
    · rw [if_neg (fun q => q c20)] at h
      refine G_aload_n dX3_reasonAgainstLending_26 rfl ?_
      refine gf_X3_20 dX3_reasonAgainstLending_27 hj ?_
      refine G_iload_n dX3_reasonAgainstLending_30 rfl ?_
      refine G_iload_n dX3_reasonAgainstLending_31 rfl ?_
      refine G_iload_n dX3_reasonAgainstLending_32 rfl ?_
      refine cv_X3_197 (cs' := 0) (ss' := 0) dX3_reasonAgainstLending_33  (Nat.le_of_ble_eq_true rfl) (Nat.le_of_ble_eq_true rfl) (Nat.le_of_ble_eq_true rfl) rfl rfl (Nat.le_of_ble_eq_true rfl) (Nat.le_of_ble_eq_true rfl) rfl ?_
      refine s_X3_otherSubject hs (hGo_i ?_)
      refine G_iload dX3_reasonAgainstLending_36 rfl ?_
      refine cv_X3_200 (cs' := 0) (ss' := 0) dX3_reasonAgainstLending_38 hj (Nat.le_of_ble_eq_true rfl) (Nat.le_of_ble_eq_true rfl) (Nat.le_of_ble_eq_true rfl) rfl rfl (Nat.le_of_ble_eq_true rfl) (Nat.le_of_ble_eq_true rfl) rfl ?_
      refine s_X0_canGrow hj hA.d (fun hc => hGo_i ?_) (fun hc => hGo_i ?_)
      · unfold canG at hc
        refine G_if_eq (tgt := 48) dX3_reasonAgainstLending_41 (by decide) (fun c41 => ?_) (fun c41 => ?_)
        · exact absurd c41 (by decide)
        · refine G_iconst (v := 0) dX3_reasonAgainstLending_44 (by decide) ?_
          refine G_goto (tgt := 50) dX3_reasonAgainstLending_45 (by decide) ?_
          refine G_iret dX3_reasonAgainstLending_50 rfl rfl (Nat.le_of_ble_eq_true rfl) (Nat.le_of_ble_eq_true rfl) ?_
          by_cases hf : fnd A.d (nI y) (nI x) (nI (1 - s)) = -1
          · rw [if_pos hf] at h hc
            rw [if_pos hc] at h
            exact h
          · rw [if_neg hf] at h hc
            rw [if_pos hc] at h
            exact h
      · unfold canG at hc
        refine G_if_eq (tgt := 48) dX3_reasonAgainstLending_41 (by decide) (fun c41 => ?_) (fun c41 => ?_)
        · refine G_bipush (v := 9) dX3_reasonAgainstLending_48 (by decide) ?_
          refine G_iret dX3_reasonAgainstLending_50 rfl rfl (Nat.le_of_ble_eq_true rfl) (Nat.le_of_ble_eq_true rfl) ?_
          by_cases hf : fnd A.d (nI y) (nI x) (nI (1 - s)) = -1
          · rw [if_pos hf] at h hc
            rw [if_neg hc] at h
            exact h
          · rw [if_neg hf] at h hc
            rw [if_neg hc] at h
            exact h
        · exact absurd rfl c41
    · rw [if_pos c20] at h
      refine G_iload dX3_reasonAgainstLending_23 rfl ?_
      refine G_iret dX3_reasonAgainstLending_25 rfl rfl (Nat.le_of_ble_eq_true rfl) (Nat.le_of_ble_eq_true rfl) ?_
      exact h
  · have hxy : x = y := by
      have c2' : nI x = nI y := c2
      rwa [nI_eq (by omega) (by omega)] at c2'
    rw [if_pos hxy] at h
    refine G_iconst (v := 5) dX3_reasonAgainstLending_5 (by decide) ?_
    refine G_iret dX3_reasonAgainstLending_6 rfl rfl (Nat.le_of_ble_eq_true rfl) (Nat.le_of_ble_eq_true rfl) ?_
    exact h
def rPay (A : Ab) (x y s n : Nat) : Int32 := if x = y then 5 else if owedV A.d (nI x) (nI y) (nI s) < nI n then 6 else rGive A x y s n
theorem s_X3_reasonAgainstPaying {x y s n : Nat} (hj : j < 10) (hA : CR M j A) (hx : x < A.n) (hy : y < A.n) (hs : s < 2) (h : P (.inl (some (.int (rPay A x y s n)))) M) : Sp E yX3_reasonAgainstPaying cX3_reasonAgainstPaying zX3_reasonAgainstPaying [.ref (ad E 7 j 0), .int (nI x), .int (nI y), .int (nI s), .int (nI n)] M P := by
  have h12 := hA.n12
  unfold rPay at h
  refine Sp_of (own := RX3) (by decide) rfl rfl (Nat.le_of_ble_eq_true rfl) (fun C => ?_)
  refine G_iload_n dX3_reasonAgainstPaying_0 rfl ?_
  refine G_iload_n dX3_reasonAgainstPaying_1 rfl ?_
  refine G_icmp_ne (tgt := 7) dX3_reasonAgainstPaying_2 (by decide) (fun c2 => ?_) (fun c2 => ?_)
  · have hxy : x ≠ y := fun q => c2 (by rw [q])
    rw [if_neg hxy] at h
    refine G_aload_n dX3_reasonAgainstPaying_7 rfl ?_
    refine gf_X3_20 dX3_reasonAgainstPaying_8 hj ?_
    refine G_iload_n dX3_reasonAgainstPaying_11 rfl ?_
    refine G_iload_n dX3_reasonAgainstPaying_12 rfl ?_
    refine G_iload_n dX3_reasonAgainstPaying_13 rfl ?_
    refine cv_X3_204 (cs' := 0) (ss' := 0) dX3_reasonAgainstPaying_14 hj (Nat.le_of_ble_eq_true rfl) (Nat.le_of_ble_eq_true rfl) (Nat.le_of_ble_eq_true rfl) rfl rfl (Nat.le_of_ble_eq_true rfl) (Nat.le_of_ble_eq_true rfl) rfl ?_
    refine s_X0_owed hj hA.d (hGo_i ?_)
    refine G_iload dX3_reasonAgainstPaying_17 rfl ?_
    refine G_icmp_ge (tgt := 25) dX3_reasonAgainstPaying_19 (by decide) (fun c19 => ?_) (fun c19 => ?_)
    · rw [if_neg (Int32.not_lt.mpr c19)] at h
      refine G_aload_n dX3_reasonAgainstPaying_25 rfl ?_
      refine G_iload_n dX3_reasonAgainstPaying_26 rfl ?_
      refine G_iload_n dX3_reasonAgainstPaying_27 rfl ?_
      refine G_iload_n dX3_reasonAgainstPaying_28 rfl ?_
      refine G_iload dX3_reasonAgainstPaying_29 rfl ?_
      refine cv_X3_193 (cs' := 0) (ss' := 0) dX3_reasonAgainstPaying_31 hj (Nat.le_of_ble_eq_true rfl) (Nat.le_of_ble_eq_true rfl) (Nat.le_of_ble_eq_true rfl) rfl rfl (Nat.le_of_ble_eq_true rfl) (Nat.le_of_ble_eq_true rfl) rfl ?_
      refine s_X3_reasonAgainstGiving hj hA hx hy hs (hGo_i ?_)
      refine G_iret dX3_reasonAgainstPaying_34 rfl rfl (Nat.le_of_ble_eq_true rfl) (Nat.le_of_ble_eq_true rfl) ?_
      exact h
    · rw [if_pos (Int32.not_le.mp c19)] at h
      refine G_bipush (v := 6) dX3_reasonAgainstPaying_22 (by decide) ?_
      refine G_iret dX3_reasonAgainstPaying_24 rfl rfl (Nat.le_of_ble_eq_true rfl) (Nat.le_of_ble_eq_true rfl) ?_
      exact h
  · have hxy : x = y := by
      have c2' : nI x = nI y := c2
      rwa [nI_eq (by omega) (by omega)] at c2'
    rw [if_pos hxy] at h
    refine G_iconst (v := 5) dX3_reasonAgainstPaying_5 (by decide) ?_
    refine G_iret dX3_reasonAgainstPaying_6 rfl rfl (Nat.le_of_ble_eq_true rfl) (Nat.le_of_ble_eq_true rfl) ?_
    exact h
def rSwap (A : Ab) (x y n m : Nat) : Int32 := if x = y then 5 else if 0 < A.f x 8 ∨ 0 < A.f y 8 then 1 else if nI (A.s (2 * x)).length < nI n ∨ nI (A.s (2 * y + 1)).length < nI m then 4 else if nI n ≤ 20 - nI (A.s (2 * y)).length ∧ nI m ≤ 20 - nI (A.s (2 * x + 1)).length then 0 else 3
theorem s_X3_reasonAgainstSwapping {x y n m : Nat} (hj : j < 10) (hA : CR M j A) (hx : x < A.n) (hy : y < A.n) (h : P (.inl (some (.int (rSwap A x y n m)))) M) : Sp E yX3_reasonAgainstSwapping cX3_reasonAgainstSwapping zX3_reasonAgainstSwapping [.ref (ad E 7 j 0), .int (nI x), .int (nI y), .int (nI n), .int (nI m)] M P := by
  have h12 := hA.n12
  have sx0 : Sat M j (2 * x) (A.s (2 * x)) := hA.s hx (t := 0) (by decide)
  have sx1 : Sat M j (2 * x + 1) (A.s (2 * x + 1)) := hA.s hx (t := 1) (by decide)
  have sy0 : Sat M j (2 * y) (A.s (2 * y)) := hA.s hy (t := 0) (by decide)
  have sy1 : Sat M j (2 * y + 1) (A.s (2 * y + 1)) := hA.s hy (t := 1) (by decide)
  unfold rSwap at h
  refine Sp_of (own := RX3) (by decide) rfl rfl (Nat.le_of_ble_eq_true rfl) (fun C => ?_)
  refine G_aload_n dX3_reasonAgainstSwapping_0 rfl ?_
  refine gf_X3_11 dX3_reasonAgainstSwapping_1 hj ?_
  refine G_iload_n dX3_reasonAgainstSwapping_4 rfl ?_
  refine G_aald dX3_reasonAgainstSwapping_5 ⟨hj, rfl⟩ rfl rfl rfl (show x < 12 by omega) (by decide) rfl ?_
  refine G_astore dX3_reasonAgainstSwapping_6 (Nat.le_of_ble_eq_true rfl) ?_
  refine G_aload_n dX3_reasonAgainstSwapping_8 rfl ?_
  refine gf_X3_11 dX3_reasonAgainstSwapping_9 hj ?_
  refine G_iload_n dX3_reasonAgainstSwapping_12 rfl ?_
  refine G_aald dX3_reasonAgainstSwapping_13 ⟨hj, rfl⟩ rfl rfl rfl (show y < 12 by omega) (by decide) rfl ?_
  refine G_astore dX3_reasonAgainstSwapping_14 (Nat.le_of_ble_eq_true rfl) ?_
  refine G_iload_n dX3_reasonAgainstSwapping_16 rfl ?_
  refine G_iload_n dX3_reasonAgainstSwapping_17 rfl ?_
  refine G_icmp_ne (tgt := 23) dX3_reasonAgainstSwapping_18 (by decide) (fun c18 => ?_) (fun c18 => ?_)
  · have hxy : x ≠ y := fun q => c18 (by rw [q])
    rw [if_neg hxy] at h
    have go : ¬ (0 < A.f x 8 ∨ 0 < A.f y 8) → G E C RX3 cX3_reasonAgainstSwapping zX3_reasonAgainstSwapping P 0 0 M 41 [(0, .ref (ad E 7 j 0)), (1, .int (nI x)), (2, .int (nI y)), (3, .int (nI n)), (4, .int (nI m)), (5, .ref (ad E 12 j x)), (6, .ref (ad E 12 j y))] [] := by
      intro hd
      rw [if_neg hd] at h
      refine G_aload dX3_reasonAgainstSwapping_41 rfl ?_
      refine gf_X3_186 dX3_reasonAgainstSwapping_43 hj (show x < 12 by omega) ?_
      refine gf_X3_139 dX3_reasonAgainstSwapping_46 hj (show 2 * x < 24 by omega) ?_
      rw [sx0.1]
      refine G_iload_n dX3_reasonAgainstSwapping_49 rfl ?_
      refine G_icmp_lt (tgt := 66) dX3_reasonAgainstSwapping_50 (by decide) (fun c50 => ?_) (fun c50 => ?_)
      · refine G_iconst (v := 4) dX3_reasonAgainstSwapping_66 (by decide) ?_
        refine G_iret dX3_reasonAgainstSwapping_67 rfl rfl (Nat.le_of_ble_eq_true rfl) (Nat.le_of_ble_eq_true rfl) ?_
        rw [if_pos (Or.inl c50)] at h
        exact h
      · refine G_aload dX3_reasonAgainstSwapping_53 rfl ?_
        refine gf_X3_190 dX3_reasonAgainstSwapping_55 hj (show y < 12 by omega) ?_
        refine gf_X3_139 dX3_reasonAgainstSwapping_58 hj (show 2 * y + 1 < 24 by omega) ?_
        rw [sy1.1]
        refine G_iload dX3_reasonAgainstSwapping_61 rfl ?_
        refine G_icmp_ge (tgt := 68) dX3_reasonAgainstSwapping_63 (by decide) (fun c63 => ?_) (fun c63 => ?_)
        · rw [if_neg (fun q => q.elim c50 (Int32.not_lt.mpr c63))] at h
          refine G_aload dX3_reasonAgainstSwapping_68 rfl ?_
          refine gf_X3_186 dX3_reasonAgainstSwapping_70 hj (show y < 12 by omega) ?_
          refine G_iload_n dX3_reasonAgainstSwapping_73 rfl ?_
          refine cv_X3_182 (cs' := 0) (ss' := 0) dX3_reasonAgainstSwapping_74 hj (show 2 * y < 24 by omega) (Nat.le_of_ble_eq_true rfl) (Nat.le_of_ble_eq_true rfl) (Nat.le_of_ble_eq_true rfl) rfl rfl (Nat.le_of_ble_eq_true rfl) (Nat.le_of_ble_eq_true rfl) rfl ?_
          refine s_X2_hasRoomFor hj (by omega) sy0 (hGo_i ?_)
          by_cases hr : nI n ≤ 20 - nI (A.s (2 * y)).length
          · rw [if_pos hr]
            refine G_if_eq (tgt := 97) dX3_reasonAgainstSwapping_77 (by decide) (fun c77 => ?_) (fun c77 => ?_)
            · exact absurd c77 (by decide)
            · refine G_aload dX3_reasonAgainstSwapping_80 rfl ?_
              refine gf_X3_190 dX3_reasonAgainstSwapping_82 hj (show x < 12 by omega) ?_
              refine G_iload dX3_reasonAgainstSwapping_85 rfl ?_
              refine cv_X3_182 (cs' := 0) (ss' := 0) dX3_reasonAgainstSwapping_87 hj (show 2 * x + 1 < 24 by omega) (Nat.le_of_ble_eq_true rfl) (Nat.le_of_ble_eq_true rfl) (Nat.le_of_ble_eq_true rfl) rfl rfl (Nat.le_of_ble_eq_true rfl) (Nat.le_of_ble_eq_true rfl) rfl ?_
              refine s_X2_hasRoomFor hj (by omega) sx1 (hGo_i ?_)
              by_cases hr2 : nI m ≤ 20 - nI (A.s (2 * x + 1)).length
              · rw [if_pos hr2]
                refine G_if_eq (tgt := 97) dX3_reasonAgainstSwapping_90 (by decide) (fun c90 => ?_) (fun c90 => ?_)
                · exact absurd c90 (by decide)
                · refine G_iconst (v := 0) dX3_reasonAgainstSwapping_93 (by decide) ?_
                  refine G_goto (tgt := 98) dX3_reasonAgainstSwapping_94 (by decide) ?_
                  refine G_iret dX3_reasonAgainstSwapping_98 rfl rfl (Nat.le_of_ble_eq_true rfl) (Nat.le_of_ble_eq_true rfl) ?_
                  rw [if_pos ⟨hr, hr2⟩] at h
                  exact h
              · rw [if_neg hr2]
                refine G_if_eq (tgt := 97) dX3_reasonAgainstSwapping_90 (by decide) (fun c90 => ?_) (fun c90 => ?_)
                · refine G_iconst (v := 3) dX3_reasonAgainstSwapping_97 (by decide) ?_
                  refine G_iret dX3_reasonAgainstSwapping_98 rfl rfl (Nat.le_of_ble_eq_true rfl) (Nat.le_of_ble_eq_true rfl) ?_
                  rw [if_neg (fun q => hr2 q.2)] at h
                  exact h
                · exact absurd rfl c90
          · rw [if_neg hr]
            refine G_if_eq (tgt := 97) dX3_reasonAgainstSwapping_77 (by decide) (fun c77 => ?_) (fun c77 => ?_)
            · refine G_iconst (v := 3) dX3_reasonAgainstSwapping_97 (by decide) ?_
              refine G_iret dX3_reasonAgainstSwapping_98 rfl rfl (Nat.le_of_ble_eq_true rfl) (Nat.le_of_ble_eq_true rfl) ?_
              rw [if_neg (fun q => hr q.1)] at h
              exact h
            · exact absurd rfl c77
        · refine G_iconst (v := 4) dX3_reasonAgainstSwapping_66 (by decide) ?_
          refine G_iret dX3_reasonAgainstSwapping_67 rfl rfl (Nat.le_of_ble_eq_true rfl) (Nat.le_of_ble_eq_true rfl) ?_
          rw [if_pos (Or.inr (Int32.not_le.mp c63))] at h
          exact h
    refine G_aload dX3_reasonAgainstSwapping_23 rfl ?_
    refine cv_X3_142 (cs' := 0) (ss' := 0) dX3_reasonAgainstSwapping_25 hj (show x < 12 by omega) (Nat.le_of_ble_eq_true rfl) (Nat.le_of_ble_eq_true rfl) (Nat.le_of_ble_eq_true rfl) rfl rfl (Nat.le_of_ble_eq_true rfl) (Nat.le_of_ble_eq_true rfl) rfl ?_
    refine s_X1_isDetained hj (by omega) (hA.f hx) (hGo_i ?_)
    by_cases hd1 : 0 < A.f x 8
    · rw [if_pos hd1]
      refine G_if_ne (tgt := 39) dX3_reasonAgainstSwapping_28 (by decide) (fun c28 => ?_) (fun c28 => ?_)
      · refine G_iconst (v := 1) dX3_reasonAgainstSwapping_39 (by decide) ?_
        refine G_iret dX3_reasonAgainstSwapping_40 rfl rfl (Nat.le_of_ble_eq_true rfl) (Nat.le_of_ble_eq_true rfl) ?_
        rw [if_pos (Or.inl hd1)] at h
        exact h
      · exact absurd c28 (by decide)
    · rw [if_neg hd1]
      refine G_if_ne (tgt := 39) dX3_reasonAgainstSwapping_28 (by decide) (fun c28 => ?_) (fun c28 => ?_)
      · exact absurd rfl c28
      · refine G_aload dX3_reasonAgainstSwapping_31 rfl ?_
        refine cv_X3_142 (cs' := 0) (ss' := 0) dX3_reasonAgainstSwapping_33 hj (show y < 12 by omega) (Nat.le_of_ble_eq_true rfl) (Nat.le_of_ble_eq_true rfl) (Nat.le_of_ble_eq_true rfl) rfl rfl (Nat.le_of_ble_eq_true rfl) (Nat.le_of_ble_eq_true rfl) rfl ?_
        refine s_X1_isDetained hj (by omega) (hA.f hy) (hGo_i ?_)
        by_cases hd2 : 0 < A.f y 8
        · rw [if_pos hd2]
          refine G_if_eq (tgt := 41) dX3_reasonAgainstSwapping_36 (by decide) (fun c36 => ?_) (fun c36 => ?_)
          · exact absurd c36 (by decide)
          · refine G_iconst (v := 1) dX3_reasonAgainstSwapping_39 (by decide) ?_
            refine G_iret dX3_reasonAgainstSwapping_40 rfl rfl (Nat.le_of_ble_eq_true rfl) (Nat.le_of_ble_eq_true rfl) ?_
            rw [if_pos (Or.inr hd2)] at h
            exact h
        · rw [if_neg hd2]
          refine G_if_eq (tgt := 41) dX3_reasonAgainstSwapping_36 (by decide) (fun c36 => ?_) (fun c36 => ?_)
          · exact G_lv2 (go (fun q => q.elim hd1 hd2)) ⟨rfl, rfl, rfl, rfl, rfl, rfl, rfl, trivial⟩
          · exact absurd rfl c36
  · have hxy : x = y := by
      have c18' : nI x = nI y := c18
      rwa [nI_eq (by omega) (by omega)] at c18'
    rw [if_pos hxy] at h
    refine G_iconst (v := 5) dX3_reasonAgainstSwapping_21 (by decide) ?_
    refine G_iret dX3_reasonAgainstSwapping_22 rfl rfl (Nat.le_of_ble_eq_true rfl) (Nat.le_of_ble_eq_true rfl) ?_
    exact h
def rMove (A : Ab) (x : Nat) (r t : Int32) : Int32 := if 0 < A.f x 8 then 1 else if onV A r t = -1 then 0 else 7
theorem s_X3_reasonAgainstMoving {x : Nat} {r t : Int32} (hj : j < 10) (hA : CR M j A) (hx : x < A.n) (h : P (.inl (some (.int (rMove A x r t)))) M) : Sp E yX3_reasonAgainstMoving cX3_reasonAgainstMoving zX3_reasonAgainstMoving [.ref (ad E 7 j 0), .int (nI x), .int r, .int t] M P := by
  have h12 := hA.n12
  unfold rMove at h
  refine Sp_of (own := RX3) (by decide) rfl rfl (Nat.le_of_ble_eq_true rfl) (fun C => ?_)
  refine G_aload_n dX3_reasonAgainstMoving_0 rfl ?_
  refine gf_X3_11 dX3_reasonAgainstMoving_1 hj ?_
  refine G_iload_n dX3_reasonAgainstMoving_4 rfl ?_
  refine G_aald dX3_reasonAgainstMoving_5 ⟨hj, rfl⟩ rfl rfl rfl (show x < 12 by omega) (by decide) rfl ?_
  refine cv_X3_142 (cs' := 0) (ss' := 0) dX3_reasonAgainstMoving_6 hj (show x < 12 by omega) (Nat.le_of_ble_eq_true rfl) (Nat.le_of_ble_eq_true rfl) (Nat.le_of_ble_eq_true rfl) rfl rfl (Nat.le_of_ble_eq_true rfl) (Nat.le_of_ble_eq_true rfl) rfl ?_
  refine s_X1_isDetained hj (by omega) (hA.f hx) (hGo_i ?_)
  by_cases hd : 0 < A.f x 8
  · rw [if_pos hd] at h ⊢
    refine G_if_eq (tgt := 14) dX3_reasonAgainstMoving_9 (by decide) (fun c9 => ?_) (fun c9 => ?_)
    · exact absurd c9 (by decide)
    · refine G_iconst (v := 1) dX3_reasonAgainstMoving_12 (by decide) ?_
      refine G_iret dX3_reasonAgainstMoving_13 rfl rfl (Nat.le_of_ble_eq_true rfl) (Nat.le_of_ble_eq_true rfl) ?_
      exact h
  · rw [if_neg hd] at h ⊢
    refine G_if_eq (tgt := 14) dX3_reasonAgainstMoving_9 (by decide) (fun c9 => ?_) (fun c9 => ?_)
    · refine G_aload_n dX3_reasonAgainstMoving_14 rfl ?_
      refine G_iload_n dX3_reasonAgainstMoving_15 rfl ?_
      refine G_iload_n dX3_reasonAgainstMoving_16 rfl ?_
      refine cv_X3_109 (cs' := 0) (ss' := 0) dX3_reasonAgainstMoving_17 hj (Nat.le_of_ble_eq_true rfl) (Nat.le_of_ble_eq_true rfl) (Nat.le_of_ble_eq_true rfl) rfl rfl (Nat.le_of_ble_eq_true rfl) (Nat.le_of_ble_eq_true rfl) rfl ?_
      refine s_X3_pupilOn hj hA (hGo_i ?_)
      refine G_iconst (v := (-1)) dX3_reasonAgainstMoving_20 (by decide) ?_
      refine G_icmp_ne (tgt := 28) dX3_reasonAgainstMoving_21 (by decide) (fun c21 => ?_) (fun c21 => ?_)
      · rw [if_neg c21] at h
        refine G_bipush (v := 7) dX3_reasonAgainstMoving_28 (by decide) ?_
        refine G_iret dX3_reasonAgainstMoving_30 rfl rfl (Nat.le_of_ble_eq_true rfl) (Nat.le_of_ble_eq_true rfl) ?_
        exact h
      · rw [if_pos c21] at h
        refine G_iconst (v := 0) dX3_reasonAgainstMoving_24 (by decide) ?_
        refine G_goto (tgt := 30) dX3_reasonAgainstMoving_25 (by decide) ?_
        refine G_iret dX3_reasonAgainstMoving_30 rfl rfl (Nat.le_of_ble_eq_true rfl) (Nat.le_of_ble_eq_true rfl) ?_
        exact h
    · exact absurd rfl c9
-- weeks looked at
/-- how many pieces are handed in -/
def hdV (A : Ab) (x s : Nat) : Int32 := imin (A.g (4 + s)) (nI (A.s (2 * x + s)).length)
def hdN (A : Ab) (x s : Nat) : Nat := min (A.g (4 + s)).toNatClampNeg (A.s (2 * x + s)).length
theorem s_X3_handedIn {x s : Nat} (hj : j < 10) (hA : CR M j A) (hx : x < A.n) (hs : s < 2) (h : P (.inl (some (.int (hdV A x s)))) M) : Sp E yX3_handedIn cX3_handedIn zX3_handedIn [.ref (ad E 7 j 0), .ref (ad E 12 j x), .int (nI s)] M P := by
  have h12 := hA.n12
  refine Sp_of (own := RX3) (by decide) rfl rfl (Nat.le_of_ble_eq_true rfl) (fun C => ?_)
  refine G_aload_n dX3_handedIn_0 rfl ?_
  refine G_iload_n dX3_handedIn_1 rfl ?_
  refine cv_X3_263 (cs' := 0) (ss' := 0) dX3_handedIn_2 hj (Nat.le_of_ble_eq_true rfl) (Nat.le_of_ble_eq_true rfl) (Nat.le_of_ble_eq_true rfl) rfl rfl (Nat.le_of_ble_eq_true rfl) (Nat.le_of_ble_eq_true rfl) rfl ?_
  refine s_X3_due hj hA hs (hGo_i ?_)
  refine G_aload_n dX3_handedIn_5 rfl ?_
  refine G_iload_n dX3_handedIn_6 rfl ?_
  refine cv_X3_135 (cs' := 0) (ss' := 0) dX3_handedIn_7 hj (show x < 12 by omega) (Nat.le_of_ble_eq_true rfl) (Nat.le_of_ble_eq_true rfl) (Nat.le_of_ble_eq_true rfl) rfl rfl (Nat.le_of_ble_eq_true rfl) (Nat.le_of_ble_eq_true rfl) rfl ?_
  refine s_X1_satchel hj (by omega) hs (hGo_a ?_)
  refine gf_X3_139 dX3_handedIn_10 hj (show 2 * x + s < 24 by omega) ?_
  rw [(hA.s hx hs).1]
  refine G_mmin dX3_handedIn_13 (hqx 1030 (by decide +kernel) rfl) (hqx 358 (by decide +kernel) rfl) (hqx 15 (by decide +kernel) rfl) (hqx 359 (by decide +kernel) rfl) (Nat.le_of_ble_eq_true rfl) (Nat.le_of_ble_eq_true rfl) (Nat.le_of_ble_eq_true rfl) (Nat.le_of_ble_eq_true rfl) ?_
  refine G_iret dX3_handedIn_16 rfl rfl (Nat.le_of_ble_eq_true rfl) (Nat.le_of_ble_eq_true rfl) ?_
  exact h
theorem hd_N {x s : Nat} (hl : (A.s (2 * x + s)).length ≤ 20) (hg : 0 ≤ A.g (4 + s)) : hdV A x s = nI (hdN A x s) := by
  obtain ⟨a, ha, e⟩ := nI_of (Int32.not_lt.mpr hg)
  unfold hdV hdN imin
  rw [e, nI_clamp ha]
  by_cases h : (A.s (2 * x + s)).length < a
  · rw [if_pos (nI_lt h ha), Nat.min_eq_right (Nat.le_of_lt h)]
  · rw [if_neg (nI_nlt (a := (A.s (2 * x + s)).length) (b := a) (by omega) (by omega)), Nat.min_eq_left (by omega)]
theorem s_X3_lackingOf {x s : Nat} (hj : j < 10) (hA : CR M j A) (hx : x < A.n) (hs : s < 2) (h : P (.inl (some (.int (A.g (4 + s) - hdV A x s)))) M) : Sp E yX3_lackingOf cX3_lackingOf zX3_lackingOf [.ref (ad E 7 j 0), .ref (ad E 12 j x), .int (nI s)] M P := by
  have h12 := hA.n12
  refine Sp_of (own := RX3) (by decide) rfl rfl (Nat.le_of_ble_eq_true rfl) (fun C => ?_)
  refine G_aload_n dX3_lackingOf_0 rfl ?_
  refine G_iload_n dX3_lackingOf_1 rfl ?_
  refine cv_X3_263 (cs' := 0) (ss' := 0) dX3_lackingOf_2 hj (Nat.le_of_ble_eq_true rfl) (Nat.le_of_ble_eq_true rfl) (Nat.le_of_ble_eq_true rfl) rfl rfl (Nat.le_of_ble_eq_true rfl) (Nat.le_of_ble_eq_true rfl) rfl ?_
  refine s_X3_due hj hA hs (hGo_i ?_)
  refine G_aload_n dX3_lackingOf_5 rfl ?_
  refine G_aload_n dX3_lackingOf_6 rfl ?_
  refine G_iload_n dX3_lackingOf_7 rfl ?_
  refine cv_X3_238 (cs' := 0) (ss' := 0) dX3_lackingOf_8 hj (Nat.le_of_ble_eq_true rfl) (Nat.le_of_ble_eq_true rfl) (Nat.le_of_ble_eq_true rfl) rfl rfl (Nat.le_of_ble_eq_true rfl) (Nat.le_of_ble_eq_true rfl) rfl ?_
  refine s_X3_handedIn hj hA hx hs (hGo_i ?_)
  refine G_isub dX3_lackingOf_11 ?_
  refine G_iret dX3_lackingOf_12 rfl rfl (Nat.le_of_ble_eq_true rfl) (Nat.le_of_ble_eq_true rfl) ?_
  exact h
def lackV (A : Ab) (x : Nat) : Int32 := A.g 4 - hdV A x 0 + (A.g 5 - hdV A x 1)
theorem s_X3_lacking {x : Nat} (hj : j < 10) (hA : CR M j A) (hx : x < A.n) (h : P (.inl (some (.int (lackV A x)))) M) : Sp E yX3_lacking cX3_lacking zX3_lacking [.ref (ad E 7 j 0), .ref (ad E 12 j x)] M P := by
  refine Sp_of (own := RX3) (by decide) rfl rfl (Nat.le_of_ble_eq_true rfl) (fun C => ?_)
  refine G_aload_n dX3_lacking_0 rfl ?_
  refine G_aload_n dX3_lacking_1 rfl ?_
  refine G_iconst (v := 0) dX3_lacking_2 (by decide) ?_
  refine cv_X3_271 (cs' := 0) (ss' := 0) dX3_lacking_3 hj (Nat.le_of_ble_eq_true rfl) (Nat.le_of_ble_eq_true rfl) (Nat.le_of_ble_eq_true rfl) rfl rfl (Nat.le_of_ble_eq_true rfl) (Nat.le_of_ble_eq_true rfl) rfl ?_
  refine s_X3_lackingOf (s := 0) hj hA hx (by decide) (hGo_i ?_)
  refine G_aload_n dX3_lacking_6 rfl ?_
  refine G_aload_n dX3_lacking_7 rfl ?_
  refine G_iconst (v := 1) dX3_lacking_8 (by decide) ?_
  refine cv_X3_271 (cs' := 0) (ss' := 0) dX3_lacking_9 hj (Nat.le_of_ble_eq_true rfl) (Nat.le_of_ble_eq_true rfl) (Nat.le_of_ble_eq_true rfl) rfl rfl (Nat.le_of_ble_eq_true rfl) (Nat.le_of_ble_eq_true rfl) rfl ?_
  refine s_X3_lackingOf (s := 1) hj hA hx (by decide) (hGo_i ?_)
  refine G_iadd dX3_lacking_12 ?_
  refine G_iret dX3_lacking_13 rfl rfl (Nat.le_of_ble_eq_true rfl) (Nat.le_of_ble_eq_true rfl) ?_
  exact h
def growV (A : Ab) (x : Nat) : Int32 := grow (nI x) (A.s (2 * x)) (A.s (2 * x + 1)) (hdN A x 0) (hdN A x 1)
theorem s_X3_proofOfHandingIn {x : Nat} (hj : j < 10) (hA : CR M j A) (hx : x < A.n) (h4 : 0 ≤ A.g 4) (h5 : 0 ≤ A.g 5) (h : P (.inl (some (.int (growV A x)))) M) : Sp E yX3_proofOfHandingIn cX3_proofOfHandingIn zX3_proofOfHandingIn [.ref (ad E 7 j 0), .ref (ad E 12 j x)] M P := by
  have h12 := hA.n12
  refine Sp_of (own := RX3) (by decide) rfl rfl (Nat.le_of_ble_eq_true rfl) (fun C => ?_)
  refine G_aload_n dX3_proofOfHandingIn_0 rfl ?_
  refine G_aload_n dX3_proofOfHandingIn_1 rfl ?_
  refine G_aload_n dX3_proofOfHandingIn_2 rfl ?_
  refine G_iconst (v := 0) dX3_proofOfHandingIn_3 (by decide) ?_
  refine cv_X3_238 (cs' := 0) (ss' := 0) dX3_proofOfHandingIn_4 hj (Nat.le_of_ble_eq_true rfl) (Nat.le_of_ble_eq_true rfl) (Nat.le_of_ble_eq_true rfl) rfl rfl (Nat.le_of_ble_eq_true rfl) (Nat.le_of_ble_eq_true rfl) rfl ?_
  refine s_X3_handedIn (s := 0) hj hA hx (by decide) (hGo_i ?_)
  refine G_aload_n dX3_proofOfHandingIn_7 rfl ?_
  refine G_aload_n dX3_proofOfHandingIn_8 rfl ?_
  refine G_iconst (v := 1) dX3_proofOfHandingIn_9 (by decide) ?_
  refine cv_X3_238 (cs' := 0) (ss' := 0) dX3_proofOfHandingIn_10 hj (Nat.le_of_ble_eq_true rfl) (Nat.le_of_ble_eq_true rfl) (Nat.le_of_ble_eq_true rfl) rfl rfl (Nat.le_of_ble_eq_true rfl) (Nat.le_of_ble_eq_true rfl) rfl ?_
  refine s_X3_handedIn (s := 1) hj hA hx (by decide) (hGo_i ?_)
  rw [hd_N (s := 0) (hA.s hx (t := 0) (by decide)).2.1 h4, hd_N (s := 1) (hA.s hx (t := 1) (by decide)).2.1 h5]
  refine cv_X3_245 (cs' := 0) (ss' := 0) dX3_proofOfHandingIn_13 hj (show x < 12 by omega) (Nat.le_of_ble_eq_true rfl) (Nat.le_of_ble_eq_true rfl) (Nat.le_of_ble_eq_true rfl) rfl rfl (Nat.le_of_ble_eq_true rfl) (Nat.le_of_ble_eq_true rfl) rfl ?_
  refine s_X1_proofOf hj (by omega) (hA.pup hx) (Nat.min_le_right _ _) (Nat.min_le_right _ _) (hGo_i ?_)
  refine G_iret dX3_proofOfHandingIn_16 rfl rfl (Nat.le_of_ble_eq_true rfl) (Nat.le_of_ble_eq_true rfl) ?_
  exact h
theorem s_X3_proofLookedAt {x : Nat} (hj : j < 10) (hA : CR M j A) (hx : x < A.n) (h4 : 0 ≤ A.g 4) (h5 : 0 ≤ A.g 5) (h : P (.inl (some (.int (A.f x 6 + growV A x)))) M) : Sp E yX3_proofLookedAt cX3_proofLookedAt zX3_proofLookedAt [.ref (ad E 7 j 0), .ref (ad E 12 j x)] M P := by
  have h12 := hA.n12
  refine Sp_of (own := RX3) (by decide) rfl rfl (Nat.le_of_ble_eq_true rfl) (fun C => ?_)
  refine G_aload_n dX3_proofLookedAt_0 rfl ?_
  refine gf_X3_242 dX3_proofLookedAt_1 hj (show x < 12 by omega) ?_
  rw [show M.1 12 j x 7 = A.f x 6 from hA.f hx 6 (by decide)]
  refine G_aload_n dX3_proofLookedAt_4 rfl ?_
  refine G_aload_n dX3_proofLookedAt_5 rfl ?_
  refine cv_X3_274 (cs' := 0) (ss' := 0) dX3_proofLookedAt_6 hj (Nat.le_of_ble_eq_true rfl) (Nat.le_of_ble_eq_true rfl) (Nat.le_of_ble_eq_true rfl) rfl rfl (Nat.le_of_ble_eq_true rfl) (Nat.le_of_ble_eq_true rfl) rfl ?_
  refine s_X3_proofOfHandingIn hj hA hx h4 h5 (hGo_i ?_)
  refine G_iadd dX3_proofLookedAt_9 ?_
  refine G_iret dX3_proofLookedAt_10 rfl rfl (Nat.le_of_ble_eq_true rfl) (Nat.le_of_ble_eq_true rfl) ?_
  exact h
def imax (x y : Int32) : Int32 := if x < y then y else x
def detV (A : Ab) (x : Nat) (w : Int32) : Int32 := if w < A.g 3 then imax (A.f x 8 - 1) 0 else imin (1 + (w - A.g 3) / 3) 9
theorem s_X3_detentionBehind {x : Nat} {w : Int32} (hj : j < 10) (hA : CR M j A) (hx : x < A.n) (h : P (.inl (some (.int (detV A x w)))) M) : Sp E yX3_detentionBehind cX3_detentionBehind zX3_detentionBehind [.ref (ad E 7 j 0), .ref (ad E 12 j x), .int w] M P := by
  have h12 := hA.n12
  have e3 : M.1 7 j 0 6 = A.g 3 := hA.g (t := 2) (by decide)
  unfold detV at h
  refine Sp_of (own := RX3) (by decide) rfl rfl (Nat.le_of_ble_eq_true rfl) (fun C => ?_)
  refine G_iload_n dX3_detentionBehind_0 rfl ?_
  refine G_aload_n dX3_detentionBehind_1 rfl ?_
  refine gf_X3_54 dX3_detentionBehind_2 hj ?_
  rw [e3]
  refine G_icmp_lt (tgt := 24) dX3_detentionBehind_5 (by decide) (fun c5 => ?_) (fun c5 => ?_)
  · rw [if_pos c5] at h
    refine G_aload_n dX3_detentionBehind_24 rfl ?_
    refine gf_X3_254 dX3_detentionBehind_25 hj (show x < 12 by omega) ?_
    rw [show M.1 12 j x 9 = A.f x 8 from hA.f hx 8 (by decide)]
    refine G_iconst (v := 1) dX3_detentionBehind_28 (by decide) ?_
    refine G_isub dX3_detentionBehind_29 ?_
    refine G_iconst (v := 0) dX3_detentionBehind_30 (by decide) ?_
    refine G_mmax dX3_detentionBehind_31 (hqx 1131 (by decide +kernel) rfl) (hqx 674 (by decide +kernel) rfl) (hqx 15 (by decide +kernel) rfl) (hqx 675 (by decide +kernel) rfl) (Nat.le_of_ble_eq_true rfl) (Nat.le_of_ble_eq_true rfl) (Nat.le_of_ble_eq_true rfl) (Nat.le_of_ble_eq_true rfl) ?_
    refine G_iret dX3_detentionBehind_34 rfl rfl (Nat.le_of_ble_eq_true rfl) (Nat.le_of_ble_eq_true rfl) ?_
    exact h
  · rw [if_neg c5] at h
    refine G_iconst (v := 1) dX3_detentionBehind_8 (by decide) ?_
    refine G_iload_n dX3_detentionBehind_9 rfl ?_
    refine G_aload_n dX3_detentionBehind_10 rfl ?_
    refine gf_X3_54 dX3_detentionBehind_11 hj ?_
    rw [e3]
    refine G_isub dX3_detentionBehind_14 ?_
    refine G_iconst (v := 3) dX3_detentionBehind_15 (by decide) ?_
    refine G_idiv dX3_detentionBehind_16 (by decide) ?_
    refine G_iadd dX3_detentionBehind_17 ?_
    refine G_bipush (v := 9) dX3_detentionBehind_18 (by decide) ?_
    refine G_mmin dX3_detentionBehind_20 (hqx 1030 (by decide +kernel) rfl) (hqx 358 (by decide +kernel) rfl) (hqx 15 (by decide +kernel) rfl) (hqx 359 (by decide +kernel) rfl) (Nat.le_of_ble_eq_true rfl) (Nat.le_of_ble_eq_true rfl) (Nat.le_of_ble_eq_true rfl) (Nat.le_of_ble_eq_true rfl) ?_
    refine G_iret dX3_detentionBehind_23 rfl rfl (Nat.le_of_ble_eq_true rfl) (Nat.le_of_ble_eq_true rfl) ?_
    exact h
def beyP (A : Ab) (x i : Nat) : Bool := decide (dg A.d i 0 = nI x ∧ nI (A.s (2 * x + (dg A.d i 2).toNatClampNeg)).length < dg A.d i 3)
def beyV (A : Ab) (x : Nat) : Int32 := first A.d.length (beyP A x)
theorem s_X3_debtBeyondSatchel {x : Nat} (hj : j < 10) (hA : CR M j A) (hx : x < A.n) (hw : ∀ i, i < A.d.length → ∃ s, s < 2 ∧ dg A.d i 2 = nI s) (h : P (.inl (some (.int (beyV A x)))) M) : Sp E yX3_debtBeyondSatchel cX3_debtBeyondSatchel zX3_debtBeyondSatchel [.ref (ad E 7 j 0), .ref (ad E 12 j x)] M P := by
  have h12 := hA.n12
  have hd := hA.d
  have h30 := hd.2.1
  have exn : M.1 12 j x 0 = nI x := (hA.pup hx).1
  refine Sp_of (own := RX3) (by decide) rfl rfl (Nat.le_of_ble_eq_true rfl) (fun C => ?_)
  refine G_iconst (v := 0) dX3_debtBeyondSatchel_0 (by decide) ?_
  refine G_istore_n dX3_debtBeyondSatchel_1 (Nat.le_of_ble_eq_true rfl) ?_
  refine G_lv (lv' := [(0, .ref (ad E 7 j 0)), (1, .ref (ad E 12 j x)), (2, .int (nI 0))]) ⟨rfl, rfl, rfl, trivial⟩ ?_
  refine up0 (c := A.d.length) (H := fun i => (∀ k, k < i → beyP A x k = false) → G E C RX3 cX3_debtBeyondSatchel zX3_debtBeyondSatchel P 0 0 M 2 [(0, .ref (ad E 7 j 0)), (1, .ref (ad E 12 j x)), (2, .int (nI i))] []) ?_ (fun i hi ih => ?_) (fun k hk => absurd hk (Nat.not_lt_zero k))
  · intro hn
    refine G_iload_n dX3_debtBeyondSatchel_2 rfl ?_
    refine G_aload_n dX3_debtBeyondSatchel_3 rfl ?_
    refine gf_X3_20 dX3_debtBeyondSatchel_4 hj ?_
    refine gf_X3_96 dX3_debtBeyondSatchel_7 hj ?_
    refine G_icmp_ge (tgt := 68) dX3_debtBeyondSatchel_10 (by decide) (fun c10 => ?_) (fun c10 => ?_)
    · refine G_iconst (v := (-1)) dX3_debtBeyondSatchel_68 (by decide) ?_
      refine G_iret dX3_debtBeyondSatchel_69 rfl rfl (Nat.le_of_ble_eq_true rfl) (Nat.le_of_ble_eq_true rfl) ?_
      rw [show beyV A x = -1 from first_none hn] at h
      exact h
    · rw [hd.1] at c10
      exact absurd (Int32.le_refl _) c10
  · intro hn
    have next : beyP A x i = false → G E C RX3 cX3_debtBeyondSatchel zX3_debtBeyondSatchel P 0 0 M 62 [(0, .ref (ad E 7 j 0)), (1, .ref (ad E 12 j x)), (2, .int (nI i))] [] := by
      intro hp
      refine G_iinc (v := 1) dX3_debtBeyondSatchel_62 rfl (Nat.le_of_ble_eq_true rfl) (by decide) ?_
      refine G_goto (tgt := 2) dX3_debtBeyondSatchel_65 (by decide) ?_
      refine G_lv ?_ (ih (fun k hk => (Nat.lt_succ_iff_lt_or_eq.mp hk).elim (hn k) (fun q => q ▸ hp)))
      exact ⟨rfl, rfl, lvi (nI_1 i), trivial⟩
    obtain ⟨s, hs, es⟩ := hw i hi
    refine G_iload_n dX3_debtBeyondSatchel_2 rfl ?_
    refine G_aload_n dX3_debtBeyondSatchel_3 rfl ?_
    refine gf_X3_20 dX3_debtBeyondSatchel_4 hj ?_
    refine gf_X3_96 dX3_debtBeyondSatchel_7 hj ?_
    refine G_icmp_ge (tgt := 68) dX3_debtBeyondSatchel_10 (by decide) (fun c10 => ?_) (fun c10 => ?_)
    · rw [hd.1] at c10
      exact absurd c10 (nI_ge hi (by omega))
    · refine G_aload_n dX3_debtBeyondSatchel_13 rfl ?_
      refine gf_X3_20 dX3_debtBeyondSatchel_14 hj ?_
      refine gf_X3_289 dX3_debtBeyondSatchel_17 hj ?_
      refine G_iload_n dX3_debtBeyondSatchel_20 rfl ?_
      refine G_iald dX3_debtBeyondSatchel_21 ⟨hj, (by decide)⟩ rfl rfl (show i < 30 by omega) (by decide) ?_
      refine G_aload_n dX3_debtBeyondSatchel_22 rfl ?_
      refine gf_X3_292 dX3_debtBeyondSatchel_23 hj (show x < 12 by omega) ?_
      rw [hd.2.2 i hi 0 (by decide), exn]
      refine G_icmp_eq (tgt := 32) dX3_debtBeyondSatchel_26 (by decide) (fun c26 => ?_) (fun c26 => ?_)
      · refine G_aload_n dX3_debtBeyondSatchel_32 rfl ?_
        refine gf_X3_20 dX3_debtBeyondSatchel_33 hj ?_
        refine gf_X3_295 dX3_debtBeyondSatchel_36 hj ?_
        refine G_iload_n dX3_debtBeyondSatchel_39 rfl ?_
        refine G_iald dX3_debtBeyondSatchel_40 ⟨hj, (by decide)⟩ rfl rfl (show i < 30 by omega) (by decide) ?_
        rw [hd.2.2 i hi 3 (by decide)]
        refine G_aload_n dX3_debtBeyondSatchel_41 rfl ?_
        refine G_aload_n dX3_debtBeyondSatchel_42 rfl ?_
        refine gf_X3_20 dX3_debtBeyondSatchel_43 hj ?_
        refine gf_X3_298 dX3_debtBeyondSatchel_46 hj ?_
        refine G_iload_n dX3_debtBeyondSatchel_49 rfl ?_
        refine G_iald dX3_debtBeyondSatchel_50 ⟨hj, (by decide)⟩ rfl rfl (show i < 30 by omega) (by decide) ?_
        rw [hd.2.2 i hi 2 (by decide), es]
        refine cv_X3_135 (cs' := 0) (ss' := 0) dX3_debtBeyondSatchel_51 hj (show x < 12 by omega) (Nat.le_of_ble_eq_true rfl) (Nat.le_of_ble_eq_true rfl) (Nat.le_of_ble_eq_true rfl) rfl rfl (Nat.le_of_ble_eq_true rfl) (Nat.le_of_ble_eq_true rfl) rfl ?_
        refine s_X1_satchel hj (by omega) hs (hGo_a ?_)
        refine gf_X3_139 dX3_debtBeyondSatchel_54 hj (show 2 * x + s < 24 by omega) ?_
        rw [(hA.s hx hs).1]
        have ebey : beyP A x i = decide (dg A.d i 0 = nI x ∧ nI (A.s (2 * x + s)).length < dg A.d i 3) := by
          unfold beyP
          rw [es, nI_clamp (by omega)]
        refine G_icmp_le (tgt := 62) dX3_debtBeyondSatchel_57 (by decide) (fun c57 => ?_) (fun c57 => ?_)
        · exact next (by rw [ebey]; exact decide_eq_false (fun q => Int32.not_lt.mpr c57 q.2))
        · refine G_iload_n dX3_debtBeyondSatchel_60 rfl ?_
          refine G_iret dX3_debtBeyondSatchel_61 rfl rfl (Nat.le_of_ble_eq_true rfl) (Nat.le_of_ble_eq_true rfl) ?_
          rw [show beyV A x = nI i from first_at hi hn (by rw [ebey]; exact decide_eq_true ⟨c26, Int32.not_le.mp c57⟩)] at h
          exact h
      · refine G_goto (tgt := 62) dX3_debtBeyondSatchel_29 (by decide) ?_
        exact next (decide_eq_false (fun q => c26 q.1))
def standV (A : Ab) (x : Nat) : Int32 := if 0 < A.f x 8 then 1 else if A.g 3 ≤ A.f x 6 + growV A x then 2 else if 0 < lackV A x then 3 else if beyV A x = -1 then 5 else 4
theorem s_X3_standing {x : Nat} (hj : j < 10) (hA : CR M j A) (hx : x < A.n) (h4 : 0 ≤ A.g 4) (h5 : 0 ≤ A.g 5) (hw : ∀ i, i < A.d.length → ∃ s, s < 2 ∧ dg A.d i 2 = nI s) (h : P (.inl (some (.int (standV A x)))) M) : Sp E yX3_standing cX3_standing zX3_standing [.ref (ad E 7 j 0), .ref (ad E 12 j x)] M P := by
  have h12 := hA.n12
  have e3 : M.1 7 j 0 6 = A.g 3 := hA.g (t := 2) (by decide)
  unfold standV at h
  refine Sp_of (own := RX3) (by decide) rfl rfl (Nat.le_of_ble_eq_true rfl) (fun C => ?_)
  refine G_aload_n dX3_standing_0 rfl ?_
  refine cv_X3_142 (cs' := 0) (ss' := 0) dX3_standing_1 hj (show x < 12 by omega) (Nat.le_of_ble_eq_true rfl) (Nat.le_of_ble_eq_true rfl) (Nat.le_of_ble_eq_true rfl) rfl rfl (Nat.le_of_ble_eq_true rfl) (Nat.le_of_ble_eq_true rfl) rfl ?_
  refine s_X1_isDetained hj (by omega) (hA.f hx) (hGo_i ?_)
  by_cases hd : 0 < A.f x 8
  · rw [if_pos hd] at h ⊢
    refine G_if_eq (tgt := 9) dX3_standing_4 (by decide) (fun c4 => ?_) (fun c4 => ?_)
    · exact absurd c4 (by decide)
    · refine G_iconst (v := 1) dX3_standing_7 (by decide) ?_
      refine G_iret dX3_standing_8 rfl rfl (Nat.le_of_ble_eq_true rfl) (Nat.le_of_ble_eq_true rfl) ?_
      exact h
  · rw [if_neg hd] at h ⊢
    refine G_if_eq (tgt := 9) dX3_standing_4 (by decide) (fun c4 => ?_) (fun c4 => ?_)
    · refine G_aload_n dX3_standing_9 rfl ?_
      refine G_aload_n dX3_standing_10 rfl ?_
      refine cv_X3_280 (cs' := 0) (ss' := 0) dX3_standing_11 hj (Nat.le_of_ble_eq_true rfl) (Nat.le_of_ble_eq_true rfl) (Nat.le_of_ble_eq_true rfl) rfl rfl (Nat.le_of_ble_eq_true rfl) (Nat.le_of_ble_eq_true rfl) rfl ?_
      refine s_X3_proofLookedAt hj hA hx h4 h5 (hGo_i ?_)
      refine G_aload_n dX3_standing_14 rfl ?_
      refine gf_X3_54 dX3_standing_15 hj ?_
      rw [e3]
      refine G_icmp_lt (tgt := 23) dX3_standing_18 (by decide) (fun c18 => ?_) (fun c18 => ?_)
      · rw [if_neg (Int32.not_le.mpr c18)] at h
        refine G_aload_n dX3_standing_23 rfl ?_
        refine G_aload_n dX3_standing_24 rfl ?_
        refine cv_X3_283 (cs' := 0) (ss' := 0) dX3_standing_25 hj (Nat.le_of_ble_eq_true rfl) (Nat.le_of_ble_eq_true rfl) (Nat.le_of_ble_eq_true rfl) rfl rfl (Nat.le_of_ble_eq_true rfl) (Nat.le_of_ble_eq_true rfl) rfl ?_
        refine s_X3_lacking hj hA hx (hGo_i ?_)
        refine G_if_le (tgt := 33) dX3_standing_28 (by decide) (fun c28 => ?_) (fun c28 => ?_)
        · rw [if_neg (Int32.not_lt.mpr c28)] at h
          refine G_aload_n dX3_standing_33 rfl ?_
          refine G_aload_n dX3_standing_34 rfl ?_
          refine cv_X3_286 (cs' := 0) (ss' := 0) dX3_standing_35 hj (Nat.le_of_ble_eq_true rfl) (Nat.le_of_ble_eq_true rfl) (Nat.le_of_ble_eq_true rfl) rfl rfl (Nat.le_of_ble_eq_true rfl) (Nat.le_of_ble_eq_true rfl) rfl ?_
          refine s_X3_debtBeyondSatchel hj hA hx hw (hGo_i ?_)
          refine G_iconst (v := (-1)) dX3_standing_38 (by decide) ?_
          refine G_icmp_ne (tgt := 46) dX3_standing_39 (by decide) (fun c39 => ?_) (fun c39 => ?_)
          · rw [if_neg c39] at h
            refine G_iconst (v := 4) dX3_standing_46 (by decide) ?_
            refine G_iret dX3_standing_47 rfl rfl (Nat.le_of_ble_eq_true rfl) (Nat.le_of_ble_eq_true rfl) ?_
            exact h
          · rw [if_pos c39] at h
            refine G_iconst (v := 5) dX3_standing_42 (by decide) ?_
            refine G_goto (tgt := 47) dX3_standing_43 (by decide) ?_
            refine G_iret dX3_standing_47 rfl rfl (Nat.le_of_ble_eq_true rfl) (Nat.le_of_ble_eq_true rfl) ?_
            exact h
        · rw [if_pos (Int32.not_le.mp c28)] at h
          refine G_iconst (v := 3) dX3_standing_31 (by decide) ?_
          refine G_iret dX3_standing_32 rfl rfl (Nat.le_of_ble_eq_true rfl) (Nat.le_of_ble_eq_true rfl) ?_
          exact h
      · rw [if_pos (Int32.not_lt.mp c18)] at h
        refine G_iconst (v := 2) dX3_standing_21 (by decide) ?_
        refine G_iret dX3_standing_22 rfl rfl (Nat.le_of_ble_eq_true rfl) (Nat.le_of_ble_eq_true rfl) ?_
        exact h
    · exact absurd rfl c4
end CREA
