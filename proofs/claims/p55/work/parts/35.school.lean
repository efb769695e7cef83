/-! ===== HomeworkBarter$School: what there is, spies ===== -/
section CSCH
variable {E : Ed} {M : Mm} {P : Res → Mm → Prop} {j : Nat} {A : Ab}
theorem G_lv2 {C : Cx} {own : String} {b : ByteArray} {z : Zd} {cs ss pc : Nat} {lv lv' : List (Nat × Value)} {st : List Value} (g : G E C own b z P cs ss M pc lv' st) (h : lvAll lv lv') : G E C own b z P cs ss M pc lv st := G_lv h g
theorem CR.n (h : CR M j A) : M.1 7 j 0 3 = nI A.n := h.1.1
theorem CR.n12 (h : CR M j A) : A.n ≤ 12 := h.1.2
theorem CR.g (h : CR M j A) {t : Nat} (ht : t < 5) : M.1 7 j 0 (4 + t) = A.g (1 + t) := h.2.1 t ht
theorem CR.tl (h : CR M j A) {t : Nat} (ht : t < 10) : M.1 11 j 0 t = A.g (7 + t) := h.2.2.1 t ht
theorem CR.f (h : CR M j A) {p : Nat} (hp : p < A.n) : ∀ t, t < 10 → M.1 12 j p (pF t) = A.f p t := h.2.2.2.2.1 p hp
theorem CR.s (h : CR M j A) {p : Nat} (hp : p < A.n) {t : Nat} (ht : t < 2) : Sat M j (2 * p + t) (A.s (2 * p + t)) := h.2.2.2.2.2.1 _ (by omega)
theorem CR.d (h : CR M j A) : Dbt M j A.d := h.2.2.2.2.2.2
theorem s_X3_has {x : Int32} (hj : j < 10) (hA : CR M j A) (h : P (.inl (some (.int (if 0 ≤ x ∧ x < nI A.n then 1 else 0)))) M) : Sp E yX3_has cX3_has zX3_has [.ref (ad E 7 j 0), .int x] M P := by
  refine Sp_of (own := RX3) (by decide) rfl rfl (Nat.le_of_ble_eq_true rfl) (fun C => ?_)
  refine G_iload_n dX3_has_0 rfl ?_
  refine G_if_lt (tgt := 16) dX3_has_1 (by decide) (fun c1 => ?_) (fun c1 => ?_)
  · refine G_iconst (v := 0) dX3_has_16 (by decide) ?_
    refine G_iret dX3_has_17 rfl rfl (Nat.le_of_ble_eq_true rfl) (Nat.le_of_ble_eq_true rfl) ?_
    rw [if_neg (fun q => Int32.not_le.mpr c1 q.1)] at h
    exact h
  · refine G_iload_n dX3_has_4 rfl ?_
    refine G_aload_n dX3_has_5 rfl ?_
    refine gf_X3_31 dX3_has_6 hj ?_
    refine G_icmp_ge (tgt := 16) dX3_has_9 (by decide) (fun c9 => ?_) (fun c9 => ?_)
    · refine G_iconst (v := 0) dX3_has_16 (by decide) ?_
      refine G_iret dX3_has_17 rfl rfl (Nat.le_of_ble_eq_true rfl) (Nat.le_of_ble_eq_true rfl) ?_
      rw [hA.n] at c9
      rw [if_neg (fun q => Int32.not_le.mpr q.2 c9)] at h
      exact h
    · refine G_iconst (v := 1) dX3_has_12 (by decide) ?_
      refine G_goto (tgt := 17) dX3_has_13 (by decide) ?_
      refine G_iret dX3_has_17 rfl rfl (Nat.le_of_ble_eq_true rfl) (Nat.le_of_ble_eq_true rfl) ?_
      rw [hA.n] at c9
      rw [if_pos ⟨Int32.not_lt.mp c1, Int32.not_le.mp c9⟩] at h
      exact h
theorem s_X3_due {s : Nat} (hj : j < 10) (hA : CR M j A) (hs : s < 2) (h : P (.inl (some (.int (A.g (4 + s))))) M) : Sp E yX3_due cX3_due zX3_due [.ref (ad E 7 j 0), .int (nI s)] M P := by
  refine Sp_of (own := RX3) (by decide) rfl rfl (Nat.le_of_ble_eq_true rfl) (fun C => ?_)
  rcases (show s = 0 ∨ s = 1 by omega) with rfl | rfl
  · refine G_iload_n dX3_due_0 rfl ?_
    refine G_if_ne (tgt := 11) dX3_due_1 (by decide) (fun c1 => ?_) (fun c1 => ?_)
    · exact absurd rfl c1
    · refine G_aload_n dX3_due_4 rfl ?_
      refine gf_X3_57 dX3_due_5 hj ?_
      refine G_goto (tgt := 15) dX3_due_8 (by decide) ?_
      refine G_iret dX3_due_15 rfl rfl (Nat.le_of_ble_eq_true rfl) (Nat.le_of_ble_eq_true rfl) ?_
      rw [show M.1 7 j 0 7 = A.g 4 from hA.g (t := 3) (by decide)]
      exact h
  · refine G_iload_n dX3_due_0 rfl ?_
    refine G_if_ne (tgt := 11) dX3_due_1 (by decide) (fun c1 => ?_) (fun c1 => ?_)
    · refine G_aload_n dX3_due_11 rfl ?_
      refine gf_X3_60 dX3_due_12 hj ?_
      refine G_iret dX3_due_15 rfl rfl (Nat.le_of_ble_eq_true rfl) (Nat.le_of_ble_eq_true rfl) ?_
      rw [show M.1 7 j 0 8 = A.g 5 from hA.g (t := 4) (by decide)]
      exact h
    · exact absurd c1 (by decide)
theorem s_X3_otherSubject {s : Nat} (hs : s < 2) (h : P (.inl (some (.int (nI (1 - s))))) M) : Sp E yX3_otherSubject cX3_otherSubject zX3_otherSubject [.int (nI s)] M P := by
  refine Sp_of (own := RX3) (by decide) rfl rfl (Nat.le_of_ble_eq_true rfl) (fun C => ?_)
  rcases (show s = 0 ∨ s = 1 by omega) with rfl | rfl
  · refine G_iload_n dX3_otherSubject_0 rfl ?_
    refine G_if_ne (tgt := 8) dX3_otherSubject_1 (by decide) (fun c1 => ?_) (fun c1 => ?_)
    · exact absurd rfl c1
    · refine G_iconst (v := 1) dX3_otherSubject_4 (by decide) ?_
      refine G_goto (tgt := 9) dX3_otherSubject_5 (by decide) ?_
      refine G_iret dX3_otherSubject_9 rfl rfl (Nat.le_of_ble_eq_true rfl) (Nat.le_of_ble_eq_true rfl) ?_
      exact h
  · refine G_iload_n dX3_otherSubject_0 rfl ?_
    refine G_if_ne (tgt := 8) dX3_otherSubject_1 (by decide) (fun c1 => ?_) (fun c1 => ?_)
    · refine G_iconst (v := 0) dX3_otherSubject_8 (by decide) ?_
      refine G_iret dX3_otherSubject_9 rfl rfl (Nat.le_of_ble_eq_true rfl) (Nat.le_of_ble_eq_true rfl) ?_
      exact h
    · exact absurd c1 (by decide)
def piecesV (A : Ab) (s : Nat) : Int32 := sm A.n (fun p => nI (A.s (2 * p + s)).length)
theorem s_X3_piecesOf {s : Nat} (hj : j < 10) (hA : CR M j A) (hs : s < 2) (h : P (.inl (some (.int (piecesV A s)))) M) : Sp E yX3_piecesOf cX3_piecesOf zX3_piecesOf [.ref (ad E 7 j 0), .int (nI s)] M P := by
  have h12 := hA.n12
  refine Sp_of (own := RX3) (by decide) rfl rfl (Nat.le_of_ble_eq_true rfl) (fun C => ?_)
  refine G_iconst (v := 0) dX3_piecesOf_0 (by decide) ?_
  refine G_istore_n dX3_piecesOf_1 (Nat.le_of_ble_eq_true rfl) ?_
  refine G_iconst (v := 0) dX3_piecesOf_2 (by decide) ?_
  refine G_istore_n dX3_piecesOf_3 (Nat.le_of_ble_eq_true rfl) ?_
  refine G_lv (lv' := [(0, .ref (ad E 7 j 0)), (1, .int (nI s)), (2, .int (sm 0 (fun p => nI (A.s (2 * p + s)).length))), (3, .int (nI 0))]) ⟨rfl, rfl, rfl, rfl, trivial⟩ ?_
  refine up0 (c := A.n) (H := fun i => G E C RX3 cX3_piecesOf zX3_piecesOf P 0 0 M 4 [(0, .ref (ad E 7 j 0)), (1, .int (nI s)), (2, .int (sm i (fun p => nI (A.s (2 * p + s)).length))), (3, .int (nI i))] []) ?_ (fun i hi ih => ?_)
  · refine G_iload_n dX3_piecesOf_4 rfl ?_
    refine G_aload_n dX3_piecesOf_5 rfl ?_
    refine gf_X3_31 dX3_piecesOf_6 hj ?_
    refine G_icmp_ge (tgt := 34) dX3_piecesOf_9 (by decide) (fun c9 => ?_) (fun c9 => ?_)
    · refine G_iload_n dX3_piecesOf_34 rfl ?_
      refine G_iret dX3_piecesOf_35 rfl rfl (Nat.le_of_ble_eq_true rfl) (Nat.le_of_ble_eq_true rfl) ?_
      exact h
    · rw [hA.n] at c9
      exact absurd (Int32.le_refl _) c9
  · refine G_iload_n dX3_piecesOf_4 rfl ?_
    refine G_aload_n dX3_piecesOf_5 rfl ?_
    refine gf_X3_31 dX3_piecesOf_6 hj ?_
    refine G_icmp_ge (tgt := 34) dX3_piecesOf_9 (by decide) (fun c9 => ?_) (fun c9 => ?_)
    · rw [hA.n] at c9
      exact absurd c9 (nI_ge hi (by omega))
    · refine G_iload_n dX3_piecesOf_12 rfl ?_
      refine G_aload_n dX3_piecesOf_13 rfl ?_
      refine gf_X3_11 dX3_piecesOf_14 hj ?_
      refine G_iload_n dX3_piecesOf_17 rfl ?_
      refine G_aald dX3_piecesOf_18 ⟨hj, rfl⟩ rfl rfl rfl (show i < 12 by omega) (by decide) rfl ?_
      refine G_iload_n dX3_piecesOf_19 rfl ?_
      refine cv_X3_135 (cs' := 0) (ss' := 0) dX3_piecesOf_20 hj (show i < 12 by omega) (Nat.le_of_ble_eq_true rfl) (Nat.le_of_ble_eq_true rfl) (Nat.le_of_ble_eq_true rfl) rfl rfl (Nat.le_of_ble_eq_true rfl) (Nat.le_of_ble_eq_true rfl) rfl ?_
      refine s_X1_satchel hj (by omega) hs (hGo_a ?_)
      refine gf_X3_139 dX3_piecesOf_23 hj (show 2 * i + s < 24 by omega) ?_
      rw [(hA.s hi hs).1]
      refine G_iadd dX3_piecesOf_26 ?_
      refine G_istore_n dX3_piecesOf_27 (Nat.le_of_ble_eq_true rfl) ?_
      refine G_iinc (v := 1) dX3_piecesOf_28 rfl (Nat.le_of_ble_eq_true rfl) (by decide) ?_
      refine G_goto (tgt := 4) dX3_piecesOf_31 (by decide) ?_
      refine G_lv ?_ ih
      exact ⟨rfl, rfl, rfl, lvi (nI_1 i), trivial⟩
theorem s_X3_detainedPupils (hj : j < 10) (hA : CR M j A) (h : P (.inl (some (.int (sm A.n (fun p => if 0 < A.f p 8 then 1 else 0))))) M) : Sp E yX3_detainedPupils cX3_detainedPupils zX3_detainedPupils [.ref (ad E 7 j 0)] M P := by
  have h12 := hA.n12
  refine Sp_of (own := RX3) (by decide) rfl rfl (Nat.le_of_ble_eq_true rfl) (fun C => ?_)
  refine G_iconst (v := 0) dX3_detainedPupils_0 (by decide) ?_
  refine G_istore_n dX3_detainedPupils_1 (Nat.le_of_ble_eq_true rfl) ?_
  refine G_iconst (v := 0) dX3_detainedPupils_2 (by decide) ?_
  refine G_istore_n dX3_detainedPupils_3 (Nat.le_of_ble_eq_true rfl) ?_
  refine G_lv (lv' := [(0, .ref (ad E 7 j 0)), (1, .int (sm 0 (fun p => if 0 < A.f p 8 then 1 else 0))), (2, .int (nI 0))]) ⟨rfl, rfl, rfl, trivial⟩ ?_
  refine up0 (c := A.n) (H := fun i => G E C RX3 cX3_detainedPupils zX3_detainedPupils P 0 0 M 4 [(0, .ref (ad E 7 j 0)), (1, .int (sm i (fun p => if 0 < A.f p 8 then 1 else 0))), (2, .int (nI i))] []) ?_ (fun i hi ih => ?_)
  · refine G_iload_n dX3_detainedPupils_4 rfl ?_
    refine G_aload_n dX3_detainedPupils_5 rfl ?_
    refine gf_X3_31 dX3_detainedPupils_6 hj ?_
    refine G_icmp_ge (tgt := 33) dX3_detainedPupils_9 (by decide) (fun c9 => ?_) (fun c9 => ?_)
    · refine G_iload_n dX3_detainedPupils_33 rfl ?_
      refine G_iret dX3_detainedPupils_34 rfl rfl (Nat.le_of_ble_eq_true rfl) (Nat.le_of_ble_eq_true rfl) ?_
      exact h
    · rw [hA.n] at c9
      exact absurd (Int32.le_refl _) c9
  · refine G_iload_n dX3_detainedPupils_4 rfl ?_
    refine G_aload_n dX3_detainedPupils_5 rfl ?_
    refine gf_X3_31 dX3_detainedPupils_6 hj ?_
    refine G_icmp_ge (tgt := 33) dX3_detainedPupils_9 (by decide) (fun c9 => ?_) (fun c9 => ?_)
    · rw [hA.n] at c9
      exact absurd c9 (nI_ge hi (by omega))
    · refine G_aload_n dX3_detainedPupils_12 rfl ?_
      refine gf_X3_11 dX3_detainedPupils_13 hj ?_
      refine G_iload_n dX3_detainedPupils_16 rfl ?_
      refine G_aald dX3_detainedPupils_17 ⟨hj, rfl⟩ rfl rfl rfl (show i < 12 by omega) (by decide) rfl ?_
      refine cv_X3_142 (cs' := 0) (ss' := 0) dX3_detainedPupils_18 hj (show i < 12 by omega) (Nat.le_of_ble_eq_true rfl) (Nat.le_of_ble_eq_true rfl) (Nat.le_of_ble_eq_true rfl) rfl rfl (Nat.le_of_ble_eq_true rfl) (Nat.le_of_ble_eq_true rfl) rfl ?_
      refine s_X1_isDetained hj (by omega) (hA.f hi) (hGo_i ?_)
      by_cases hd : 0 < A.f i 8
      · rw [if_pos hd]
        refine G_if_eq (tgt := 27) dX3_detainedPupils_21 (by decide) (fun c21 => ?_) (fun c21 => ?_)
        · exact absurd c21 (by decide)
        · refine G_iinc (v := 1) dX3_detainedPupils_24 rfl (Nat.le_of_ble_eq_true rfl) (by decide) ?_
          refine G_iinc (v := 1) dX3_detainedPupils_27 rfl (Nat.le_of_ble_eq_true rfl) (by decide) ?_
          refine G_goto (tgt := 4) dX3_detainedPupils_30 (by decide) ?_
          refine G_lv ?_ ih
          exact ⟨rfl, lvi (sm_t (if_pos hd)), lvi (nI_1 i), trivial⟩
      · rw [if_neg hd]
        refine G_if_eq (tgt := 27) dX3_detainedPupils_21 (by decide) (fun c21 => ?_) (fun c21 => ?_)
        · refine G_iinc (v := 1) dX3_detainedPupils_27 rfl (Nat.le_of_ble_eq_true rfl) (by decide) ?_
          refine G_goto (tgt := 4) dX3_detainedPupils_30 (by decide) ?_
          refine G_lv ?_ ih
          exact ⟨rfl, lvi (sm_0 (if_neg hd)), lvi (nI_1 i), trivial⟩
        · exact absurd rfl c21
theorem s_X3_spies (hj : j < 10) (hA : CR M j A) (h : P (.inl (some (.int (sm A.n (fun p => if A.f p 4 = 0 then 0 else 1))))) M) : Sp E yX3_spies cX3_spies zX3_spies [.ref (ad E 7 j 0)] M P := by
  have h12 := hA.n12
  refine Sp_of (own := RX3) (by decide) rfl rfl (Nat.le_of_ble_eq_true rfl) (fun C => ?_)
  refine G_iconst (v := 0) dX3_spies_0 (by decide) ?_
  refine G_istore_n dX3_spies_1 (Nat.le_of_ble_eq_true rfl) ?_
  refine G_iconst (v := 0) dX3_spies_2 (by decide) ?_
  refine G_istore_n dX3_spies_3 (Nat.le_of_ble_eq_true rfl) ?_
  refine G_lv (lv' := [(0, .ref (ad E 7 j 0)), (1, .int (sm 0 (fun p => if A.f p 4 = 0 then 0 else 1))), (2, .int (nI 0))]) ⟨rfl, rfl, rfl, trivial⟩ ?_
  refine up0 (c := A.n) (H := fun i => G E C RX3 cX3_spies zX3_spies P 0 0 M 4 [(0, .ref (ad E 7 j 0)), (1, .int (sm i (fun p => if A.f p 4 = 0 then 0 else 1))), (2, .int (nI i))] []) ?_ (fun i hi ih => ?_)
  · refine G_iload_n dX3_spies_4 rfl ?_
    refine G_aload_n dX3_spies_5 rfl ?_
    refine gf_X3_31 dX3_spies_6 hj ?_
    refine G_icmp_ge (tgt := 33) dX3_spies_9 (by decide) (fun c9 => ?_) (fun c9 => ?_)
    · refine G_iload_n dX3_spies_33 rfl ?_
      refine G_iret dX3_spies_34 rfl rfl (Nat.le_of_ble_eq_true rfl) (Nat.le_of_ble_eq_true rfl) ?_
      exact h
    · rw [hA.n] at c9
      exact absurd (Int32.le_refl _) c9
  · refine G_iload_n dX3_spies_4 rfl ?_
    refine G_aload_n dX3_spies_5 rfl ?_
    refine gf_X3_31 dX3_spies_6 hj ?_
    refine G_icmp_ge (tgt := 33) dX3_spies_9 (by decide) (fun c9 => ?_) (fun c9 => ?_)
    · rw [hA.n] at c9
      exact absurd c9 (nI_ge hi (by omega))
    · refine G_aload_n dX3_spies_12 rfl ?_
      refine gf_X3_11 dX3_spies_13 hj ?_
      refine G_iload_n dX3_spies_16 rfl ?_
      refine G_aald dX3_spies_17 ⟨hj, rfl⟩ rfl rfl rfl (show i < 12 by omega) (by decide) rfl ?_
      refine gf_X3_128 dX3_spies_18 hj (show i < 12 by omega) ?_
      rw [show M.1 12 j i 5 = A.f i 4 from hA.f hi 4 (by decide)]
      refine G_if_eq (tgt := 27) dX3_spies_21 (by decide) (fun c21 => ?_) (fun c21 => ?_)
      · refine G_iinc (v := 1) dX3_spies_27 rfl (Nat.le_of_ble_eq_true rfl) (by decide) ?_
        refine G_goto (tgt := 4) dX3_spies_30 (by decide) ?_
        refine G_lv ?_ ih
        exact ⟨rfl, lvi (sm_0 (if_pos c21)), lvi (nI_1 i), trivial⟩
      · refine G_iinc (v := 1) dX3_spies_24 rfl (Nat.le_of_ble_eq_true rfl) (by decide) ?_
        refine G_iinc (v := 1) dX3_spies_27 rfl (Nat.le_of_ble_eq_true rfl) (by decide) ?_
        refine G_goto (tgt := 4) dX3_spies_30 (by decide) ?_
        refine G_lv ?_ ih
        exact ⟨rfl, lvi (sm_t (if_neg c21)), lvi (nI_1 i), trivial⟩
theorem s_X3_allMarks (hj : j < 10) (hA : CR M j A) (h : P (.inl (some (.int (sm A.n (fun p => A.f p 7))))) M) : Sp E yX3_allMarks cX3_allMarks zX3_allMarks [.ref (ad E 7 j 0)] M P := by
  have h12 := hA.n12
  refine Sp_of (own := RX3) (by decide) rfl rfl (Nat.le_of_ble_eq_true rfl) (fun C => ?_)
  refine G_iconst (v := 0) dX3_allMarks_0 (by decide) ?_
  refine G_istore_n dX3_allMarks_1 (Nat.le_of_ble_eq_true rfl) ?_
  refine G_iconst (v := 0) dX3_allMarks_2 (by decide) ?_
  refine G_istore_n dX3_allMarks_3 (Nat.le_of_ble_eq_true rfl) ?_
  refine G_lv (lv' := [(0, .ref (ad E 7 j 0)), (1, .int (sm 0 (fun p => A.f p 7))), (2, .int (nI 0))]) ⟨rfl, rfl, rfl, trivial⟩ ?_
  refine up0 (c := A.n) (H := fun i => G E C RX3 cX3_allMarks zX3_allMarks P 0 0 M 4 [(0, .ref (ad E 7 j 0)), (1, .int (sm i (fun p => A.f p 7))), (2, .int (nI i))] []) ?_ (fun i hi ih => ?_)
  · refine G_iload_n dX3_allMarks_4 rfl ?_
    refine G_aload_n dX3_allMarks_5 rfl ?_
    refine gf_X3_31 dX3_allMarks_6 hj ?_
    refine G_icmp_ge (tgt := 30) dX3_allMarks_9 (by decide) (fun c9 => ?_) (fun c9 => ?_)
    · refine G_iload_n dX3_allMarks_30 rfl ?_
      refine G_iret dX3_allMarks_31 rfl rfl (Nat.le_of_ble_eq_true rfl) (Nat.le_of_ble_eq_true rfl) ?_
      exact h
    · rw [hA.n] at c9
      exact absurd (Int32.le_refl _) c9
  · refine G_iload_n dX3_allMarks_4 rfl ?_
    refine G_aload_n dX3_allMarks_5 rfl ?_
    refine gf_X3_31 dX3_allMarks_6 hj ?_
    refine G_icmp_ge (tgt := 30) dX3_allMarks_9 (by decide) (fun c9 => ?_) (fun c9 => ?_)
    · rw [hA.n] at c9
      exact absurd c9 (nI_ge hi (by omega))
    · refine G_iload_n dX3_allMarks_12 rfl ?_
      refine G_aload_n dX3_allMarks_13 rfl ?_
      refine gf_X3_11 dX3_allMarks_14 hj ?_
      refine G_iload_n dX3_allMarks_17 rfl ?_
      refine G_aald dX3_allMarks_18 ⟨hj, rfl⟩ rfl rfl rfl (show i < 12 by omega) (by decide) rfl ?_
      refine gf_X3_145 dX3_allMarks_19 hj (show i < 12 by omega) ?_
      rw [show M.1 12 j i 8 = A.f i 7 from hA.f hi 7 (by decide)]
      refine G_iadd dX3_allMarks_22 ?_
      refine G_istore_n dX3_allMarks_23 (Nat.le_of_ble_eq_true rfl) ?_
      refine G_iinc (v := 1) dX3_allMarks_24 rfl (Nat.le_of_ble_eq_true rfl) (by decide) ?_
      refine G_goto (tgt := 4) dX3_allMarks_27 (by decide) ?_
      refine G_lv ?_ ih
      exact ⟨rfl, rfl, lvi (nI_1 i), trivial⟩
def onV (A : Ab) (r t : Int32) : Int32 := first A.n (fun p => decide (A.f p 0 = r ∧ A.f p 1 = t))
theorem s_X3_pupilOn {r t : Int32} (hj : j < 10) (hA : CR M j A) (h : P (.inl (some (.int (onV A r t)))) M) : Sp E yX3_pupilOn cX3_pupilOn zX3_pupilOn [.ref (ad E 7 j 0), .int r, .int t] M P := by
  have h12 := hA.n12
  refine Sp_of (own := RX3) (by decide) rfl rfl (Nat.le_of_ble_eq_true rfl) (fun C => ?_)
  refine G_iconst (v := 0) dX3_pupilOn_0 (by decide) ?_
  refine G_istore_n dX3_pupilOn_1 (Nat.le_of_ble_eq_true rfl) ?_
  refine G_lv (lv' := [(0, .ref (ad E 7 j 0)), (1, .int r), (2, .int t), (3, .int (nI 0))]) ⟨rfl, rfl, rfl, rfl, trivial⟩ ?_
  refine up0 (c := A.n) (H := fun i => (∀ k, k < i → decide (A.f k 0 = r ∧ A.f k 1 = t) = false) → G E C RX3 cX3_pupilOn zX3_pupilOn P 0 0 M 2 [(0, .ref (ad E 7 j 0)), (1, .int r), (2, .int t), (3, .int (nI i))] []) ?_ (fun i hi ih => ?_) (fun k hk => absurd hk (Nat.not_lt_zero k))
  · intro hn
    refine G_iload_n dX3_pupilOn_2 rfl ?_
    refine G_aload_n dX3_pupilOn_3 rfl ?_
    refine gf_X3_31 dX3_pupilOn_4 hj ?_
    refine G_icmp_ge (tgt := 44) dX3_pupilOn_7 (by decide) (fun c7 => ?_) (fun c7 => ?_)
    · refine G_iconst (v := (-1)) dX3_pupilOn_44 (by decide) ?_
      refine G_iret dX3_pupilOn_45 rfl rfl (Nat.le_of_ble_eq_true rfl) (Nat.le_of_ble_eq_true rfl) ?_
      rw [show onV A r t = -1 from first_none hn] at h
      exact h
    · rw [hA.n] at c7
      exact absurd (Int32.le_refl _) c7
  · intro hn
    have e0 : M.1 12 j i 3 = A.f i 0 := hA.f hi 0 (by decide)
    have e1 : M.1 12 j i 4 = A.f i 1 := hA.f hi 1 (by decide)
    have next : decide (A.f i 0 = r ∧ A.f i 1 = t) = false → G E C RX3 cX3_pupilOn zX3_pupilOn P 0 0 M 38 [(0, .ref (ad E 7 j 0)), (1, .int r), (2, .int t), (3, .int (nI i))] [] := by
      intro hp
      refine G_iinc (v := 1) dX3_pupilOn_38 rfl (Nat.le_of_ble_eq_true rfl) (by decide) ?_
      refine G_goto (tgt := 2) dX3_pupilOn_41 (by decide) ?_
      refine G_lv ?_ (ih (fun k hk => (Nat.lt_succ_iff_lt_or_eq.mp hk).elim (hn k) (fun q => q ▸ hp)))
      exact ⟨rfl, rfl, rfl, lvi (nI_1 i), trivial⟩
    refine G_iload_n dX3_pupilOn_2 rfl ?_
    refine G_aload_n dX3_pupilOn_3 rfl ?_
    refine gf_X3_31 dX3_pupilOn_4 hj ?_
    refine G_icmp_ge (tgt := 44) dX3_pupilOn_7 (by decide) (fun c7 => ?_) (fun c7 => ?_)
    · rw [hA.n] at c7
      exact absurd c7 (nI_ge hi (by omega))
    · refine G_aload_n dX3_pupilOn_10 rfl ?_
      refine gf_X3_11 dX3_pupilOn_11 hj ?_
      refine G_iload_n dX3_pupilOn_14 rfl ?_
      refine G_aald dX3_pupilOn_15 ⟨hj, rfl⟩ rfl rfl rfl (show i < 12 by omega) (by decide) rfl ?_
      refine gf_X3_148 dX3_pupilOn_16 hj (show i < 12 by omega) ?_
      refine G_iload_n dX3_pupilOn_19 rfl ?_
      refine G_icmp_ne (tgt := 38) dX3_pupilOn_20 (by decide) (fun c20 => ?_) (fun c20 => ?_)
      · rw [e0] at c20
        exact next (decide_eq_false (fun q => c20 q.1))
      · refine G_aload_n dX3_pupilOn_23 rfl ?_
        refine gf_X3_11 dX3_pupilOn_24 hj ?_
        refine G_iload_n dX3_pupilOn_27 rfl ?_
        refine G_aald dX3_pupilOn_28 ⟨hj, rfl⟩ rfl rfl rfl (show i < 12 by omega) (by decide) rfl ?_
        refine gf_X3_151 dX3_pupilOn_29 hj (show i < 12 by omega) ?_
        refine G_iload_n dX3_pupilOn_32 rfl ?_
        refine G_icmp_ne (tgt := 38) dX3_pupilOn_33 (by decide) (fun c33 => ?_) (fun c33 => ?_)
        · rw [e1] at c33
          exact next (decide_eq_false (fun q => c33 q.2))
        · refine G_iload_n dX3_pupilOn_36 rfl ?_
          refine G_iret dX3_pupilOn_37 rfl rfl (Nat.le_of_ble_eq_true rfl) (Nat.le_of_ble_eq_true rfl) ?_
          rw [e0] at c20
          rw [e1] at c33
          rw [show onV A r t = nI i from first_at hi hn (decide_eq_true ⟨c20, c33⟩)] at h
          exact h
/-- the set of those below n with p -/
def bs (p : Nat → Bool) : Nat → Int32
  | 0 => 0
  | n + 1 => if p n = true then bs p n ||| (1 <<< (nI n &&& 31)) else bs p n
/-- NEAR -/
def nr (A : Ab) (i k : Nat) : Bool := decide (iabs (A.f i 0 - A.f k 0) ≤ 1 ∧ iabs (A.f i 1 - A.f k 1) ≤ 1)
def nearsV (A : Ab) (x : Nat) : Int32 := bs (fun i => decide (i ≠ x) && nr A i x) A.n
theorem s_X3_pupilsNear {x : Nat} (hj : j < 10) (hA : CR M j A) (hx : x < A.n) (h : P (.inl (some (.int (nearsV A x)))) M) : Sp E yX3_pupilsNear cX3_pupilsNear zX3_pupilsNear [.ref (ad E 7 j 0), .int (nI x)] M P := by
  have h12 := hA.n12
  have ex0 : M.1 12 j x 3 = A.f x 0 := hA.f hx 0 (by decide)
  have ex1 : M.1 12 j x 4 = A.f x 1 := hA.f hx 1 (by decide)
  refine Sp_of (own := RX3) (by decide) rfl rfl (Nat.le_of_ble_eq_true rfl) (fun C => ?_)
  refine G_aload_n dX3_pupilsNear_0 rfl ?_
  refine gf_X3_11 dX3_pupilsNear_1 hj ?_
  refine G_iload_n dX3_pupilsNear_4 rfl ?_
  refine G_aald dX3_pupilsNear_5 ⟨hj, rfl⟩ rfl rfl rfl (show x < 12 by omega) (by decide) rfl ?_
  refine G_astore_n dX3_pupilsNear_6 (Nat.le_of_ble_eq_true rfl) ?_
  refine G_iconst (v := 0) dX3_pupilsNear_7 (by decide) ?_
  refine G_istore_n dX3_pupilsNear_8 (Nat.le_of_ble_eq_true rfl) ?_
  refine G_iconst (v := 0) dX3_pupilsNear_9 (by decide) ?_
  refine G_istore dX3_pupilsNear_10 (Nat.le_of_ble_eq_true rfl) ?_
  refine G_lv (lv' := [(0, .ref (ad E 7 j 0)), (1, .int (nI x)), (2, .ref (ad E 12 j x)), (3, .int (bs (fun i => decide (i ≠ x) && nr A i x) 0)), (4, .int (nI 0))]) ⟨rfl, rfl, rfl, rfl, rfl, trivial⟩ ?_
  refine up0 (c := A.n) (H := fun i => G E C RX3 cX3_pupilsNear zX3_pupilsNear P 0 0 M 12 [(0, .ref (ad E 7 j 0)), (1, .int (nI x)), (2, .ref (ad E 12 j x)), (3, .int (bs (fun i => decide (i ≠ x) && nr A i x) i)), (4, .int (nI i))] []) ?_ (fun i hi ih => ?_)
  · refine G_iload dX3_pupilsNear_12 rfl ?_
    refine G_aload_n dX3_pupilsNear_14 rfl ?_
    refine gf_X3_31 dX3_pupilsNear_15 hj ?_
    refine G_icmp_ge (tgt := 61) dX3_pupilsNear_18 (by decide) (fun c18 => ?_) (fun c18 => ?_)
    · refine G_iload_n dX3_pupilsNear_61 rfl ?_
      refine G_iret dX3_pupilsNear_62 rfl rfl (Nat.le_of_ble_eq_true rfl) (Nat.le_of_ble_eq_true rfl) ?_
      exact h
    · rw [hA.n] at c18
      exact absurd (Int32.le_refl _) c18
  · have next : ∀ v : Int32, v = bs (fun i => decide (i ≠ x) && nr A i x) (i + 1) → G E C RX3 cX3_pupilsNear zX3_pupilsNear P 0 0 M 55 [(0, .ref (ad E 7 j 0)), (1, .int (nI x)), (2, .ref (ad E 12 j x)), (3, .int v), (4, .int (nI i))] [] := by
      intro v hv
      refine G_iinc (v := 1) dX3_pupilsNear_55 rfl (Nat.le_of_ble_eq_true rfl) (by decide) ?_
      refine G_goto (tgt := 12) dX3_pupilsNear_58 (by decide) ?_
      refine G_lv ?_ ih
      exact ⟨rfl, rfl, rfl, lvi hv, lvi (nI_1 i), trivial⟩
    refine G_iload dX3_pupilsNear_12 rfl ?_
    refine G_aload_n dX3_pupilsNear_14 rfl ?_
    refine gf_X3_31 dX3_pupilsNear_15 hj ?_
    refine G_icmp_ge (tgt := 61) dX3_pupilsNear_18 (by decide) (fun c18 => ?_) (fun c18 => ?_)
    · rw [hA.n] at c18
      exact absurd c18 (nI_ge hi (by omega))
    · refine G_iload dX3_pupilsNear_21 rfl ?_
      refine G_iload_n dX3_pupilsNear_23 rfl ?_
      refine G_icmp_eq (tgt := 55) dX3_pupilsNear_24 (by decide) (fun c24 => ?_) (fun c24 => ?_)
      · have hix : i = x := by
          rwa [nI_eq (by omega) (by omega)] at c24
        refine next _ ?_
        show _ = if (decide (i ≠ x) && nr A i x) = true then _ else _
        rw [if_neg (by simp [hix])]
      · have hix : i ≠ x := fun q => c24 (by rw [q])
        refine G_aload_n dX3_pupilsNear_27 rfl ?_
        refine gf_X3_11 dX3_pupilsNear_28 hj ?_
        refine G_iload dX3_pupilsNear_31 rfl ?_
        refine G_aald dX3_pupilsNear_33 ⟨hj, rfl⟩ rfl rfl rfl (show i < 12 by omega) (by decide) rfl ?_
        refine G_aload_n dX3_pupilsNear_34 rfl ?_
        refine gf_X3_148 dX3_pupilsNear_35 hj (show x < 12 by omega) ?_
        refine G_aload_n dX3_pupilsNear_38 rfl ?_
        refine gf_X3_151 dX3_pupilsNear_39 hj (show x < 12 by omega) ?_
        refine cv_X3_154 (cs' := 0) (ss' := 0) dX3_pupilsNear_42 hj (show i < 12 by omega) (Nat.le_of_ble_eq_true rfl) (Nat.le_of_ble_eq_true rfl) (Nat.le_of_ble_eq_true rfl) rfl rfl (Nat.le_of_ble_eq_true rfl) (Nat.le_of_ble_eq_true rfl) rfl ?_
        rw [ex0, ex1]
        refine s_X1_isNearBench hj (by omega) (hA.f hi) (hGo_i ?_)
        by_cases hn : iabs (A.f i 0 - A.f x 0) ≤ 1 ∧ iabs (A.f i 1 - A.f x 1) ≤ 1
        · rw [if_pos hn]
          refine G_if_eq (tgt := 55) dX3_pupilsNear_45 (by decide) (fun c45 => ?_) (fun c45 => ?_)
          · exact absurd c45 (by decide)
          · refine G_iload_n dX3_pupilsNear_48 rfl ?_
            refine G_iconst (v := 1) dX3_pupilsNear_49 (by decide) ?_
            refine G_iload dX3_pupilsNear_50 rfl ?_
            refine G_ishl dX3_pupilsNear_52 ?_
            refine G_ior dX3_pupilsNear_53 ?_
            refine G_istore_n dX3_pupilsNear_54 (Nat.le_of_ble_eq_true rfl) ?_
            refine G_lv ?_ (next (bs (fun i => decide (i ≠ x) && nr A i x) i ||| (1 <<< (nI i &&& 31))) ?_)
            · exact ⟨rfl, rfl, rfl, rfl, rfl, trivial⟩
            · show _ = if (decide (i ≠ x) && nr A i x) = true then _ else _
              rw [if_pos (by simp [hix, nr, hn])]
        · rw [if_neg hn]
          refine G_if_eq (tgt := 55) dX3_pupilsNear_45 (by decide) (fun c45 => ?_) (fun c45 => ?_)
          · refine next _ ?_
            show _ = if (decide (i ≠ x) && nr A i x) = true then _ else _
            rw [if_neg (by simp [nr, hn])]
          · exact absurd rfl c45
/-- the place by skill: how many stand ahead -/
def rkP (A : Ab) (x s i : Nat) : Bool := decide (A.f x (2 + s) < A.f i (2 + s) ∨ A.f i (2 + s) = A.f x (2 + s) ∧ i < x)
def rankV (A : Ab) (x s : Nat) : Int32 := sm A.n (fun i => if rkP A x s i = true then 1 else 0)
theorem s_X3_rank {x s : Nat} (hj : j < 10) (hA : CR M j A) (hx : x < A.n) (hs : s < 2) (h : P (.inl (some (.int (rankV A x s)))) M) : Sp E yX3_rank cX3_rank zX3_rank [.ref (ad E 7 j 0), .int (nI x), .int (nI s)] M P := by
  have h12 := hA.n12
  refine Sp_of (own := RX3) (by decide) rfl rfl (Nat.le_of_ble_eq_true rfl) (fun C => ?_)
  refine G_aload_n dX3_rank_0 rfl ?_
  refine gf_X3_11 dX3_rank_1 hj ?_
  refine G_iload_n dX3_rank_4 rfl ?_
  refine G_aald dX3_rank_5 ⟨hj, rfl⟩ rfl rfl rfl (show x < 12 by omega) (by decide) rfl ?_
  refine G_iload_n dX3_rank_6 rfl ?_
  refine cv_X3_158 (cs' := 0) (ss' := 0) dX3_rank_7 hj (show x < 12 by omega) (Nat.le_of_ble_eq_true rfl) (Nat.le_of_ble_eq_true rfl) (Nat.le_of_ble_eq_true rfl) rfl rfl (Nat.le_of_ble_eq_true rfl) (Nat.le_of_ble_eq_true rfl) rfl ?_
  refine s_X1_skill hj (by omega) hs (hA.f hx) (hGo_i ?_)
  refine G_istore_n dX3_rank_10 (Nat.le_of_ble_eq_true rfl) ?_
  refine G_iconst (v := 0) dX3_rank_11 (by decide) ?_
  refine G_istore dX3_rank_12 (Nat.le_of_ble_eq_true rfl) ?_
  refine G_iconst (v := 0) dX3_rank_14 (by decide) ?_
  refine G_istore dX3_rank_15 (Nat.le_of_ble_eq_true rfl) ?_
  refine G_lv (lv' := [(0, .ref (ad E 7 j 0)), (1, .int (nI x)), (2, .int (nI s)), (3, .int (A.f x (2 + s))), (4, .int (sm 0 (fun i => if rkP A x s i = true then 1 else 0))), (5, .int (nI 0))]) ⟨rfl, rfl, rfl, rfl, rfl, rfl, trivial⟩ ?_
  refine up0 (c := A.n) (H := fun i => G E C RX3 cX3_rank zX3_rank P 0 0 M 17 [(0, .ref (ad E 7 j 0)), (1, .int (nI x)), (2, .int (nI s)), (3, .int (A.f x (2 + s))), (4, .int (sm i (fun i => if rkP A x s i = true then 1 else 0))), (5, .int (nI i))] []) ?_ (fun i hi ih => ?_)
  · refine G_iload dX3_rank_17 rfl ?_
    refine G_aload_n dX3_rank_19 rfl ?_
    refine gf_X3_31 dX3_rank_20 hj ?_
    refine G_icmp_ge (tgt := 66) dX3_rank_23 (by decide) (fun c23 => ?_) (fun c23 => ?_)
    · refine G_iload dX3_rank_66 rfl ?_
      refine G_iret dX3_rank_68 rfl rfl (Nat.le_of_ble_eq_true rfl) (Nat.le_of_ble_eq_true rfl) ?_
      exact h
    · rw [hA.n] at c23
      exact absurd (Int32.le_refl _) c23
  · have add : rkP A x s i = true → ∀ w : Int32, G E C RX3 cX3_rank zX3_rank P 0 0 M 57 [(0, .ref (ad E 7 j 0)), (1, .int (nI x)), (2, .int (nI s)), (3, .int (A.f x (2 + s))), (4, .int (sm i (fun i => if rkP A x s i = true then 1 else 0))), (5, .int (nI i)), (6, .int w)] [] := by
      intro hp w
      refine G_iinc (v := 1) dX3_rank_57 rfl (Nat.le_of_ble_eq_true rfl) (by decide) ?_
      refine G_iinc (v := 1) dX3_rank_60 rfl (Nat.le_of_ble_eq_true rfl) (by decide) ?_
      refine G_goto (tgt := 17) dX3_rank_63 (by decide) ?_
      refine G_lv ?_ ih
      exact ⟨rfl, rfl, rfl, rfl, lvi (sm_t (if_pos hp)), lvi (nI_1 i), trivial⟩
    have skip : rkP A x s i = false → ∀ w : Int32, G E C RX3 cX3_rank zX3_rank P 0 0 M 60 [(0, .ref (ad E 7 j 0)), (1, .int (nI x)), (2, .int (nI s)), (3, .int (A.f x (2 + s))), (4, .int (sm i (fun i => if rkP A x s i = true then 1 else 0))), (5, .int (nI i)), (6, .int w)] [] := by
      intro hp w
      refine G_iinc (v := 1) dX3_rank_60 rfl (Nat.le_of_ble_eq_true rfl) (by decide) ?_
      refine G_goto (tgt := 17) dX3_rank_63 (by decide) ?_
      refine G_lv ?_ ih
      exact ⟨rfl, rfl, rfl, rfl, lvi (sm_0 (if_neg (by rw [hp]; decide))), lvi (nI_1 i), trivial⟩
    refine G_iload dX3_rank_17 rfl ?_
    refine G_aload_n dX3_rank_19 rfl ?_
    refine gf_X3_31 dX3_rank_20 hj ?_
    refine G_icmp_ge (tgt := 66) dX3_rank_23 (by decide) (fun c23 => ?_) (fun c23 => ?_)
    · rw [hA.n] at c23
      exact absurd c23 (nI_ge hi (by omega))
    · refine G_aload_n dX3_rank_26 rfl ?_
      refine gf_X3_11 dX3_rank_27 hj ?_
      refine G_iload dX3_rank_30 rfl ?_
      refine G_aald dX3_rank_32 ⟨hj, rfl⟩ rfl rfl rfl (show i < 12 by omega) (by decide) rfl ?_
      refine G_iload_n dX3_rank_33 rfl ?_
      refine cv_X3_158 (cs' := 0) (ss' := 0) dX3_rank_34 hj (show i < 12 by omega) (Nat.le_of_ble_eq_true rfl) (Nat.le_of_ble_eq_true rfl) (Nat.le_of_ble_eq_true rfl) rfl rfl (Nat.le_of_ble_eq_true rfl) (Nat.le_of_ble_eq_true rfl) rfl ?_
      refine s_X1_skill hj (by omega) hs (hA.f hi) (hGo_i ?_)
      refine G_istore dX3_rank_37 (Nat.le_of_ble_eq_true rfl) ?_
      refine G_iload dX3_rank_39 rfl ?_
      refine G_iload_n dX3_rank_41 rfl ?_
      refine G_icmp_gt (tgt := 57) dX3_rank_42 (by decide) (fun c42 => ?_) (fun c42 => ?_)
      · exact G_lv2 (add (decide_eq_true (Or.inl c42)) _) ⟨rfl, rfl, rfl, rfl, rfl, rfl, rfl, trivial⟩
      · refine G_iload dX3_rank_45 rfl ?_
        refine G_iload_n dX3_rank_47 rfl ?_
        refine G_icmp_ne (tgt := 60) dX3_rank_48 (by decide) (fun c48 => ?_) (fun c48 => ?_)
        · exact G_lv2 (skip (decide_eq_false (fun q => q.elim c42 (fun q => c48 q.1))) _) ⟨rfl, rfl, rfl, rfl, rfl, rfl, rfl, trivial⟩
        · refine G_iload dX3_rank_51 rfl ?_
          refine G_iload_n dX3_rank_53 rfl ?_
          refine G_icmp_ge (tgt := 60) dX3_rank_54 (by decide) (fun c54 => ?_) (fun c54 => ?_)
          · refine G_lv2 (skip (decide_eq_false (fun q => q.elim c42 (fun q => ?_))) _) ⟨rfl, rfl, rfl, rfl, rfl, rfl, rfl, trivial⟩
            exact absurd c54 (nI_ge q.2 (by omega))
          · refine G_lv2 (add (decide_eq_true (Or.inr ⟨c48, ?_⟩)) _) ⟨rfl, rfl, rfl, rfl, rfl, rfl, rfl, trivial⟩
            exact Nat.lt_of_not_le (fun q => c54 (nI_le q (by omega)))
/-- can spy now -/
def sp (A : Ab) (i : Nat) : Bool := decide (A.f i 4 ≠ 0 ∧ A.f i 8 = 0)
def nrB (A : Ab) (i : Nat) (r t : Int32) : Bool := decide (iabs (A.f i 0 - r) ≤ 1 ∧ iabs (A.f i 1 - t) ≤ 1)
def seeP (A : Ab) (x y i : Nat) : Bool := decide (i ≠ x) && (decide (i ≠ y) && (sp A i && (nr A i x || nr A i y)))
def seersV (A : Ab) (x y : Nat) : Int32 := bs (seeP A x y) A.n
theorem s_X3_spiesWhoSee {x y : Nat} (hj : j < 10) (hA : CR M j A) (hx : x < A.n) (hy : y < A.n) (h : P (.inl (some (.int (seersV A x y)))) M) : Sp E yX3_spiesWhoSee cX3_spiesWhoSee zX3_spiesWhoSee [.ref (ad E 7 j 0), .int (nI x), .int (nI y)] M P := by
  have h12 := hA.n12
  have ex0 : M.1 12 j x 3 = A.f x 0 := hA.f hx 0 (by decide)
  have ex1 : M.1 12 j x 4 = A.f x 1 := hA.f hx 1 (by decide)
  have ey0 : M.1 12 j y 3 = A.f y 0 := hA.f hy 0 (by decide)
  have ey1 : M.1 12 j y 4 = A.f y 1 := hA.f hy 1 (by decide)
  refine Sp_of (own := RX3) (by decide) rfl rfl (Nat.le_of_ble_eq_true rfl) (fun C => ?_)
  refine G_aload_n dX3_spiesWhoSee_0 rfl ?_
  refine gf_X3_11 dX3_spiesWhoSee_1 hj ?_
  refine G_iload_n dX3_spiesWhoSee_4 rfl ?_
  refine G_aald dX3_spiesWhoSee_5 ⟨hj, rfl⟩ rfl rfl rfl (show x < 12 by omega) (by decide) rfl ?_
  refine G_astore_n dX3_spiesWhoSee_6 (Nat.le_of_ble_eq_true rfl) ?_
  refine G_aload_n dX3_spiesWhoSee_7 rfl ?_
  refine gf_X3_11 dX3_spiesWhoSee_8 hj ?_
  refine G_iload_n dX3_spiesWhoSee_11 rfl ?_
  refine G_aald dX3_spiesWhoSee_12 ⟨hj, rfl⟩ rfl rfl rfl (show y < 12 by omega) (by decide) rfl ?_
  refine G_astore dX3_spiesWhoSee_13 (Nat.le_of_ble_eq_true rfl) ?_
  refine G_iconst (v := 0) dX3_spiesWhoSee_15 (by decide) ?_
  refine G_istore dX3_spiesWhoSee_16 (Nat.le_of_ble_eq_true rfl) ?_
  refine G_iconst (v := 0) dX3_spiesWhoSee_18 (by decide) ?_
  refine G_istore dX3_spiesWhoSee_19 (Nat.le_of_ble_eq_true rfl) ?_
  refine G_lv (lv' := [(0, .ref (ad E 7 j 0)), (1, .int (nI x)), (2, .int (nI y)), (3, .ref (ad E 12 j x)), (4, .ref (ad E 12 j y)), (5, .int (bs (seeP A x y) 0)), (6, .int (nI 0))]) ⟨rfl, rfl, rfl, rfl, rfl, rfl, rfl, trivial⟩ ?_
  refine up0 (c := A.n) (H := fun i => G E C RX3 cX3_spiesWhoSee zX3_spiesWhoSee P 0 0 M 21 [(0, .ref (ad E 7 j 0)), (1, .int (nI x)), (2, .int (nI y)), (3, .ref (ad E 12 j x)), (4, .ref (ad E 12 j y)), (5, .int (bs (seeP A x y) i)), (6, .int (nI i))] []) ?_ (fun i hi ih => ?_)
  · refine G_iload dX3_spiesWhoSee_21 rfl ?_
    refine G_aload_n dX3_spiesWhoSee_23 rfl ?_
    refine gf_X3_31 dX3_spiesWhoSee_24 hj ?_
    refine G_icmp_ge (tgt := 111) dX3_spiesWhoSee_27 (by decide) (fun c27 => ?_) (fun c27 => ?_)
    · refine G_iload dX3_spiesWhoSee_111 rfl ?_
      refine G_iret dX3_spiesWhoSee_113 rfl rfl (Nat.le_of_ble_eq_true rfl) (Nat.le_of_ble_eq_true rfl) ?_
      exact h
    · rw [hA.n] at c27
      exact absurd (Int32.le_refl _) c27
  · have skip : seeP A x y i = false → G E C RX3 cX3_spiesWhoSee zX3_spiesWhoSee P 0 0 M 105 [(0, .ref (ad E 7 j 0)), (1, .int (nI x)), (2, .int (nI y)), (3, .ref (ad E 12 j x)), (4, .ref (ad E 12 j y)), (5, .int (bs (seeP A x y) i)), (6, .int (nI i))] [] := by
      intro hp
      refine G_iinc (v := 1) dX3_spiesWhoSee_105 rfl (Nat.le_of_ble_eq_true rfl) (by decide) ?_
      refine G_goto (tgt := 21) dX3_spiesWhoSee_108 (by decide) ?_
      refine G_lv ?_ ih
      refine ⟨rfl, rfl, rfl, rfl, rfl, lvi ?_, lvi (nI_1 i), trivial⟩
      show _ = if seeP A x y i = true then _ else _
      rw [if_neg (by rw [hp]; decide)]
    have add : seeP A x y i = true → G E C RX3 cX3_spiesWhoSee zX3_spiesWhoSee P 0 0 M 96 [(0, .ref (ad E 7 j 0)), (1, .int (nI x)), (2, .int (nI y)), (3, .ref (ad E 12 j x)), (4, .ref (ad E 12 j y)), (5, .int (bs (seeP A x y) i)), (6, .int (nI i))] [] := by
      intro hp
      refine G_iload dX3_spiesWhoSee_96 rfl ?_
      refine G_iconst (v := 1) dX3_spiesWhoSee_98 (by decide) ?_
      refine G_iload dX3_spiesWhoSee_99 rfl ?_
      refine G_ishl dX3_spiesWhoSee_101 ?_
      refine G_ior dX3_spiesWhoSee_102 ?_
      refine G_istore dX3_spiesWhoSee_103 (Nat.le_of_ble_eq_true rfl) ?_
      refine G_iinc (v := 1) dX3_spiesWhoSee_105 rfl (Nat.le_of_ble_eq_true rfl) (by decide) ?_
      refine G_goto (tgt := 21) dX3_spiesWhoSee_108 (by decide) ?_
      refine G_lv ?_ ih
      refine ⟨rfl, rfl, rfl, rfl, rfl, lvi ?_, lvi (nI_1 i), trivial⟩
      show _ = if seeP A x y i = true then _ else _
      rw [if_pos hp]
    refine G_iload dX3_spiesWhoSee_21 rfl ?_
    refine G_aload_n dX3_spiesWhoSee_23 rfl ?_
    refine gf_X3_31 dX3_spiesWhoSee_24 hj ?_
    refine G_icmp_ge (tgt := 111) dX3_spiesWhoSee_27 (by decide) (fun c27 => ?_) (fun c27 => ?_)
    · rw [hA.n] at c27
      exact absurd c27 (nI_ge hi (by omega))
    · refine G_aload_n dX3_spiesWhoSee_30 rfl ?_
      refine gf_X3_11 dX3_spiesWhoSee_31 hj ?_
      refine G_iload dX3_spiesWhoSee_34 rfl ?_
      refine G_aald dX3_spiesWhoSee_36 ⟨hj, rfl⟩ rfl rfl rfl (show i < 12 by omega) (by decide) rfl ?_
      refine G_astore dX3_spiesWhoSee_37 (Nat.le_of_ble_eq_true rfl) ?_
      refine G_iload dX3_spiesWhoSee_39 rfl ?_
      refine G_iload_n dX3_spiesWhoSee_41 rfl ?_
      refine G_icmp_eq (tgt := 105) dX3_spiesWhoSee_42 (by decide) (fun c42 => ?_) (fun c42 => ?_)
      · have hix : i = x := by rwa [nI_eq (by omega) (by omega)] at c42
        exact G_lv2 (skip (by simp [seeP, hix])) ⟨rfl, rfl, rfl, rfl, rfl, rfl, rfl, trivial⟩
      · have hix : i ≠ x := fun q => c42 (by rw [q])
        refine G_iload dX3_spiesWhoSee_45 rfl ?_
        refine G_iload_n dX3_spiesWhoSee_47 rfl ?_
        refine G_icmp_eq (tgt := 105) dX3_spiesWhoSee_48 (by decide) (fun c48 => ?_) (fun c48 => ?_)
        · have hiy : i = y := by rwa [nI_eq (by omega) (by omega)] at c48
          exact G_lv2 (skip (by simp [seeP, hiy])) ⟨rfl, rfl, rfl, rfl, rfl, rfl, rfl, trivial⟩
        · have hiy : i ≠ y := fun q => c48 (by rw [q])
          refine G_aload dX3_spiesWhoSee_51 rfl ?_
          refine cv_X3_162 (cs' := 0) (ss' := 0) dX3_spiesWhoSee_53 hj (show i < 12 by omega) (Nat.le_of_ble_eq_true rfl) (Nat.le_of_ble_eq_true rfl) (Nat.le_of_ble_eq_true rfl) rfl rfl (Nat.le_of_ble_eq_true rfl) (Nat.le_of_ble_eq_true rfl) rfl ?_
          refine s_X1_canSpy hj (by omega) (hA.f hi) (hGo_i ?_)
          by_cases hsp : A.f i 4 ≠ 0 ∧ A.f i 8 = 0
          · rw [if_pos hsp]
            have hsp2 : sp A i = true := decide_eq_true hsp
            refine G_if_ne (tgt := 62) dX3_spiesWhoSee_56 (by decide) (fun c56 => ?_) (fun c56 => ?_)
            · refine G_aload dX3_spiesWhoSee_62 rfl ?_
              refine G_aload_n dX3_spiesWhoSee_64 rfl ?_
              refine gf_X3_148 dX3_spiesWhoSee_65 hj (show x < 12 by omega) ?_
              refine G_aload_n dX3_spiesWhoSee_68 rfl ?_
              refine gf_X3_151 dX3_spiesWhoSee_69 hj (show x < 12 by omega) ?_
              refine cv_X3_154 (cs' := 0) (ss' := 0) dX3_spiesWhoSee_72 hj (show i < 12 by omega) (Nat.le_of_ble_eq_true rfl) (Nat.le_of_ble_eq_true rfl) (Nat.le_of_ble_eq_true rfl) rfl rfl (Nat.le_of_ble_eq_true rfl) (Nat.le_of_ble_eq_true rfl) rfl ?_
              rw [ex0, ex1]
              refine s_X1_isNearBench hj (by omega) (hA.f hi) (hGo_i ?_)
              by_cases hn : iabs (A.f i 0 - A.f x 0) ≤ 1 ∧ iabs (A.f i 1 - A.f x 1) ≤ 1
              · rw [if_pos hn]
                refine G_if_ne (tgt := 96) dX3_spiesWhoSee_75 (by decide) (fun c75 => ?_) (fun c75 => ?_)
                · exact G_lv2 (add (by simp [seeP, hix, hiy, hsp2, nr, hn])) ⟨rfl, rfl, rfl, rfl, rfl, rfl, rfl, trivial⟩
                · exact absurd c75 (by decide)
              · rw [if_neg hn]
                refine G_if_ne (tgt := 96) dX3_spiesWhoSee_75 (by decide) (fun c75 => ?_) (fun c75 => ?_)
                · exact absurd rfl c75
                · refine G_aload dX3_spiesWhoSee_78 rfl ?_
                  refine G_aload dX3_spiesWhoSee_80 rfl ?_
                  refine gf_X3_148 dX3_spiesWhoSee_82 hj (show y < 12 by omega) ?_
                  refine G_aload dX3_spiesWhoSee_85 rfl ?_
                  refine gf_X3_151 dX3_spiesWhoSee_87 hj (show y < 12 by omega) ?_
                  refine cv_X3_154 (cs' := 0) (ss' := 0) dX3_spiesWhoSee_90 hj (show i < 12 by omega) (Nat.le_of_ble_eq_true rfl) (Nat.le_of_ble_eq_true rfl) (Nat.le_of_ble_eq_true rfl) rfl rfl (Nat.le_of_ble_eq_true rfl) (Nat.le_of_ble_eq_true rfl) rfl ?_
                  rw [ey0, ey1]
                  refine s_X1_isNearBench hj (by omega) (hA.f hi) (hGo_i ?_)
                  by_cases hn2 : iabs (A.f i 0 - A.f y 0) ≤ 1 ∧ iabs (A.f i 1 - A.f y 1) ≤ 1
                  · rw [if_pos hn2]
                    refine G_if_eq (tgt := 105) dX3_spiesWhoSee_93 (by decide) (fun c93 => ?_) (fun c93 => ?_)
                    · exact absurd c93 (by decide)
                    · exact G_lv2 (add (by simp [seeP, hix, hiy, hsp2, nr, hn2])) ⟨rfl, rfl, rfl, rfl, rfl, rfl, rfl, trivial⟩
                  · rw [if_neg hn2]
                    refine G_if_eq (tgt := 105) dX3_spiesWhoSee_93 (by decide) (fun c93 => ?_) (fun c93 => ?_)
                    · exact G_lv2 (skip (by simp [seeP, hix, hiy, hsp2, nr, hn, hn2])) ⟨rfl, rfl, rfl, rfl, rfl, rfl, rfl, trivial⟩
                    · exact absurd rfl c93
            · exact absurd c56 (by decide)
          · rw [if_neg hsp]
            have hsp2 : sp A i = false := decide_eq_false hsp
            refine G_if_ne (tgt := 62) dX3_spiesWhoSee_56 (by decide) (fun c56 => ?_) (fun c56 => ?_)
            · exact absurd rfl c56
            · refine G_goto (tgt := 105) dX3_spiesWhoSee_59 (by decide) ?_
              exact G_lv2 (skip (by simp [seeP, hsp2])) ⟨rfl, rfl, rfl, rfl, rfl, rfl, rfl, trivial⟩
def spNearP (A : Ab) (x : Nat) (r t : Int32) (i : Nat) : Bool := decide (i ≠ x) && (sp A i && nrB A i r t)
def spNearV (A : Ab) (x : Nat) (r t : Int32) : Int32 := sm A.n (fun i => if spNearP A x r t i = true then 1 else 0)
theorem s_X3_spiesNearBench {x : Nat} {r t : Int32} (hj : j < 10) (hA : CR M j A) (hx : x < A.n) (h : P (.inl (some (.int (spNearV A x r t)))) M) : Sp E yX3_spiesNearBench cX3_spiesNearBench zX3_spiesNearBench [.ref (ad E 7 j 0), .int (nI x), .int r, .int t] M P := by
  have h12 := hA.n12
  refine Sp_of (own := RX3) (by decide) rfl rfl (Nat.le_of_ble_eq_true rfl) (fun C => ?_)
  refine G_iconst (v := 0) dX3_spiesNearBench_0 (by decide) ?_
  refine G_istore dX3_spiesNearBench_1 (Nat.le_of_ble_eq_true rfl) ?_
  refine G_iconst (v := 0) dX3_spiesNearBench_3 (by decide) ?_
  refine G_istore dX3_spiesNearBench_4 (Nat.le_of_ble_eq_true rfl) ?_
  refine G_lv (lv' := [(0, .ref (ad E 7 j 0)), (1, .int (nI x)), (2, .int r), (3, .int t), (4, .int (sm 0 (fun i => if spNearP A x r t i = true then 1 else 0))), (5, .int (nI 0))]) ⟨rfl, rfl, rfl, rfl, rfl, rfl, trivial⟩ ?_
  refine up0 (c := A.n) (H := fun i => G E C RX3 cX3_spiesNearBench zX3_spiesNearBench P 0 0 M 6 [(0, .ref (ad E 7 j 0)), (1, .int (nI x)), (2, .int r), (3, .int t), (4, .int (sm i (fun i => if spNearP A x r t i = true then 1 else 0))), (5, .int (nI i))] []) ?_ (fun i hi ih => ?_)
  · refine G_iload dX3_spiesNearBench_6 rfl ?_
    refine G_aload_n dX3_spiesNearBench_8 rfl ?_
    refine gf_X3_31 dX3_spiesNearBench_9 hj ?_
    refine G_icmp_ge (tgt := 58) dX3_spiesNearBench_12 (by decide) (fun c12 => ?_) (fun c12 => ?_)
    · refine G_iload dX3_spiesNearBench_58 rfl ?_
      refine G_iret dX3_spiesNearBench_60 rfl rfl (Nat.le_of_ble_eq_true rfl) (Nat.le_of_ble_eq_true rfl) ?_
      exact h
    · rw [hA.n] at c12
      exact absurd (Int32.le_refl _) c12
  · have skip : spNearP A x r t i = false → G E C RX3 cX3_spiesNearBench zX3_spiesNearBench P 0 0 M 52 [(0, .ref (ad E 7 j 0)), (1, .int (nI x)), (2, .int r), (3, .int t), (4, .int (sm i (fun i => if spNearP A x r t i = true then 1 else 0))), (5, .int (nI i))] [] := by
      intro hp
      refine G_iinc (v := 1) dX3_spiesNearBench_52 rfl (Nat.le_of_ble_eq_true rfl) (by decide) ?_
      refine G_goto (tgt := 6) dX3_spiesNearBench_55 (by decide) ?_
      refine G_lv ?_ ih
      exact ⟨rfl, rfl, rfl, rfl, lvi (sm_0 (if_neg (by rw [hp]; decide))), lvi (nI_1 i), trivial⟩
    refine G_iload dX3_spiesNearBench_6 rfl ?_
    refine G_aload_n dX3_spiesNearBench_8 rfl ?_
    refine gf_X3_31 dX3_spiesNearBench_9 hj ?_
    refine G_icmp_ge (tgt := 58) dX3_spiesNearBench_12 (by decide) (fun c12 => ?_) (fun c12 => ?_)
    · rw [hA.n] at c12
      exact absurd c12 (nI_ge hi (by omega))
    · refine G_iload dX3_spiesNearBench_15 rfl ?_
      refine G_iload_n dX3_spiesNearBench_17 rfl ?_
      refine G_icmp_eq (tgt := 52) dX3_spiesNearBench_18 (by decide) (fun c18 => ?_) (fun c18 => ?_)
      · have hix : i = x := by rwa [nI_eq (by omega) (by omega)] at c18
        exact skip (by simp [spNearP, hix])
      · have hix : i ≠ x := fun q => c18 (by rw [q])
        refine G_aload_n dX3_spiesNearBench_21 rfl ?_
        refine gf_X3_11 dX3_spiesNearBench_22 hj ?_
        refine G_iload dX3_spiesNearBench_25 rfl ?_
        refine G_aald dX3_spiesNearBench_27 ⟨hj, rfl⟩ rfl rfl rfl (show i < 12 by omega) (by decide) rfl ?_
        refine cv_X3_162 (cs' := 0) (ss' := 0) dX3_spiesNearBench_28 hj (show i < 12 by omega) (Nat.le_of_ble_eq_true rfl) (Nat.le_of_ble_eq_true rfl) (Nat.le_of_ble_eq_true rfl) rfl rfl (Nat.le_of_ble_eq_true rfl) (Nat.le_of_ble_eq_true rfl) rfl ?_
        refine s_X1_canSpy hj (by omega) (hA.f hi) (hGo_i ?_)
        by_cases hsp : A.f i 4 ≠ 0 ∧ A.f i 8 = 0
        · rw [if_pos hsp]
          have hsp2 : sp A i = true := decide_eq_true hsp
          refine G_if_eq (tgt := 52) dX3_spiesNearBench_31 (by decide) (fun c31 => ?_) (fun c31 => ?_)
          · exact absurd c31 (by decide)
          · refine G_aload_n dX3_spiesNearBench_34 rfl ?_
            refine gf_X3_11 dX3_spiesNearBench_35 hj ?_
            refine G_iload dX3_spiesNearBench_38 rfl ?_
            refine G_aald dX3_spiesNearBench_40 ⟨hj, rfl⟩ rfl rfl rfl (show i < 12 by omega) (by decide) rfl ?_
            refine G_iload_n dX3_spiesNearBench_41 rfl ?_
            refine G_iload_n dX3_spiesNearBench_42 rfl ?_
            refine cv_X3_154 (cs' := 0) (ss' := 0) dX3_spiesNearBench_43 hj (show i < 12 by omega) (Nat.le_of_ble_eq_true rfl) (Nat.le_of_ble_eq_true rfl) (Nat.le_of_ble_eq_true rfl) rfl rfl (Nat.le_of_ble_eq_true rfl) (Nat.le_of_ble_eq_true rfl) rfl ?_
            refine s_X1_isNearBench hj (by omega) (hA.f hi) (hGo_i ?_)
            by_cases hn : iabs (A.f i 0 - r) ≤ 1 ∧ iabs (A.f i 1 - t) ≤ 1
            · rw [if_pos hn]
              refine G_if_eq (tgt := 52) dX3_spiesNearBench_46 (by decide) (fun c46 => ?_) (fun c46 => ?_)
              · exact absurd c46 (by decide)
              · refine G_iinc (v := 1) dX3_spiesNearBench_49 rfl (Nat.le_of_ble_eq_true rfl) (by decide) ?_
                refine G_iinc (v := 1) dX3_spiesNearBench_52 rfl (Nat.le_of_ble_eq_true rfl) (by decide) ?_
                refine G_goto (tgt := 6) dX3_spiesNearBench_55 (by decide) ?_
                refine G_lv ?_ ih
                exact ⟨rfl, rfl, rfl, rfl, lvi (sm_t (if_pos (by simp [spNearP, hix, hsp2, nrB, hn]))), lvi (nI_1 i), trivial⟩
            · rw [if_neg hn]
              refine G_if_eq (tgt := 52) dX3_spiesNearBench_46 (by decide) (fun c46 => ?_) (fun c46 => ?_)
              · exact skip (by simp [spNearP, nrB, hn])
              · exact absurd rfl c46
        · rw [if_neg hsp]
          have hsp2 : sp A i = false := decide_eq_false hsp
          refine G_if_eq (tgt := 52) dX3_spiesNearBench_31 (by decide) (fun c31 => ?_) (fun c31 => ?_)
          · exact skip (by simp [spNearP, hsp2])
          · exact absurd rfl c31
end CSCH
