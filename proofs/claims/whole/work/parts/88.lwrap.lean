/-! ===== the law's wrappers ===== -/
section LWRAP
variable {E : Ed} {M : Mm} {P : Res → Mm → Prop} {g : Gs}
theorem b_qAppend {x : Int32} : (qAppend g x).2.1 = 0 ∨ (qAppend g x).2.1 = 1 := by
  unfold qAppend
  (repeat' split) <;> first | exact Or.inl rfl | exact Or.inr rfl | exact Or.inr (Or.inl rfl) | exact Or.inr (Or.inr rfl)
theorem w_appendText {x : Int32} (hC : CG M g) (hO : Okg g) (hG : MG M g) (h : ∀ M', CG M' (qAppend g x).1 → MG M' g → ((qAppend g x).2.1 = 0 → M'.2.1 = (qAppend g x).2.2.toInt64) → P (.inl (some (.int (nI (qAppend g x).2.1)))) M') : Sp E yL_appendText cL_appendText zL_appendText [.ref (ad E 0 0 0), .int x, .ref (ad E 27 0 0)] M P := by
  refine Sp_ofH (own := RL) (by decide) rfl (List.cons_ne_nil _ _) (Nat.le_of_ble_eq_true rfl) (fun C => ?_)
  refine G_aload_n dL_appendText_0 rfl ?_
  refine G_iconst (v := 0) dL_appendText_1 (by decide) ?_
  refine G_aload_n dL_appendText_2 rfl ?_
  refine G_iload_n dL_appendText_3 rfl ?_
  refine G_callVH (n := 1) (as := [.int x]) (rest := [.int 0, .ref (ad E 27 0 0)]) (k := 0) (j := 0) (p := 0) (ci := 8) (T := TX8) (N := 9) (cs' := 1) (ss' := 6) dL_appendText_4 lk_L_7 ⟨by decide, rfl, rfl⟩ rfl rfl rfl rfl (Nat.le_of_ble_eq_true rfl) (Nat.le_of_ble_eq_true rfl) (Nat.le_of_ble_eq_true rfl) rfl rfl (Nat.le_of_ble_eq_true rfl) (Nat.le_of_ble_eq_true rfl) ?_
  refine s_X8_appendText hC (fun M1 hC1 hf => ?_)
  by_cases q : (qAppend g x).2.1 = 0
  · rw [show rs xS (qAppend g x).2 = .inl (some (.int (qAppend g x).2.2)) from if_pos q]
    refine hGoH_i ?_
    refine G_i2l dL_appendText_7 ?_
    refine G_last dL_appendText_8 ?_
    refine G_goto (tgt := 15) dL_appendText_9 (by decide) ?_
    refine G_iconst (v := 0) dL_appendText_15 (by decide) ?_
    refine G_iret dL_appendText_16 rfl rfl (Nat.le_of_ble_eq_true rfl) (Nat.le_of_ble_eq_true rfl) ?_
    have h' := h (M1.1, (qAppend g x).2.2.toInt64, M1.2.2) (CG.o hC1) (MG.o (hG.cl hf)) (fun _ => rfl)
    rw [q] at h'
    exact h'
  · rcases @b_qAppend g x with b | b
    · exact absurd b q
    · rw [show rs xS (qAppend g x).2 = .inr xIS from by unfold rs; rw [if_neg q, b]; rfl]
      refine hGoH_x (h := 12) (hCat1 rfl (Nat.le_of_ble_eq_true rfl) (Nat.le_of_ble_eq_true rfl) (by decide) lIS xISw) (fun a => ?_)
      refine G_astore_n dL_appendText_12 (Nat.le_of_ble_eq_true rfl) ?_
      refine G_iconst (v := 1) dL_appendText_13 (by decide) ?_
      refine G_iret dL_appendText_14 rfl rfl (Nat.le_of_ble_eq_true rfl) (Nat.le_of_ble_eq_true rfl) ?_
      have h' := h M1 hC1 (hG.cl hf) (fun z => absurd z q)
      rw [b] at h'
      exact h'
theorem b_qTrunc {x : Int32} : (qTrunc g x).2.1 = 0 ∨ (qTrunc g x).2.1 = 1 := by
  unfold qTrunc
  (repeat' split) <;> first | exact Or.inl rfl | exact Or.inr rfl | exact Or.inr (Or.inl rfl) | exact Or.inr (Or.inr rfl)
theorem w_truncateText {x : Int32} (hC : CG M g) (hO : Okg g) (hG : MG M g) (h : ∀ M', CG M' (qTrunc g x).1 → MG M' g → ((qTrunc g x).2.1 = 0 → M'.2.1 = (qTrunc g x).2.2.toInt64) → P (.inl (some (.int (nI (qTrunc g x).2.1)))) M') : Sp E yL_truncateText cL_truncateText zL_truncateText [.ref (ad E 0 0 0), .int x, .ref (ad E 27 0 0)] M P := by
  refine Sp_ofH (own := RL) (by decide) rfl (List.cons_ne_nil _ _) (Nat.le_of_ble_eq_true rfl) (fun C => ?_)
  refine G_aload_n dL_truncateText_0 rfl ?_
  refine G_iconst (v := 0) dL_truncateText_1 (by decide) ?_
  refine G_aload_n dL_truncateText_2 rfl ?_
  refine G_iload_n dL_truncateText_3 rfl ?_
  refine G_callVH (n := 1) (as := [.int x]) (rest := [.int 0, .ref (ad E 27 0 0)]) (k := 0) (j := 0) (p := 0) (ci := 8) (T := TX8) (N := 9) (cs' := 1) (ss' := 6) dL_truncateText_4 lk_L_15 ⟨by decide, rfl, rfl⟩ rfl rfl rfl rfl (Nat.le_of_ble_eq_true rfl) (Nat.le_of_ble_eq_true rfl) (Nat.le_of_ble_eq_true rfl) rfl rfl (Nat.le_of_ble_eq_true rfl) (Nat.le_of_ble_eq_true rfl) ?_
  refine s_X8_truncateText hC (fun M1 hC1 hf => ?_)
  by_cases q : (qTrunc g x).2.1 = 0
  · rw [show rs xA (qTrunc g x).2 = .inl (some (.int (qTrunc g x).2.2)) from if_pos q]
    refine hGoH_i ?_
    refine G_i2l dL_truncateText_7 ?_
    refine G_last dL_truncateText_8 ?_
    refine G_goto (tgt := 15) dL_truncateText_9 (by decide) ?_
    refine G_iconst (v := 0) dL_truncateText_15 (by decide) ?_
    refine G_iret dL_truncateText_16 rfl rfl (Nat.le_of_ble_eq_true rfl) (Nat.le_of_ble_eq_true rfl) ?_
    have h' := h (M1.1, (qTrunc g x).2.2.toInt64, M1.2.2) (CG.o hC1) (MG.o (hG.cl hf)) (fun _ => rfl)
    rw [q] at h'
    exact h'
  · rcases @b_qTrunc g x with b | b
    · exact absurd b q
    · rw [show rs xA (qTrunc g x).2 = .inr xIA from by unfold rs; rw [if_neg q, b]; rfl]
      refine hGoH_x (h := 12) (hCat1 rfl (Nat.le_of_ble_eq_true rfl) (Nat.le_of_ble_eq_true rfl) (by decide) lIA xIAw) (fun a => ?_)
      refine G_astore_n dL_truncateText_12 (Nat.le_of_ble_eq_true rfl) ?_
      refine G_iconst (v := 1) dL_truncateText_13 (by decide) ?_
      refine G_iret dL_truncateText_14 rfl rfl (Nat.le_of_ble_eq_true rfl) (Nat.le_of_ble_eq_true rfl) ?_
      have h' := h M1 hC1 (hG.cl hf) (fun z => absurd z q)
      rw [b] at h'
      exact h'
theorem b_qCount {x : Int32} : (qCount g x).1 = 0 ∨ (qCount g x).1 = 1 := by
  unfold qCount
  (repeat' split) <;> first | exact Or.inl rfl | exact Or.inr rfl | exact Or.inr (Or.inl rfl) | exact Or.inr (Or.inr rfl)
theorem w_count {x : Int32} (hC : CG M g) (hO : Okg g) (hG : MG M g) (h : ∀ M', CG M' g → MG M' g → ((qCount g x).1 = 0 → M'.2.1 = (qCount g x).2.toInt64) → P (.inl (some (.int (nI (qCount g x).1)))) M') : Sp E yL_count cL_count zL_count [.ref (ad E 0 0 0), .int x, .ref (ad E 27 0 0)] M P := by
  refine Sp_ofH (own := RL) (by decide) rfl (List.cons_ne_nil _ _) (Nat.le_of_ble_eq_true rfl) (fun C => ?_)
  refine G_aload_n dL_count_0 rfl ?_
  refine G_iconst (v := 0) dL_count_1 (by decide) ?_
  refine G_aload_n dL_count_2 rfl ?_
  refine G_iload_n dL_count_3 rfl ?_
  refine G_callVH (n := 1) (as := [.int x]) (rest := [.int 0, .ref (ad E 27 0 0)]) (k := 0) (j := 0) (p := 0) (ci := 8) (T := TX8) (N := 9) (cs' := 1) (ss' := 6) dL_count_4 lk_L_20 ⟨by decide, rfl, rfl⟩ rfl rfl rfl rfl (Nat.le_of_ble_eq_true rfl) (Nat.le_of_ble_eq_true rfl) (Nat.le_of_ble_eq_true rfl) rfl rfl (Nat.le_of_ble_eq_true rfl) (Nat.le_of_ble_eq_true rfl) ?_
  refine s_X8_count hC ?_
  by_cases q : (qCount g x).1 = 0
  · rw [show rs xA (qCount g x) = .inl (some (.int (qCount g x).2)) from if_pos q]
    refine hGoH_i ?_
    refine G_i2l dL_count_7 ?_
    refine G_last dL_count_8 ?_
    refine G_goto (tgt := 15) dL_count_9 (by decide) ?_
    refine G_iconst (v := 0) dL_count_15 (by decide) ?_
    refine G_iret dL_count_16 rfl rfl (Nat.le_of_ble_eq_true rfl) (Nat.le_of_ble_eq_true rfl) ?_
    have h' := h (M.1, (qCount g x).2.toInt64, M.2.2) (CG.o hC) (MG.o hG) (fun _ => rfl)
    rw [q] at h'
    exact h'
  · rcases @b_qCount g x with b | b
    · exact absurd b q
    · rw [show rs xA (qCount g x) = .inr xIA from by unfold rs; rw [if_neg q, b]; rfl]
      refine hGoH_x (h := 12) (hCat1 rfl (Nat.le_of_ble_eq_true rfl) (Nat.le_of_ble_eq_true rfl) (by decide) lIA xIAw) (fun a => ?_)
      refine G_astore_n dL_count_12 (Nat.le_of_ble_eq_true rfl) ?_
      refine G_iconst (v := 1) dL_count_13 (by decide) ?_
      refine G_iret dL_count_14 rfl rfl (Nat.le_of_ble_eq_true rfl) (Nat.le_of_ble_eq_true rfl) ?_
      have h' := h M hC hG (fun z => absurd z q)
      rw [b] at h'
      exact h'
theorem b_qTally {x : Int32} : (qTally g x).1 = 0 ∨ (qTally g x).1 = 1 := by
  unfold qTally
  (repeat' split) <;> first | exact Or.inl rfl | exact Or.inr rfl | exact Or.inr (Or.inl rfl) | exact Or.inr (Or.inr rfl)
theorem w_tally {x : Int32} (hC : CG M g) (hO : Okg g) (hG : MG M g) (h : ∀ M', CG M' g → MG M' g → ((qTally g x).1 = 0 → M'.2.1 = (qTally g x).2.toInt64) → P (.inl (some (.int (nI (qTally g x).1)))) M') : Sp E yL_tally cL_tally zL_tally [.ref (ad E 0 0 0), .int x, .ref (ad E 27 0 0)] M P := by
  refine Sp_ofH (own := RL) (by decide) rfl (List.cons_ne_nil _ _) (Nat.le_of_ble_eq_true rfl) (fun C => ?_)
  refine G_aload_n dL_tally_0 rfl ?_
  refine G_iconst (v := 0) dL_tally_1 (by decide) ?_
  refine G_aload_n dL_tally_2 rfl ?_
  refine G_iload_n dL_tally_3 rfl ?_
  refine G_callVH (n := 1) (as := [.int x]) (rest := [.int 0, .ref (ad E 27 0 0)]) (k := 0) (j := 0) (p := 0) (ci := 8) (T := TX8) (N := 9) (cs' := 1) (ss' := 6) dL_tally_4 lk_L_23 ⟨by decide, rfl, rfl⟩ rfl rfl rfl rfl (Nat.le_of_ble_eq_true rfl) (Nat.le_of_ble_eq_true rfl) (Nat.le_of_ble_eq_true rfl) rfl rfl (Nat.le_of_ble_eq_true rfl) (Nat.le_of_ble_eq_true rfl) ?_
  refine s_X8_tally hC ?_
  by_cases q : (qTally g x).1 = 0
  · rw [show rs xA (qTally g x) = .inl (some (.int (qTally g x).2)) from if_pos q]
    refine hGoH_i ?_
    refine G_i2l dL_tally_7 ?_
    refine G_last dL_tally_8 ?_
    refine G_goto (tgt := 15) dL_tally_9 (by decide) ?_
    refine G_iconst (v := 0) dL_tally_15 (by decide) ?_
    refine G_iret dL_tally_16 rfl rfl (Nat.le_of_ble_eq_true rfl) (Nat.le_of_ble_eq_true rfl) ?_
    have h' := h (M.1, (qTally g x).2.toInt64, M.2.2) (CG.o hC) (MG.o hG) (fun _ => rfl)
    rw [q] at h'
    exact h'
  · rcases @b_qTally g x with b | b
    · exact absurd b q
    · rw [show rs xA (qTally g x) = .inr xIA from by unfold rs; rw [if_neg q, b]; rfl]
      refine hGoH_x (h := 12) (hCat1 rfl (Nat.le_of_ble_eq_true rfl) (Nat.le_of_ble_eq_true rfl) (by decide) lIA xIAw) (fun a => ?_)
      refine G_astore_n dL_tally_12 (Nat.le_of_ble_eq_true rfl) ?_
      refine G_iconst (v := 1) dL_tally_13 (by decide) ?_
      refine G_iret dL_tally_14 rfl rfl (Nat.le_of_ble_eq_true rfl) (Nat.le_of_ble_eq_true rfl) ?_
      have h' := h M hC hG (fun z => absurd z q)
      rw [b] at h'
      exact h'
theorem b_qPupil {x y : Int32} : (qPupil g x y).1 = 0 ∨ (qPupil g x y).1 = 1 ∨ (qPupil g x y).1 = 2 := by
  unfold qPupil
  (repeat' split) <;> first | exact Or.inl rfl | exact Or.inr rfl | exact Or.inr (Or.inl rfl) | exact Or.inr (Or.inr rfl)
theorem w_pupil {x y : Int32} (hC : CG M g) (hO : Okg g) (hG : MG M g) (h : ∀ M', CG M' g → MG M' g → ((qPupil g x y).1 = 0 → M'.2.1 = (qPupil g x y).2.toInt64) → P (.inl (some (.int (nI (qPupil g x y).1)))) M') : Sp E yL_pupil cL_pupil zL_pupil [.ref (ad E 0 0 0), .int x, .int y, .ref (ad E 27 0 0)] M P := by
  refine Sp_ofH (own := RL) (by decide) rfl (List.cons_ne_nil _ _) (Nat.le_of_ble_eq_true rfl) (fun C => ?_)
  refine G_aload_n dL_pupil_0 rfl ?_
  refine G_iconst (v := 0) dL_pupil_1 (by decide) ?_
  refine G_aload_n dL_pupil_2 rfl ?_
  refine G_iload_n dL_pupil_3 rfl ?_
  refine G_iload_n dL_pupil_4 rfl ?_
  refine G_callVH (n := 2) (as := [.int x, .int y]) (rest := [.int 0, .ref (ad E 27 0 0)]) (k := 0) (j := 0) (p := 0) (ci := 8) (T := TX8) (N := 9) (cs' := 2) (ss' := 12) dL_pupil_5 lk_L_26 ⟨by decide, rfl, rfl⟩ rfl rfl rfl rfl (Nat.le_of_ble_eq_true rfl) (Nat.le_of_ble_eq_true rfl) (Nat.le_of_ble_eq_true rfl) rfl rfl (Nat.le_of_ble_eq_true rfl) (Nat.le_of_ble_eq_true rfl) ?_
  refine s_X8_pupil hC hO ?_
  by_cases q : (qPupil g x y).1 = 0
  · rw [show rs xPA (qPupil g x y) = .inl (some (.int (qPupil g x y).2)) from if_pos q]
    refine hGoH_i ?_
    refine G_i2l dL_pupil_8 ?_
    refine G_last dL_pupil_9 ?_
    refine G_goto (tgt := 21) dL_pupil_10 (by decide) ?_
    refine G_iconst (v := 0) dL_pupil_21 (by decide) ?_
    refine G_iret dL_pupil_22 rfl rfl (Nat.le_of_ble_eq_true rfl) (Nat.le_of_ble_eq_true rfl) ?_
    have h' := h (M.1, (qPupil g x y).2.toInt64, M.2.2) (CG.o hC) (MG.o hG) (fun _ => rfl)
    rw [q] at h'
    exact h'
  · rcases @b_qPupil g x y with b | b | b
    · exact absurd b q
    · rw [show rs xPA (qPupil g x y) = .inr xIO from by unfold rs; rw [if_neg q, b]; rfl]
      refine hGoH_x (h := 13) (hCat1 rfl (Nat.le_of_ble_eq_true rfl) (Nat.le_of_ble_eq_true rfl) (by decide) lIO xIOw) (fun a => ?_)
      refine G_astore dL_pupil_13 (Nat.le_of_ble_eq_true rfl) ?_
      refine G_iconst (v := 1) dL_pupil_15 (by decide) ?_
      refine G_iret dL_pupil_16 rfl rfl (Nat.le_of_ble_eq_true rfl) (Nat.le_of_ble_eq_true rfl) ?_
      have h' := h M hC hG (fun z => absurd z q)
      rw [b] at h'
      exact h'
    · rw [show rs xPA (qPupil g x y) = .inr xIA from by unfold rs; rw [if_neg q, b]; rfl]
      refine hGoH_x (h := 17) (hCat2 rfl (Nat.le_of_ble_eq_true rfl) (Nat.le_of_ble_eq_true rfl) (by decide) lIA xIAw (by decide) lIO nIAO) (fun a => ?_)
      refine G_astore dL_pupil_17 (Nat.le_of_ble_eq_true rfl) ?_
      refine G_iconst (v := 2) dL_pupil_19 (by decide) ?_
      refine G_iret dL_pupil_20 rfl rfl (Nat.le_of_ble_eq_true rfl) (Nat.le_of_ble_eq_true rfl) ?_
      have h' := h M hC hG (fun z => absurd z q)
      rw [b] at h'
      exact h'
theorem b_qPiece {x y z' : Int32} : (qPiece g x y z').1 = 0 ∨ (qPiece g x y z').1 = 1 ∨ (qPiece g x y z').1 = 2 := by
  unfold qPiece
  (repeat' split) <;> first | exact Or.inl rfl | exact Or.inr rfl | exact Or.inr (Or.inl rfl) | exact Or.inr (Or.inr rfl)
theorem w_piece {x y z' : Int32} (hC : CG M g) (hO : Okg g) (hG : MG M g) (h : ∀ M', CG M' g → MG M' g → ((qPiece g x y z').1 = 0 → M'.2.1 = (qPiece g x y z').2.toInt64) → P (.inl (some (.int (nI (qPiece g x y z').1)))) M') : Sp E yL_piece cL_piece zL_piece [.ref (ad E 0 0 0), .int x, .int y, .int z', .ref (ad E 27 0 0)] M P := by
  refine Sp_ofH (own := RL) (by decide) rfl (List.cons_ne_nil _ _) (Nat.le_of_ble_eq_true rfl) (fun C => ?_)
  refine G_aload dL_piece_0 rfl ?_
  refine G_iconst (v := 0) dL_piece_2 (by decide) ?_
  refine G_aload_n dL_piece_3 rfl ?_
  refine G_iload_n dL_piece_4 rfl ?_
  refine G_iload_n dL_piece_5 rfl ?_
  refine G_iload_n dL_piece_6 rfl ?_
  refine G_callVH (n := 3) (as := [.int x, .int y, .int z']) (rest := [.int 0, .ref (ad E 27 0 0)]) (k := 0) (j := 0) (p := 0) (ci := 8) (T := TX8) (N := 9) (cs' := 2) (ss' := 12) dL_piece_7 lk_L_32 ⟨by decide, rfl, rfl⟩ rfl rfl rfl rfl (Nat.le_of_ble_eq_true rfl) (Nat.le_of_ble_eq_true rfl) (Nat.le_of_ble_eq_true rfl) rfl rfl (Nat.le_of_ble_eq_true rfl) (Nat.le_of_ble_eq_true rfl) ?_
  refine s_X8_piece hC ?_
  by_cases q : (qPiece g x y z').1 = 0
  · rw [show rs xPA (qPiece g x y z') = .inl (some (.int (qPiece g x y z').2)) from if_pos q]
    refine hGoH_i ?_
    refine G_i2l dL_piece_10 ?_
    refine G_last dL_piece_11 ?_
    refine G_goto (tgt := 23) dL_piece_12 (by decide) ?_
    refine G_iconst (v := 0) dL_piece_23 (by decide) ?_
    refine G_iret dL_piece_24 rfl rfl (Nat.le_of_ble_eq_true rfl) (Nat.le_of_ble_eq_true rfl) ?_
    have h' := h (M.1, (qPiece g x y z').2.toInt64, M.2.2) (CG.o hC) (MG.o hG) (fun _ => rfl)
    rw [q] at h'
    exact h'
  · rcases @b_qPiece g x y z' with b | b | b
    · exact absurd b q
    · rw [show rs xPA (qPiece g x y z') = .inr xIO from by unfold rs; rw [if_neg q, b]; rfl]
      refine hGoH_x (h := 15) (hCat1 rfl (Nat.le_of_ble_eq_true rfl) (Nat.le_of_ble_eq_true rfl) (by decide) lIO xIOw) (fun a => ?_)
      refine G_astore dL_piece_15 (Nat.le_of_ble_eq_true rfl) ?_
      refine G_iconst (v := 1) dL_piece_17 (by decide) ?_
      refine G_iret dL_piece_18 rfl rfl (Nat.le_of_ble_eq_true rfl) (Nat.le_of_ble_eq_true rfl) ?_
      have h' := h M hC hG (fun z => absurd z q)
      rw [b] at h'
      exact h'
    · rw [show rs xPA (qPiece g x y z') = .inr xIA from by unfold rs; rw [if_neg q, b]; rfl]
      refine hGoH_x (h := 19) (hCat2 rfl (Nat.le_of_ble_eq_true rfl) (Nat.le_of_ble_eq_true rfl) (by decide) lIA xIAw (by decide) lIO nIAO) (fun a => ?_)
      refine G_astore dL_piece_19 (Nat.le_of_ble_eq_true rfl) ?_
      refine G_iconst (v := 2) dL_piece_21 (by decide) ?_
      refine G_iret dL_piece_22 rfl rfl (Nat.le_of_ble_eq_true rfl) (Nat.le_of_ble_eq_true rfl) ?_
      have h' := h M hC hG (fun z => absurd z q)
      rw [b] at h'
      exact h'
theorem b_qMadeBy {x y z' : Int32} : (qMadeBy g x y z').1 = 0 ∨ (qMadeBy g x y z').1 = 1 ∨ (qMadeBy g x y z').1 = 2 := by
  unfold qMadeBy
  (repeat' split) <;> first | exact Or.inl rfl | exact Or.inr rfl | exact Or.inr (Or.inl rfl) | exact Or.inr (Or.inr rfl)
theorem w_madeBy {x y z' : Int32} (hC : CG M g) (hO : Okg g) (hG : MG M g) (h : ∀ M', CG M' g → MG M' g → ((qMadeBy g x y z').1 = 0 → M'.2.1 = (qMadeBy g x y z').2.toInt64) → P (.inl (some (.int (nI (qMadeBy g x y z').1)))) M') : Sp E yL_madeBy cL_madeBy zL_madeBy [.ref (ad E 0 0 0), .int x, .int y, .int z', .ref (ad E 27 0 0)] M P := by
  refine Sp_ofH (own := RL) (by decide) rfl (List.cons_ne_nil _ _) (Nat.le_of_ble_eq_true rfl) (fun C => ?_)
  refine G_aload dL_madeBy_0 rfl ?_
  refine G_iconst (v := 0) dL_madeBy_2 (by decide) ?_
  refine G_aload_n dL_madeBy_3 rfl ?_
  refine G_iload_n dL_madeBy_4 rfl ?_
  refine G_iload_n dL_madeBy_5 rfl ?_
  refine G_iload_n dL_madeBy_6 rfl ?_
  refine G_callVH (n := 3) (as := [.int x, .int y, .int z']) (rest := [.int 0, .ref (ad E 27 0 0)]) (k := 0) (j := 0) (p := 0) (ci := 8) (T := TX8) (N := 9) (cs' := 3) (ss' := 18) dL_madeBy_7 lk_L_36 ⟨by decide, rfl, rfl⟩ rfl rfl rfl rfl (Nat.le_of_ble_eq_true rfl) (Nat.le_of_ble_eq_true rfl) (Nat.le_of_ble_eq_true rfl) rfl rfl (Nat.le_of_ble_eq_true rfl) (Nat.le_of_ble_eq_true rfl) ?_
  refine s_X8_madeBy hC ?_
  by_cases q : (qMadeBy g x y z').1 = 0
  · rw [show rs xPA (qMadeBy g x y z') = .inl (some (.int (qMadeBy g x y z').2)) from if_pos q]
    refine hGoH_i ?_
    refine G_i2l dL_madeBy_10 ?_
    refine G_last dL_madeBy_11 ?_
    refine G_goto (tgt := 23) dL_madeBy_12 (by decide) ?_
    refine G_iconst (v := 0) dL_madeBy_23 (by decide) ?_
    refine G_iret dL_madeBy_24 rfl rfl (Nat.le_of_ble_eq_true rfl) (Nat.le_of_ble_eq_true rfl) ?_
    have h' := h (M.1, (qMadeBy g x y z').2.toInt64, M.2.2) (CG.o hC) (MG.o hG) (fun _ => rfl)
    rw [q] at h'
    exact h'
  · rcases @b_qMadeBy g x y z' with b | b | b
    · exact absurd b q
    · rw [show rs xPA (qMadeBy g x y z') = .inr xIO from by unfold rs; rw [if_neg q, b]; rfl]
      refine hGoH_x (h := 15) (hCat1 rfl (Nat.le_of_ble_eq_true rfl) (Nat.le_of_ble_eq_true rfl) (by decide) lIO xIOw) (fun a => ?_)
      refine G_astore dL_madeBy_15 (Nat.le_of_ble_eq_true rfl) ?_
      refine G_iconst (v := 1) dL_madeBy_17 (by decide) ?_
      refine G_iret dL_madeBy_18 rfl rfl (Nat.le_of_ble_eq_true rfl) (Nat.le_of_ble_eq_true rfl) ?_
      have h' := h M hC hG (fun z => absurd z q)
      rw [b] at h'
      exact h'
    · rw [show rs xPA (qMadeBy g x y z') = .inr xIA from by unfold rs; rw [if_neg q, b]; rfl]
      refine hGoH_x (h := 19) (hCat2 rfl (Nat.le_of_ble_eq_true rfl) (Nat.le_of_ble_eq_true rfl) (by decide) lIA xIAw (by decide) lIO nIAO) (fun a => ?_)
      refine G_astore dL_madeBy_19 (Nat.le_of_ble_eq_true rfl) ?_
      refine G_iconst (v := 2) dL_madeBy_21 (by decide) ?_
      refine G_iret dL_madeBy_22 rfl rfl (Nat.le_of_ble_eq_true rfl) (Nat.le_of_ble_eq_true rfl) ?_
      have h' := h M hC hG (fun z => absurd z q)
      rw [b] at h'
      exact h'
theorem b_qDebt {x y : Int32} : (qDebt g x y).1 = 0 ∨ (qDebt g x y).1 = 1 ∨ (qDebt g x y).1 = 2 := by
  unfold qDebt
  (repeat' split) <;> first | exact Or.inl rfl | exact Or.inr rfl | exact Or.inr (Or.inl rfl) | exact Or.inr (Or.inr rfl)
theorem w_debt {x y : Int32} (hC : CG M g) (hO : Okg g) (hG : MG M g) (h : ∀ M', CG M' g → MG M' g → ((qDebt g x y).1 = 0 → M'.2.1 = (qDebt g x y).2.toInt64) → P (.inl (some (.int (nI (qDebt g x y).1)))) M') : Sp E yL_debt cL_debt zL_debt [.ref (ad E 0 0 0), .int x, .int y, .ref (ad E 27 0 0)] M P := by
  refine Sp_ofH (own := RL) (by decide) rfl (List.cons_ne_nil _ _) (Nat.le_of_ble_eq_true rfl) (fun C => ?_)
  refine G_aload_n dL_debt_0 rfl ?_
  refine G_iconst (v := 0) dL_debt_1 (by decide) ?_
  refine G_aload_n dL_debt_2 rfl ?_
  refine G_iload_n dL_debt_3 rfl ?_
  refine G_iload_n dL_debt_4 rfl ?_
  refine G_callVH (n := 2) (as := [.int x, .int y]) (rest := [.int 0, .ref (ad E 27 0 0)]) (k := 0) (j := 0) (p := 0) (ci := 8) (T := TX8) (N := 9) (cs' := 2) (ss' := 12) dL_debt_5 lk_L_39 ⟨by decide, rfl, rfl⟩ rfl rfl rfl rfl (Nat.le_of_ble_eq_true rfl) (Nat.le_of_ble_eq_true rfl) (Nat.le_of_ble_eq_true rfl) rfl rfl (Nat.le_of_ble_eq_true rfl) (Nat.le_of_ble_eq_true rfl) ?_
  refine s_X8_debt hC ?_
  by_cases q : (qDebt g x y).1 = 0
  · rw [show rs xPA (qDebt g x y) = .inl (some (.int (qDebt g x y).2)) from if_pos q]
    refine hGoH_i ?_
    refine G_i2l dL_debt_8 ?_
    refine G_last dL_debt_9 ?_
    refine G_goto (tgt := 21) dL_debt_10 (by decide) ?_
    refine G_iconst (v := 0) dL_debt_21 (by decide) ?_
    refine G_iret dL_debt_22 rfl rfl (Nat.le_of_ble_eq_true rfl) (Nat.le_of_ble_eq_true rfl) ?_
    have h' := h (M.1, (qDebt g x y).2.toInt64, M.2.2) (CG.o hC) (MG.o hG) (fun _ => rfl)
    rw [q] at h'
    exact h'
  · rcases @b_qDebt g x y with b | b | b
    · exact absurd b q
    · rw [show rs xPA (qDebt g x y) = .inr xIO from by unfold rs; rw [if_neg q, b]; rfl]
      refine hGoH_x (h := 13) (hCat1 rfl (Nat.le_of_ble_eq_true rfl) (Nat.le_of_ble_eq_true rfl) (by decide) lIO xIOw) (fun a => ?_)
      refine G_astore dL_debt_13 (Nat.le_of_ble_eq_true rfl) ?_
      refine G_iconst (v := 1) dL_debt_15 (by decide) ?_
      refine G_iret dL_debt_16 rfl rfl (Nat.le_of_ble_eq_true rfl) (Nat.le_of_ble_eq_true rfl) ?_
      have h' := h M hC hG (fun z => absurd z q)
      rw [b] at h'
      exact h'
    · rw [show rs xPA (qDebt g x y) = .inr xIA from by unfold rs; rw [if_neg q, b]; rfl]
      refine hGoH_x (h := 17) (hCat2 rfl (Nat.le_of_ble_eq_true rfl) (Nat.le_of_ble_eq_true rfl) (by decide) lIA xIAw (by decide) lIO nIAO) (fun a => ?_)
      refine G_astore dL_debt_17 (Nat.le_of_ble_eq_true rfl) ?_
      refine G_iconst (v := 2) dL_debt_19 (by decide) ?_
      refine G_iret dL_debt_20 rfl rfl (Nat.le_of_ble_eq_true rfl) (Nat.le_of_ble_eq_true rfl) ?_
      have h' := h M hC hG (fun z => absurd z q)
      rw [b] at h'
      exact h'
theorem b_qOwes {x y z' : Int32} : (qOwes g x y z').1 = 0 ∨ (qOwes g x y z').1 = 1 ∨ (qOwes g x y z').1 = 2 := by
  unfold qOwes
  (repeat' split) <;> first | exact Or.inl rfl | exact Or.inr rfl | exact Or.inr (Or.inl rfl) | exact Or.inr (Or.inr rfl)
theorem w_owes {x y z' : Int32} (hC : CG M g) (hO : Okg g) (hG : MG M g) (h : ∀ M', CG M' g → MG M' g → ((qOwes g x y z').1 = 0 → M'.2.1 = (qOwes g x y z').2.toInt64) → P (.inl (some (.int (nI (qOwes g x y z').1)))) M') : Sp E yL_owes cL_owes zL_owes [.ref (ad E 0 0 0), .int x, .int y, .int z', .ref (ad E 27 0 0)] M P := by
  refine Sp_ofH (own := RL) (by decide) rfl (List.cons_ne_nil _ _) (Nat.le_of_ble_eq_true rfl) (fun C => ?_)
  refine G_aload dL_owes_0 rfl ?_
  refine G_iconst (v := 0) dL_owes_2 (by decide) ?_
  refine G_aload_n dL_owes_3 rfl ?_
  refine G_iload_n dL_owes_4 rfl ?_
  refine G_iload_n dL_owes_5 rfl ?_
  refine G_iload_n dL_owes_6 rfl ?_
  refine G_callVH (n := 3) (as := [.int x, .int y, .int z']) (rest := [.int 0, .ref (ad E 27 0 0)]) (k := 0) (j := 0) (p := 0) (ci := 8) (T := TX8) (N := 9) (cs' := 3) (ss' := 18) dL_owes_7 lk_L_42 ⟨by decide, rfl, rfl⟩ rfl rfl rfl rfl (Nat.le_of_ble_eq_true rfl) (Nat.le_of_ble_eq_true rfl) (Nat.le_of_ble_eq_true rfl) rfl rfl (Nat.le_of_ble_eq_true rfl) (Nat.le_of_ble_eq_true rfl) ?_
  refine s_X8_owes hC ?_
  by_cases q : (qOwes g x y z').1 = 0
  · rw [show rs xPA (qOwes g x y z') = .inl (some (.int (qOwes g x y z').2)) from if_pos q]
    refine hGoH_i ?_
    refine G_i2l dL_owes_10 ?_
    refine G_last dL_owes_11 ?_
    refine G_goto (tgt := 23) dL_owes_12 (by decide) ?_
    refine G_iconst (v := 0) dL_owes_23 (by decide) ?_
    refine G_iret dL_owes_24 rfl rfl (Nat.le_of_ble_eq_true rfl) (Nat.le_of_ble_eq_true rfl) ?_
    have h' := h (M.1, (qOwes g x y z').2.toInt64, M.2.2) (CG.o hC) (MG.o hG) (fun _ => rfl)
    rw [q] at h'
    exact h'
  · rcases @b_qOwes g x y z' with b | b | b
    · exact absurd b q
    · rw [show rs xPA (qOwes g x y z') = .inr xIO from by unfold rs; rw [if_neg q, b]; rfl]
      refine hGoH_x (h := 15) (hCat1 rfl (Nat.le_of_ble_eq_true rfl) (Nat.le_of_ble_eq_true rfl) (by decide) lIO xIOw) (fun a => ?_)
      refine G_astore dL_owes_15 (Nat.le_of_ble_eq_true rfl) ?_
      refine G_iconst (v := 1) dL_owes_17 (by decide) ?_
      refine G_iret dL_owes_18 rfl rfl (Nat.le_of_ble_eq_true rfl) (Nat.le_of_ble_eq_true rfl) ?_
      have h' := h M hC hG (fun z => absurd z q)
      rw [b] at h'
      exact h'
    · rw [show rs xPA (qOwes g x y z') = .inr xIA from by unfold rs; rw [if_neg q, b]; rfl]
      refine hGoH_x (h := 19) (hCat2 rfl (Nat.le_of_ble_eq_true rfl) (Nat.le_of_ble_eq_true rfl) (by decide) lIA xIAw (by decide) lIO nIAO) (fun a => ?_)
      refine G_astore dL_owes_19 (Nat.le_of_ble_eq_true rfl) ?_
      refine G_iconst (v := 2) dL_owes_21 (by decide) ?_
      refine G_iret dL_owes_22 rfl rfl (Nat.le_of_ble_eq_true rfl) (Nat.le_of_ble_eq_true rfl) ?_
      have h' := h M hC hG (fun z => absurd z q)
      rw [b] at h'
      exact h'
theorem b_qNear {x y : Int32} : (qNear g x y).1 = 0 ∨ (qNear g x y).1 = 1 := by
  unfold qNear
  (repeat' split) <;> first | exact Or.inl rfl | exact Or.inr rfl | exact Or.inr (Or.inl rfl) | exact Or.inr (Or.inr rfl)
theorem w_isNear {x y : Int32} (hC : CG M g) (hO : Okg g) (hG : MG M g) (h : ∀ M', CG M' g → MG M' g → ((qNear g x y).1 = 0 → M'.2.1 = if (qNear g x y).2 = 0 then 0 else 1) → P (.inl (some (.int (nI (qNear g x y).1)))) M') : Sp E yL_isNear cL_isNear zL_isNear [.ref (ad E 0 0 0), .int x, .int y, .ref (ad E 27 0 0)] M P := by
  refine Sp_ofH (own := RL) (by decide) rfl (List.cons_ne_nil _ _) (Nat.le_of_ble_eq_true rfl) (fun C => ?_)
  refine G_aload_n dL_isNear_0 rfl ?_
  refine G_iconst (v := 0) dL_isNear_1 (by decide) ?_
  refine G_aload_n dL_isNear_2 rfl ?_
  refine G_iload_n dL_isNear_3 rfl ?_
  refine G_iload_n dL_isNear_4 rfl ?_
  refine G_callVH (n := 2) (as := [.int x, .int y]) (rest := [.int 0, .ref (ad E 27 0 0)]) (k := 0) (j := 0) (p := 0) (ci := 8) (T := TX8) (N := 9) (cs' := 2) (ss' := 12) dL_isNear_5 lk_L_45 ⟨by decide, rfl, rfl⟩ rfl rfl rfl rfl (Nat.le_of_ble_eq_true rfl) (Nat.le_of_ble_eq_true rfl) (Nat.le_of_ble_eq_true rfl) rfl rfl (Nat.le_of_ble_eq_true rfl) (Nat.le_of_ble_eq_true rfl) ?_
  refine s_X8_isNear hC ?_
  by_cases q : (qNear g x y).1 = 0
  · rw [show rs xP (qNear g x y) = .inl (some (.int (qNear g x y).2)) from if_pos q]
    refine hGoH_i ?_
    refine G_if_eq (tgt := 15) dL_isNear_8 (by decide) (fun c8 => ?_) (fun c8 => ?_)
    · refine G_lconst (v := 0) dL_isNear_15 rfl ?_
      refine G_last dL_isNear_16 ?_
      refine G_goto (tgt := 24) dL_isNear_17 (by decide) ?_
      refine G_iconst (v := 0) dL_isNear_24 (by decide) ?_
      refine G_iret dL_isNear_25 rfl rfl (Nat.le_of_ble_eq_true rfl) (Nat.le_of_ble_eq_true rfl) ?_
      have h' := h (M.1, 0, M.2.2) (CG.o hC) (MG.o hG) (fun _ => (if_pos c8).symm)
      rw [q] at h'
      exact h'
    · refine G_lconst (v := 1) dL_isNear_11 rfl ?_
      refine G_goto (tgt := 16) dL_isNear_12 (by decide) ?_
      refine G_last dL_isNear_16 ?_
      refine G_goto (tgt := 24) dL_isNear_17 (by decide) ?_
      refine G_iconst (v := 0) dL_isNear_24 (by decide) ?_
      refine G_iret dL_isNear_25 rfl rfl (Nat.le_of_ble_eq_true rfl) (Nat.le_of_ble_eq_true rfl) ?_
      have h' := h (M.1, 1, M.2.2) (CG.o hC) (MG.o hG) (fun _ => (if_neg c8).symm)
      rw [q] at h'
      exact h'
  · rcases @b_qNear g x y with b | b
    · exact absurd b q
    · rw [show rs xP (qNear g x y) = .inr xIO from by unfold rs; rw [if_neg q, b]; rfl]
      refine hGoH_x (h := 20) (hCat1 rfl (Nat.le_of_ble_eq_true rfl) (Nat.le_of_ble_eq_true rfl) (by decide) lIO xIOw) (fun a => ?_)
      refine G_astore dL_isNear_20 (Nat.le_of_ble_eq_true rfl) ?_
      refine G_iconst (v := 1) dL_isNear_22 (by decide) ?_
      refine G_iret dL_isNear_23 rfl rfl (Nat.le_of_ble_eq_true rfl) (Nat.le_of_ble_eq_true rfl) ?_
      have h' := h M hC hG (fun z => absurd z q)
      rw [b] at h'
      exact h'
theorem b_qWitness {x y : Int32} : (qWitness g x y).1 = 0 ∨ (qWitness g x y).1 = 1 := by
  unfold qWitness
  (repeat' split) <;> first | exact Or.inl rfl | exact Or.inr rfl | exact Or.inr (Or.inl rfl) | exact Or.inr (Or.inr rfl)
theorem w_witness {x y : Int32} (hC : CG M g) (hO : Okg g) (hG : MG M g) (h : ∀ M', CG M' g → MG M' g → ((qWitness g x y).1 = 0 → M'.2.1 = (qWitness g x y).2.toInt64) → P (.inl (some (.int (nI (qWitness g x y).1)))) M') : Sp E yL_witness cL_witness zL_witness [.ref (ad E 0 0 0), .int x, .int y, .ref (ad E 27 0 0)] M P := by
  refine Sp_ofH (own := RL) (by decide) rfl (List.cons_ne_nil _ _) (Nat.le_of_ble_eq_true rfl) (fun C => ?_)
  refine G_aload_n dL_witness_0 rfl ?_
  refine G_iconst (v := 0) dL_witness_1 (by decide) ?_
  refine G_aload_n dL_witness_2 rfl ?_
  refine G_iload_n dL_witness_3 rfl ?_
  refine G_iload_n dL_witness_4 rfl ?_
  refine G_callVH (n := 2) (as := [.int x, .int y]) (rest := [.int 0, .ref (ad E 27 0 0)]) (k := 0) (j := 0) (p := 0) (ci := 8) (T := TX8) (N := 9) (cs' := 1) (ss' := 6) dL_witness_5 lk_L_49 ⟨by decide, rfl, rfl⟩ rfl rfl rfl rfl (Nat.le_of_ble_eq_true rfl) (Nat.le_of_ble_eq_true rfl) (Nat.le_of_ble_eq_true rfl) rfl rfl (Nat.le_of_ble_eq_true rfl) (Nat.le_of_ble_eq_true rfl) ?_
  refine s_X8_witness hC ?_
  by_cases q : (qWitness g x y).1 = 0
  · rw [show rs xP (qWitness g x y) = .inl (some (.int (qWitness g x y).2)) from if_pos q]
    refine hGoH_i ?_
    refine G_i2l dL_witness_8 ?_
    refine G_last dL_witness_9 ?_
    refine G_goto (tgt := 17) dL_witness_10 (by decide) ?_
    refine G_iconst (v := 0) dL_witness_17 (by decide) ?_
    refine G_iret dL_witness_18 rfl rfl (Nat.le_of_ble_eq_true rfl) (Nat.le_of_ble_eq_true rfl) ?_
    have h' := h (M.1, (qWitness g x y).2.toInt64, M.2.2) (CG.o hC) (MG.o hG) (fun _ => rfl)
    rw [q] at h'
    exact h'
  · rcases @b_qWitness g x y with b | b
    · exact absurd b q
    · rw [show rs xP (qWitness g x y) = .inr xIO from by unfold rs; rw [if_neg q, b]; rfl]
      refine hGoH_x (h := 13) (hCat1 rfl (Nat.le_of_ble_eq_true rfl) (Nat.le_of_ble_eq_true rfl) (by decide) lIO xIOw) (fun a => ?_)
      refine G_astore dL_witness_13 (Nat.le_of_ble_eq_true rfl) ?_
      refine G_iconst (v := 1) dL_witness_15 (by decide) ?_
      refine G_iret dL_witness_16 rfl rfl (Nat.le_of_ble_eq_true rfl) (Nat.le_of_ble_eq_true rfl) ?_
      have h' := h M hC hG (fun z => absurd z q)
      rw [b] at h'
      exact h'
theorem b_qBench {x y : Int32} : (qBench g x y).1 = 0 ∨ (qBench g x y).1 = 1 := by
  unfold qBench
  (repeat' split) <;> first | exact Or.inl rfl | exact Or.inr rfl | exact Or.inr (Or.inl rfl) | exact Or.inr (Or.inr rfl)
theorem w_bench {x y : Int32} (hC : CG M g) (hO : Okg g) (hG : MG M g) (h : ∀ M', CG M' g → MG M' g → ((qBench g x y).1 = 0 → M'.2.1 = (qBench g x y).2.toInt64) → P (.inl (some (.int (nI (qBench g x y).1)))) M') : Sp E yL_bench cL_bench zL_bench [.ref (ad E 0 0 0), .int x, .int y, .ref (ad E 27 0 0)] M P := by
  refine Sp_ofH (own := RL) (by decide) rfl (List.cons_ne_nil _ _) (Nat.le_of_ble_eq_true rfl) (fun C => ?_)
  refine G_aload_n dL_bench_0 rfl ?_
  refine G_iconst (v := 0) dL_bench_1 (by decide) ?_
  refine G_aload_n dL_bench_2 rfl ?_
  refine G_iload_n dL_bench_3 rfl ?_
  refine G_iload_n dL_bench_4 rfl ?_
  refine G_callVH (n := 2) (as := [.int x, .int y]) (rest := [.int 0, .ref (ad E 27 0 0)]) (k := 0) (j := 0) (p := 0) (ci := 8) (T := TX8) (N := 9) (cs' := 2) (ss' := 12) dL_bench_5 lk_L_52 ⟨by decide, rfl, rfl⟩ rfl rfl rfl rfl (Nat.le_of_ble_eq_true rfl) (Nat.le_of_ble_eq_true rfl) (Nat.le_of_ble_eq_true rfl) rfl rfl (Nat.le_of_ble_eq_true rfl) (Nat.le_of_ble_eq_true rfl) ?_
  refine s_X8_bench hC ?_
  by_cases q : (qBench g x y).1 = 0
  · rw [show rs xA (qBench g x y) = .inl (some (.int (qBench g x y).2)) from if_pos q]
    refine hGoH_i ?_
    refine G_i2l dL_bench_8 ?_
    refine G_last dL_bench_9 ?_
    refine G_goto (tgt := 17) dL_bench_10 (by decide) ?_
    refine G_iconst (v := 0) dL_bench_17 (by decide) ?_
    refine G_iret dL_bench_18 rfl rfl (Nat.le_of_ble_eq_true rfl) (Nat.le_of_ble_eq_true rfl) ?_
    have h' := h (M.1, (qBench g x y).2.toInt64, M.2.2) (CG.o hC) (MG.o hG) (fun _ => rfl)
    rw [q] at h'
    exact h'
  · rcases @b_qBench g x y with b | b
    · exact absurd b q
    · rw [show rs xA (qBench g x y) = .inr xIA from by unfold rs; rw [if_neg q, b]; rfl]
      refine hGoH_x (h := 13) (hCat1 rfl (Nat.le_of_ble_eq_true rfl) (Nat.le_of_ble_eq_true rfl) (by decide) lIA xIAw) (fun a => ?_)
      refine G_astore dL_bench_13 (Nat.le_of_ble_eq_true rfl) ?_
      refine G_iconst (v := 1) dL_bench_15 (by decide) ?_
      refine G_iret dL_bench_16 rfl rfl (Nat.le_of_ble_eq_true rfl) (Nat.le_of_ble_eq_true rfl) ?_
      have h' := h M hC hG (fun z => absurd z q)
      rw [b] at h'
      exact h'
theorem b_qSeers {x y : Int32} : (qSeers g x y).1 = 0 ∨ (qSeers g x y).1 = 1 ∨ (qSeers g x y).1 = 2 := by
  unfold qSeers
  (repeat' split) <;> first | exact Or.inl rfl | exact Or.inr rfl | exact Or.inr (Or.inl rfl) | exact Or.inr (Or.inr rfl)
theorem w_seers {x y : Int32} (hC : CG M g) (hO : Okg g) (hG : MG M g) (h : ∀ M', CG M' g → MG M' g → ((qSeers g x y).1 = 0 → M'.2.1 = (qSeers g x y).2.toInt64) → P (.inl (some (.int (nI (qSeers g x y).1)))) M') : Sp E yL_seers cL_seers zL_seers [.ref (ad E 0 0 0), .int x, .int y, .ref (ad E 27 0 0)] M P := by
  refine Sp_ofH (own := RL) (by decide) rfl (List.cons_ne_nil _ _) (Nat.le_of_ble_eq_true rfl) (fun C => ?_)
  refine G_aload_n dL_seers_0 rfl ?_
  refine G_iconst (v := 0) dL_seers_1 (by decide) ?_
  refine G_aload_n dL_seers_2 rfl ?_
  refine G_iload_n dL_seers_3 rfl ?_
  refine G_iload_n dL_seers_4 rfl ?_
  refine G_callVH (n := 2) (as := [.int x, .int y]) (rest := [.int 0, .ref (ad E 27 0 0)]) (k := 0) (j := 0) (p := 0) (ci := 8) (T := TX8) (N := 9) (cs' := 3) (ss' := 18) dL_seers_5 lk_L_55 ⟨by decide, rfl, rfl⟩ rfl rfl rfl rfl (Nat.le_of_ble_eq_true rfl) (Nat.le_of_ble_eq_true rfl) (Nat.le_of_ble_eq_true rfl) rfl rfl (Nat.le_of_ble_eq_true rfl) (Nat.le_of_ble_eq_true rfl) ?_
  refine s_X8_seers hC ?_
  by_cases q : (qSeers g x y).1 = 0
  · rw [show rs xPA (qSeers g x y) = .inl (some (.int (qSeers g x y).2)) from if_pos q]
    refine hGoH_i ?_
    refine G_i2l dL_seers_8 ?_
    refine G_last dL_seers_9 ?_
    refine G_goto (tgt := 21) dL_seers_10 (by decide) ?_
    refine G_iconst (v := 0) dL_seers_21 (by decide) ?_
    refine G_iret dL_seers_22 rfl rfl (Nat.le_of_ble_eq_true rfl) (Nat.le_of_ble_eq_true rfl) ?_
    have h' := h (M.1, (qSeers g x y).2.toInt64, M.2.2) (CG.o hC) (MG.o hG) (fun _ => rfl)
    rw [q] at h'
    exact h'
  · rcases @b_qSeers g x y with b | b | b
    · exact absurd b q
    · rw [show rs xPA (qSeers g x y) = .inr xIO from by unfold rs; rw [if_neg q, b]; rfl]
      refine hGoH_x (h := 13) (hCat1 rfl (Nat.le_of_ble_eq_true rfl) (Nat.le_of_ble_eq_true rfl) (by decide) lIO xIOw) (fun a => ?_)
      refine G_astore dL_seers_13 (Nat.le_of_ble_eq_true rfl) ?_
      refine G_iconst (v := 1) dL_seers_15 (by decide) ?_
      refine G_iret dL_seers_16 rfl rfl (Nat.le_of_ble_eq_true rfl) (Nat.le_of_ble_eq_true rfl) ?_
      have h' := h M hC hG (fun z => absurd z q)
      rw [b] at h'
      exact h'
    · rw [show rs xPA (qSeers g x y) = .inr xIA from by unfold rs; rw [if_neg q, b]; rfl]
      refine hGoH_x (h := 17) (hCat2 rfl (Nat.le_of_ble_eq_true rfl) (Nat.le_of_ble_eq_true rfl) (by decide) lIA xIAw (by decide) lIO nIAO) (fun a => ?_)
      refine G_astore dL_seers_17 (Nat.le_of_ble_eq_true rfl) ?_
      refine G_iconst (v := 2) dL_seers_19 (by decide) ?_
      refine G_iret dL_seers_20 rfl rfl (Nat.le_of_ble_eq_true rfl) (Nat.le_of_ble_eq_true rfl) ?_
      have h' := h M hC hG (fun z => absurd z q)
      rw [b] at h'
      exact h'
theorem b_qWhy {x y : Int32} : (qWhy g x y).1 = 0 ∨ (qWhy g x y).1 = 1 ∨ (qWhy g x y).1 = 2 := by
  unfold qWhy
  (repeat' split) <;> first | exact Or.inl rfl | exact Or.inr rfl | exact Or.inr (Or.inl rfl) | exact Or.inr (Or.inr rfl)
theorem w_why {x y : Int32} (hC : CG M g) (hO : Okg g) (hG : MG M g) (h : ∀ M', CG M' g → MG M' g → ((qWhy g x y).1 = 0 → M'.2.1 = (qWhy g x y).2.toInt64) → P (.inl (some (.int (nI (qWhy g x y).1)))) M') : Sp E yL_why cL_why zL_why [.ref (ad E 0 0 0), .int x, .int y, .ref (ad E 27 0 0)] M P := by
  refine Sp_ofH (own := RL) (by decide) rfl (List.cons_ne_nil _ _) (Nat.le_of_ble_eq_true rfl) (fun C => ?_)
  refine G_aload_n dL_why_0 rfl ?_
  refine G_iconst (v := 0) dL_why_1 (by decide) ?_
  refine G_aload_n dL_why_2 rfl ?_
  refine G_iload_n dL_why_3 rfl ?_
  refine G_iload_n dL_why_4 rfl ?_
  refine G_callVH (n := 2) (as := [.int x, .int y]) (rest := [.int 0, .ref (ad E 27 0 0)]) (k := 0) (j := 0) (p := 0) (ci := 8) (T := TX8) (N := 9) (cs' := 2) (ss' := 12) dL_why_5 lk_L_58 ⟨by decide, rfl, rfl⟩ rfl rfl rfl rfl (Nat.le_of_ble_eq_true rfl) (Nat.le_of_ble_eq_true rfl) (Nat.le_of_ble_eq_true rfl) rfl rfl (Nat.le_of_ble_eq_true rfl) (Nat.le_of_ble_eq_true rfl) ?_
  refine s_X8_why hC hO ?_
  by_cases q : (qWhy g x y).1 = 0
  · rw [show rs xPA (qWhy g x y) = .inl (some (.int (qWhy g x y).2)) from if_pos q]
    refine hGoH_i ?_
    refine G_i2l dL_why_8 ?_
    refine G_last dL_why_9 ?_
    refine G_goto (tgt := 21) dL_why_10 (by decide) ?_
    refine G_iconst (v := 0) dL_why_21 (by decide) ?_
    refine G_iret dL_why_22 rfl rfl (Nat.le_of_ble_eq_true rfl) (Nat.le_of_ble_eq_true rfl) ?_
    have h' := h (M.1, (qWhy g x y).2.toInt64, M.2.2) (CG.o hC) (MG.o hG) (fun _ => rfl)
    rw [q] at h'
    exact h'
  · rcases @b_qWhy g x y with b | b | b
    · exact absurd b q
    · rw [show rs xPA (qWhy g x y) = .inr xIO from by unfold rs; rw [if_neg q, b]; rfl]
      refine hGoH_x (h := 13) (hCat1 rfl (Nat.le_of_ble_eq_true rfl) (Nat.le_of_ble_eq_true rfl) (by decide) lIO xIOw) (fun a => ?_)
      refine G_astore dL_why_13 (Nat.le_of_ble_eq_true rfl) ?_
      refine G_iconst (v := 1) dL_why_15 (by decide) ?_
      refine G_iret dL_why_16 rfl rfl (Nat.le_of_ble_eq_true rfl) (Nat.le_of_ble_eq_true rfl) ?_
      have h' := h M hC hG (fun z => absurd z q)
      rw [b] at h'
      exact h'
    · rw [show rs xPA (qWhy g x y) = .inr xIA from by unfold rs; rw [if_neg q, b]; rfl]
      refine hGoH_x (h := 17) (hCat2 rfl (Nat.le_of_ble_eq_true rfl) (Nat.le_of_ble_eq_true rfl) (by decide) lIA xIAw (by decide) lIO nIAO) (fun a => ?_)
      refine G_astore dL_why_17 (Nat.le_of_ble_eq_true rfl) ?_
      refine G_iconst (v := 2) dL_why_19 (by decide) ?_
      refine G_iret dL_why_20 rfl rfl (Nat.le_of_ble_eq_true rfl) (Nat.le_of_ble_eq_true rfl) ?_
      have h' := h M hC hG (fun z => absurd z q)
      rw [b] at h'
      exact h'
theorem b_qMost {x : Int32} : (qMost g x).1 = 0 ∨ (qMost g x).1 = 1 := by
  unfold qMost
  (repeat' split) <;> first | exact Or.inl rfl | exact Or.inr rfl | exact Or.inr (Or.inl rfl) | exact Or.inr (Or.inr rfl)
theorem w_most {x : Int32} (hC : CG M g) (hO : Okg g) (hG : MG M g) (h : ∀ M', CG M' g → MG M' g → ((qMost g x).1 = 0 → M'.2.1 = (qMost g x).2.toInt64) → P (.inl (some (.int (nI (qMost g x).1)))) M') : Sp E yL_most cL_most zL_most [.ref (ad E 0 0 0), .int x, .ref (ad E 27 0 0)] M P := by
  refine Sp_ofH (own := RL) (by decide) rfl (List.cons_ne_nil _ _) (Nat.le_of_ble_eq_true rfl) (fun C => ?_)
  refine G_aload_n dL_most_0 rfl ?_
  refine G_iconst (v := 0) dL_most_1 (by decide) ?_
  refine G_aload_n dL_most_2 rfl ?_
  refine G_iload_n dL_most_3 rfl ?_
  refine G_callVH (n := 1) (as := [.int x]) (rest := [.int 0, .ref (ad E 27 0 0)]) (k := 0) (j := 0) (p := 0) (ci := 8) (T := TX8) (N := 9) (cs' := 1) (ss' := 6) dL_most_4 lk_L_61 ⟨by decide, rfl, rfl⟩ rfl rfl rfl rfl (Nat.le_of_ble_eq_true rfl) (Nat.le_of_ble_eq_true rfl) (Nat.le_of_ble_eq_true rfl) rfl rfl (Nat.le_of_ble_eq_true rfl) (Nat.le_of_ble_eq_true rfl) ?_
  refine s_X8_most hC hO ?_
  by_cases q : (qMost g x).1 = 0
  · rw [show rs xA (qMost g x) = .inl (some (.int (qMost g x).2)) from if_pos q]
    refine hGoH_i ?_
    refine G_i2l dL_most_7 ?_
    refine G_last dL_most_8 ?_
    refine G_goto (tgt := 15) dL_most_9 (by decide) ?_
    refine G_iconst (v := 0) dL_most_15 (by decide) ?_
    refine G_iret dL_most_16 rfl rfl (Nat.le_of_ble_eq_true rfl) (Nat.le_of_ble_eq_true rfl) ?_
    have h' := h (M.1, (qMost g x).2.toInt64, M.2.2) (CG.o hC) (MG.o hG) (fun _ => rfl)
    rw [q] at h'
    exact h'
  · rcases @b_qMost g x with b | b
    · exact absurd b q
    · rw [show rs xA (qMost g x) = .inr xIA from by unfold rs; rw [if_neg q, b]; rfl]
      refine hGoH_x (h := 12) (hCat1 rfl (Nat.le_of_ble_eq_true rfl) (Nat.le_of_ble_eq_true rfl) (by decide) lIA xIAw) (fun a => ?_)
      refine G_astore_n dL_most_12 (Nat.le_of_ble_eq_true rfl) ?_
      refine G_iconst (v := 1) dL_most_13 (by decide) ?_
      refine G_iret dL_most_14 rfl rfl (Nat.le_of_ble_eq_true rfl) (Nat.le_of_ble_eq_true rfl) ?_
      have h' := h M hC hG (fun z => absurd z q)
      rw [b] at h'
      exact h'
theorem b_qRanked {x y : Int32} : (qRanked g x y).1 = 0 ∨ (qRanked g x y).1 = 1 := by
  unfold qRanked
  (repeat' split) <;> first | exact Or.inl rfl | exact Or.inr rfl | exact Or.inr (Or.inl rfl) | exact Or.inr (Or.inr rfl)
theorem w_ranked {x y : Int32} (hC : CG M g) (hO : Okg g) (hG : MG M g) (h : ∀ M', CG M' g → MG M' g → ((qRanked g x y).1 = 0 → M'.2.1 = (qRanked g x y).2.toInt64) → P (.inl (some (.int (nI (qRanked g x y).1)))) M') : Sp E yL_ranked cL_ranked zL_ranked [.ref (ad E 0 0 0), .int x, .int y, .ref (ad E 27 0 0)] M P := by
  refine Sp_ofH (own := RL) (by decide) rfl (List.cons_ne_nil _ _) (Nat.le_of_ble_eq_true rfl) (fun C => ?_)
  refine G_aload_n dL_ranked_0 rfl ?_
  refine G_iconst (v := 0) dL_ranked_1 (by decide) ?_
  refine G_aload_n dL_ranked_2 rfl ?_
  refine G_iload_n dL_ranked_3 rfl ?_
  refine G_iload_n dL_ranked_4 rfl ?_
  refine G_callVH (n := 2) (as := [.int x, .int y]) (rest := [.int 0, .ref (ad E 27 0 0)]) (k := 0) (j := 0) (p := 0) (ci := 8) (T := TX8) (N := 9) (cs' := 1) (ss' := 6) dL_ranked_5 lk_L_64 ⟨by decide, rfl, rfl⟩ rfl rfl rfl rfl (Nat.le_of_ble_eq_true rfl) (Nat.le_of_ble_eq_true rfl) (Nat.le_of_ble_eq_true rfl) rfl rfl (Nat.le_of_ble_eq_true rfl) (Nat.le_of_ble_eq_true rfl) ?_
  refine s_X8_ranked hC ?_
  by_cases q : (qRanked g x y).1 = 0
  · rw [show rs xA (qRanked g x y) = .inl (some (.int (qRanked g x y).2)) from if_pos q]
    refine hGoH_i ?_
    refine G_i2l dL_ranked_8 ?_
    refine G_last dL_ranked_9 ?_
    refine G_goto (tgt := 17) dL_ranked_10 (by decide) ?_
    refine G_iconst (v := 0) dL_ranked_17 (by decide) ?_
    refine G_iret dL_ranked_18 rfl rfl (Nat.le_of_ble_eq_true rfl) (Nat.le_of_ble_eq_true rfl) ?_
    have h' := h (M.1, (qRanked g x y).2.toInt64, M.2.2) (CG.o hC) (MG.o hG) (fun _ => rfl)
    rw [q] at h'
    exact h'
  · rcases @b_qRanked g x y with b | b
    · exact absurd b q
    · rw [show rs xA (qRanked g x y) = .inr xIA from by unfold rs; rw [if_neg q, b]; rfl]
      refine hGoH_x (h := 13) (hCat1 rfl (Nat.le_of_ble_eq_true rfl) (Nat.le_of_ble_eq_true rfl) (by decide) lIA xIAw) (fun a => ?_)
      refine G_astore dL_ranked_13 (Nat.le_of_ble_eq_true rfl) ?_
      refine G_iconst (v := 1) dL_ranked_15 (by decide) ?_
      refine G_iret dL_ranked_16 rfl rfl (Nat.le_of_ble_eq_true rfl) (Nat.le_of_ble_eq_true rfl) ?_
      have h' := h M hC hG (fun z => absurd z q)
      rw [b] at h'
      exact h'
theorem b_qMostOf {x : Int32} : (qMostOf g x).1 = 0 ∨ (qMostOf g x).1 = 1 := by
  unfold qMostOf
  (repeat' split) <;> first | exact Or.inl rfl | exact Or.inr rfl | exact Or.inr (Or.inl rfl) | exact Or.inr (Or.inr rfl)
theorem w_mostOf {x : Int32} (hC : CG M g) (hO : Okg g) (hG : MG M g) (h : ∀ M', CG M' g → MG M' g → ((qMostOf g x).1 = 0 → M'.2.1 = (qMostOf g x).2.toInt64) → P (.inl (some (.int (nI (qMostOf g x).1)))) M') : Sp E yL_mostOf cL_mostOf zL_mostOf [.ref (ad E 0 0 0), .int x, .ref (ad E 27 0 0)] M P := by
  refine Sp_ofH (own := RL) (by decide) rfl (List.cons_ne_nil _ _) (Nat.le_of_ble_eq_true rfl) (fun C => ?_)
  refine G_aload_n dL_mostOf_0 rfl ?_
  refine G_iconst (v := 0) dL_mostOf_1 (by decide) ?_
  refine G_aload_n dL_mostOf_2 rfl ?_
  refine G_iload_n dL_mostOf_3 rfl ?_
  refine G_callVH (n := 1) (as := [.int x]) (rest := [.int 0, .ref (ad E 27 0 0)]) (k := 0) (j := 0) (p := 0) (ci := 8) (T := TX8) (N := 9) (cs' := 1) (ss' := 6) dL_mostOf_4 lk_L_67 ⟨by decide, rfl, rfl⟩ rfl rfl rfl rfl (Nat.le_of_ble_eq_true rfl) (Nat.le_of_ble_eq_true rfl) (Nat.le_of_ble_eq_true rfl) rfl rfl (Nat.le_of_ble_eq_true rfl) (Nat.le_of_ble_eq_true rfl) ?_
  refine s_X8_mostOf hC hO ?_
  by_cases q : (qMostOf g x).1 = 0
  · rw [show rs xA (qMostOf g x) = .inl (some (.int (qMostOf g x).2)) from if_pos q]
    refine hGoH_i ?_
    refine G_i2l dL_mostOf_7 ?_
    refine G_last dL_mostOf_8 ?_
    refine G_goto (tgt := 15) dL_mostOf_9 (by decide) ?_
    refine G_iconst (v := 0) dL_mostOf_15 (by decide) ?_
    refine G_iret dL_mostOf_16 rfl rfl (Nat.le_of_ble_eq_true rfl) (Nat.le_of_ble_eq_true rfl) ?_
    have h' := h (M.1, (qMostOf g x).2.toInt64, M.2.2) (CG.o hC) (MG.o hG) (fun _ => rfl)
    rw [q] at h'
    exact h'
  · rcases @b_qMostOf g x with b | b
    · exact absurd b q
    · rw [show rs xA (qMostOf g x) = .inr xIA from by unfold rs; rw [if_neg q, b]; rfl]
      refine hGoH_x (h := 12) (hCat1 rfl (Nat.le_of_ble_eq_true rfl) (Nat.le_of_ble_eq_true rfl) (by decide) lIA xIAw) (fun a => ?_)
      refine G_astore_n dL_mostOf_12 (Nat.le_of_ble_eq_true rfl) ?_
      refine G_iconst (v := 1) dL_mostOf_13 (by decide) ?_
      refine G_iret dL_mostOf_14 rfl rfl (Nat.le_of_ble_eq_true rfl) (Nat.le_of_ble_eq_true rfl) ?_
      have h' := h M hC hG (fun z => absurd z q)
      rw [b] at h'
      exact h'
theorem b_qMakers {x y : Int32} : (qMakers g x y).1 = 0 ∨ (qMakers g x y).1 = 1 ∨ (qMakers g x y).1 = 2 := by
  unfold qMakers
  (repeat' split) <;> first | exact Or.inl rfl | exact Or.inr rfl | exact Or.inr (Or.inl rfl) | exact Or.inr (Or.inr rfl)
theorem w_makers {x y : Int32} (hC : CG M g) (hO : Okg g) (hG : MG M g) (h : ∀ M', CG M' g → MG M' g → ((qMakers g x y).1 = 0 → M'.2.1 = (qMakers g x y).2.toInt64) → P (.inl (some (.int (nI (qMakers g x y).1)))) M') : Sp E yL_makers cL_makers zL_makers [.ref (ad E 0 0 0), .int x, .int y, .ref (ad E 27 0 0)] M P := by
  refine Sp_ofH (own := RL) (by decide) rfl (List.cons_ne_nil _ _) (Nat.le_of_ble_eq_true rfl) (fun C => ?_)
  refine G_aload_n dL_makers_0 rfl ?_
  refine G_iconst (v := 0) dL_makers_1 (by decide) ?_
  refine G_aload_n dL_makers_2 rfl ?_
  refine G_iload_n dL_makers_3 rfl ?_
  refine G_iload_n dL_makers_4 rfl ?_
  refine G_callVH (n := 2) (as := [.int x, .int y]) (rest := [.int 0, .ref (ad E 27 0 0)]) (k := 0) (j := 0) (p := 0) (ci := 8) (T := TX8) (N := 9) (cs' := 2) (ss' := 12) dL_makers_5 lk_L_70 ⟨by decide, rfl, rfl⟩ rfl rfl rfl rfl (Nat.le_of_ble_eq_true rfl) (Nat.le_of_ble_eq_true rfl) (Nat.le_of_ble_eq_true rfl) rfl rfl (Nat.le_of_ble_eq_true rfl) (Nat.le_of_ble_eq_true rfl) ?_
  refine s_X8_makers hC ?_
  by_cases q : (qMakers g x y).1 = 0
  · rw [show rs xPA (qMakers g x y) = .inl (some (.int (qMakers g x y).2)) from if_pos q]
    refine hGoH_i ?_
    refine G_i2l dL_makers_8 ?_
    refine G_last dL_makers_9 ?_
    refine G_goto (tgt := 21) dL_makers_10 (by decide) ?_
    refine G_iconst (v := 0) dL_makers_21 (by decide) ?_
    refine G_iret dL_makers_22 rfl rfl (Nat.le_of_ble_eq_true rfl) (Nat.le_of_ble_eq_true rfl) ?_
    have h' := h (M.1, (qMakers g x y).2.toInt64, M.2.2) (CG.o hC) (MG.o hG) (fun _ => rfl)
    rw [q] at h'
    exact h'
  · rcases @b_qMakers g x y with b | b | b
    · exact absurd b q
    · rw [show rs xPA (qMakers g x y) = .inr xIO from by unfold rs; rw [if_neg q, b]; rfl]
      refine hGoH_x (h := 13) (hCat1 rfl (Nat.le_of_ble_eq_true rfl) (Nat.le_of_ble_eq_true rfl) (by decide) lIO xIOw) (fun a => ?_)
      refine G_astore dL_makers_13 (Nat.le_of_ble_eq_true rfl) ?_
      refine G_iconst (v := 1) dL_makers_15 (by decide) ?_
      refine G_iret dL_makers_16 rfl rfl (Nat.le_of_ble_eq_true rfl) (Nat.le_of_ble_eq_true rfl) ?_
      have h' := h M hC hG (fun z => absurd z q)
      rw [b] at h'
      exact h'
    · rw [show rs xPA (qMakers g x y) = .inr xIA from by unfold rs; rw [if_neg q, b]; rfl]
      refine hGoH_x (h := 17) (hCat2 rfl (Nat.le_of_ble_eq_true rfl) (Nat.le_of_ble_eq_true rfl) (by decide) lIA xIAw (by decide) lIO nIAO) (fun a => ?_)
      refine G_astore dL_makers_17 (Nat.le_of_ble_eq_true rfl) ?_
      refine G_iconst (v := 2) dL_makers_19 (by decide) ?_
      refine G_iret dL_makers_20 rfl rfl (Nat.le_of_ble_eq_true rfl) (Nat.le_of_ble_eq_true rfl) ?_
      have h' := h M hC hG (fun z => absurd z q)
      rw [b] at h'
      exact h'
theorem b_qNeeds {x y : Int32} : (qNeeds g x y).1 = 0 ∨ (qNeeds g x y).1 = 1 ∨ (qNeeds g x y).1 = 2 := by
  unfold qNeeds
  (repeat' split) <;> first | exact Or.inl rfl | exact Or.inr rfl | exact Or.inr (Or.inl rfl) | exact Or.inr (Or.inr rfl)
theorem w_needs {x y : Int32} (hC : CG M g) (hO : Okg g) (hG : MG M g) (h : ∀ M', CG M' g → MG M' g → ((qNeeds g x y).1 = 0 → M'.2.1 = (qNeeds g x y).2.toInt64) → P (.inl (some (.int (nI (qNeeds g x y).1)))) M') : Sp E yL_needs cL_needs zL_needs [.ref (ad E 0 0 0), .int x, .int y, .ref (ad E 27 0 0)] M P := by
  refine Sp_ofH (own := RL) (by decide) rfl (List.cons_ne_nil _ _) (Nat.le_of_ble_eq_true rfl) (fun C => ?_)
  refine G_aload_n dL_needs_0 rfl ?_
  refine G_iconst (v := 0) dL_needs_1 (by decide) ?_
  refine G_aload_n dL_needs_2 rfl ?_
  refine G_iload_n dL_needs_3 rfl ?_
  refine G_iload_n dL_needs_4 rfl ?_
  refine G_callVH (n := 2) (as := [.int x, .int y]) (rest := [.int 0, .ref (ad E 27 0 0)]) (k := 0) (j := 0) (p := 0) (ci := 8) (T := TX8) (N := 9) (cs' := 2) (ss' := 12) dL_needs_5 lk_L_73 ⟨by decide, rfl, rfl⟩ rfl rfl rfl rfl (Nat.le_of_ble_eq_true rfl) (Nat.le_of_ble_eq_true rfl) (Nat.le_of_ble_eq_true rfl) rfl rfl (Nat.le_of_ble_eq_true rfl) (Nat.le_of_ble_eq_true rfl) ?_
  refine s_X8_needs hC ?_
  by_cases q : (qNeeds g x y).1 = 0
  · rw [show rs xPA (qNeeds g x y) = .inl (some (.int (qNeeds g x y).2)) from if_pos q]
    refine hGoH_i ?_
    refine G_i2l dL_needs_8 ?_
    refine G_last dL_needs_9 ?_
    refine G_goto (tgt := 21) dL_needs_10 (by decide) ?_
    refine G_iconst (v := 0) dL_needs_21 (by decide) ?_
    refine G_iret dL_needs_22 rfl rfl (Nat.le_of_ble_eq_true rfl) (Nat.le_of_ble_eq_true rfl) ?_
    have h' := h (M.1, (qNeeds g x y).2.toInt64, M.2.2) (CG.o hC) (MG.o hG) (fun _ => rfl)
    rw [q] at h'
    exact h'
  · rcases @b_qNeeds g x y with b | b | b
    · exact absurd b q
    · rw [show rs xPA (qNeeds g x y) = .inr xIO from by unfold rs; rw [if_neg q, b]; rfl]
      refine hGoH_x (h := 13) (hCat1 rfl (Nat.le_of_ble_eq_true rfl) (Nat.le_of_ble_eq_true rfl) (by decide) lIO xIOw) (fun a => ?_)
      refine G_astore dL_needs_13 (Nat.le_of_ble_eq_true rfl) ?_
      refine G_iconst (v := 1) dL_needs_15 (by decide) ?_
      refine G_iret dL_needs_16 rfl rfl (Nat.le_of_ble_eq_true rfl) (Nat.le_of_ble_eq_true rfl) ?_
      have h' := h M hC hG (fun z => absurd z q)
      rw [b] at h'
      exact h'
    · rw [show rs xPA (qNeeds g x y) = .inr xIA from by unfold rs; rw [if_neg q, b]; rfl]
      refine hGoH_x (h := 17) (hCat2 rfl (Nat.le_of_ble_eq_true rfl) (Nat.le_of_ble_eq_true rfl) (by decide) lIA xIAw (by decide) lIO nIAO) (fun a => ?_)
      refine G_astore dL_needs_17 (Nat.le_of_ble_eq_true rfl) ?_
      refine G_iconst (v := 2) dL_needs_19 (by decide) ?_
      refine G_iret dL_needs_20 rfl rfl (Nat.le_of_ble_eq_true rfl) (Nat.le_of_ble_eq_true rfl) ?_
      have h' := h M hC hG (fun z => absurd z q)
      rw [b] at h'
      exact h'
theorem b_qNearTo {x y : Int32} : (qNearTo g x y).1 = 0 ∨ (qNearTo g x y).1 = 1 := by
  unfold qNearTo
  (repeat' split) <;> first | exact Or.inl rfl | exact Or.inr rfl | exact Or.inr (Or.inl rfl) | exact Or.inr (Or.inr rfl)
theorem w_nearTo {x y : Int32} (hC : CG M g) (hO : Okg g) (hG : MG M g) (h : ∀ M', CG M' g → MG M' g → ((qNearTo g x y).1 = 0 → M'.2.1 = (qNearTo g x y).2.toInt64) → P (.inl (some (.int (nI (qNearTo g x y).1)))) M') : Sp E yL_nearTo cL_nearTo zL_nearTo [.ref (ad E 0 0 0), .int x, .int y, .ref (ad E 27 0 0)] M P := by
  refine Sp_ofH (own := RL) (by decide) rfl (List.cons_ne_nil _ _) (Nat.le_of_ble_eq_true rfl) (fun C => ?_)
  refine G_aload_n dL_nearTo_0 rfl ?_
  refine G_iconst (v := 0) dL_nearTo_1 (by decide) ?_
  refine G_aload_n dL_nearTo_2 rfl ?_
  refine G_iload_n dL_nearTo_3 rfl ?_
  refine G_iload_n dL_nearTo_4 rfl ?_
  refine G_callVH (n := 2) (as := [.int x, .int y]) (rest := [.int 0, .ref (ad E 27 0 0)]) (k := 0) (j := 0) (p := 0) (ci := 8) (T := TX8) (N := 9) (cs' := 1) (ss' := 6) dL_nearTo_5 lk_L_76 ⟨by decide, rfl, rfl⟩ rfl rfl rfl rfl (Nat.le_of_ble_eq_true rfl) (Nat.le_of_ble_eq_true rfl) (Nat.le_of_ble_eq_true rfl) rfl rfl (Nat.le_of_ble_eq_true rfl) (Nat.le_of_ble_eq_true rfl) ?_
  refine s_X8_nearTo hC ?_
  by_cases q : (qNearTo g x y).1 = 0
  · rw [show rs xP (qNearTo g x y) = .inl (some (.int (qNearTo g x y).2)) from if_pos q]
    refine hGoH_i ?_
    refine G_i2l dL_nearTo_8 ?_
    refine G_last dL_nearTo_9 ?_
    refine G_goto (tgt := 17) dL_nearTo_10 (by decide) ?_
    refine G_iconst (v := 0) dL_nearTo_17 (by decide) ?_
    refine G_iret dL_nearTo_18 rfl rfl (Nat.le_of_ble_eq_true rfl) (Nat.le_of_ble_eq_true rfl) ?_
    have h' := h (M.1, (qNearTo g x y).2.toInt64, M.2.2) (CG.o hC) (MG.o hG) (fun _ => rfl)
    rw [q] at h'
    exact h'
  · rcases @b_qNearTo g x y with b | b
    · exact absurd b q
    · rw [show rs xP (qNearTo g x y) = .inr xIO from by unfold rs; rw [if_neg q, b]; rfl]
      refine hGoH_x (h := 13) (hCat1 rfl (Nat.le_of_ble_eq_true rfl) (Nat.le_of_ble_eq_true rfl) (by decide) lIO xIOw) (fun a => ?_)
      refine G_astore dL_nearTo_13 (Nat.le_of_ble_eq_true rfl) ?_
      refine G_iconst (v := 1) dL_nearTo_15 (by decide) ?_
      refine G_iret dL_nearTo_16 rfl rfl (Nat.le_of_ble_eq_true rfl) (Nat.le_of_ble_eq_true rfl) ?_
      have h' := h M hC hG (fun z => absurd z q)
      rw [b] at h'
      exact h'
theorem b_qDebtOf {x y : Int32} : (qDebtOf g x y).1 = 0 ∨ (qDebtOf g x y).1 = 1 := by
  unfold qDebtOf
  (repeat' split) <;> first | exact Or.inl rfl | exact Or.inr rfl | exact Or.inr (Or.inl rfl) | exact Or.inr (Or.inr rfl)
theorem w_debtOf {x y : Int32} (hC : CG M g) (hO : Okg g) (hG : MG M g) (h : ∀ M', CG M' g → MG M' g → ((qDebtOf g x y).1 = 0 → M'.2.1 = (qDebtOf g x y).2.toInt64) → P (.inl (some (.int (nI (qDebtOf g x y).1)))) M') : Sp E yL_debtOf cL_debtOf zL_debtOf [.ref (ad E 0 0 0), .int x, .int y, .ref (ad E 27 0 0)] M P := by
  refine Sp_ofH (own := RL) (by decide) rfl (List.cons_ne_nil _ _) (Nat.le_of_ble_eq_true rfl) (fun C => ?_)
  refine G_aload_n dL_debtOf_0 rfl ?_
  refine G_iconst (v := 0) dL_debtOf_1 (by decide) ?_
  refine G_aload_n dL_debtOf_2 rfl ?_
  refine G_iload_n dL_debtOf_3 rfl ?_
  refine G_iload_n dL_debtOf_4 rfl ?_
  refine G_callVH (n := 2) (as := [.int x, .int y]) (rest := [.int 0, .ref (ad E 27 0 0)]) (k := 0) (j := 0) (p := 0) (ci := 8) (T := TX8) (N := 9) (cs' := 1) (ss' := 6) dL_debtOf_5 lk_L_79 ⟨by decide, rfl, rfl⟩ rfl rfl rfl rfl (Nat.le_of_ble_eq_true rfl) (Nat.le_of_ble_eq_true rfl) (Nat.le_of_ble_eq_true rfl) rfl rfl (Nat.le_of_ble_eq_true rfl) (Nat.le_of_ble_eq_true rfl) ?_
  refine s_X8_debtOf hC ?_
  by_cases q : (qDebtOf g x y).1 = 0
  · rw [show rs xP (qDebtOf g x y) = .inl (some (.int (qDebtOf g x y).2)) from if_pos q]
    refine hGoH_i ?_
    refine G_i2l dL_debtOf_8 ?_
    refine G_last dL_debtOf_9 ?_
    refine G_goto (tgt := 17) dL_debtOf_10 (by decide) ?_
    refine G_iconst (v := 0) dL_debtOf_17 (by decide) ?_
    refine G_iret dL_debtOf_18 rfl rfl (Nat.le_of_ble_eq_true rfl) (Nat.le_of_ble_eq_true rfl) ?_
    have h' := h (M.1, (qDebtOf g x y).2.toInt64, M.2.2) (CG.o hC) (MG.o hG) (fun _ => rfl)
    rw [q] at h'
    exact h'
  · rcases @b_qDebtOf g x y with b | b
    · exact absurd b q
    · rw [show rs xP (qDebtOf g x y) = .inr xIO from by unfold rs; rw [if_neg q, b]; rfl]
      refine hGoH_x (h := 13) (hCat1 rfl (Nat.le_of_ble_eq_true rfl) (Nat.le_of_ble_eq_true rfl) (by decide) lIO xIOw) (fun a => ?_)
      refine G_astore dL_debtOf_13 (Nat.le_of_ble_eq_true rfl) ?_
      refine G_iconst (v := 1) dL_debtOf_15 (by decide) ?_
      refine G_iret dL_debtOf_16 rfl rfl (Nat.le_of_ble_eq_true rfl) (Nat.le_of_ble_eq_true rfl) ?_
      have h' := h M hC hG (fun z => absurd z q)
      rw [b] at h'
      exact h'
theorem b_qCanPay {x : Int32} : (qCanPay g x).1 = 0 ∨ (qCanPay g x).1 = 1 := by
  unfold qCanPay
  (repeat' split) <;> first | exact Or.inl rfl | exact Or.inr rfl | exact Or.inr (Or.inl rfl) | exact Or.inr (Or.inr rfl)
theorem w_canPay {x : Int32} (hC : CG M g) (hO : Okg g) (hG : MG M g) (h : ∀ M', CG M' g → MG M' g → ((qCanPay g x).1 = 0 → M'.2.1 = if (qCanPay g x).2 = 0 then 0 else 1) → P (.inl (some (.int (nI (qCanPay g x).1)))) M') : Sp E yL_canPay cL_canPay zL_canPay [.ref (ad E 0 0 0), .int x, .ref (ad E 27 0 0)] M P := by
  refine Sp_ofH (own := RL) (by decide) rfl (List.cons_ne_nil _ _) (Nat.le_of_ble_eq_true rfl) (fun C => ?_)
  refine G_aload_n dL_canPay_0 rfl ?_
  refine G_iconst (v := 0) dL_canPay_1 (by decide) ?_
  refine G_aload_n dL_canPay_2 rfl ?_
  refine G_iload_n dL_canPay_3 rfl ?_
  refine G_callVH (n := 1) (as := [.int x]) (rest := [.int 0, .ref (ad E 27 0 0)]) (k := 0) (j := 0) (p := 0) (ci := 8) (T := TX8) (N := 9) (cs' := 1) (ss' := 6) dL_canPay_4 lk_L_82 ⟨by decide, rfl, rfl⟩ rfl rfl rfl rfl (Nat.le_of_ble_eq_true rfl) (Nat.le_of_ble_eq_true rfl) (Nat.le_of_ble_eq_true rfl) rfl rfl (Nat.le_of_ble_eq_true rfl) (Nat.le_of_ble_eq_true rfl) ?_
  refine s_X8_canPay hC hO ?_
  by_cases q : (qCanPay g x).1 = 0
  · rw [show rs xP (qCanPay g x) = .inl (some (.int (qCanPay g x).2)) from if_pos q]
    refine hGoH_i ?_
    refine G_if_eq (tgt := 14) dL_canPay_7 (by decide) (fun c7 => ?_) (fun c7 => ?_)
    · refine G_lconst (v := 0) dL_canPay_14 rfl ?_
      refine G_last dL_canPay_15 ?_
      refine G_goto (tgt := 22) dL_canPay_16 (by decide) ?_
      refine G_iconst (v := 0) dL_canPay_22 (by decide) ?_
      refine G_iret dL_canPay_23 rfl rfl (Nat.le_of_ble_eq_true rfl) (Nat.le_of_ble_eq_true rfl) ?_
      have h' := h (M.1, 0, M.2.2) (CG.o hC) (MG.o hG) (fun _ => (if_pos c7).symm)
      rw [q] at h'
      exact h'
    · refine G_lconst (v := 1) dL_canPay_10 rfl ?_
      refine G_goto (tgt := 15) dL_canPay_11 (by decide) ?_
      refine G_last dL_canPay_15 ?_
      refine G_goto (tgt := 22) dL_canPay_16 (by decide) ?_
      refine G_iconst (v := 0) dL_canPay_22 (by decide) ?_
      refine G_iret dL_canPay_23 rfl rfl (Nat.le_of_ble_eq_true rfl) (Nat.le_of_ble_eq_true rfl) ?_
      have h' := h (M.1, 1, M.2.2) (CG.o hC) (MG.o hG) (fun _ => (if_neg c7).symm)
      rw [q] at h'
      exact h'
  · rcases @b_qCanPay g x with b | b
    · exact absurd b q
    · rw [show rs xP (qCanPay g x) = .inr xIO from by unfold rs; rw [if_neg q, b]; rfl]
      refine hGoH_x (h := 19) (hCat1 rfl (Nat.le_of_ble_eq_true rfl) (Nat.le_of_ble_eq_true rfl) (by decide) lIO xIOw) (fun a => ?_)
      refine G_astore_n dL_canPay_19 (Nat.le_of_ble_eq_true rfl) ?_
      refine G_iconst (v := 1) dL_canPay_20 (by decide) ?_
      refine G_iret dL_canPay_21 rfl rfl (Nat.le_of_ble_eq_true rfl) (Nat.le_of_ble_eq_true rfl) ?_
      have h' := h M hC hG (fun z => absurd z q)
      rw [b] at h'
      exact h'
theorem b_qRefusals {x : Int32} : (qRefusals g x).1 = 0 ∨ (qRefusals g x).1 = 1 := by
  unfold qRefusals
  (repeat' split) <;> first | exact Or.inl rfl | exact Or.inr rfl | exact Or.inr (Or.inl rfl) | exact Or.inr (Or.inr rfl)
theorem w_refusals {x : Int32} (hC : CG M g) (hO : Okg g) (hG : MG M g) (h : ∀ M', CG M' g → MG M' g → ((qRefusals g x).1 = 0 → M'.2.1 = (qRefusals g x).2.toInt64) → P (.inl (some (.int (nI (qRefusals g x).1)))) M') : Sp E yL_refusals cL_refusals zL_refusals [.ref (ad E 0 0 0), .int x, .ref (ad E 27 0 0)] M P := by
  refine Sp_ofH (own := RL) (by decide) rfl (List.cons_ne_nil _ _) (Nat.le_of_ble_eq_true rfl) (fun C => ?_)
  refine G_aload_n dL_refusals_0 rfl ?_
  refine G_iconst (v := 0) dL_refusals_1 (by decide) ?_
  refine G_aload_n dL_refusals_2 rfl ?_
  refine G_iload_n dL_refusals_3 rfl ?_
  refine G_callVH (n := 1) (as := [.int x]) (rest := [.int 0, .ref (ad E 27 0 0)]) (k := 0) (j := 0) (p := 0) (ci := 8) (T := TX8) (N := 9) (cs' := 1) (ss' := 6) dL_refusals_4 lk_L_86 ⟨by decide, rfl, rfl⟩ rfl rfl rfl rfl (Nat.le_of_ble_eq_true rfl) (Nat.le_of_ble_eq_true rfl) (Nat.le_of_ble_eq_true rfl) rfl rfl (Nat.le_of_ble_eq_true rfl) (Nat.le_of_ble_eq_true rfl) ?_
  refine s_X8_refusals hC ?_
  by_cases q : (qRefusals g x).1 = 0
  · rw [show rs xA (qRefusals g x) = .inl (some (.int (qRefusals g x).2)) from if_pos q]
    refine hGoH_i ?_
    refine G_i2l dL_refusals_7 ?_
    refine G_last dL_refusals_8 ?_
    refine G_goto (tgt := 15) dL_refusals_9 (by decide) ?_
    refine G_iconst (v := 0) dL_refusals_15 (by decide) ?_
    refine G_iret dL_refusals_16 rfl rfl (Nat.le_of_ble_eq_true rfl) (Nat.le_of_ble_eq_true rfl) ?_
    have h' := h (M.1, (qRefusals g x).2.toInt64, M.2.2) (CG.o hC) (MG.o hG) (fun _ => rfl)
    rw [q] at h'
    exact h'
  · rcases @b_qRefusals g x with b | b
    · exact absurd b q
    · rw [show rs xA (qRefusals g x) = .inr xIA from by unfold rs; rw [if_neg q, b]; rfl]
      refine hGoH_x (h := 12) (hCat1 rfl (Nat.le_of_ble_eq_true rfl) (Nat.le_of_ble_eq_true rfl) (by decide) lIA xIAw) (fun a => ?_)
      refine G_astore_n dL_refusals_12 (Nat.le_of_ble_eq_true rfl) ?_
      refine G_iconst (v := 1) dL_refusals_13 (by decide) ?_
      refine G_iret dL_refusals_14 rfl rfl (Nat.le_of_ble_eq_true rfl) (Nat.le_of_ble_eq_true rfl) ?_
      have h' := h M hC hG (fun z => absurd z q)
      rw [b] at h'
      exact h'
theorem own_n {A : Ab} {p : Nat} (hO : Ok A) (hp : p < A.n) : vf_n32 (ownV A p) := by
  have l1 := (hO.2.2.2.1 (2 * p) (by omega)).1
  have l2 := (hO.2.2.2.1 (2 * p + 1) (by omega)).1
  unfold ownV
  split
  · unfold vf_n32
    decide
  · rename_i h0
    exact qn32 (nI_ne0 (by omega) (by omega))
theorem w_ownShare {x : Int32} (hC : CG M g) (hO : Okg g) (hG : MG M g) (h : ∀ M', CG M' g → MG M' g → (∀ p, p < g.A.n → x = nI p → M'.2.2 = FP.f2d (ownV g.A p)) → P (.inl (some (.int (if inP g.A x then 0 else 1)))) M') : Sp E yL_ownShare cL_ownShare zL_ownShare [.ref (ad E 0 0 0), .int x, .ref (ad E 28 0 0)] M P := by
  refine Sp_ofH (own := RL) (by decide) rfl (List.cons_ne_nil _ _) (Nat.le_of_ble_eq_true rfl) (fun C => ?_)
  refine G_aload_n dL_ownShare_0 rfl ?_
  refine G_iconst (v := 0) dL_ownShare_1 (by decide) ?_
  refine G_aload_n dL_ownShare_2 rfl ?_
  refine G_iload_n dL_ownShare_3 rfl ?_
  refine G_callVH (n := 1) (as := [.int x]) (rest := [.int 0, .ref (ad E 28 0 0)]) (k := 0) (j := 0) (p := 0) (ci := 8) (T := TX8) (N := 9) (cs' := 1) (ss' := 6) dL_ownShare_4 lk_L_89 ⟨by decide, rfl, rfl⟩ rfl rfl rfl rfl (Nat.le_of_ble_eq_true rfl) (Nat.le_of_ble_eq_true rfl) (Nat.le_of_ble_eq_true rfl) rfl rfl (Nat.le_of_ble_eq_true rfl) (Nat.le_of_ble_eq_true rfl) ?_
  refine s_X8_ownShare hC (fun q => ?_) (fun p hp e => ?_)
  · refine hGoH_x (h := 12) (hCat1 rfl (Nat.le_of_ble_eq_true rfl) (Nat.le_of_ble_eq_true rfl) (by decide) lIO xIOw) (fun a => ?_)
    refine G_astore_n dL_ownShare_12 (Nat.le_of_ble_eq_true rfl) ?_
    refine G_iconst (v := 1) dL_ownShare_13 (by decide) ?_
    refine G_iret dL_ownShare_14 rfl rfl (Nat.le_of_ble_eq_true rfl) (Nat.le_of_ble_eq_true rfl) ?_
    have h' := h M hC hG (fun p hp e => absurd (show inP g.A x from by rw [e]; exact ⟨nI_pos' (by have := hO.1.1.2; omega), nI_lt hp (by have := hO.1.1.2; omega)⟩) q)
    rw [if_neg q] at h'
    exact h'
  · refine hGoH_f ?_
    refine G_f2d dL_ownShare_7 (f2dn (own_n hO.1 hp)) ?_
    refine G_dast dL_ownShare_8 ?_
    refine G_goto (tgt := 15) dL_ownShare_9 (by decide) ?_
    refine G_iconst (v := 0) dL_ownShare_15 (by decide) ?_
    refine G_iret dL_ownShare_16 rfl rfl (Nat.le_of_ble_eq_true rfl) (Nat.le_of_ble_eq_true rfl) ?_
    have h' := h (M.1, M.2.1, FP.f2d (ownV g.A p)) (CG.o hC) (MG.o hG) (fun p' hp' e' => by rw [(nI_eq (by have := hO.1.1.2; omega) (by have := hO.1.1.2; omega)).mp (e'.symm.trans e)])
    rw [if_pos (show inP g.A x from by rw [e]; exact ⟨nI_pos' (by have := hO.1.1.2; omega), nI_lt hp (by have := hO.1.1.2; omega)⟩)] at h'
    exact h'
theorem b_qCouldMake {x y : Int32} : (qCouldMake g x y).1 = 0 ∨ (qCouldMake g x y).1 = 1 ∨ (qCouldMake g x y).1 = 2 := by
  unfold qCouldMake
  (repeat' split) <;> first | exact Or.inl rfl | exact Or.inr rfl | exact Or.inr (Or.inl rfl) | exact Or.inr (Or.inr rfl)
theorem w_couldMake {x y : Int32} (hC : CG M g) (hO : Okg g) (hG : MG M g) (h : ∀ M', CG M' g → MG M' g → ((qCouldMake g x y).1 = 0 → M'.2.1 = (qCouldMake g x y).2.toInt64) → P (.inl (some (.int (nI (qCouldMake g x y).1)))) M') : Sp E yL_couldMake cL_couldMake zL_couldMake [.ref (ad E 0 0 0), .int x, .int y, .ref (ad E 27 0 0)] M P := by
  refine Sp_ofH (own := RL) (by decide) rfl (List.cons_ne_nil _ _) (Nat.le_of_ble_eq_true rfl) (fun C => ?_)
  refine G_aload_n dL_couldMake_0 rfl ?_
  refine G_iconst (v := 0) dL_couldMake_1 (by decide) ?_
  refine G_aload_n dL_couldMake_2 rfl ?_
  refine G_iload_n dL_couldMake_3 rfl ?_
  refine G_iload_n dL_couldMake_4 rfl ?_
  refine G_callVH (n := 2) (as := [.int x, .int y]) (rest := [.int 0, .ref (ad E 27 0 0)]) (k := 0) (j := 0) (p := 0) (ci := 8) (T := TX8) (N := 9) (cs' := 2) (ss' := 12) dL_couldMake_5 lk_L_93 ⟨by decide, rfl, rfl⟩ rfl rfl rfl rfl (Nat.le_of_ble_eq_true rfl) (Nat.le_of_ble_eq_true rfl) (Nat.le_of_ble_eq_true rfl) rfl rfl (Nat.le_of_ble_eq_true rfl) (Nat.le_of_ble_eq_true rfl) ?_
  refine s_X8_couldMake hC ?_
  by_cases q : (qCouldMake g x y).1 = 0
  · rw [show rs xPA (qCouldMake g x y) = .inl (some (.int (qCouldMake g x y).2)) from if_pos q]
    refine hGoH_i ?_
    refine G_i2l dL_couldMake_8 ?_
    refine G_last dL_couldMake_9 ?_
    refine G_goto (tgt := 21) dL_couldMake_10 (by decide) ?_
    refine G_iconst (v := 0) dL_couldMake_21 (by decide) ?_
    refine G_iret dL_couldMake_22 rfl rfl (Nat.le_of_ble_eq_true rfl) (Nat.le_of_ble_eq_true rfl) ?_
    have h' := h (M.1, (qCouldMake g x y).2.toInt64, M.2.2) (CG.o hC) (MG.o hG) (fun _ => rfl)
    rw [q] at h'
    exact h'
  · rcases @b_qCouldMake g x y with b | b | b
    · exact absurd b q
    · rw [show rs xPA (qCouldMake g x y) = .inr xIO from by unfold rs; rw [if_neg q, b]; rfl]
      refine hGoH_x (h := 13) (hCat1 rfl (Nat.le_of_ble_eq_true rfl) (Nat.le_of_ble_eq_true rfl) (by decide) lIO xIOw) (fun a => ?_)
      refine G_astore dL_couldMake_13 (Nat.le_of_ble_eq_true rfl) ?_
      refine G_iconst (v := 1) dL_couldMake_15 (by decide) ?_
      refine G_iret dL_couldMake_16 rfl rfl (Nat.le_of_ble_eq_true rfl) (Nat.le_of_ble_eq_true rfl) ?_
      have h' := h M hC hG (fun z => absurd z q)
      rw [b] at h'
      exact h'
    · rw [show rs xPA (qCouldMake g x y) = .inr xIA from by unfold rs; rw [if_neg q, b]; rfl]
      refine hGoH_x (h := 17) (hCat2 rfl (Nat.le_of_ble_eq_true rfl) (Nat.le_of_ble_eq_true rfl) (by decide) lIA xIAw (by decide) lIO nIAO) (fun a => ?_)
      refine G_astore dL_couldMake_17 (Nat.le_of_ble_eq_true rfl) ?_
      refine G_iconst (v := 2) dL_couldMake_19 (by decide) ?_
      refine G_iret dL_couldMake_20 rfl rfl (Nat.le_of_ble_eq_true rfl) (Nat.le_of_ble_eq_true rfl) ?_
      have h' := h M hC hG (fun z => absurd z q)
      rw [b] at h'
      exact h'
theorem b_qIfWeek {x y : Int32} : (qIfWeek g x y).1 = 0 ∨ (qIfWeek g x y).1 = 1 ∨ (qIfWeek g x y).1 = 2 := by
  unfold qIfWeek
  (repeat' split) <;> first | exact Or.inl rfl | exact Or.inr rfl | exact Or.inr (Or.inl rfl) | exact Or.inr (Or.inr rfl)
theorem w_ifWeek {x y : Int32} (hC : CG M g) (hO : Okg g) (hG : MG M g) (h : ∀ M', CG M' g → MG M' g → ((qIfWeek g x y).1 = 0 → M'.2.1 = (qIfWeek g x y).2.toInt64) → P (.inl (some (.int (nI (qIfWeek g x y).1)))) M') : Sp E yL_ifWeek cL_ifWeek zL_ifWeek [.ref (ad E 0 0 0), .int x, .int y, .ref (ad E 27 0 0)] M P := by
  refine Sp_ofH (own := RL) (by decide) rfl (List.cons_ne_nil _ _) (Nat.le_of_ble_eq_true rfl) (fun C => ?_)
  refine G_aload_n dL_ifWeek_0 rfl ?_
  refine G_iconst (v := 0) dL_ifWeek_1 (by decide) ?_
  refine G_aload_n dL_ifWeek_2 rfl ?_
  refine G_iload_n dL_ifWeek_3 rfl ?_
  refine G_iload_n dL_ifWeek_4 rfl ?_
  refine G_callVH (n := 2) (as := [.int x, .int y]) (rest := [.int 0, .ref (ad E 27 0 0)]) (k := 0) (j := 0) (p := 0) (ci := 8) (T := TX8) (N := 9) (cs' := 2) (ss' := 12) dL_ifWeek_5 lk_L_96 ⟨by decide, rfl, rfl⟩ rfl rfl rfl rfl (Nat.le_of_ble_eq_true rfl) (Nat.le_of_ble_eq_true rfl) (Nat.le_of_ble_eq_true rfl) rfl rfl (Nat.le_of_ble_eq_true rfl) (Nat.le_of_ble_eq_true rfl) ?_
  refine s_X8_ifWeek hC hO ?_
  by_cases q : (qIfWeek g x y).1 = 0
  · rw [show rs xPA (qIfWeek g x y) = .inl (some (.int (qIfWeek g x y).2)) from if_pos q]
    refine hGoH_i ?_
    refine G_i2l dL_ifWeek_8 ?_
    refine G_last dL_ifWeek_9 ?_
    refine G_goto (tgt := 21) dL_ifWeek_10 (by decide) ?_
    refine G_iconst (v := 0) dL_ifWeek_21 (by decide) ?_
    refine G_iret dL_ifWeek_22 rfl rfl (Nat.le_of_ble_eq_true rfl) (Nat.le_of_ble_eq_true rfl) ?_
    have h' := h (M.1, (qIfWeek g x y).2.toInt64, M.2.2) (CG.o hC) (MG.o hG) (fun _ => rfl)
    rw [q] at h'
    exact h'
  · rcases @b_qIfWeek g x y with b | b | b
    · exact absurd b q
    · rw [show rs xPA (qIfWeek g x y) = .inr xIO from by unfold rs; rw [if_neg q, b]; rfl]
      refine hGoH_x (h := 13) (hCat1 rfl (Nat.le_of_ble_eq_true rfl) (Nat.le_of_ble_eq_true rfl) (by decide) lIO xIOw) (fun a => ?_)
      refine G_astore dL_ifWeek_13 (Nat.le_of_ble_eq_true rfl) ?_
      refine G_iconst (v := 1) dL_ifWeek_15 (by decide) ?_
      refine G_iret dL_ifWeek_16 rfl rfl (Nat.le_of_ble_eq_true rfl) (Nat.le_of_ble_eq_true rfl) ?_
      have h' := h M hC hG (fun z => absurd z q)
      rw [b] at h'
      exact h'
    · rw [show rs xPA (qIfWeek g x y) = .inr xIA from by unfold rs; rw [if_neg q, b]; rfl]
      refine hGoH_x (h := 17) (hCat2 rfl (Nat.le_of_ble_eq_true rfl) (Nat.le_of_ble_eq_true rfl) (by decide) lIA xIAw (by decide) lIO nIAO) (fun a => ?_)
      refine G_astore dL_ifWeek_17 (Nat.le_of_ble_eq_true rfl) ?_
      refine G_iconst (v := 2) dL_ifWeek_19 (by decide) ?_
      refine G_iret dL_ifWeek_20 rfl rfl (Nat.le_of_ble_eq_true rfl) (Nat.le_of_ble_eq_true rfl) ?_
      have h' := h M hC hG (fun z => absurd z q)
      rw [b] at h'
      exact h'
theorem b_qIfPassed {x y : Int32} : (qIfPassed g x y).1 = 0 ∨ (qIfPassed g x y).1 = 1 := by
  unfold qIfPassed
  (repeat' split) <;> first | exact Or.inl rfl | exact Or.inr rfl | exact Or.inr (Or.inl rfl) | exact Or.inr (Or.inr rfl)
theorem w_ifPassed {x y : Int32} (hC : CG M g) (hO : Okg g) (hG : MG M g) (h : ∀ M', CG M' g → MG M' g → ((qIfPassed g x y).1 = 0 → M'.2.1 = (qIfPassed g x y).2.toInt64) → P (.inl (some (.int (nI (qIfPassed g x y).1)))) M') : Sp E yL_ifPassed cL_ifPassed zL_ifPassed [.ref (ad E 0 0 0), .int x, .int y, .ref (ad E 27 0 0)] M P := by
  refine Sp_ofH (own := RL) (by decide) rfl (List.cons_ne_nil _ _) (Nat.le_of_ble_eq_true rfl) (fun C => ?_)
  refine G_aload_n dL_ifPassed_0 rfl ?_
  refine G_iconst (v := 0) dL_ifPassed_1 (by decide) ?_
  refine G_aload_n dL_ifPassed_2 rfl ?_
  refine G_iload_n dL_ifPassed_3 rfl ?_
  refine G_iload_n dL_ifPassed_4 rfl ?_
  refine G_callVH (n := 2) (as := [.int x, .int y]) (rest := [.int 0, .ref (ad E 27 0 0)]) (k := 0) (j := 0) (p := 0) (ci := 8) (T := TX8) (N := 9) (cs' := 2) (ss' := 12) dL_ifPassed_5 lk_L_99 ⟨by decide, rfl, rfl⟩ rfl rfl rfl rfl (Nat.le_of_ble_eq_true rfl) (Nat.le_of_ble_eq_true rfl) (Nat.le_of_ble_eq_true rfl) rfl rfl (Nat.le_of_ble_eq_true rfl) (Nat.le_of_ble_eq_true rfl) ?_
  refine s_X8_ifPassed hC hO (fun M1 hC1 hf => ?_)
  by_cases q : (qIfPassed g x y).1 = 0
  · rw [show rs xA (qIfPassed g x y) = .inl (some (.int (qIfPassed g x y).2)) from if_pos q]
    refine hGoH_i ?_
    refine G_i2l dL_ifPassed_8 ?_
    refine G_last dL_ifPassed_9 ?_
    refine G_goto (tgt := 17) dL_ifPassed_10 (by decide) ?_
    refine G_iconst (v := 0) dL_ifPassed_17 (by decide) ?_
    refine G_iret dL_ifPassed_18 rfl rfl (Nat.le_of_ble_eq_true rfl) (Nat.le_of_ble_eq_true rfl) ?_
    have h' := h (M1.1, (qIfPassed g x y).2.toInt64, M1.2.2) (CG.o hC1) (MG.o (hG.cl hf)) (fun _ => rfl)
    rw [q] at h'
    exact h'
  · rcases @b_qIfPassed g x y with b | b
    · exact absurd b q
    · rw [show rs xA (qIfPassed g x y) = .inr xIA from by unfold rs; rw [if_neg q, b]; rfl]
      refine hGoH_x (h := 13) (hCat1 rfl (Nat.le_of_ble_eq_true rfl) (Nat.le_of_ble_eq_true rfl) (by decide) lIA xIAw) (fun a => ?_)
      refine G_astore dL_ifPassed_13 (Nat.le_of_ble_eq_true rfl) ?_
      refine G_iconst (v := 1) dL_ifPassed_15 (by decide) ?_
      refine G_iret dL_ifPassed_16 rfl rfl (Nat.le_of_ble_eq_true rfl) (Nat.le_of_ble_eq_true rfl) ?_
      have h' := h M1 hC1 (hG.cl hf) (fun z => absurd z q)
      rw [b] at h'
      exact h'
theorem b_qFreeIn {x : Int32} : (qFreeIn g x).1 = 0 ∨ (qFreeIn g x).1 = 1 := by
  unfold qFreeIn
  (repeat' split) <;> first | exact Or.inl rfl | exact Or.inr rfl | exact Or.inr (Or.inl rfl) | exact Or.inr (Or.inr rfl)
theorem w_freeIn {x : Int32} (hC : CG M g) (hO : Okg g) (hG : MG M g) (h : ∀ M', CG M' g → MG M' g → ((qFreeIn g x).1 = 0 → M'.2.1 = (qFreeIn g x).2.toInt64) → P (.inl (some (.int (nI (qFreeIn g x).1)))) M') : Sp E yL_freeIn cL_freeIn zL_freeIn [.ref (ad E 0 0 0), .int x, .ref (ad E 27 0 0)] M P := by
  refine Sp_ofH (own := RL) (by decide) rfl (List.cons_ne_nil _ _) (Nat.le_of_ble_eq_true rfl) (fun C => ?_)
  refine G_aload_n dL_freeIn_0 rfl ?_
  refine G_iconst (v := 0) dL_freeIn_1 (by decide) ?_
  refine G_aload_n dL_freeIn_2 rfl ?_
  refine G_iload_n dL_freeIn_3 rfl ?_
  refine G_callVH (n := 1) (as := [.int x]) (rest := [.int 0, .ref (ad E 27 0 0)]) (k := 0) (j := 0) (p := 0) (ci := 8) (T := TX8) (N := 9) (cs' := 1) (ss' := 6) dL_freeIn_4 lk_L_102 ⟨by decide, rfl, rfl⟩ rfl rfl rfl rfl (Nat.le_of_ble_eq_true rfl) (Nat.le_of_ble_eq_true rfl) (Nat.le_of_ble_eq_true rfl) rfl rfl (Nat.le_of_ble_eq_true rfl) (Nat.le_of_ble_eq_true rfl) ?_
  refine s_X8_freeIn hC hO (fun M1 hC1 hf => ?_)
  by_cases q : (qFreeIn g x).1 = 0
  · rw [show rs xP (qFreeIn g x) = .inl (some (.int (qFreeIn g x).2)) from if_pos q]
    refine hGoH_i ?_
    refine G_i2l dL_freeIn_7 ?_
    refine G_last dL_freeIn_8 ?_
    refine G_goto (tgt := 15) dL_freeIn_9 (by decide) ?_
    refine G_iconst (v := 0) dL_freeIn_15 (by decide) ?_
    refine G_iret dL_freeIn_16 rfl rfl (Nat.le_of_ble_eq_true rfl) (Nat.le_of_ble_eq_true rfl) ?_
    have h' := h (M1.1, (qFreeIn g x).2.toInt64, M1.2.2) (CG.o hC1) (MG.o (hG.cl hf)) (fun _ => rfl)
    rw [q] at h'
    exact h'
  · rcases @b_qFreeIn g x with b | b
    · exact absurd b q
    · rw [show rs xP (qFreeIn g x) = .inr xIO from by unfold rs; rw [if_neg q, b]; rfl]
      refine hGoH_x (h := 12) (hCat1 rfl (Nat.le_of_ble_eq_true rfl) (Nat.le_of_ble_eq_true rfl) (by decide) lIO xIOw) (fun a => ?_)
      refine G_astore_n dL_freeIn_12 (Nat.le_of_ble_eq_true rfl) ?_
      refine G_iconst (v := 1) dL_freeIn_13 (by decide) ?_
      refine G_iret dL_freeIn_14 rfl rfl (Nat.le_of_ble_eq_true rfl) (Nat.le_of_ble_eq_true rfl) ?_
      have h' := h M1 hC1 (hG.cl hf) (fun z => absurd z q)
      rw [b] at h'
      exact h'
theorem b_qIfMoved {x y z' : Int32} : (qIfMoved g x y z').1 = 0 ∨ (qIfMoved g x y z').1 = 1 ∨ (qIfMoved g x y z').1 = 2 := by
  unfold qIfMoved
  (repeat' split) <;> first | exact Or.inl rfl | exact Or.inr rfl | exact Or.inr (Or.inl rfl) | exact Or.inr (Or.inr rfl)
theorem w_ifMoved {x y z' : Int32} (hC : CG M g) (hO : Okg g) (hG : MG M g) (h : ∀ M', CG M' g → MG M' g → ((qIfMoved g x y z').1 = 0 → M'.2.1 = (qIfMoved g x y z').2.toInt64) → P (.inl (some (.int (nI (qIfMoved g x y z').1)))) M') : Sp E yL_ifMoved cL_ifMoved zL_ifMoved [.ref (ad E 0 0 0), .int x, .int y, .int z', .ref (ad E 27 0 0)] M P := by
  refine Sp_ofH (own := RL) (by decide) rfl (List.cons_ne_nil _ _) (Nat.le_of_ble_eq_true rfl) (fun C => ?_)
  refine G_aload dL_ifMoved_0 rfl ?_
  refine G_iconst (v := 0) dL_ifMoved_2 (by decide) ?_
  refine G_aload_n dL_ifMoved_3 rfl ?_
  refine G_iload_n dL_ifMoved_4 rfl ?_
  refine G_iload_n dL_ifMoved_5 rfl ?_
  refine G_iload_n dL_ifMoved_6 rfl ?_
  refine G_callVH (n := 3) (as := [.int x, .int y, .int z']) (rest := [.int 0, .ref (ad E 27 0 0)]) (k := 0) (j := 0) (p := 0) (ci := 8) (T := TX8) (N := 9) (cs' := 3) (ss' := 18) dL_ifMoved_7 lk_L_105 ⟨by decide, rfl, rfl⟩ rfl rfl rfl rfl (Nat.le_of_ble_eq_true rfl) (Nat.le_of_ble_eq_true rfl) (Nat.le_of_ble_eq_true rfl) rfl rfl (Nat.le_of_ble_eq_true rfl) (Nat.le_of_ble_eq_true rfl) ?_
  refine s_X8_ifMoved hC ?_
  by_cases q : (qIfMoved g x y z').1 = 0
  · rw [show rs xPA (qIfMoved g x y z') = .inl (some (.int (qIfMoved g x y z').2)) from if_pos q]
    refine hGoH_i ?_
    refine G_i2l dL_ifMoved_10 ?_
    refine G_last dL_ifMoved_11 ?_
    refine G_goto (tgt := 23) dL_ifMoved_12 (by decide) ?_
    refine G_iconst (v := 0) dL_ifMoved_23 (by decide) ?_
    refine G_iret dL_ifMoved_24 rfl rfl (Nat.le_of_ble_eq_true rfl) (Nat.le_of_ble_eq_true rfl) ?_
    have h' := h (M.1, (qIfMoved g x y z').2.toInt64, M.2.2) (CG.o hC) (MG.o hG) (fun _ => rfl)
    rw [q] at h'
    exact h'
  · rcases @b_qIfMoved g x y z' with b | b | b
    · exact absurd b q
    · rw [show rs xPA (qIfMoved g x y z') = .inr xIO from by unfold rs; rw [if_neg q, b]; rfl]
      refine hGoH_x (h := 15) (hCat1 rfl (Nat.le_of_ble_eq_true rfl) (Nat.le_of_ble_eq_true rfl) (by decide) lIO xIOw) (fun a => ?_)
      refine G_astore dL_ifMoved_15 (Nat.le_of_ble_eq_true rfl) ?_
      refine G_iconst (v := 1) dL_ifMoved_17 (by decide) ?_
      refine G_iret dL_ifMoved_18 rfl rfl (Nat.le_of_ble_eq_true rfl) (Nat.le_of_ble_eq_true rfl) ?_
      have h' := h M hC hG (fun z => absurd z q)
      rw [b] at h'
      exact h'
    · rw [show rs xPA (qIfMoved g x y z') = .inr xIA from by unfold rs; rw [if_neg q, b]; rfl]
      refine hGoH_x (h := 19) (hCat2 rfl (Nat.le_of_ble_eq_true rfl) (Nat.le_of_ble_eq_true rfl) (by decide) lIA xIAw (by decide) lIO nIAO) (fun a => ?_)
      refine G_astore dL_ifMoved_19 (Nat.le_of_ble_eq_true rfl) ?_
      refine G_iconst (v := 2) dL_ifMoved_21 (by decide) ?_
      refine G_iret dL_ifMoved_22 rfl rfl (Nat.le_of_ble_eq_true rfl) (Nat.le_of_ble_eq_true rfl) ?_
      have h' := h M hC hG (fun z => absurd z q)
      rw [b] at h'
      exact h'
theorem b_qWhySwap {x y n m : Int32} : (qWhySwap g x y n m).1 = 0 ∨ (qWhySwap g x y n m).1 = 1 ∨ (qWhySwap g x y n m).1 = 2 := by
  unfold qWhySwap
  (repeat' split) <;> first | exact Or.inl rfl | exact Or.inr rfl | exact Or.inr (Or.inl rfl) | exact Or.inr (Or.inr rfl)
theorem w_whySwap {x y n m : Int32} (hC : CG M g) (hO : Okg g) (hG : MG M g) (h : ∀ M', CG M' g → MG M' g → ((qWhySwap g x y n m).1 = 0 → M'.2.1 = (qWhySwap g x y n m).2.toInt64) → P (.inl (some (.int (nI (qWhySwap g x y n m).1)))) M') : Sp E yL_whySwap cL_whySwap zL_whySwap [.ref (ad E 0 0 0), .int x, .int y, .int n, .int m, .ref (ad E 27 0 0)] M P := by
  refine Sp_ofH (own := RL) (by decide) rfl (List.cons_ne_nil _ _) (Nat.le_of_ble_eq_true rfl) (fun C => ?_)
  refine G_aload dL_whySwap_0 rfl ?_
  refine G_iconst (v := 0) dL_whySwap_2 (by decide) ?_
  refine G_aload_n dL_whySwap_3 rfl ?_
  refine G_iload_n dL_whySwap_4 rfl ?_
  refine G_iload_n dL_whySwap_5 rfl ?_
  refine G_iload_n dL_whySwap_6 rfl ?_
  refine G_iload dL_whySwap_7 rfl ?_
  refine G_callVH (n := 4) (as := [.int x, .int y, .int n, .int m]) (rest := [.int 0, .ref (ad E 27 0 0)]) (k := 0) (j := 0) (p := 0) (ci := 8) (T := TX8) (N := 9) (cs' := 4) (ss' := 24) dL_whySwap_9 lk_L_108 ⟨by decide, rfl, rfl⟩ rfl rfl rfl rfl (Nat.le_of_ble_eq_true rfl) (Nat.le_of_ble_eq_true rfl) (Nat.le_of_ble_eq_true rfl) rfl rfl (Nat.le_of_ble_eq_true rfl) (Nat.le_of_ble_eq_true rfl) ?_
  refine s_X8_whySwap hC ?_
  by_cases q : (qWhySwap g x y n m).1 = 0
  · rw [show rs xPA (qWhySwap g x y n m) = .inl (some (.int (qWhySwap g x y n m).2)) from if_pos q]
    refine hGoH_i ?_
    refine G_i2l dL_whySwap_12 ?_
    refine G_last dL_whySwap_13 ?_
    refine G_goto (tgt := 25) dL_whySwap_14 (by decide) ?_
    refine G_iconst (v := 0) dL_whySwap_25 (by decide) ?_
    refine G_iret dL_whySwap_26 rfl rfl (Nat.le_of_ble_eq_true rfl) (Nat.le_of_ble_eq_true rfl) ?_
    have h' := h (M.1, (qWhySwap g x y n m).2.toInt64, M.2.2) (CG.o hC) (MG.o hG) (fun _ => rfl)
    rw [q] at h'
    exact h'
  · rcases @b_qWhySwap g x y n m with b | b | b
    · exact absurd b q
    · rw [show rs xPA (qWhySwap g x y n m) = .inr xIO from by unfold rs; rw [if_neg q, b]; rfl]
      refine hGoH_x (h := 17) (hCat1 rfl (Nat.le_of_ble_eq_true rfl) (Nat.le_of_ble_eq_true rfl) (by decide) lIO xIOw) (fun a => ?_)
      refine G_astore dL_whySwap_17 (Nat.le_of_ble_eq_true rfl) ?_
      refine G_iconst (v := 1) dL_whySwap_19 (by decide) ?_
      refine G_iret dL_whySwap_20 rfl rfl (Nat.le_of_ble_eq_true rfl) (Nat.le_of_ble_eq_true rfl) ?_
      have h' := h M hC hG (fun z => absurd z q)
      rw [b] at h'
      exact h'
    · rw [show rs xPA (qWhySwap g x y n m) = .inr xIA from by unfold rs; rw [if_neg q, b]; rfl]
      refine hGoH_x (h := 21) (hCat2 rfl (Nat.le_of_ble_eq_true rfl) (Nat.le_of_ble_eq_true rfl) (by decide) lIA xIAw (by decide) lIO nIAO) (fun a => ?_)
      refine G_astore dL_whySwap_21 (Nat.le_of_ble_eq_true rfl) ?_
      refine G_iconst (v := 2) dL_whySwap_23 (by decide) ?_
      refine G_iret dL_whySwap_24 rfl rfl (Nat.le_of_ble_eq_true rfl) (Nat.le_of_ble_eq_true rfl) ?_
      have h' := h M hC hG (fun z => absurd z q)
      rw [b] at h'
      exact h'
theorem b_qWhyLend {x y n m : Int32} : (qWhyLend g x y n m).1 = 0 ∨ (qWhyLend g x y n m).1 = 1 ∨ (qWhyLend g x y n m).1 = 2 := by
  unfold qWhyLend
  (repeat' split) <;> first | exact Or.inl rfl | exact Or.inr rfl | exact Or.inr (Or.inl rfl) | exact Or.inr (Or.inr rfl)
theorem w_whyLend {x y n m : Int32} (hC : CG M g) (hO : Okg g) (hG : MG M g) (h : ∀ M', CG M' g → MG M' g → ((qWhyLend g x y n m).1 = 0 → M'.2.1 = (qWhyLend g x y n m).2.toInt64) → P (.inl (some (.int (nI (qWhyLend g x y n m).1)))) M') : Sp E yL_whyLend cL_whyLend zL_whyLend [.ref (ad E 0 0 0), .int x, .int y, .int n, .int m, .ref (ad E 27 0 0)] M P := by
  refine Sp_ofH (own := RL) (by decide) rfl (List.cons_ne_nil _ _) (Nat.le_of_ble_eq_true rfl) (fun C => ?_)
  refine G_aload dL_whyLend_0 rfl ?_
  refine G_iconst (v := 0) dL_whyLend_2 (by decide) ?_
  refine G_aload_n dL_whyLend_3 rfl ?_
  refine G_iload_n dL_whyLend_4 rfl ?_
  refine G_iload_n dL_whyLend_5 rfl ?_
  refine G_iload_n dL_whyLend_6 rfl ?_
  refine G_iload dL_whyLend_7 rfl ?_
  refine G_callVH (n := 4) (as := [.int x, .int y, .int n, .int m]) (rest := [.int 0, .ref (ad E 27 0 0)]) (k := 0) (j := 0) (p := 0) (ci := 8) (T := TX8) (N := 9) (cs' := 4) (ss' := 24) dL_whyLend_9 lk_L_112 ⟨by decide, rfl, rfl⟩ rfl rfl rfl rfl (Nat.le_of_ble_eq_true rfl) (Nat.le_of_ble_eq_true rfl) (Nat.le_of_ble_eq_true rfl) rfl rfl (Nat.le_of_ble_eq_true rfl) (Nat.le_of_ble_eq_true rfl) ?_
  refine s_X8_whyLend hC ?_
  by_cases q : (qWhyLend g x y n m).1 = 0
  · rw [show rs xPA (qWhyLend g x y n m) = .inl (some (.int (qWhyLend g x y n m).2)) from if_pos q]
    refine hGoH_i ?_
    refine G_i2l dL_whyLend_12 ?_
    refine G_last dL_whyLend_13 ?_
    refine G_goto (tgt := 25) dL_whyLend_14 (by decide) ?_
    refine G_iconst (v := 0) dL_whyLend_25 (by decide) ?_
    refine G_iret dL_whyLend_26 rfl rfl (Nat.le_of_ble_eq_true rfl) (Nat.le_of_ble_eq_true rfl) ?_
    have h' := h (M.1, (qWhyLend g x y n m).2.toInt64, M.2.2) (CG.o hC) (MG.o hG) (fun _ => rfl)
    rw [q] at h'
    exact h'
  · rcases @b_qWhyLend g x y n m with b | b | b
    · exact absurd b q
    · rw [show rs xPA (qWhyLend g x y n m) = .inr xIO from by unfold rs; rw [if_neg q, b]; rfl]
      refine hGoH_x (h := 17) (hCat1 rfl (Nat.le_of_ble_eq_true rfl) (Nat.le_of_ble_eq_true rfl) (by decide) lIO xIOw) (fun a => ?_)
      refine G_astore dL_whyLend_17 (Nat.le_of_ble_eq_true rfl) ?_
      refine G_iconst (v := 1) dL_whyLend_19 (by decide) ?_
      refine G_iret dL_whyLend_20 rfl rfl (Nat.le_of_ble_eq_true rfl) (Nat.le_of_ble_eq_true rfl) ?_
      have h' := h M hC hG (fun z => absurd z q)
      rw [b] at h'
      exact h'
    · rw [show rs xPA (qWhyLend g x y n m) = .inr xIA from by unfold rs; rw [if_neg q, b]; rfl]
      refine hGoH_x (h := 21) (hCat2 rfl (Nat.le_of_ble_eq_true rfl) (Nat.le_of_ble_eq_true rfl) (by decide) lIA xIAw (by decide) lIO nIAO) (fun a => ?_)
      refine G_astore dL_whyLend_21 (Nat.le_of_ble_eq_true rfl) ?_
      refine G_iconst (v := 2) dL_whyLend_23 (by decide) ?_
      refine G_iret dL_whyLend_24 rfl rfl (Nat.le_of_ble_eq_true rfl) (Nat.le_of_ble_eq_true rfl) ?_
      have h' := h M hC hG (fun z => absurd z q)
      rw [b] at h'
      exact h'
theorem b_qSafestBench {x : Int32} : (qSafestBench g x).1 = 0 ∨ (qSafestBench g x).1 = 1 := by
  unfold qSafestBench
  (repeat' split) <;> first | exact Or.inl rfl | exact Or.inr rfl | exact Or.inr (Or.inl rfl) | exact Or.inr (Or.inr rfl)
theorem w_safestBench {x : Int32} (hC : CG M g) (hO : Okg g) (hG : MG M g) (h : ∀ M', CG M' g → MG M' g → ((qSafestBench g x).1 = 0 → M'.2.1 = (qSafestBench g x).2.toInt64) → P (.inl (some (.int (nI (qSafestBench g x).1)))) M') : Sp E yL_safestBench cL_safestBench zL_safestBench [.ref (ad E 0 0 0), .int x, .ref (ad E 27 0 0)] M P := by
  refine Sp_ofH (own := RL) (by decide) rfl (List.cons_ne_nil _ _) (Nat.le_of_ble_eq_true rfl) (fun C => ?_)
  refine G_aload_n dL_safestBench_0 rfl ?_
  refine G_iconst (v := 0) dL_safestBench_1 (by decide) ?_
  refine G_aload_n dL_safestBench_2 rfl ?_
  refine G_iload_n dL_safestBench_3 rfl ?_
  refine G_callVH (n := 1) (as := [.int x]) (rest := [.int 0, .ref (ad E 27 0 0)]) (k := 0) (j := 0) (p := 0) (ci := 8) (T := TX8) (N := 9) (cs' := 1) (ss' := 6) dL_safestBench_4 lk_L_115 ⟨by decide, rfl, rfl⟩ rfl rfl rfl rfl (Nat.le_of_ble_eq_true rfl) (Nat.le_of_ble_eq_true rfl) (Nat.le_of_ble_eq_true rfl) rfl rfl (Nat.le_of_ble_eq_true rfl) (Nat.le_of_ble_eq_true rfl) ?_
  refine s_X8_safestBench hC ?_
  by_cases q : (qSafestBench g x).1 = 0
  · rw [show rs xP (qSafestBench g x) = .inl (some (.int (qSafestBench g x).2)) from if_pos q]
    refine hGoH_i ?_
    refine G_i2l dL_safestBench_7 ?_
    refine G_last dL_safestBench_8 ?_
    refine G_goto (tgt := 15) dL_safestBench_9 (by decide) ?_
    refine G_iconst (v := 0) dL_safestBench_15 (by decide) ?_
    refine G_iret dL_safestBench_16 rfl rfl (Nat.le_of_ble_eq_true rfl) (Nat.le_of_ble_eq_true rfl) ?_
    have h' := h (M.1, (qSafestBench g x).2.toInt64, M.2.2) (CG.o hC) (MG.o hG) (fun _ => rfl)
    rw [q] at h'
    exact h'
  · rcases @b_qSafestBench g x with b | b
    · exact absurd b q
    · rw [show rs xP (qSafestBench g x) = .inr xIO from by unfold rs; rw [if_neg q, b]; rfl]
      refine hGoH_x (h := 12) (hCat1 rfl (Nat.le_of_ble_eq_true rfl) (Nat.le_of_ble_eq_true rfl) (by decide) lIO xIOw) (fun a => ?_)
      refine G_astore_n dL_safestBench_12 (Nat.le_of_ble_eq_true rfl) ?_
      refine G_iconst (v := 1) dL_safestBench_13 (by decide) ?_
      refine G_iret dL_safestBench_14 rfl rfl (Nat.le_of_ble_eq_true rfl) (Nat.le_of_ble_eq_true rfl) ?_
      have h' := h M hC hG (fun z => absurd z q)
      rw [b] at h'
      exact h'
theorem b_qSafestPartner {x : Int32} : (qSafestPartner g x).1 = 0 ∨ (qSafestPartner g x).1 = 1 := by
  unfold qSafestPartner
  (repeat' split) <;> first | exact Or.inl rfl | exact Or.inr rfl | exact Or.inr (Or.inl rfl) | exact Or.inr (Or.inr rfl)
theorem w_safestPartner {x : Int32} (hC : CG M g) (hO : Okg g) (hG : MG M g) (h : ∀ M', CG M' g → MG M' g → ((qSafestPartner g x).1 = 0 → M'.2.1 = (qSafestPartner g x).2.toInt64) → P (.inl (some (.int (nI (qSafestPartner g x).1)))) M') : Sp E yL_safestPartner cL_safestPartner zL_safestPartner [.ref (ad E 0 0 0), .int x, .ref (ad E 27 0 0)] M P := by
  refine Sp_ofH (own := RL) (by decide) rfl (List.cons_ne_nil _ _) (Nat.le_of_ble_eq_true rfl) (fun C => ?_)
  refine G_aload_n dL_safestPartner_0 rfl ?_
  refine G_iconst (v := 0) dL_safestPartner_1 (by decide) ?_
  refine G_aload_n dL_safestPartner_2 rfl ?_
  refine G_iload_n dL_safestPartner_3 rfl ?_
  refine G_callVH (n := 1) (as := [.int x]) (rest := [.int 0, .ref (ad E 27 0 0)]) (k := 0) (j := 0) (p := 0) (ci := 8) (T := TX8) (N := 9) (cs' := 1) (ss' := 6) dL_safestPartner_4 lk_L_118 ⟨by decide, rfl, rfl⟩ rfl rfl rfl rfl (Nat.le_of_ble_eq_true rfl) (Nat.le_of_ble_eq_true rfl) (Nat.le_of_ble_eq_true rfl) rfl rfl (Nat.le_of_ble_eq_true rfl) (Nat.le_of_ble_eq_true rfl) ?_
  refine s_X8_safestPartner hC ?_
  by_cases q : (qSafestPartner g x).1 = 0
  · rw [show rs xP (qSafestPartner g x) = .inl (some (.int (qSafestPartner g x).2)) from if_pos q]
    refine hGoH_i ?_
    refine G_i2l dL_safestPartner_7 ?_
    refine G_last dL_safestPartner_8 ?_
    refine G_goto (tgt := 15) dL_safestPartner_9 (by decide) ?_
    refine G_iconst (v := 0) dL_safestPartner_15 (by decide) ?_
    refine G_iret dL_safestPartner_16 rfl rfl (Nat.le_of_ble_eq_true rfl) (Nat.le_of_ble_eq_true rfl) ?_
    have h' := h (M.1, (qSafestPartner g x).2.toInt64, M.2.2) (CG.o hC) (MG.o hG) (fun _ => rfl)
    rw [q] at h'
    exact h'
  · rcases @b_qSafestPartner g x with b | b
    · exact absurd b q
    · rw [show rs xP (qSafestPartner g x) = .inr xIO from by unfold rs; rw [if_neg q, b]; rfl]
      refine hGoH_x (h := 12) (hCat1 rfl (Nat.le_of_ble_eq_true rfl) (Nat.le_of_ble_eq_true rfl) (by decide) lIO xIOw) (fun a => ?_)
      refine G_astore_n dL_safestPartner_12 (Nat.le_of_ble_eq_true rfl) ?_
      refine G_iconst (v := 1) dL_safestPartner_13 (by decide) ?_
      refine G_iret dL_safestPartner_14 rfl rfl (Nat.le_of_ble_eq_true rfl) (Nat.le_of_ble_eq_true rfl) ?_
      have h' := h M hC hG (fun z => absurd z q)
      rw [b] at h'
      exact h'
theorem b_qDrownsIn {x y : Int32} : (qDrownsIn g x y).1 = 0 ∨ (qDrownsIn g x y).1 = 1 ∨ (qDrownsIn g x y).1 = 2 := by
  unfold qDrownsIn
  (repeat' split) <;> first | exact Or.inl rfl | exact Or.inr rfl | exact Or.inr (Or.inl rfl) | exact Or.inr (Or.inr rfl)
theorem w_drownsIn {x y : Int32} (hC : CG M g) (hO : Okg g) (hG : MG M g) (h : ∀ M', CG M' g → MG M' g → ((qDrownsIn g x y).1 = 0 → M'.2.1 = (qDrownsIn g x y).2.toInt64) → P (.inl (some (.int (nI (qDrownsIn g x y).1)))) M') : Sp E yL_drownsIn cL_drownsIn zL_drownsIn [.ref (ad E 0 0 0), .int x, .int y, .ref (ad E 27 0 0)] M P := by
  refine Sp_ofH (own := RL) (by decide) rfl (List.cons_ne_nil _ _) (Nat.le_of_ble_eq_true rfl) (fun C => ?_)
  refine G_aload_n dL_drownsIn_0 rfl ?_
  refine G_iconst (v := 0) dL_drownsIn_1 (by decide) ?_
  refine G_aload_n dL_drownsIn_2 rfl ?_
  refine G_iload_n dL_drownsIn_3 rfl ?_
  refine G_iload_n dL_drownsIn_4 rfl ?_
  refine G_callVH (n := 2) (as := [.int x, .int y]) (rest := [.int 0, .ref (ad E 27 0 0)]) (k := 0) (j := 0) (p := 0) (ci := 8) (T := TX8) (N := 9) (cs' := 2) (ss' := 12) dL_drownsIn_5 lk_L_121 ⟨by decide, rfl, rfl⟩ rfl rfl rfl rfl (Nat.le_of_ble_eq_true rfl) (Nat.le_of_ble_eq_true rfl) (Nat.le_of_ble_eq_true rfl) rfl rfl (Nat.le_of_ble_eq_true rfl) (Nat.le_of_ble_eq_true rfl) ?_
  refine s_X8_drownsIn hC ?_
  by_cases q : (qDrownsIn g x y).1 = 0
  · rw [show rs xPA (qDrownsIn g x y) = .inl (some (.int (qDrownsIn g x y).2)) from if_pos q]
    refine hGoH_i ?_
    refine G_i2l dL_drownsIn_8 ?_
    refine G_last dL_drownsIn_9 ?_
    refine G_goto (tgt := 21) dL_drownsIn_10 (by decide) ?_
    refine G_iconst (v := 0) dL_drownsIn_21 (by decide) ?_
    refine G_iret dL_drownsIn_22 rfl rfl (Nat.le_of_ble_eq_true rfl) (Nat.le_of_ble_eq_true rfl) ?_
    have h' := h (M.1, (qDrownsIn g x y).2.toInt64, M.2.2) (CG.o hC) (MG.o hG) (fun _ => rfl)
    rw [q] at h'
    exact h'
  · rcases @b_qDrownsIn g x y with b | b | b
    · exact absurd b q
    · rw [show rs xPA (qDrownsIn g x y) = .inr xIO from by unfold rs; rw [if_neg q, b]; rfl]
      refine hGoH_x (h := 13) (hCat1 rfl (Nat.le_of_ble_eq_true rfl) (Nat.le_of_ble_eq_true rfl) (by decide) lIO xIOw) (fun a => ?_)
      refine G_astore dL_drownsIn_13 (Nat.le_of_ble_eq_true rfl) ?_
      refine G_iconst (v := 1) dL_drownsIn_15 (by decide) ?_
      refine G_iret dL_drownsIn_16 rfl rfl (Nat.le_of_ble_eq_true rfl) (Nat.le_of_ble_eq_true rfl) ?_
      have h' := h M hC hG (fun z => absurd z q)
      rw [b] at h'
      exact h'
    · rw [show rs xPA (qDrownsIn g x y) = .inr xIA from by unfold rs; rw [if_neg q, b]; rfl]
      refine hGoH_x (h := 17) (hCat2 rfl (Nat.le_of_ble_eq_true rfl) (Nat.le_of_ble_eq_true rfl) (by decide) lIA xIAw (by decide) lIO nIAO) (fun a => ?_)
      refine G_astore dL_drownsIn_17 (Nat.le_of_ble_eq_true rfl) ?_
      refine G_iconst (v := 2) dL_drownsIn_19 (by decide) ?_
      refine G_iret dL_drownsIn_20 rfl rfl (Nat.le_of_ble_eq_true rfl) (Nat.le_of_ble_eq_true rfl) ?_
      have h' := h M hC hG (fun z => absurd z q)
      rw [b] at h'
      exact h'
theorem b_qWork {x y z' : Int32} : (qWork g x y z').2.1 = 0 ∨ (qWork g x y z').2.1 = 1 ∨ (qWork g x y z').2.1 = 2 := by
  unfold qWork
  (repeat' split) <;> first | exact Or.inl rfl | exact Or.inr rfl | exact Or.inr (Or.inl rfl) | exact Or.inr (Or.inr rfl)
theorem w_work {x y z' : Int32} (hC : CG M g) (hO : Okg g) (hG : MG M g) (h : ∀ M', CG M' (qWork g x y z').1 → MG M' g → ((qWork g x y z').2.1 = 0 → M'.2.1 = (qWork g x y z').2.2.toInt64) → P (.inl (some (.int (nI (qWork g x y z').2.1)))) M') : Sp E yL_work cL_work zL_work [.ref (ad E 0 0 0), .int x, .int y, .int z', .ref (ad E 27 0 0)] M P := by
  refine Sp_ofH (own := RL) (by decide) rfl (List.cons_ne_nil _ _) (Nat.le_of_ble_eq_true rfl) (fun C => ?_)
  refine G_aload dL_work_0 rfl ?_
  refine G_iconst (v := 0) dL_work_2 (by decide) ?_
  refine G_aload_n dL_work_3 rfl ?_
  refine G_iload_n dL_work_4 rfl ?_
  refine G_iload_n dL_work_5 rfl ?_
  refine G_iload_n dL_work_6 rfl ?_
  refine G_callVH (n := 3) (as := [.int x, .int y, .int z']) (rest := [.int 0, .ref (ad E 27 0 0)]) (k := 0) (j := 0) (p := 0) (ci := 8) (T := TX8) (N := 9) (cs' := 3) (ss' := 18) dL_work_7 lk_L_124 ⟨by decide, rfl, rfl⟩ rfl rfl rfl rfl (Nat.le_of_ble_eq_true rfl) (Nat.le_of_ble_eq_true rfl) (Nat.le_of_ble_eq_true rfl) rfl rfl (Nat.le_of_ble_eq_true rfl) (Nat.le_of_ble_eq_true rfl) ?_
  refine s_X8_work hC hO (fun M1 hC1 hf => ?_)
  by_cases q : (qWork g x y z').2.1 = 0
  · rw [show rs xPA (qWork g x y z').2 = .inl (some (.int (qWork g x y z').2.2)) from if_pos q]
    refine hGoH_i ?_
    refine G_i2l dL_work_10 ?_
    refine G_last dL_work_11 ?_
    refine G_goto (tgt := 23) dL_work_12 (by decide) ?_
    refine G_iconst (v := 0) dL_work_23 (by decide) ?_
    refine G_iret dL_work_24 rfl rfl (Nat.le_of_ble_eq_true rfl) (Nat.le_of_ble_eq_true rfl) ?_
    have h' := h (M1.1, (qWork g x y z').2.2.toInt64, M1.2.2) (CG.o hC1) (MG.o (hG.cl hf)) (fun _ => rfl)
    rw [q] at h'
    exact h'
  · rcases @b_qWork g x y z' with b | b | b
    · exact absurd b q
    · rw [show rs xPA (qWork g x y z').2 = .inr xIO from by unfold rs; rw [if_neg q, b]; rfl]
      refine hGoH_x (h := 15) (hCat1 rfl (Nat.le_of_ble_eq_true rfl) (Nat.le_of_ble_eq_true rfl) (by decide) lIO xIOw) (fun a => ?_)
      refine G_astore dL_work_15 (Nat.le_of_ble_eq_true rfl) ?_
      refine G_iconst (v := 1) dL_work_17 (by decide) ?_
      refine G_iret dL_work_18 rfl rfl (Nat.le_of_ble_eq_true rfl) (Nat.le_of_ble_eq_true rfl) ?_
      have h' := h M1 hC1 (hG.cl hf) (fun z => absurd z q)
      rw [b] at h'
      exact h'
    · rw [show rs xPA (qWork g x y z').2 = .inr xIA from by unfold rs; rw [if_neg q, b]; rfl]
      refine hGoH_x (h := 19) (hCat2 rfl (Nat.le_of_ble_eq_true rfl) (Nat.le_of_ble_eq_true rfl) (by decide) lIA xIAw (by decide) lIO nIAO) (fun a => ?_)
      refine G_astore dL_work_19 (Nat.le_of_ble_eq_true rfl) ?_
      refine G_iconst (v := 2) dL_work_21 (by decide) ?_
      refine G_iret dL_work_22 rfl rfl (Nat.le_of_ble_eq_true rfl) (Nat.le_of_ble_eq_true rfl) ?_
      have h' := h M1 hC1 (hG.cl hf) (fun z => absurd z q)
      rw [b] at h'
      exact h'
theorem b_qSwap {x y n m : Int32} : (qSwap g x y n m).2.1 = 0 ∨ (qSwap g x y n m).2.1 = 1 ∨ (qSwap g x y n m).2.1 = 2 := by
  unfold qSwap
  (repeat' split) <;> first | exact Or.inl rfl | exact Or.inr rfl | exact Or.inr (Or.inl rfl) | exact Or.inr (Or.inr rfl)
theorem w_swap {x y n m : Int32} (hC : CG M g) (hO : Okg g) (hG : MG M g) (h : ∀ M', CG M' (qSwap g x y n m).1 → MG M' g → ((qSwap g x y n m).2.1 = 0 → M'.2.1 = (qSwap g x y n m).2.2.toInt64) → P (.inl (some (.int (nI (qSwap g x y n m).2.1)))) M') : Sp E yL_swap cL_swap zL_swap [.ref (ad E 0 0 0), .int x, .int y, .int n, .int m, .ref (ad E 27 0 0)] M P := by
  refine Sp_ofH (own := RL) (by decide) rfl (List.cons_ne_nil _ _) (Nat.le_of_ble_eq_true rfl) (fun C => ?_)
  refine G_aload dL_swap_0 rfl ?_
  refine G_iconst (v := 0) dL_swap_2 (by decide) ?_
  refine G_aload_n dL_swap_3 rfl ?_
  refine G_iload_n dL_swap_4 rfl ?_
  refine G_iload_n dL_swap_5 rfl ?_
  refine G_iload_n dL_swap_6 rfl ?_
  refine G_iload dL_swap_7 rfl ?_
  refine G_callVH (n := 4) (as := [.int x, .int y, .int n, .int m]) (rest := [.int 0, .ref (ad E 27 0 0)]) (k := 0) (j := 0) (p := 0) (ci := 8) (T := TX8) (N := 9) (cs' := 4) (ss' := 24) dL_swap_9 lk_L_127 ⟨by decide, rfl, rfl⟩ rfl rfl rfl rfl (Nat.le_of_ble_eq_true rfl) (Nat.le_of_ble_eq_true rfl) (Nat.le_of_ble_eq_true rfl) rfl rfl (Nat.le_of_ble_eq_true rfl) (Nat.le_of_ble_eq_true rfl) ?_
  refine s_X8_swap hC hO (fun M1 hC1 hf => ?_)
  by_cases q : (qSwap g x y n m).2.1 = 0
  · rw [show rs xPA (qSwap g x y n m).2 = .inl (some (.int (qSwap g x y n m).2.2)) from if_pos q]
    refine hGoH_i ?_
    refine G_i2l dL_swap_12 ?_
    refine G_last dL_swap_13 ?_
    refine G_goto (tgt := 25) dL_swap_14 (by decide) ?_
    refine G_iconst (v := 0) dL_swap_25 (by decide) ?_
    refine G_iret dL_swap_26 rfl rfl (Nat.le_of_ble_eq_true rfl) (Nat.le_of_ble_eq_true rfl) ?_
    have h' := h (M1.1, (qSwap g x y n m).2.2.toInt64, M1.2.2) (CG.o hC1) (MG.o (hG.cl hf)) (fun _ => rfl)
    rw [q] at h'
    exact h'
  · rcases @b_qSwap g x y n m with b | b | b
    · exact absurd b q
    · rw [show rs xPA (qSwap g x y n m).2 = .inr xIO from by unfold rs; rw [if_neg q, b]; rfl]
      refine hGoH_x (h := 17) (hCat1 rfl (Nat.le_of_ble_eq_true rfl) (Nat.le_of_ble_eq_true rfl) (by decide) lIO xIOw) (fun a => ?_)
      refine G_astore dL_swap_17 (Nat.le_of_ble_eq_true rfl) ?_
      refine G_iconst (v := 1) dL_swap_19 (by decide) ?_
      refine G_iret dL_swap_20 rfl rfl (Nat.le_of_ble_eq_true rfl) (Nat.le_of_ble_eq_true rfl) ?_
      have h' := h M1 hC1 (hG.cl hf) (fun z => absurd z q)
      rw [b] at h'
      exact h'
    · rw [show rs xPA (qSwap g x y n m).2 = .inr xIA from by unfold rs; rw [if_neg q, b]; rfl]
      refine hGoH_x (h := 21) (hCat2 rfl (Nat.le_of_ble_eq_true rfl) (Nat.le_of_ble_eq_true rfl) (by decide) lIA xIAw (by decide) lIO nIAO) (fun a => ?_)
      refine G_astore dL_swap_21 (Nat.le_of_ble_eq_true rfl) ?_
      refine G_iconst (v := 2) dL_swap_23 (by decide) ?_
      refine G_iret dL_swap_24 rfl rfl (Nat.le_of_ble_eq_true rfl) (Nat.le_of_ble_eq_true rfl) ?_
      have h' := h M1 hC1 (hG.cl hf) (fun z => absurd z q)
      rw [b] at h'
      exact h'
theorem b_qLend {x y n m : Int32} : (qLend g x y n m).2.1 = 0 ∨ (qLend g x y n m).2.1 = 1 ∨ (qLend g x y n m).2.1 = 2 := by
  unfold qLend
  (repeat' split) <;> first | exact Or.inl rfl | exact Or.inr rfl | exact Or.inr (Or.inl rfl) | exact Or.inr (Or.inr rfl)
theorem w_lend {x y n m : Int32} (hC : CG M g) (hO : Okg g) (hG : MG M g) (h : ∀ M', CG M' (qLend g x y n m).1 → MG M' g → ((qLend g x y n m).2.1 = 0 → M'.2.1 = (qLend g x y n m).2.2.toInt64) → P (.inl (some (.int (nI (qLend g x y n m).2.1)))) M') : Sp E yL_lend cL_lend zL_lend [.ref (ad E 0 0 0), .int x, .int y, .int n, .int m, .ref (ad E 27 0 0)] M P := by
  refine Sp_ofH (own := RL) (by decide) rfl (List.cons_ne_nil _ _) (Nat.le_of_ble_eq_true rfl) (fun C => ?_)
  refine G_aload dL_lend_0 rfl ?_
  refine G_iconst (v := 0) dL_lend_2 (by decide) ?_
  refine G_aload_n dL_lend_3 rfl ?_
  refine G_iload_n dL_lend_4 rfl ?_
  refine G_iload_n dL_lend_5 rfl ?_
  refine G_iload_n dL_lend_6 rfl ?_
  refine G_iload dL_lend_7 rfl ?_
  refine G_callVH (n := 4) (as := [.int x, .int y, .int n, .int m]) (rest := [.int 0, .ref (ad E 27 0 0)]) (k := 0) (j := 0) (p := 0) (ci := 8) (T := TX8) (N := 9) (cs' := 4) (ss' := 24) dL_lend_9 lk_L_130 ⟨by decide, rfl, rfl⟩ rfl rfl rfl rfl (Nat.le_of_ble_eq_true rfl) (Nat.le_of_ble_eq_true rfl) (Nat.le_of_ble_eq_true rfl) rfl rfl (Nat.le_of_ble_eq_true rfl) (Nat.le_of_ble_eq_true rfl) ?_
  refine s_X8_lend hC hO (fun M1 hC1 hf => ?_)
  by_cases q : (qLend g x y n m).2.1 = 0
  · rw [show rs xPA (qLend g x y n m).2 = .inl (some (.int (qLend g x y n m).2.2)) from if_pos q]
    refine hGoH_i ?_
    refine G_i2l dL_lend_12 ?_
    refine G_last dL_lend_13 ?_
    refine G_goto (tgt := 25) dL_lend_14 (by decide) ?_
    refine G_iconst (v := 0) dL_lend_25 (by decide) ?_
    refine G_iret dL_lend_26 rfl rfl (Nat.le_of_ble_eq_true rfl) (Nat.le_of_ble_eq_true rfl) ?_
    have h' := h (M1.1, (qLend g x y n m).2.2.toInt64, M1.2.2) (CG.o hC1) (MG.o (hG.cl hf)) (fun _ => rfl)
    rw [q] at h'
    exact h'
  · rcases @b_qLend g x y n m with b | b | b
    · exact absurd b q
    · rw [show rs xPA (qLend g x y n m).2 = .inr xIO from by unfold rs; rw [if_neg q, b]; rfl]
      refine hGoH_x (h := 17) (hCat1 rfl (Nat.le_of_ble_eq_true rfl) (Nat.le_of_ble_eq_true rfl) (by decide) lIO xIOw) (fun a => ?_)
      refine G_astore dL_lend_17 (Nat.le_of_ble_eq_true rfl) ?_
      refine G_iconst (v := 1) dL_lend_19 (by decide) ?_
      refine G_iret dL_lend_20 rfl rfl (Nat.le_of_ble_eq_true rfl) (Nat.le_of_ble_eq_true rfl) ?_
      have h' := h M1 hC1 (hG.cl hf) (fun z => absurd z q)
      rw [b] at h'
      exact h'
    · rw [show rs xPA (qLend g x y n m).2 = .inr xIA from by unfold rs; rw [if_neg q, b]; rfl]
      refine hGoH_x (h := 21) (hCat2 rfl (Nat.le_of_ble_eq_true rfl) (Nat.le_of_ble_eq_true rfl) (by decide) lIA xIAw (by decide) lIO nIAO) (fun a => ?_)
      refine G_astore dL_lend_21 (Nat.le_of_ble_eq_true rfl) ?_
      refine G_iconst (v := 2) dL_lend_23 (by decide) ?_
      refine G_iret dL_lend_24 rfl rfl (Nat.le_of_ble_eq_true rfl) (Nat.le_of_ble_eq_true rfl) ?_
      have h' := h M1 hC1 (hG.cl hf) (fun z => absurd z q)
      rw [b] at h'
      exact h'
theorem b_qPay {x y n m : Int32} : (qPay g x y n m).2.1 = 0 ∨ (qPay g x y n m).2.1 = 1 ∨ (qPay g x y n m).2.1 = 2 := by
  unfold qPay
  (repeat' split) <;> first | exact Or.inl rfl | exact Or.inr rfl | exact Or.inr (Or.inl rfl) | exact Or.inr (Or.inr rfl)
theorem w_payBack {x y n m : Int32} (hC : CG M g) (hO : Okg g) (hG : MG M g) (h : ∀ M', CG M' (qPay g x y n m).1 → MG M' g → ((qPay g x y n m).2.1 = 0 → M'.2.1 = (qPay g x y n m).2.2.toInt64) → P (.inl (some (.int (nI (qPay g x y n m).2.1)))) M') : Sp E yL_payBack cL_payBack zL_payBack [.ref (ad E 0 0 0), .int x, .int y, .int n, .int m, .ref (ad E 27 0 0)] M P := by
  refine Sp_ofH (own := RL) (by decide) rfl (List.cons_ne_nil _ _) (Nat.le_of_ble_eq_true rfl) (fun C => ?_)
  refine G_aload dL_payBack_0 rfl ?_
  refine G_iconst (v := 0) dL_payBack_2 (by decide) ?_
  refine G_aload_n dL_payBack_3 rfl ?_
  refine G_iload_n dL_payBack_4 rfl ?_
  refine G_iload_n dL_payBack_5 rfl ?_
  refine G_iload_n dL_payBack_6 rfl ?_
  refine G_iload dL_payBack_7 rfl ?_
  refine G_callVH (n := 4) (as := [.int x, .int y, .int n, .int m]) (rest := [.int 0, .ref (ad E 27 0 0)]) (k := 0) (j := 0) (p := 0) (ci := 8) (T := TX8) (N := 9) (cs' := 4) (ss' := 24) dL_payBack_9 lk_L_133 ⟨by decide, rfl, rfl⟩ rfl rfl rfl rfl (Nat.le_of_ble_eq_true rfl) (Nat.le_of_ble_eq_true rfl) (Nat.le_of_ble_eq_true rfl) rfl rfl (Nat.le_of_ble_eq_true rfl) (Nat.le_of_ble_eq_true rfl) ?_
  refine s_X8_payBack hC hO (fun M1 hC1 hf => ?_)
  by_cases q : (qPay g x y n m).2.1 = 0
  · rw [show rs xPA (qPay g x y n m).2 = .inl (some (.int (qPay g x y n m).2.2)) from if_pos q]
    refine hGoH_i ?_
    refine G_i2l dL_payBack_12 ?_
    refine G_last dL_payBack_13 ?_
    refine G_goto (tgt := 25) dL_payBack_14 (by decide) ?_
    refine G_iconst (v := 0) dL_payBack_25 (by decide) ?_
    refine G_iret dL_payBack_26 rfl rfl (Nat.le_of_ble_eq_true rfl) (Nat.le_of_ble_eq_true rfl) ?_
    have h' := h (M1.1, (qPay g x y n m).2.2.toInt64, M1.2.2) (CG.o hC1) (MG.o (hG.cl hf)) (fun _ => rfl)
    rw [q] at h'
    exact h'
  · rcases @b_qPay g x y n m with b | b | b
    · exact absurd b q
    · rw [show rs xPA (qPay g x y n m).2 = .inr xIO from by unfold rs; rw [if_neg q, b]; rfl]
      refine hGoH_x (h := 17) (hCat1 rfl (Nat.le_of_ble_eq_true rfl) (Nat.le_of_ble_eq_true rfl) (by decide) lIO xIOw) (fun a => ?_)
      refine G_astore dL_payBack_17 (Nat.le_of_ble_eq_true rfl) ?_
      refine G_iconst (v := 1) dL_payBack_19 (by decide) ?_
      refine G_iret dL_payBack_20 rfl rfl (Nat.le_of_ble_eq_true rfl) (Nat.le_of_ble_eq_true rfl) ?_
      have h' := h M1 hC1 (hG.cl hf) (fun z => absurd z q)
      rw [b] at h'
      exact h'
    · rw [show rs xPA (qPay g x y n m).2 = .inr xIA from by unfold rs; rw [if_neg q, b]; rfl]
      refine hGoH_x (h := 21) (hCat2 rfl (Nat.le_of_ble_eq_true rfl) (Nat.le_of_ble_eq_true rfl) (by decide) lIA xIAw (by decide) lIO nIAO) (fun a => ?_)
      refine G_astore dL_payBack_21 (Nat.le_of_ble_eq_true rfl) ?_
      refine G_iconst (v := 2) dL_payBack_23 (by decide) ?_
      refine G_iret dL_payBack_24 rfl rfl (Nat.le_of_ble_eq_true rfl) (Nat.le_of_ble_eq_true rfl) ?_
      have h' := h M1 hC1 (hG.cl hf) (fun z => absurd z q)
      rw [b] at h'
      exact h'
theorem b_qMove {x r t : Int32} : (qMove g x r t).2.1 = 0 ∨ (qMove g x r t).2.1 = 1 ∨ (qMove g x r t).2.1 = 2 := by
  unfold qMove
  (repeat' split) <;> first | exact Or.inl rfl | exact Or.inr rfl | exact Or.inr (Or.inl rfl) | exact Or.inr (Or.inr rfl)
theorem w_move {x r t : Int32} (hC : CG M g) (hO : Okg g) (hG : MG M g) (h : ∀ M', CG M' (qMove g x r t).1 → MG M' g → ((qMove g x r t).2.1 = 0 → M'.2.1 = (qMove g x r t).2.2.toInt64) → P (.inl (some (.int (nI (qMove g x r t).2.1)))) M') : Sp E yL_move cL_move zL_move [.ref (ad E 0 0 0), .int x, .int r, .int t, .ref (ad E 27 0 0)] M P := by
  refine Sp_ofH (own := RL) (by decide) rfl (List.cons_ne_nil _ _) (Nat.le_of_ble_eq_true rfl) (fun C => ?_)
  refine G_aload dL_move_0 rfl ?_
  refine G_iconst (v := 0) dL_move_2 (by decide) ?_
  refine G_aload_n dL_move_3 rfl ?_
  refine G_iload_n dL_move_4 rfl ?_
  refine G_iload_n dL_move_5 rfl ?_
  refine G_iload_n dL_move_6 rfl ?_
  refine G_callVH (n := 3) (as := [.int x, .int r, .int t]) (rest := [.int 0, .ref (ad E 27 0 0)]) (k := 0) (j := 0) (p := 0) (ci := 8) (T := TX8) (N := 9) (cs' := 3) (ss' := 18) dL_move_7 lk_L_136 ⟨by decide, rfl, rfl⟩ rfl rfl rfl rfl (Nat.le_of_ble_eq_true rfl) (Nat.le_of_ble_eq_true rfl) (Nat.le_of_ble_eq_true rfl) rfl rfl (Nat.le_of_ble_eq_true rfl) (Nat.le_of_ble_eq_true rfl) ?_
  refine s_X8_move hC hO (fun M1 hC1 hf => ?_)
  by_cases q : (qMove g x r t).2.1 = 0
  · rw [show rs xPA (qMove g x r t).2 = .inl (some (.int (qMove g x r t).2.2)) from if_pos q]
    refine hGoH_i ?_
    refine G_i2l dL_move_10 ?_
    refine G_last dL_move_11 ?_
    refine G_goto (tgt := 23) dL_move_12 (by decide) ?_
    refine G_iconst (v := 0) dL_move_23 (by decide) ?_
    refine G_iret dL_move_24 rfl rfl (Nat.le_of_ble_eq_true rfl) (Nat.le_of_ble_eq_true rfl) ?_
    have h' := h (M1.1, (qMove g x r t).2.2.toInt64, M1.2.2) (CG.o hC1) (MG.o (hG.cl hf)) (fun _ => rfl)
    rw [q] at h'
    exact h'
  · rcases @b_qMove g x r t with b | b | b
    · exact absurd b q
    · rw [show rs xPA (qMove g x r t).2 = .inr xIO from by unfold rs; rw [if_neg q, b]; rfl]
      refine hGoH_x (h := 15) (hCat1 rfl (Nat.le_of_ble_eq_true rfl) (Nat.le_of_ble_eq_true rfl) (by decide) lIO xIOw) (fun a => ?_)
      refine G_astore dL_move_15 (Nat.le_of_ble_eq_true rfl) ?_
      refine G_iconst (v := 1) dL_move_17 (by decide) ?_
      refine G_iret dL_move_18 rfl rfl (Nat.le_of_ble_eq_true rfl) (Nat.le_of_ble_eq_true rfl) ?_
      have h' := h M1 hC1 (hG.cl hf) (fun z => absurd z q)
      rw [b] at h'
      exact h'
    · rw [show rs xPA (qMove g x r t).2 = .inr xIA from by unfold rs; rw [if_neg q, b]; rfl]
      refine hGoH_x (h := 19) (hCat2 rfl (Nat.le_of_ble_eq_true rfl) (Nat.le_of_ble_eq_true rfl) (by decide) lIA xIAw (by decide) lIO nIAO) (fun a => ?_)
      refine G_astore dL_move_19 (Nat.le_of_ble_eq_true rfl) ?_
      refine G_iconst (v := 2) dL_move_21 (by decide) ?_
      refine G_iret dL_move_22 rfl rfl (Nat.le_of_ble_eq_true rfl) (Nat.le_of_ble_eq_true rfl) ?_
      have h' := h M1 hC1 (hG.cl hf) (fun z => absurd z q)
      rw [b] at h'
      exact h'
theorem b_qConfess {x : Int32} : (qConfess g x).2.1 = 0 ∨ (qConfess g x).2.1 = 1 := by
  unfold qConfess
  (repeat' split) <;> first | exact Or.inl rfl | exact Or.inr rfl | exact Or.inr (Or.inl rfl) | exact Or.inr (Or.inr rfl)
theorem w_confess {x : Int32} (hC : CG M g) (hO : Okg g) (hG : MG M g) (h : ∀ M', CG M' (qConfess g x).1 → MG M' g → ((qConfess g x).2.1 = 0 → M'.2.1 = (qConfess g x).2.2.toInt64) → P (.inl (some (.int (nI (qConfess g x).2.1)))) M') : Sp E yL_confess cL_confess zL_confess [.ref (ad E 0 0 0), .int x, .ref (ad E 27 0 0)] M P := by
  refine Sp_ofH (own := RL) (by decide) rfl (List.cons_ne_nil _ _) (Nat.le_of_ble_eq_true rfl) (fun C => ?_)
  refine G_aload_n dL_confess_0 rfl ?_
  refine G_iconst (v := 0) dL_confess_1 (by decide) ?_
  refine G_aload_n dL_confess_2 rfl ?_
  refine G_iload_n dL_confess_3 rfl ?_
  refine G_callVH (n := 1) (as := [.int x]) (rest := [.int 0, .ref (ad E 27 0 0)]) (k := 0) (j := 0) (p := 0) (ci := 8) (T := TX8) (N := 9) (cs' := 1) (ss' := 6) dL_confess_4 lk_L_139 ⟨by decide, rfl, rfl⟩ rfl rfl rfl rfl (Nat.le_of_ble_eq_true rfl) (Nat.le_of_ble_eq_true rfl) (Nat.le_of_ble_eq_true rfl) rfl rfl (Nat.le_of_ble_eq_true rfl) (Nat.le_of_ble_eq_true rfl) ?_
  refine s_X8_confess hC hO (fun M1 hC1 hf => ?_)
  by_cases q : (qConfess g x).2.1 = 0
  · rw [show rs xP (qConfess g x).2 = .inl (some (.int (qConfess g x).2.2)) from if_pos q]
    refine hGoH_i ?_
    refine G_i2l dL_confess_7 ?_
    refine G_last dL_confess_8 ?_
    refine G_goto (tgt := 15) dL_confess_9 (by decide) ?_
    refine G_iconst (v := 0) dL_confess_15 (by decide) ?_
    refine G_iret dL_confess_16 rfl rfl (Nat.le_of_ble_eq_true rfl) (Nat.le_of_ble_eq_true rfl) ?_
    have h' := h (M1.1, (qConfess g x).2.2.toInt64, M1.2.2) (CG.o hC1) (MG.o (hG.cl hf)) (fun _ => rfl)
    rw [q] at h'
    exact h'
  · rcases @b_qConfess g x with b | b
    · exact absurd b q
    · rw [show rs xP (qConfess g x).2 = .inr xIO from by unfold rs; rw [if_neg q, b]; rfl]
      refine hGoH_x (h := 12) (hCat1 rfl (Nat.le_of_ble_eq_true rfl) (Nat.le_of_ble_eq_true rfl) (by decide) lIO xIOw) (fun a => ?_)
      refine G_astore_n dL_confess_12 (Nat.le_of_ble_eq_true rfl) ?_
      refine G_iconst (v := 1) dL_confess_13 (by decide) ?_
      refine G_iret dL_confess_14 rfl rfl (Nat.le_of_ble_eq_true rfl) (Nat.le_of_ble_eq_true rfl) ?_
      have h' := h M1 hC1 (hG.cl hf) (fun z => absurd z q)
      rw [b] at h'
      exact h'
theorem b_qPass {x : Int32} : (qPass g x).2.1 = 0 ∨ (qPass g x).2.1 = 1 := by
  unfold qPass
  (repeat' split) <;> first | exact Or.inl rfl | exact Or.inr rfl | exact Or.inr (Or.inl rfl) | exact Or.inr (Or.inr rfl)
theorem w_pass {x : Int32} (hC : CG M g) (hO : Okg g) (hG : MG M g) (h : ∀ M', CG M' (qPass g x).1 → MG M' g → ((qPass g x).2.1 = 0 → M'.2.1 = (qPass g x).2.2.toInt64) → P (.inl (some (.int (nI (qPass g x).2.1)))) M') : Sp E yL_pass cL_pass zL_pass [.ref (ad E 0 0 0), .int x, .ref (ad E 27 0 0)] M P := by
  refine Sp_ofH (own := RL) (by decide) rfl (List.cons_ne_nil _ _) (Nat.le_of_ble_eq_true rfl) (fun C => ?_)
  refine G_aload_n dL_pass_0 rfl ?_
  refine G_iconst (v := 0) dL_pass_1 (by decide) ?_
  refine G_aload_n dL_pass_2 rfl ?_
  refine G_iload_n dL_pass_3 rfl ?_
  refine G_callVH (n := 1) (as := [.int x]) (rest := [.int 0, .ref (ad E 27 0 0)]) (k := 0) (j := 0) (p := 0) (ci := 8) (T := TX8) (N := 9) (cs' := 1) (ss' := 6) dL_pass_4 lk_L_142 ⟨by decide, rfl, rfl⟩ rfl rfl rfl rfl (Nat.le_of_ble_eq_true rfl) (Nat.le_of_ble_eq_true rfl) (Nat.le_of_ble_eq_true rfl) rfl rfl (Nat.le_of_ble_eq_true rfl) (Nat.le_of_ble_eq_true rfl) ?_
  refine s_X8_pass hC hO (fun M1 hC1 hf => ?_)
  by_cases q : (qPass g x).2.1 = 0
  · rw [show rs xA (qPass g x).2 = .inl (some (.int (qPass g x).2.2)) from if_pos q]
    refine hGoH_i ?_
    refine G_i2l dL_pass_7 ?_
    refine G_last dL_pass_8 ?_
    refine G_goto (tgt := 15) dL_pass_9 (by decide) ?_
    refine G_iconst (v := 0) dL_pass_15 (by decide) ?_
    refine G_iret dL_pass_16 rfl rfl (Nat.le_of_ble_eq_true rfl) (Nat.le_of_ble_eq_true rfl) ?_
    have h' := h (M1.1, (qPass g x).2.2.toInt64, M1.2.2) (CG.o hC1) (MG.o (hG.cl hf)) (fun _ => rfl)
    rw [q] at h'
    exact h'
  · rcases @b_qPass g x with b | b
    · exact absurd b q
    · rw [show rs xA (qPass g x).2 = .inr xIA from by unfold rs; rw [if_neg q, b]; rfl]
      refine hGoH_x (h := 12) (hCat1 rfl (Nat.le_of_ble_eq_true rfl) (Nat.le_of_ble_eq_true rfl) (by decide) lIA xIAw) (fun a => ?_)
      refine G_astore_n dL_pass_12 (Nat.le_of_ble_eq_true rfl) ?_
      refine G_iconst (v := 1) dL_pass_13 (by decide) ?_
      refine G_iret dL_pass_14 rfl rfl (Nat.le_of_ble_eq_true rfl) (Nat.le_of_ble_eq_true rfl) ?_
      have h' := h M1 hC1 (hG.cl hf) (fun z => absurd z q)
      rw [b] at h'
      exact h'
theorem b_qWrite {x : Int32} : (qWrite g x).2.1 = 0 ∨ (qWrite g x).2.1 = 1 := by
  unfold qWrite
  (repeat' split) <;> first | exact Or.inl rfl | exact Or.inr rfl | exact Or.inr (Or.inl rfl) | exact Or.inr (Or.inr rfl)
theorem w_write {x : Int32} (hC : CG M g) (hO : Okg g) (hG : MG M g) (h : ∀ M', CG M' (qWrite g x).1 → MG M' g → ((qWrite g x).2.1 = 0 → M'.2.1 = (qWrite g x).2.2.toInt64) → P (.inl (some (.int (nI (qWrite g x).2.1)))) M') : Sp E yL_write cL_write zL_write [.ref (ad E 0 0 0), .int x, .ref (ad E 27 0 0)] M P := by
  refine Sp_ofH (own := RL) (by decide) rfl (List.cons_ne_nil _ _) (Nat.le_of_ble_eq_true rfl) (fun C => ?_)
  refine G_aload_n dL_write_0 rfl ?_
  refine G_iconst (v := 0) dL_write_1 (by decide) ?_
  refine G_aload_n dL_write_2 rfl ?_
  refine G_iload_n dL_write_3 rfl ?_
  refine G_callVH (n := 1) (as := [.int x]) (rest := [.int 0, .ref (ad E 27 0 0)]) (k := 0) (j := 0) (p := 0) (ci := 8) (T := TX8) (N := 9) (cs' := 1) (ss' := 6) dL_write_4 lk_L_145 ⟨by decide, rfl, rfl⟩ rfl rfl rfl rfl (Nat.le_of_ble_eq_true rfl) (Nat.le_of_ble_eq_true rfl) (Nat.le_of_ble_eq_true rfl) rfl rfl (Nat.le_of_ble_eq_true rfl) (Nat.le_of_ble_eq_true rfl) ?_
  refine s_X8_write hC hO (fun M1 hC1 hf => ?_)
  by_cases q : (qWrite g x).2.1 = 0
  · rw [show rs xP (qWrite g x).2 = .inl (some (.int (qWrite g x).2.2)) from if_pos q]
    refine hGoH_i ?_
    refine G_i2l dL_write_7 ?_
    refine G_last dL_write_8 ?_
    refine G_goto (tgt := 15) dL_write_9 (by decide) ?_
    refine G_iconst (v := 0) dL_write_15 (by decide) ?_
    refine G_iret dL_write_16 rfl rfl (Nat.le_of_ble_eq_true rfl) (Nat.le_of_ble_eq_true rfl) ?_
    have h' := h (M1.1, (qWrite g x).2.2.toInt64, M1.2.2) (CG.o hC1) (MG.o (hG.cl hf)) (fun _ => rfl)
    rw [q] at h'
    exact h'
  · rcases @b_qWrite g x with b | b
    · exact absurd b q
    · rw [show rs xP (qWrite g x).2 = .inr xIO from by unfold rs; rw [if_neg q, b]; rfl]
      refine hGoH_x (h := 12) (hCat1 rfl (Nat.le_of_ble_eq_true rfl) (Nat.le_of_ble_eq_true rfl) (by decide) lIO xIOw) (fun a => ?_)
      refine G_astore_n dL_write_12 (Nat.le_of_ble_eq_true rfl) ?_
      refine G_iconst (v := 1) dL_write_13 (by decide) ?_
      refine G_iret dL_write_14 rfl rfl (Nat.le_of_ble_eq_true rfl) (Nat.le_of_ble_eq_true rfl) ?_
      have h' := h M1 hC1 (hG.cl hf) (fun z => absurd z q)
      rw [b] at h'
      exact h'
theorem b_qSave {x : Int32} : (qSave g x).2.1 = 0 ∨ (qSave g x).2.1 = 1 := by
  unfold qSave
  (repeat' split) <;> first | exact Or.inl rfl | exact Or.inr rfl | exact Or.inr (Or.inl rfl) | exact Or.inr (Or.inr rfl)
theorem w_save {x : Int32} (hC : CG M g) (hO : Okg g) (hG : MG M g) (h : ∀ M', CG M' (qSave g x).1 → MG M' g → P (.inl (some (.int (nI (qSave g x).2.1)))) M') : Sp E yL_save cL_save zL_save [.ref (ad E 0 0 0), .int x] M P := by
  refine Sp_ofH (own := RL) (by decide) rfl (List.cons_ne_nil _ _) (Nat.le_of_ble_eq_true rfl) (fun C => ?_)
  refine G_aload_n dL_save_0 rfl ?_
  refine G_iload_n dL_save_1 rfl ?_
  refine G_callVH (n := 1) (as := [.int x]) (rest := []) (k := 0) (j := 0) (p := 0) (ci := 8) (T := TX8) (N := 9) (cs' := 1) (ss' := 6) dL_save_2 lk_L_148 ⟨by decide, rfl, rfl⟩ rfl rfl rfl rfl (Nat.le_of_ble_eq_true rfl) (Nat.le_of_ble_eq_true rfl) (Nat.le_of_ble_eq_true rfl) rfl rfl (Nat.le_of_ble_eq_true rfl) (Nat.le_of_ble_eq_true rfl) ?_
  refine s_X8_save hC hO (fun M1 hC1 hf => ?_)
  by_cases q : (qSave g x).2.1 = 0
  · rw [show rsv xA (qSave g x).2 = .inl none from if_pos q]
    refine hGoH_v ?_
    refine G_goto (tgt := 11) dL_save_5 (by decide) ?_
    refine G_iconst (v := 0) dL_save_11 (by decide) ?_
    refine G_iret dL_save_12 rfl rfl (Nat.le_of_ble_eq_true rfl) (Nat.le_of_ble_eq_true rfl) ?_
    have h' := h M1 hC1 (hG.cl hf)
    rw [q] at h'
    exact h'
  · rcases @b_qSave g x with b | b
    · exact absurd b q
    · rw [show rsv xA (qSave g x).2 = .inr xIA from by unfold rsv; rw [if_neg q, b]; rfl]
      refine hGoH_x (h := 8) (hCat1 rfl (Nat.le_of_ble_eq_true rfl) (Nat.le_of_ble_eq_true rfl) (by decide) lIA xIAw) (fun a => ?_)
      refine G_astore_n dL_save_8 (Nat.le_of_ble_eq_true rfl) ?_
      refine G_iconst (v := 1) dL_save_9 (by decide) ?_
      refine G_iret dL_save_10 rfl rfl (Nat.le_of_ble_eq_true rfl) (Nat.le_of_ble_eq_true rfl) ?_
      have h' := h M1 hC1 (hG.cl hf)
      rw [b] at h'
      exact h'
theorem b_qRestore {x : Int32} : (qRestore g x).2.1 = 0 ∨ (qRestore g x).2.1 = 1 ∨ (qRestore g x).2.1 = 2 := by
  unfold qRestore
  (repeat' split) <;> first | exact Or.inl rfl | exact Or.inr rfl | exact Or.inr (Or.inl rfl) | exact Or.inr (Or.inr rfl)
theorem w_restore {x : Int32} (hC : CG M g) (hO : Okg g) (hG : MG M g) (h : ∀ M', CG M' (qRestore g x).1 → MG M' g → P (.inl (some (.int (nI (qRestore g x).2.1)))) M') : Sp E yL_restore cL_restore zL_restore [.ref (ad E 0 0 0), .int x] M P := by
  refine Sp_ofH (own := RL) (by decide) rfl (List.cons_ne_nil _ _) (Nat.le_of_ble_eq_true rfl) (fun C => ?_)
  refine G_aload_n dL_restore_0 rfl ?_
  refine G_iload_n dL_restore_1 rfl ?_
  refine G_callVH (n := 1) (as := [.int x]) (rest := []) (k := 0) (j := 0) (p := 0) (ci := 8) (T := TX8) (N := 9) (cs' := 2) (ss' := 12) dL_restore_2 lk_L_152 ⟨by decide, rfl, rfl⟩ rfl rfl rfl rfl (Nat.le_of_ble_eq_true rfl) (Nat.le_of_ble_eq_true rfl) (Nat.le_of_ble_eq_true rfl) rfl rfl (Nat.le_of_ble_eq_true rfl) (Nat.le_of_ble_eq_true rfl) ?_
  refine s_X8_restore hC hO (fun M1 hC1 hf => ?_)
  by_cases q : (qRestore g x).2.1 = 0
  · rw [show rsv xAS (qRestore g x).2 = .inl none from if_pos q]
    refine hGoH_v ?_
    refine G_goto (tgt := 14) dL_restore_5 (by decide) ?_
    refine G_iconst (v := 0) dL_restore_14 (by decide) ?_
    refine G_iret dL_restore_15 rfl rfl (Nat.le_of_ble_eq_true rfl) (Nat.le_of_ble_eq_true rfl) ?_
    have h' := h M1 hC1 (hG.cl hf)
    rw [q] at h'
    exact h'
  · rcases @b_qRestore g x with b | b | b
    · exact absurd b q
    · rw [show rsv xAS (qRestore g x).2 = .inr xIA from by unfold rsv; rw [if_neg q, b]; rfl]
      refine hGoH_x (h := 8) (hCat1 rfl (Nat.le_of_ble_eq_true rfl) (Nat.le_of_ble_eq_true rfl) (by decide) lIA xIAw) (fun a => ?_)
      refine G_astore_n dL_restore_8 (Nat.le_of_ble_eq_true rfl) ?_
      refine G_iconst (v := 1) dL_restore_9 (by decide) ?_
      refine G_iret dL_restore_10 rfl rfl (Nat.le_of_ble_eq_true rfl) (Nat.le_of_ble_eq_true rfl) ?_
      have h' := h M1 hC1 (hG.cl hf)
      rw [b] at h'
      exact h'
    · rw [show rsv xAS (qRestore g x).2 = .inr xIS from by unfold rsv; rw [if_neg q, b]; rfl]
      refine hGoH_x (h := 11) (hCat2 rfl (Nat.le_of_ble_eq_true rfl) (Nat.le_of_ble_eq_true rfl) (by decide) lIS xISw (by decide) lIA nISA) (fun a => ?_)
      refine G_astore_n dL_restore_11 (Nat.le_of_ble_eq_true rfl) ?_
      refine G_iconst (v := 2) dL_restore_12 (by decide) ?_
      refine G_iret dL_restore_13 rfl rfl (Nat.le_of_ble_eq_true rfl) (Nat.le_of_ble_eq_true rfl) ?_
      have h' := h M1 hC1 (hG.cl hf)
      rw [b] at h'
      exact h'
end LWRAP
