/-! ===== HomeworkBarterModel: what is asked ===== -/
section MQRY
variable {E : Ed} {M : Mm} {P : Res → Mm → Prop} {g : Gs}
theorem hdV_N {A : Ab} {x s : Nat} (hO : Ok A) (hx : x < A.n) (hs : s < 2) : hdV A x s = nI (hdN A x s) := by
  have h12 := hO.1.2
  have h0 : 0 ≤ A.g (4 + s) := by
    rcases (show s = 0 ∨ s = 1 by omega) with rfl | rfl
    · exact hO.2.1.2.1
    · exact hO.2.1.2.2
  obtain ⟨d, hd, ed⟩ := nI_of (Int32.not_lt.mpr h0)
  have l20 := (hO.2.2.2.1 (2 * x + s) (by omega)).1
  unfold hdV hdN imin
  rw [ed, nI_clamp hd]
  by_cases q : (A.s (2 * x + s)).length < d
  · rw [if_pos (nI_lt q hd), Nat.min_eq_right (by omega)]
  · rw [if_neg (nI_nlt (by omega) (by omega)), Nat.min_eq_left (by omega)]
theorem m_count {x : Int32} (hG : MG M g) (hO : Okg g) (h : ∀ M' v, MG M' g → Fm M M' → M'.1 20 0 0 5 = nI (qCount g x).1 → ((qCount g x).1 = 0 → v = (qCount g x).2) → P (.inl (some (.int v))) M') : Sp E yX9_count cX9_count zX9_count [.ref (ad E 20 0 0), .int x] M P := by
  unfold qCount at h
  refine Sp_of (own := RX9) (by decide) rfl rfl (Nat.le_of_ble_eq_true rfl) (fun C => ?_)
  refine G_aload_n dX9_count_0 rfl ?_
  refine G_iconst (v := 0) dX9_count_1 (by decide) ?_
  refine pf_X9_41 dX9_count_2  ?_
  have hG1 : MG (M.up 20 0 0 5 0) g := hG.thr
  have hT : (M.up 20 0 0 5 0).1 20 0 0 5 = 0 := up_at
  have hF : Fm M (M.up 20 0 0 5 0) := Fm.rfl.up ⟨by decide, by decide⟩
  generalize M.up 20 0 0 5 0 = M1 at hG1 hT hF ⊢
  have hR := hG1.1
  have hA := hG1.2.1
  have h12 := hA.n12
  refine G_aload_n dX9_count_5 rfl ?_
  refine G_iload_n dX9_count_6 rfl ?_
  refine G_iconst (v := 0) dX9_count_7 (by decide) ?_
  refine G_bipush (v := 12) dX9_count_8 (by decide) ?_
  refine cv_X9_162 (cs' := 0) (ss' := 0) dX9_count_10  (Nat.le_of_ble_eq_true rfl) (Nat.le_of_ble_eq_true rfl) (Nat.le_of_ble_eq_true rfl) rfl rfl (Nat.le_of_ble_eq_true rfl) (Nat.le_of_ble_eq_true rfl) rfl ?_
  refine s_X9_in (hGo_i ?_)
  by_cases q00 : inR x 0 12
  rotate_left
  · rw [if_neg q00]
    refine G_iconst (v := 1) dX9_count_13 (by decide) ?_
    refine cv_X9_158 (cs' := 0) (ss' := 0) dX9_count_14  (Nat.le_of_ble_eq_true rfl) (Nat.le_of_ble_eq_true rfl) (Nat.le_of_ble_eq_true rfl) rfl rfl (Nat.le_of_ble_eq_true rfl) (Nat.le_of_ble_eq_true rfl) rfl ?_
    refine s_X9_holds0 hT (by decide) (hGo_i ?_)
    refine G_if_ne (tgt := 22) dX9_count_17 (by decide) (fun c17 => ?_) (fun c17 => ?_)
    · exact absurd rfl c17
    · refine G_iconst (v := 0) dX9_count_20 (by decide) ?_
      refine G_iret dX9_count_21 rfl rfl (Nat.le_of_ble_eq_true rfl) (Nat.le_of_ble_eq_true rfl) ?_
      rw [if_neg q00] at h
      exact h _ _ hG1.thr (hF.up ⟨by decide, by decide⟩) up_at (fun z => absurd z (by decide))
  rw [if_pos q00]
  refine G_iconst (v := 1) dX9_count_13 (by decide) ?_
  refine cv_X9_158 (cs' := 0) (ss' := 0) dX9_count_14  (Nat.le_of_ble_eq_true rfl) (Nat.le_of_ble_eq_true rfl) (Nat.le_of_ble_eq_true rfl) rfl rfl (Nat.le_of_ble_eq_true rfl) (Nat.le_of_ble_eq_true rfl) rfl ?_
  rw [if_pos q00] at h
  refine s_X9_holds1 hT (hGo_i ?_)
  refine G_if_ne (tgt := 22) dX9_count_17 (by decide) (fun c17 => ?_) (fun c17 => ?_)
  rotate_left
  · exact absurd c17 (by decide)
  obtain ⟨k, lk, hk, rfl, ek⟩ := inR_ix (i := 0) (k := 12) (by decide) (by decide) q00
  rw [ek] at h
  rcases (show k = 0 ∨ k = 1 ∨ k = 2 ∨ k = 3 ∨ k = 4 ∨ k = 5 ∨ k = 6 ∨ k = 7 ∨ k = 8 ∨ k = 9 ∨ k = 10 ∨ k = 11 ∨ k = 12 by omega) with rfl | rfl | rfl | rfl | rfl | rfl | rfl | rfl | rfl | rfl | rfl | rfl | rfl
  · refine G_iload_n dX9_count_22 rfl ?_
    refine G_tOut (tgt := 101) dX9_count_23 (by decide) (by decide) ?_
    refine G_aload_n dX9_count_101 rfl ?_
    refine G_iload_n dX9_count_102 rfl ?_
    refine cv_X9_50 (cs' := 0) (ss' := 0) dX9_count_103  (Nat.le_of_ble_eq_true rfl) (Nat.le_of_ble_eq_true rfl) (Nat.le_of_ble_eq_true rfl) rfl rfl (Nat.le_of_ble_eq_true rfl) (Nat.le_of_ble_eq_true rfl) rfl ?_
    refine s_X9_get (w := 0) hR (by decide) hA.n (hGo_i ?_)
    refine G_iret dX9_count_106 rfl rfl (Nat.le_of_ble_eq_true rfl) (Nat.le_of_ble_eq_true rfl) ?_
    exact h M1 _ hG1 hF hT (fun _ => rfl)
  · refine G_iload_n dX9_count_22 rfl ?_
    refine G_tOut (tgt := 101) dX9_count_23 (by decide) (by decide) ?_
    refine G_aload_n dX9_count_101 rfl ?_
    refine G_iload_n dX9_count_102 rfl ?_
    refine cv_X9_50 (cs' := 0) (ss' := 0) dX9_count_103  (Nat.le_of_ble_eq_true rfl) (Nat.le_of_ble_eq_true rfl) (Nat.le_of_ble_eq_true rfl) rfl rfl (Nat.le_of_ble_eq_true rfl) (Nat.le_of_ble_eq_true rfl) rfl ?_
    refine s_X9_get (w := 1) hR (by decide) (hA.g (t := 0) (by decide)) (hGo_i ?_)
    refine G_iret dX9_count_106 rfl rfl (Nat.le_of_ble_eq_true rfl) (Nat.le_of_ble_eq_true rfl) ?_
    exact h M1 _ hG1 hF hT (fun _ => rfl)
  · refine G_iload_n dX9_count_22 rfl ?_
    refine G_tOut (tgt := 101) dX9_count_23 (by decide) (by decide) ?_
    refine G_aload_n dX9_count_101 rfl ?_
    refine G_iload_n dX9_count_102 rfl ?_
    refine cv_X9_50 (cs' := 0) (ss' := 0) dX9_count_103  (Nat.le_of_ble_eq_true rfl) (Nat.le_of_ble_eq_true rfl) (Nat.le_of_ble_eq_true rfl) rfl rfl (Nat.le_of_ble_eq_true rfl) (Nat.le_of_ble_eq_true rfl) rfl ?_
    refine s_X9_get (w := 2) hR (by decide) (hA.g (t := 1) (by decide)) (hGo_i ?_)
    refine G_iret dX9_count_106 rfl rfl (Nat.le_of_ble_eq_true rfl) (Nat.le_of_ble_eq_true rfl) ?_
    exact h M1 _ hG1 hF hT (fun _ => rfl)
  · refine G_iload_n dX9_count_22 rfl ?_
    refine G_tOut (tgt := 101) dX9_count_23 (by decide) (by decide) ?_
    refine G_aload_n dX9_count_101 rfl ?_
    refine G_iload_n dX9_count_102 rfl ?_
    refine cv_X9_50 (cs' := 0) (ss' := 0) dX9_count_103  (Nat.le_of_ble_eq_true rfl) (Nat.le_of_ble_eq_true rfl) (Nat.le_of_ble_eq_true rfl) rfl rfl (Nat.le_of_ble_eq_true rfl) (Nat.le_of_ble_eq_true rfl) rfl ?_
    refine s_X9_get (w := 3) hR (by decide) (hA.g (t := 2) (by decide)) (hGo_i ?_)
    refine G_iret dX9_count_106 rfl rfl (Nat.le_of_ble_eq_true rfl) (Nat.le_of_ble_eq_true rfl) ?_
    exact h M1 _ hG1 hF hT (fun _ => rfl)
  · refine G_iload_n dX9_count_22 rfl ?_
    refine G_tOut (tgt := 101) dX9_count_23 (by decide) (by decide) ?_
    refine G_aload_n dX9_count_101 rfl ?_
    refine G_iload_n dX9_count_102 rfl ?_
    refine cv_X9_50 (cs' := 0) (ss' := 0) dX9_count_103  (Nat.le_of_ble_eq_true rfl) (Nat.le_of_ble_eq_true rfl) (Nat.le_of_ble_eq_true rfl) rfl rfl (Nat.le_of_ble_eq_true rfl) (Nat.le_of_ble_eq_true rfl) rfl ?_
    refine s_X9_get (w := 4) hR (by decide) (hA.g (t := 3) (by decide)) (hGo_i ?_)
    refine G_iret dX9_count_106 rfl rfl (Nat.le_of_ble_eq_true rfl) (Nat.le_of_ble_eq_true rfl) ?_
    exact h M1 _ hG1 hF hT (fun _ => rfl)
  · refine G_iload_n dX9_count_22 rfl ?_
    refine G_tOut (tgt := 101) dX9_count_23 (by decide) (by decide) ?_
    refine G_aload_n dX9_count_101 rfl ?_
    refine G_iload_n dX9_count_102 rfl ?_
    refine cv_X9_50 (cs' := 0) (ss' := 0) dX9_count_103  (Nat.le_of_ble_eq_true rfl) (Nat.le_of_ble_eq_true rfl) (Nat.le_of_ble_eq_true rfl) rfl rfl (Nat.le_of_ble_eq_true rfl) (Nat.le_of_ble_eq_true rfl) rfl ?_
    refine s_X9_get (w := 5) hR (by decide) (hA.g (t := 4) (by decide)) (hGo_i ?_)
    refine G_iret dX9_count_106 rfl rfl (Nat.le_of_ble_eq_true rfl) (Nat.le_of_ble_eq_true rfl) ?_
    exact h M1 _ hG1 hF hT (fun _ => rfl)
  · refine G_iload_n dX9_count_22 rfl ?_
    refine G_tIn (off := 41) (tgt := 64) dX9_count_23 (by decide) (by decide) rfl (by decide) ?_
    refine G_aload_n dX9_count_64 rfl ?_
    refine G_iload_n dX9_count_65 rfl ?_
    refine G_bipush (v := 6) dX9_count_66 (by decide) ?_
    refine G_isub dX9_count_68 ?_
    rw [show nI 6 - 6 = nI 0 from by decide]
    refine cv_X9_288 (cs' := 0) (ss' := 0) dX9_count_69  (Nat.le_of_ble_eq_true rfl) (Nat.le_of_ble_eq_true rfl) (Nat.le_of_ble_eq_true rfl) rfl rfl (Nat.le_of_ble_eq_true rfl) (Nat.le_of_ble_eq_true rfl) rfl ?_
    refine s_X9_piecesIn (s := 0) hR hA (by decide) (hGo_i ?_)
    refine G_iret dX9_count_72 rfl rfl (Nat.le_of_ble_eq_true rfl) (Nat.le_of_ble_eq_true rfl) ?_
    exact h M1 _ hG1 hF hT (fun _ => rfl)
  · refine G_iload_n dX9_count_22 rfl ?_
    refine G_tIn (off := 41) (tgt := 64) dX9_count_23 (by decide) (by decide) rfl (by decide) ?_
    refine G_aload_n dX9_count_64 rfl ?_
    refine G_iload_n dX9_count_65 rfl ?_
    refine G_bipush (v := 6) dX9_count_66 (by decide) ?_
    refine G_isub dX9_count_68 ?_
    rw [show nI 7 - 6 = nI 1 from by decide]
    refine cv_X9_288 (cs' := 0) (ss' := 0) dX9_count_69  (Nat.le_of_ble_eq_true rfl) (Nat.le_of_ble_eq_true rfl) (Nat.le_of_ble_eq_true rfl) rfl rfl (Nat.le_of_ble_eq_true rfl) (Nat.le_of_ble_eq_true rfl) rfl ?_
    refine s_X9_piecesIn (s := 1) hR hA (by decide) (hGo_i ?_)
    refine G_iret dX9_count_72 rfl rfl (Nat.le_of_ble_eq_true rfl) (Nat.le_of_ble_eq_true rfl) ?_
    exact h M1 _ hG1 hF hT (fun _ => rfl)
  · refine G_iload_n dX9_count_22 rfl ?_
    refine G_tIn (off := 50) (tgt := 73) dX9_count_23 (by decide) (by decide) rfl (by decide) ?_
    refine G_aload_n dX9_count_73 rfl ?_
    refine G_bipush (v := 6) dX9_count_74 (by decide) ?_
    refine cv_X9_50 (cs' := 0) (ss' := 0) dX9_count_76  (Nat.le_of_ble_eq_true rfl) (Nat.le_of_ble_eq_true rfl) (Nat.le_of_ble_eq_true rfl) rfl rfl (Nat.le_of_ble_eq_true rfl) (Nat.le_of_ble_eq_true rfl) rfl ?_
    refine s_X9_get (w := 6) hR (by decide) hA.dn (hGo_i ?_)
    refine G_iret dX9_count_79 rfl rfl (Nat.le_of_ble_eq_true rfl) (Nat.le_of_ble_eq_true rfl) ?_
    exact h M1 _ hG1 hF hT (fun _ => rfl)
  · refine G_iload_n dX9_count_22 rfl ?_
    refine G_tIn (off := 57) (tgt := 80) dX9_count_23 (by decide) (by decide) rfl (by decide) ?_
    refine G_aload_n dX9_count_80 rfl ?_
    refine cv_X9_291 (cs' := 0) (ss' := 0) dX9_count_81  (Nat.le_of_ble_eq_true rfl) (Nat.le_of_ble_eq_true rfl) (Nat.le_of_ble_eq_true rfl) rfl rfl (Nat.le_of_ble_eq_true rfl) (Nat.le_of_ble_eq_true rfl) rfl ?_
    refine s_X9_allOwed hR hA (hGo_i ?_)
    refine G_iret dX9_count_84 rfl rfl (Nat.le_of_ble_eq_true rfl) (Nat.le_of_ble_eq_true rfl) ?_
    exact h M1 _ hG1 hF hT (fun _ => rfl)
  · refine G_iload_n dX9_count_22 rfl ?_
    refine G_tIn (off := 62) (tgt := 85) dX9_count_23 (by decide) (by decide) rfl (by decide) ?_
    refine G_aload_n dX9_count_85 rfl ?_
    refine cv_X9_294 (cs' := 0) (ss' := 0) dX9_count_86  (Nat.le_of_ble_eq_true rfl) (Nat.le_of_ble_eq_true rfl) (Nat.le_of_ble_eq_true rfl) rfl rfl (Nat.le_of_ble_eq_true rfl) (Nat.le_of_ble_eq_true rfl) rfl ?_
    refine s_X9_allDetained hR hA (hGo_i ?_)
    refine G_iret dX9_count_89 rfl rfl (Nat.le_of_ble_eq_true rfl) (Nat.le_of_ble_eq_true rfl) ?_
    exact h M1 _ hG1 hF hT (fun _ => rfl)
  · refine G_iload_n dX9_count_22 rfl ?_
    refine G_tIn (off := 67) (tgt := 90) dX9_count_23 (by decide) (by decide) rfl (by decide) ?_
    refine G_aload_n dX9_count_90 rfl ?_
    refine G_iconst (v := 4) dX9_count_91 (by decide) ?_
    refine cv_X9_81 (cs' := 0) (ss' := 0) dX9_count_92  (Nat.le_of_ble_eq_true rfl) (Nat.le_of_ble_eq_true rfl) (Nat.le_of_ble_eq_true rfl) rfl rfl (Nat.le_of_ble_eq_true rfl) (Nat.le_of_ble_eq_true rfl) rfl ?_
    refine s_X9_sumOf (t := 4) (f := fun p => if g.A.f p 4 = 0 then 0 else 1) hR hA (by decide) (fun p hp => (hA.f hp (by decide)).trans (by rcases hO.1.spy p hp with e | e <;> rw [e] <;> rfl)) (hGo_i ?_)
    refine G_iret dX9_count_95 rfl rfl (Nat.le_of_ble_eq_true rfl) (Nat.le_of_ble_eq_true rfl) ?_
    exact h M1 _ hG1 hF hT (fun _ => rfl)
  · refine G_iload_n dX9_count_22 rfl ?_
    refine G_tIn (off := 73) (tgt := 96) dX9_count_23 (by decide) (by decide) rfl (by decide) ?_
    refine G_aload_n dX9_count_96 rfl ?_
    refine gf_X9_234 dX9_count_97  ?_
    rw [hG1.2.2.1.2.1]
    refine G_iret dX9_count_100 rfl rfl (Nat.le_of_ble_eq_true rfl) (Nat.le_of_ble_eq_true rfl) ?_
    exact h M1 _ hG1 hF hT (fun _ => rfl)
theorem m_tally {x : Int32} (hG : MG M g) (hO : Okg g) (h : ∀ M' v, MG M' g → Fm M M' → M'.1 20 0 0 5 = nI (qTally g x).1 → ((qTally g x).1 = 0 → v = (qTally g x).2) → P (.inl (some (.int v))) M') : Sp E yX9_tally cX9_tally zX9_tally [.ref (ad E 20 0 0), .int x] M P := by
  unfold qTally at h
  refine Sp_of (own := RX9) (by decide) rfl rfl (Nat.le_of_ble_eq_true rfl) (fun C => ?_)
  refine G_aload_n dX9_tally_0 rfl ?_
  refine G_iconst (v := 0) dX9_tally_1 (by decide) ?_
  refine pf_X9_41 dX9_tally_2  ?_
  have hG1 : MG (M.up 20 0 0 5 0) g := hG.thr
  have hT : (M.up 20 0 0 5 0).1 20 0 0 5 = 0 := up_at
  have hF : Fm M (M.up 20 0 0 5 0) := Fm.rfl.up ⟨by decide, by decide⟩
  generalize M.up 20 0 0 5 0 = M1 at hG1 hT hF ⊢
  have hR := hG1.1
  have hA := hG1.2.1
  have h12 := hA.n12
  refine G_aload_n dX9_tally_5 rfl ?_
  refine G_iload_n dX9_tally_6 rfl ?_
  refine G_iconst (v := 0) dX9_tally_7 (by decide) ?_
  refine G_bipush (v := 9) dX9_tally_8 (by decide) ?_
  refine cv_X9_162 (cs' := 0) (ss' := 0) dX9_tally_10  (Nat.le_of_ble_eq_true rfl) (Nat.le_of_ble_eq_true rfl) (Nat.le_of_ble_eq_true rfl) rfl rfl (Nat.le_of_ble_eq_true rfl) (Nat.le_of_ble_eq_true rfl) rfl ?_
  refine s_X9_in (hGo_i ?_)
  by_cases q00 : inR x 0 9
  rotate_left
  · rw [if_neg q00]
    refine G_iconst (v := 1) dX9_tally_13 (by decide) ?_
    refine cv_X9_158 (cs' := 0) (ss' := 0) dX9_tally_14  (Nat.le_of_ble_eq_true rfl) (Nat.le_of_ble_eq_true rfl) (Nat.le_of_ble_eq_true rfl) rfl rfl (Nat.le_of_ble_eq_true rfl) (Nat.le_of_ble_eq_true rfl) rfl ?_
    refine s_X9_holds0 hT (by decide) (hGo_i ?_)
    refine G_if_eq (tgt := 31) dX9_tally_17 (by decide) (fun c17 => ?_) (fun c17 => ?_)
    · refine G_iconst (v := 0) dX9_tally_31 (by decide) ?_
      refine G_iret dX9_tally_32 rfl rfl (Nat.le_of_ble_eq_true rfl) (Nat.le_of_ble_eq_true rfl) ?_
      rw [if_neg q00] at h
      exact h _ _ hG1.thr (hF.up ⟨by decide, by decide⟩) up_at (fun z => absurd z (by decide))
    · exact absurd rfl c17
  rw [if_pos q00]
  refine G_iconst (v := 1) dX9_tally_13 (by decide) ?_
  refine cv_X9_158 (cs' := 0) (ss' := 0) dX9_tally_14  (Nat.le_of_ble_eq_true rfl) (Nat.le_of_ble_eq_true rfl) (Nat.le_of_ble_eq_true rfl) rfl rfl (Nat.le_of_ble_eq_true rfl) (Nat.le_of_ble_eq_true rfl) rfl ?_
  rw [if_pos q00] at h
  refine s_X9_holds1 hT (hGo_i ?_)
  refine G_if_eq (tgt := 31) dX9_tally_17 (by decide) (fun c17 => ?_) (fun c17 => ?_)
  · exact absurd c17 (by decide)
  obtain ⟨k, lk, hk, rfl, ek⟩ := inR_ix (i := 0) (k := 9) (by decide) (by decide) q00
  rw [ek] at h
  refine G_aload_n dX9_tally_20 rfl ?_
  refine G_bipush (v := 7) dX9_tally_21 (by decide) ?_
  refine G_iload_n dX9_tally_23 rfl ?_
  refine G_iadd dX9_tally_24 ?_
  rw [show (7 : Int32) + nI k = nI (7 + k) from nI_add 7 k]
  refine cv_X9_50 (cs' := 0) (ss' := 0) dX9_tally_25  (Nat.le_of_ble_eq_true rfl) (Nat.le_of_ble_eq_true rfl) (Nat.le_of_ble_eq_true rfl) rfl rfl (Nat.le_of_ble_eq_true rfl) (Nat.le_of_ble_eq_true rfl) rfl ?_
  refine s_X9_get hR (by omega) (hA.tl (by omega)) (hGo_i ?_)
  refine G_goto (tgt := 32) dX9_tally_28 (by decide) ?_
  refine G_iret dX9_tally_32 rfl rfl (Nat.le_of_ble_eq_true rfl) (Nat.le_of_ble_eq_true rfl) ?_
  exact h M1 _ hG1 hF hT (fun _ => rfl)
theorem m_pupil {x y : Int32} (hG : MG M g) (hO : Okg g) (h : ∀ M' v, MG M' g → Fm M M' → M'.1 20 0 0 5 = nI (qPupil g x y).1 → ((qPupil g x y).1 = 0 → v = (qPupil g x y).2) → P (.inl (some (.int v))) M') : Sp E yX9_pupil cX9_pupil zX9_pupil [.ref (ad E 20 0 0), .int x, .int y] M P := by
  unfold qPupil at h
  refine Sp_of (own := RX9) (by decide) rfl rfl (Nat.le_of_ble_eq_true rfl) (fun C => ?_)
  refine G_aload_n dX9_pupil_0 rfl ?_
  refine G_iconst (v := 0) dX9_pupil_1 (by decide) ?_
  refine pf_X9_41 dX9_pupil_2  ?_
  have hG1 : MG (M.up 20 0 0 5 0) g := hG.thr
  have hT : (M.up 20 0 0 5 0).1 20 0 0 5 = 0 := up_at
  have hF : Fm M (M.up 20 0 0 5 0) := Fm.rfl.up ⟨by decide, by decide⟩
  generalize M.up 20 0 0 5 0 = M1 at hG1 hT hF ⊢
  have hR := hG1.1
  have hA := hG1.2.1
  have h12 := hA.n12
  refine G_aload_n dX9_pupil_5 rfl ?_
  refine G_aload_n dX9_pupil_6 rfl ?_
  refine G_iload_n dX9_pupil_7 rfl ?_
  refine cv_X9_297 (cs' := 0) (ss' := 0) dX9_pupil_8  (Nat.le_of_ble_eq_true rfl) (Nat.le_of_ble_eq_true rfl) (Nat.le_of_ble_eq_true rfl) rfl rfl (Nat.le_of_ble_eq_true rfl) (Nat.le_of_ble_eq_true rfl) rfl ?_
  refine s_X9_isPupil hR hA (hGo_i ?_)
  by_cases q00 : inP g.A x
  rotate_left
  · rw [if_neg q00]
    refine G_iconst (v := 1) dX9_pupil_11 (by decide) ?_
    refine cv_X9_158 (cs' := 0) (ss' := 0) dX9_pupil_12  (Nat.le_of_ble_eq_true rfl) (Nat.le_of_ble_eq_true rfl) (Nat.le_of_ble_eq_true rfl) rfl rfl (Nat.le_of_ble_eq_true rfl) (Nat.le_of_ble_eq_true rfl) rfl ?_
    refine s_X9_holds0 hT (by decide) (hGo_i ?_)
    refine G_if_eq (tgt := 33) dX9_pupil_15 (by decide) (fun c15 => ?_) (fun c15 => ?_)
    · refine G_iconst (v := 0) dX9_pupil_33 (by decide) ?_
      refine G_iret dX9_pupil_34 rfl rfl (Nat.le_of_ble_eq_true rfl) (Nat.le_of_ble_eq_true rfl) ?_
      rw [if_neg q00] at h
      exact h _ _ hG1.thr (hF.up ⟨by decide, by decide⟩) up_at (fun z => absurd z (by decide))
    · exact absurd rfl c15
  rw [if_pos q00]
  refine G_iconst (v := 1) dX9_pupil_11 (by decide) ?_
  refine cv_X9_158 (cs' := 0) (ss' := 0) dX9_pupil_12  (Nat.le_of_ble_eq_true rfl) (Nat.le_of_ble_eq_true rfl) (Nat.le_of_ble_eq_true rfl) rfl rfl (Nat.le_of_ble_eq_true rfl) (Nat.le_of_ble_eq_true rfl) rfl ?_
  rw [if_pos q00] at h
  refine s_X9_holds1 hT (hGo_i ?_)
  refine G_if_eq (tgt := 33) dX9_pupil_15 (by decide) (fun c15 => ?_) (fun c15 => ?_)
  · exact absurd c15 (by decide)
  refine G_aload_n dX9_pupil_18 rfl ?_
  refine G_iload_n dX9_pupil_19 rfl ?_
  refine G_iconst (v := 0) dX9_pupil_20 (by decide) ?_
  refine G_bipush (v := 13) dX9_pupil_21 (by decide) ?_
  refine cv_X9_162 (cs' := 0) (ss' := 0) dX9_pupil_23  (Nat.le_of_ble_eq_true rfl) (Nat.le_of_ble_eq_true rfl) (Nat.le_of_ble_eq_true rfl) rfl rfl (Nat.le_of_ble_eq_true rfl) (Nat.le_of_ble_eq_true rfl) rfl ?_
  refine s_X9_in (hGo_i ?_)
  by_cases q10 : inR y 0 13
  rotate_left
  · rw [if_neg q10]
    refine G_iconst (v := 2) dX9_pupil_26 (by decide) ?_
    refine cv_X9_158 (cs' := 0) (ss' := 0) dX9_pupil_27  (Nat.le_of_ble_eq_true rfl) (Nat.le_of_ble_eq_true rfl) (Nat.le_of_ble_eq_true rfl) rfl rfl (Nat.le_of_ble_eq_true rfl) (Nat.le_of_ble_eq_true rfl) rfl ?_
    refine s_X9_holds0 hT (by decide) (hGo_i ?_)
    refine G_if_ne (tgt := 35) dX9_pupil_30 (by decide) (fun c30 => ?_) (fun c30 => ?_)
    · exact absurd rfl c30
    · refine G_iconst (v := 0) dX9_pupil_33 (by decide) ?_
      refine G_iret dX9_pupil_34 rfl rfl (Nat.le_of_ble_eq_true rfl) (Nat.le_of_ble_eq_true rfl) ?_
      rw [if_neg q10] at h
      exact h _ _ hG1.thr (hF.up ⟨by decide, by decide⟩) up_at (fun z => absurd z (by decide))
  rw [if_pos q10]
  refine G_iconst (v := 2) dX9_pupil_26 (by decide) ?_
  refine cv_X9_158 (cs' := 0) (ss' := 0) dX9_pupil_27  (Nat.le_of_ble_eq_true rfl) (Nat.le_of_ble_eq_true rfl) (Nat.le_of_ble_eq_true rfl) rfl rfl (Nat.le_of_ble_eq_true rfl) (Nat.le_of_ble_eq_true rfl) rfl ?_
  rw [if_pos q10] at h
  refine s_X9_holds1 hT (hGo_i ?_)
  refine G_if_ne (tgt := 35) dX9_pupil_30 (by decide) (fun c30 => ?_) (fun c30 => ?_)
  rotate_left
  · exact absurd c30 (by decide)
  obtain ⟨p, hp, rfl, ep⟩ := in_ix q00 (by omega)
  rw [ep] at h
  obtain ⟨k, lk, hk, rfl, ek⟩ := inR_ix (i := 0) (k := 13) (by decide) (by decide) q10
  rw [ek] at h
  rcases (show k < 9 ∨ k = 9 ∨ k = 10 ∨ k = 11 ∨ k = 12 ∨ k = 13 by omega) with hk9 | rfl | rfl | rfl | rfl | rfl
  · have epv : pupV g.A p k = g.A.f p k := by
      rcases (show k = 0 ∨ k = 1 ∨ k = 2 ∨ k = 3 ∨ k = 4 ∨ k = 5 ∨ k = 6 ∨ k = 7 ∨ k = 8 by omega) with rfl | rfl | rfl | rfl | rfl | rfl | rfl | rfl | rfl <;> rfl
    rw [epv] at h
    refine G_iload_n dX9_pupil_35 rfl ?_
    refine G_tOut (tgt := 107) dX9_pupil_36 (Or.inl (by rw [nI_toInt (by omega)]; omega)) (by decide) ?_
    refine G_aload_n dX9_pupil_107 rfl ?_
    refine G_iload_n dX9_pupil_108 rfl ?_
    refine G_iload_n dX9_pupil_109 rfl ?_
    refine cv_X9_54 (cs' := 0) (ss' := 0) dX9_pupil_110  (Nat.le_of_ble_eq_true rfl) (Nat.le_of_ble_eq_true rfl) (Nat.le_of_ble_eq_true rfl) rfl rfl (Nat.le_of_ble_eq_true rfl) (Nat.le_of_ble_eq_true rfl) rfl ?_
    refine s_X9_pu hR (by omega) (by omega) (hA.f hp (by omega)) (hGo_i ?_)
    refine G_iret dX9_pupil_113 rfl rfl (Nat.le_of_ble_eq_true rfl) (Nat.le_of_ble_eq_true rfl) ?_
    exact h M1 _ hG1 hF hT (fun _ => rfl)
  · refine G_iload_n dX9_pupil_35 rfl ?_
    refine G_tIn (off := 36) (tgt := 72) dX9_pupil_36 (by decide) (by decide) rfl (by decide) ?_
    refine G_aload_n dX9_pupil_72 rfl ?_
    refine G_iload_n dX9_pupil_73 rfl ?_
    refine G_iload_n dX9_pupil_74 rfl ?_
    refine G_bipush (v := 9) dX9_pupil_75 (by decide) ?_
    refine G_isub dX9_pupil_77 ?_
    rw [show nI 9 - 9 = nI 0 from by decide]
    refine cv_X9_65 (cs' := 0) (ss' := 0) dX9_pupil_78  (Nat.le_of_ble_eq_true rfl) (Nat.le_of_ble_eq_true rfl) (Nat.le_of_ble_eq_true rfl) rfl rfl (Nat.le_of_ble_eq_true rfl) (Nat.le_of_ble_eq_true rfl) rfl ?_
    refine s_X9_many (s := 0) hR (by omega) (by decide) (hA.many hp (by decide)) (hGo_i ?_)
    refine G_iret dX9_pupil_81 rfl rfl (Nat.le_of_ble_eq_true rfl) (Nat.le_of_ble_eq_true rfl) ?_
    exact h M1 _ hG1 hF hT (fun _ => rfl)
  · refine G_iload_n dX9_pupil_35 rfl ?_
    refine G_tIn (off := 36) (tgt := 72) dX9_pupil_36 (by decide) (by decide) rfl (by decide) ?_
    refine G_aload_n dX9_pupil_72 rfl ?_
    refine G_iload_n dX9_pupil_73 rfl ?_
    refine G_iload_n dX9_pupil_74 rfl ?_
    refine G_bipush (v := 9) dX9_pupil_75 (by decide) ?_
    refine G_isub dX9_pupil_77 ?_
    rw [show nI 10 - 9 = nI 1 from by decide]
    refine cv_X9_65 (cs' := 0) (ss' := 0) dX9_pupil_78  (Nat.le_of_ble_eq_true rfl) (Nat.le_of_ble_eq_true rfl) (Nat.le_of_ble_eq_true rfl) rfl rfl (Nat.le_of_ble_eq_true rfl) (Nat.le_of_ble_eq_true rfl) rfl ?_
    refine s_X9_many (s := 1) hR (by omega) (by decide) (hA.many hp (by decide)) (hGo_i ?_)
    refine G_iret dX9_pupil_81 rfl rfl (Nat.le_of_ble_eq_true rfl) (Nat.le_of_ble_eq_true rfl) ?_
    exact h M1 _ hG1 hF hT (fun _ => rfl)
  · refine G_iload_n dX9_pupil_35 rfl ?_
    refine G_tIn (off := 46) (tgt := 82) dX9_pupil_36 (by decide) (by decide) rfl (by decide) ?_
    refine G_aload_n dX9_pupil_82 rfl ?_
    refine G_iload_n dX9_pupil_83 rfl ?_
    refine G_iconst (v := 0) dX9_pupil_84 (by decide) ?_
    refine cv_X9_300 (cs' := 0) (ss' := 0) dX9_pupil_85  (Nat.le_of_ble_eq_true rfl) (Nat.le_of_ble_eq_true rfl) (Nat.le_of_ble_eq_true rfl) rfl rfl (Nat.le_of_ble_eq_true rfl) (Nat.le_of_ble_eq_true rfl) rfl ?_
    refine s_X9_allOf (t := 0) hR hA (by decide) (hGo_i ?_)
    refine G_iret dX9_pupil_88 rfl rfl (Nat.le_of_ble_eq_true rfl) (Nat.le_of_ble_eq_true rfl) ?_
    exact h M1 _ hG1 hF hT (fun _ => rfl)
  · refine G_iload_n dX9_pupil_35 rfl ?_
    refine G_tIn (off := 53) (tgt := 89) dX9_pupil_36 (by decide) (by decide) rfl (by decide) ?_
    refine G_aload_n dX9_pupil_89 rfl ?_
    refine G_iload_n dX9_pupil_90 rfl ?_
    refine G_iconst (v := 1) dX9_pupil_91 (by decide) ?_
    refine cv_X9_300 (cs' := 0) (ss' := 0) dX9_pupil_92  (Nat.le_of_ble_eq_true rfl) (Nat.le_of_ble_eq_true rfl) (Nat.le_of_ble_eq_true rfl) rfl rfl (Nat.le_of_ble_eq_true rfl) (Nat.le_of_ble_eq_true rfl) rfl ?_
    refine s_X9_allOf (t := 1) hR hA (by decide) (hGo_i ?_)
    refine G_iret dX9_pupil_95 rfl rfl (Nat.le_of_ble_eq_true rfl) (Nat.le_of_ble_eq_true rfl) ?_
    exact h M1 _ hG1 hF hT (fun _ => rfl)
  · obtain ⟨W, eW⟩ := (hO.1.2.2.1 p hp).2.2.2.2
    have epv : pupV g.A p 13 = sm 12 (fun k => (g.A.f p 9 >>> (nI k &&& 31)) &&& 1) := by
      show bc (g.A.f p 9) = _
      rw [eW, bits_bs W h12]
    rw [epv] at h
    refine G_iload_n dX9_pupil_35 rfl ?_
    refine G_tIn (off := 60) (tgt := 96) dX9_pupil_36 (by decide) (by decide) rfl (by decide) ?_
    refine G_aload_n dX9_pupil_96 rfl ?_
    refine G_iload_n dX9_pupil_97 rfl ?_
    refine G_bipush (v := 9) dX9_pupil_98 (by decide) ?_
    refine cv_X9_54 (cs' := 0) (ss' := 0) dX9_pupil_100  (Nat.le_of_ble_eq_true rfl) (Nat.le_of_ble_eq_true rfl) (Nat.le_of_ble_eq_true rfl) rfl rfl (Nat.le_of_ble_eq_true rfl) (Nat.le_of_ble_eq_true rfl) rfl ?_
    refine s_X9_pu (t := 9) hR (by omega) (by decide) (hA.f hp (by decide)) (hGo_i ?_)
    refine cv_X9_303 (cs' := 0) (ss' := 0) dX9_pupil_103  (Nat.le_of_ble_eq_true rfl) (Nat.le_of_ble_eq_true rfl) (Nat.le_of_ble_eq_true rfl) rfl rfl (Nat.le_of_ble_eq_true rfl) (Nat.le_of_ble_eq_true rfl) rfl ?_
    refine s_X9_bits (hGo_i ?_)
    refine G_iret dX9_pupil_106 rfl rfl (Nat.le_of_ble_eq_true rfl) (Nat.le_of_ble_eq_true rfl) ?_
    exact h M1 _ hG1 hF hT (fun _ => rfl)
theorem m_piece {x y z' : Int32} (hG : MG M g) (hO : Okg g) (h : ∀ M' v, MG M' g → Fm M M' → M'.1 20 0 0 5 = nI (qPiece g x y z').1 → ((qPiece g x y z').1 = 0 → v = (qPiece g x y z').2) → P (.inl (some (.int v))) M') : Sp E yX9_piece cX9_piece zX9_piece [.ref (ad E 20 0 0), .int x, .int y, .int z'] M P := by
  unfold qPiece at h
  refine Sp_of (own := RX9) (by decide) rfl rfl (Nat.le_of_ble_eq_true rfl) (fun C => ?_)
  refine G_aload_n dX9_piece_0 rfl ?_
  refine G_iconst (v := 0) dX9_piece_1 (by decide) ?_
  refine pf_X9_41 dX9_piece_2  ?_
  have hG1 : MG (M.up 20 0 0 5 0) g := hG.thr
  have hT : (M.up 20 0 0 5 0).1 20 0 0 5 = 0 := up_at
  have hF : Fm M (M.up 20 0 0 5 0) := Fm.rfl.up ⟨by decide, by decide⟩
  generalize M.up 20 0 0 5 0 = M1 at hG1 hT hF ⊢
  have hR := hG1.1
  have hA := hG1.2.1
  have h12 := hA.n12
  refine G_aload_n dX9_piece_5 rfl ?_
  refine G_aload_n dX9_piece_6 rfl ?_
  refine G_iload_n dX9_piece_7 rfl ?_
  refine cv_X9_297 (cs' := 0) (ss' := 0) dX9_piece_8  (Nat.le_of_ble_eq_true rfl) (Nat.le_of_ble_eq_true rfl) (Nat.le_of_ble_eq_true rfl) rfl rfl (Nat.le_of_ble_eq_true rfl) (Nat.le_of_ble_eq_true rfl) rfl ?_
  refine s_X9_isPupil hR hA (hGo_i ?_)
  by_cases q00 : inP g.A x
  rotate_left
  · rw [if_neg q00]
    refine G_iconst (v := 1) dX9_piece_11 (by decide) ?_
    refine cv_X9_158 (cs' := 0) (ss' := 0) dX9_piece_12  (Nat.le_of_ble_eq_true rfl) (Nat.le_of_ble_eq_true rfl) (Nat.le_of_ble_eq_true rfl) rfl rfl (Nat.le_of_ble_eq_true rfl) (Nat.le_of_ble_eq_true rfl) rfl ?_
    refine s_X9_holds0 hT (by decide) (hGo_i ?_)
    refine G_if_eq (tgt := 32) dX9_piece_15 (by decide) (fun c15 => ?_) (fun c15 => ?_)
    · refine G_iconst (v := 0) dX9_piece_32 (by decide) ?_
      refine G_iret dX9_piece_33 rfl rfl (Nat.le_of_ble_eq_true rfl) (Nat.le_of_ble_eq_true rfl) ?_
      rw [if_neg q00] at h
      exact h _ _ hG1.thr (hF.up ⟨by decide, by decide⟩) up_at (fun z => absurd z (by decide))
    · exact absurd rfl c15
  rw [if_pos q00]
  refine G_iconst (v := 1) dX9_piece_11 (by decide) ?_
  refine cv_X9_158 (cs' := 0) (ss' := 0) dX9_piece_12  (Nat.le_of_ble_eq_true rfl) (Nat.le_of_ble_eq_true rfl) (Nat.le_of_ble_eq_true rfl) rfl rfl (Nat.le_of_ble_eq_true rfl) (Nat.le_of_ble_eq_true rfl) rfl ?_
  rw [if_pos q00] at h
  refine s_X9_holds1 hT (hGo_i ?_)
  refine G_if_eq (tgt := 32) dX9_piece_15 (by decide) (fun c15 => ?_) (fun c15 => ?_)
  · exact absurd c15 (by decide)
  refine G_aload_n dX9_piece_18 rfl ?_
  refine G_iload_n dX9_piece_19 rfl ?_
  refine G_iconst (v := 0) dX9_piece_20 (by decide) ?_
  refine G_iconst (v := 1) dX9_piece_21 (by decide) ?_
  refine cv_X9_162 (cs' := 0) (ss' := 0) dX9_piece_22  (Nat.le_of_ble_eq_true rfl) (Nat.le_of_ble_eq_true rfl) (Nat.le_of_ble_eq_true rfl) rfl rfl (Nat.le_of_ble_eq_true rfl) (Nat.le_of_ble_eq_true rfl) rfl ?_
  refine s_X9_in (hGo_i ?_)
  by_cases q10 : inR y 0 1
  rotate_left
  · rw [if_neg q10]
    refine G_iconst (v := 2) dX9_piece_25 (by decide) ?_
    refine cv_X9_158 (cs' := 0) (ss' := 0) dX9_piece_26  (Nat.le_of_ble_eq_true rfl) (Nat.le_of_ble_eq_true rfl) (Nat.le_of_ble_eq_true rfl) rfl rfl (Nat.le_of_ble_eq_true rfl) (Nat.le_of_ble_eq_true rfl) rfl ?_
    refine s_X9_holds0 hT (by decide) (hGo_i ?_)
    refine G_if_ne (tgt := 34) dX9_piece_29 (by decide) (fun c29 => ?_) (fun c29 => ?_)
    · exact absurd rfl c29
    · refine G_iconst (v := 0) dX9_piece_32 (by decide) ?_
      refine G_iret dX9_piece_33 rfl rfl (Nat.le_of_ble_eq_true rfl) (Nat.le_of_ble_eq_true rfl) ?_
      rw [if_neg q10] at h
      exact h _ _ hG1.thr (hF.up ⟨by decide, by decide⟩) up_at (fun z => absurd z (by decide))
  rw [if_pos q10]
  refine G_iconst (v := 2) dX9_piece_25 (by decide) ?_
  refine cv_X9_158 (cs' := 0) (ss' := 0) dX9_piece_26  (Nat.le_of_ble_eq_true rfl) (Nat.le_of_ble_eq_true rfl) (Nat.le_of_ble_eq_true rfl) rfl rfl (Nat.le_of_ble_eq_true rfl) (Nat.le_of_ble_eq_true rfl) rfl ?_
  rw [if_pos q10] at h
  refine s_X9_holds1 hT (hGo_i ?_)
  refine G_if_ne (tgt := 34) dX9_piece_29 (by decide) (fun c29 => ?_) (fun c29 => ?_)
  rotate_left
  · exact absurd c29 (by decide)
  obtain ⟨p, hp, rfl, ep⟩ := in_ix q00 (by omega)
  rw [ep] at h
  obtain ⟨s, ls, hs, rfl, es⟩ := inR_ix (i := 0) (k := 1) (by decide) (by decide) q10
  rw [es] at h
  have l20 := hA.l20 hp (s := s) (by omega)
  unfold atL at h
  refine G_iload_n dX9_piece_34 rfl ?_
  refine G_iconst (v := 0) dX9_piece_35 (by decide) ?_
  refine G_aload_n dX9_piece_36 rfl ?_
  refine G_iload_n dX9_piece_37 rfl ?_
  refine G_iload_n dX9_piece_38 rfl ?_
  refine cv_X9_65 (cs' := 0) (ss' := 0) dX9_piece_39  (Nat.le_of_ble_eq_true rfl) (Nat.le_of_ble_eq_true rfl) (Nat.le_of_ble_eq_true rfl) rfl rfl (Nat.le_of_ble_eq_true rfl) (Nat.le_of_ble_eq_true rfl) rfl ?_
  refine s_X9_many hR (by omega) (by omega) (hA.many hp (by omega)) (hGo_i ?_)
  refine G_iconst (v := 1) dX9_piece_42 (by decide) ?_
  refine G_isub dX9_piece_43 ?_
  refine cv_X9_162 (cs' := 0) (ss' := 0) dX9_piece_44  (Nat.le_of_ble_eq_true rfl) (Nat.le_of_ble_eq_true rfl) (Nat.le_of_ble_eq_true rfl) rfl rfl (Nat.le_of_ble_eq_true rfl) (Nat.le_of_ble_eq_true rfl) rfl ?_
  refine s_X9_in (hGo_i ?_)
  by_cases c : 0 ≤ z' ∧ z' < nI (g.A.s (2 * p + s)).length
  · rw [if_pos ((inDm (by omega)).mpr c)]
    rw [if_neg (fun q => q.elim (Int32.not_lt.mpr c.1) (Int32.not_le.mpr c.2))] at h
    obtain ⟨k, hk, rfl, ek⟩ := in_ix c (by omega)
    rw [show (nI k).toNatClampNeg = k from nI_clamp (by omega)] at h
    refine G_if_eq (tgt := 60) dX9_piece_47 (by decide) (fun c47 => ?_) (fun c47 => ?_)
    · exact absurd c47 (by decide)
    · refine G_aload_n dX9_piece_50 rfl ?_
      refine G_iload_n dX9_piece_51 rfl ?_
      refine G_iload_n dX9_piece_52 rfl ?_
      refine G_iload_n dX9_piece_53 rfl ?_
      refine cv_X9_71 (cs' := 0) (ss' := 0) dX9_piece_54  (Nat.le_of_ble_eq_true rfl) (Nat.le_of_ble_eq_true rfl) (Nat.le_of_ble_eq_true rfl) rfl rfl (Nat.le_of_ble_eq_true rfl) (Nat.le_of_ble_eq_true rfl) rfl ?_
      refine s_X9_makerAt hR (by omega) (by omega) (by omega) (hA.mk hp (by omega) hk) (hGo_i ?_)
      refine G_goto (tgt := 61) dX9_piece_57 (by decide) ?_
      refine G_iret dX9_piece_61 rfl rfl (Nat.le_of_ble_eq_true rfl) (Nat.le_of_ble_eq_true rfl) ?_
      exact h M1 _ hG1 hF hT (fun _ => rfl)
  · rw [if_neg (fun q => c ((inDm (by omega)).mp q))]
    rw [if_pos (by
      rcases Int32.lt_or_le z' 0 with q | q
      · exact Or.inl q
      · exact Or.inr (Int32.not_lt.mp (fun z => c ⟨q, z⟩)))] at h
    refine G_if_eq (tgt := 60) dX9_piece_47 (by decide) (fun c47 => ?_) (fun c47 => ?_)
    · refine G_iconst (v := (-1)) dX9_piece_60 (by decide) ?_
      refine G_iret dX9_piece_61 rfl rfl (Nat.le_of_ble_eq_true rfl) (Nat.le_of_ble_eq_true rfl) ?_
      exact h M1 _ hG1 hF hT (fun _ => rfl)
    · exact absurd rfl c47
theorem m_madeBy {x y z' : Int32} (hG : MG M g) (hO : Okg g) (h : ∀ M' v, MG M' g → Fm M M' → M'.1 20 0 0 5 = nI (qMadeBy g x y z').1 → ((qMadeBy g x y z').1 = 0 → v = (qMadeBy g x y z').2) → P (.inl (some (.int v))) M') : Sp E yX9_madeBy cX9_madeBy zX9_madeBy [.ref (ad E 20 0 0), .int x, .int y, .int z'] M P := by
  unfold qMadeBy at h
  refine Sp_of (own := RX9) (by decide) rfl rfl (Nat.le_of_ble_eq_true rfl) (fun C => ?_)
  refine G_aload_n dX9_madeBy_0 rfl ?_
  refine G_iconst (v := 0) dX9_madeBy_1 (by decide) ?_
  refine pf_X9_41 dX9_madeBy_2  ?_
  have hG1 : MG (M.up 20 0 0 5 0) g := hG.thr
  have hT : (M.up 20 0 0 5 0).1 20 0 0 5 = 0 := up_at
  have hF : Fm M (M.up 20 0 0 5 0) := Fm.rfl.up ⟨by decide, by decide⟩
  generalize M.up 20 0 0 5 0 = M1 at hG1 hT hF ⊢
  have hR := hG1.1
  have hA := hG1.2.1
  have h12 := hA.n12
  refine G_aload_n dX9_madeBy_5 rfl ?_
  refine G_aload_n dX9_madeBy_6 rfl ?_
  refine G_iload_n dX9_madeBy_7 rfl ?_
  refine cv_X9_297 (cs' := 0) (ss' := 0) dX9_madeBy_8  (Nat.le_of_ble_eq_true rfl) (Nat.le_of_ble_eq_true rfl) (Nat.le_of_ble_eq_true rfl) rfl rfl (Nat.le_of_ble_eq_true rfl) (Nat.le_of_ble_eq_true rfl) rfl ?_
  refine s_X9_isPupil hR hA (hGo_i ?_)
  by_cases q00 : inP g.A x
  rotate_left
  · rw [if_neg q00]
    refine G_if_eq (tgt := 26) dX9_madeBy_11 (by decide) (fun c11 => ?_) (fun c11 => ?_)
    rotate_left
    · exact absurd rfl c11
    refine G_iconst (v := 0) dX9_madeBy_26 (by decide) ?_
    refine G_iconst (v := 1) dX9_madeBy_27 (by decide) ?_
    refine cv_X9_158 (cs' := 0) (ss' := 0) dX9_madeBy_28  (Nat.le_of_ble_eq_true rfl) (Nat.le_of_ble_eq_true rfl) (Nat.le_of_ble_eq_true rfl) rfl rfl (Nat.le_of_ble_eq_true rfl) (Nat.le_of_ble_eq_true rfl) rfl ?_
    refine s_X9_holds0 hT (by decide) (hGo_i ?_)
    refine G_if_eq (tgt := 64) dX9_madeBy_31 (by decide) (fun c31 => ?_) (fun c31 => ?_)
    · refine G_iconst (v := 0) dX9_madeBy_64 (by decide) ?_
      refine G_iret dX9_madeBy_65 rfl rfl (Nat.le_of_ble_eq_true rfl) (Nat.le_of_ble_eq_true rfl) ?_
      rw [if_neg (fun z => q00 z.1)] at h
      exact h _ _ hG1.thr (hF.up ⟨by decide, by decide⟩) up_at (fun z => absurd z (by decide))
    · exact absurd rfl c31
  rw [if_pos q00]
  refine G_if_eq (tgt := 26) dX9_madeBy_11 (by decide) (fun c11 => ?_) (fun c11 => ?_)
  · exact absurd c11 (by decide)
  refine G_aload_n dX9_madeBy_14 rfl ?_
  refine G_iload_n dX9_madeBy_15 rfl ?_
  refine cv_X9_297 (cs' := 0) (ss' := 0) dX9_madeBy_16  (Nat.le_of_ble_eq_true rfl) (Nat.le_of_ble_eq_true rfl) (Nat.le_of_ble_eq_true rfl) rfl rfl (Nat.le_of_ble_eq_true rfl) (Nat.le_of_ble_eq_true rfl) rfl ?_
  refine s_X9_isPupil hR hA (hGo_i ?_)
  by_cases q01 : inP g.A z'
  rotate_left
  · rw [if_neg q01]
    refine G_if_eq (tgt := 26) dX9_madeBy_19 (by decide) (fun c19 => ?_) (fun c19 => ?_)
    rotate_left
    · exact absurd rfl c19
    refine G_iconst (v := 0) dX9_madeBy_26 (by decide) ?_
    refine G_iconst (v := 1) dX9_madeBy_27 (by decide) ?_
    refine cv_X9_158 (cs' := 0) (ss' := 0) dX9_madeBy_28  (Nat.le_of_ble_eq_true rfl) (Nat.le_of_ble_eq_true rfl) (Nat.le_of_ble_eq_true rfl) rfl rfl (Nat.le_of_ble_eq_true rfl) (Nat.le_of_ble_eq_true rfl) rfl ?_
    refine s_X9_holds0 hT (by decide) (hGo_i ?_)
    refine G_if_eq (tgt := 64) dX9_madeBy_31 (by decide) (fun c31 => ?_) (fun c31 => ?_)
    · refine G_iconst (v := 0) dX9_madeBy_64 (by decide) ?_
      refine G_iret dX9_madeBy_65 rfl rfl (Nat.le_of_ble_eq_true rfl) (Nat.le_of_ble_eq_true rfl) ?_
      rw [if_neg (fun z => q01 z.2)] at h
      exact h _ _ hG1.thr (hF.up ⟨by decide, by decide⟩) up_at (fun z => absurd z (by decide))
    · exact absurd rfl c31
  rw [if_pos q01]
  refine G_if_eq (tgt := 26) dX9_madeBy_19 (by decide) (fun c19 => ?_) (fun c19 => ?_)
  · exact absurd c19 (by decide)
  refine G_iconst (v := 1) dX9_madeBy_22 (by decide) ?_
  refine G_goto (tgt := 27) dX9_madeBy_23 (by decide) ?_
  refine G_iconst (v := 1) dX9_madeBy_27 (by decide) ?_
  refine cv_X9_158 (cs' := 0) (ss' := 0) dX9_madeBy_28  (Nat.le_of_ble_eq_true rfl) (Nat.le_of_ble_eq_true rfl) (Nat.le_of_ble_eq_true rfl) rfl rfl (Nat.le_of_ble_eq_true rfl) (Nat.le_of_ble_eq_true rfl) rfl ?_
  rw [if_pos ⟨q00, q01⟩] at h
  refine s_X9_holds1 hT (hGo_i ?_)
  refine G_if_eq (tgt := 64) dX9_madeBy_31 (by decide) (fun c31 => ?_) (fun c31 => ?_)
  · exact absurd c31 (by decide)
  refine G_aload_n dX9_madeBy_34 rfl ?_
  refine G_iload_n dX9_madeBy_35 rfl ?_
  refine G_iconst (v := 0) dX9_madeBy_36 (by decide) ?_
  refine G_iconst (v := 1) dX9_madeBy_37 (by decide) ?_
  refine cv_X9_162 (cs' := 0) (ss' := 0) dX9_madeBy_38  (Nat.le_of_ble_eq_true rfl) (Nat.le_of_ble_eq_true rfl) (Nat.le_of_ble_eq_true rfl) rfl rfl (Nat.le_of_ble_eq_true rfl) (Nat.le_of_ble_eq_true rfl) rfl ?_
  refine s_X9_in (hGo_i ?_)
  by_cases q10 : inR y 0 1
  rotate_left
  · rw [if_neg q10]
    refine G_iconst (v := 2) dX9_madeBy_41 (by decide) ?_
    refine cv_X9_158 (cs' := 0) (ss' := 0) dX9_madeBy_42  (Nat.le_of_ble_eq_true rfl) (Nat.le_of_ble_eq_true rfl) (Nat.le_of_ble_eq_true rfl) rfl rfl (Nat.le_of_ble_eq_true rfl) (Nat.le_of_ble_eq_true rfl) rfl ?_
    refine s_X9_holds0 hT (by decide) (hGo_i ?_)
    refine G_if_eq (tgt := 64) dX9_madeBy_45 (by decide) (fun c45 => ?_) (fun c45 => ?_)
    · refine G_iconst (v := 0) dX9_madeBy_64 (by decide) ?_
      refine G_iret dX9_madeBy_65 rfl rfl (Nat.le_of_ble_eq_true rfl) (Nat.le_of_ble_eq_true rfl) ?_
      rw [if_neg q10] at h
      exact h _ _ hG1.thr (hF.up ⟨by decide, by decide⟩) up_at (fun z => absurd z (by decide))
    · exact absurd rfl c45
  rw [if_pos q10]
  refine G_iconst (v := 2) dX9_madeBy_41 (by decide) ?_
  refine cv_X9_158 (cs' := 0) (ss' := 0) dX9_madeBy_42  (Nat.le_of_ble_eq_true rfl) (Nat.le_of_ble_eq_true rfl) (Nat.le_of_ble_eq_true rfl) rfl rfl (Nat.le_of_ble_eq_true rfl) (Nat.le_of_ble_eq_true rfl) rfl ?_
  rw [if_pos q10] at h
  refine s_X9_holds1 hT (hGo_i ?_)
  refine G_if_eq (tgt := 64) dX9_madeBy_45 (by decide) (fun c45 => ?_) (fun c45 => ?_)
  · exact absurd c45 (by decide)
  obtain ⟨p, hp, rfl, ep⟩ := in_ix q00 (by omega)
  rw [ep] at h
  obtain ⟨s, ls, hs, rfl, es⟩ := inR_ix (i := 0) (k := 1) (by decide) (by decide) q10
  rw [es] at h
  refine G_aload_n dX9_madeBy_48 rfl ?_
  refine G_iload_n dX9_madeBy_49 rfl ?_
  refine G_iload_n dX9_madeBy_50 rfl ?_
  refine G_iload_n dX9_madeBy_51 rfl ?_
  refine G_aload_n dX9_madeBy_52 rfl ?_
  refine G_iload_n dX9_madeBy_53 rfl ?_
  refine G_iload_n dX9_madeBy_54 rfl ?_
  refine cv_X9_65 (cs' := 0) (ss' := 0) dX9_madeBy_55  (Nat.le_of_ble_eq_true rfl) (Nat.le_of_ble_eq_true rfl) (Nat.le_of_ble_eq_true rfl) rfl rfl (Nat.le_of_ble_eq_true rfl) (Nat.le_of_ble_eq_true rfl) rfl ?_
  refine s_X9_many hR (by omega) (by omega) (hA.many hp (by omega)) (hGo_i ?_)
  refine cv_X9_126 (cs' := 0) (ss' := 0) dX9_madeBy_58  (Nat.le_of_ble_eq_true rfl) (Nat.le_of_ble_eq_true rfl) (Nat.le_of_ble_eq_true rfl) rfl rfl (Nat.le_of_ble_eq_true rfl) (Nat.le_of_ble_eq_true rfl) rfl ?_
  refine s_X9_ofMaker hR hA hp (by omega) (Nat.le_refl _) (hGo_i ?_)
  refine G_goto (tgt := 65) dX9_madeBy_61 (by decide) ?_
  refine G_iret dX9_madeBy_65 rfl rfl (Nat.le_of_ble_eq_true rfl) (Nat.le_of_ble_eq_true rfl) ?_
  exact h M1 _ hG1 hF hT (fun _ => rfl)
theorem m_debt {x y : Int32} (hG : MG M g) (hO : Okg g) (h : ∀ M' v, MG M' g → Fm M M' → M'.1 20 0 0 5 = nI (qDebt g x y).1 → ((qDebt g x y).1 = 0 → v = (qDebt g x y).2) → P (.inl (some (.int v))) M') : Sp E yX9_debt cX9_debt zX9_debt [.ref (ad E 20 0 0), .int x, .int y] M P := by
  unfold qDebt at h
  refine Sp_of (own := RX9) (by decide) rfl rfl (Nat.le_of_ble_eq_true rfl) (fun C => ?_)
  refine G_aload_n dX9_debt_0 rfl ?_
  refine G_iconst (v := 0) dX9_debt_1 (by decide) ?_
  refine pf_X9_41 dX9_debt_2  ?_
  have hG1 : MG (M.up 20 0 0 5 0) g := hG.thr
  have hT : (M.up 20 0 0 5 0).1 20 0 0 5 = 0 := up_at
  have hF : Fm M (M.up 20 0 0 5 0) := Fm.rfl.up ⟨by decide, by decide⟩
  generalize M.up 20 0 0 5 0 = M1 at hG1 hT hF ⊢
  have hR := hG1.1
  have hA := hG1.2.1
  have h12 := hA.n12
  have h30 := hA.d30
  refine G_aload_n dX9_debt_5 rfl ?_
  refine G_iload_n dX9_debt_6 rfl ?_
  refine G_iconst (v := 0) dX9_debt_7 (by decide) ?_
  refine G_aload_n dX9_debt_8 rfl ?_
  refine G_bipush (v := 6) dX9_debt_9 (by decide) ?_
  refine cv_X9_50 (cs' := 0) (ss' := 0) dX9_debt_11  (Nat.le_of_ble_eq_true rfl) (Nat.le_of_ble_eq_true rfl) (Nat.le_of_ble_eq_true rfl) rfl rfl (Nat.le_of_ble_eq_true rfl) (Nat.le_of_ble_eq_true rfl) rfl ?_
  refine s_X9_get (w := 6) hR (by decide) hA.dn (hGo_i ?_)
  refine G_iconst (v := 1) dX9_debt_14 (by decide) ?_
  refine G_isub dX9_debt_15 ?_
  refine cv_X9_162 (cs' := 0) (ss' := 0) dX9_debt_16  (Nat.le_of_ble_eq_true rfl) (Nat.le_of_ble_eq_true rfl) (Nat.le_of_ble_eq_true rfl) rfl rfl (Nat.le_of_ble_eq_true rfl) (Nat.le_of_ble_eq_true rfl) rfl ?_
  refine s_X9_in (hGo_i ?_)
  by_cases q00 : inD g.A x
  rotate_left
  · rw [if_neg (fun z => q00 ((inDm (by omega)).mp z))]
    rw [if_neg q00] at h
    refine G_iconst (v := 1) dX9_debt_19 (by decide) ?_
    refine cv_X9_158 (cs' := 0) (ss' := 0) dX9_debt_20  (Nat.le_of_ble_eq_true rfl) (Nat.le_of_ble_eq_true rfl) (Nat.le_of_ble_eq_true rfl) rfl rfl (Nat.le_of_ble_eq_true rfl) (Nat.le_of_ble_eq_true rfl) rfl ?_
    refine s_X9_holds0 hT (by decide) (hGo_i ?_)
    refine G_if_eq (tgt := 49) dX9_debt_23 (by decide) (fun c23 => ?_) (fun c23 => ?_)
    · refine G_iconst (v := 0) dX9_debt_49 (by decide) ?_
      refine G_iret dX9_debt_50 rfl rfl (Nat.le_of_ble_eq_true rfl) (Nat.le_of_ble_eq_true rfl) ?_
      exact h _ _ hG1.thr (hF.up ⟨by decide, by decide⟩) up_at (fun z => absurd z (by decide))
    · exact absurd rfl c23
  rw [if_pos ((inDm (by omega)).mpr q00)]
  rw [if_pos q00] at h
  refine G_iconst (v := 1) dX9_debt_19 (by decide) ?_
  refine cv_X9_158 (cs' := 0) (ss' := 0) dX9_debt_20  (Nat.le_of_ble_eq_true rfl) (Nat.le_of_ble_eq_true rfl) (Nat.le_of_ble_eq_true rfl) rfl rfl (Nat.le_of_ble_eq_true rfl) (Nat.le_of_ble_eq_true rfl) rfl ?_
  refine s_X9_holds1 hT (hGo_i ?_)
  refine G_if_eq (tgt := 49) dX9_debt_23 (by decide) (fun c23 => ?_) (fun c23 => ?_)
  · exact absurd c23 (by decide)
  refine G_aload_n dX9_debt_26 rfl ?_
  refine G_iload_n dX9_debt_27 rfl ?_
  refine G_iconst (v := 0) dX9_debt_28 (by decide) ?_
  refine G_iconst (v := 3) dX9_debt_29 (by decide) ?_
  refine cv_X9_162 (cs' := 0) (ss' := 0) dX9_debt_30  (Nat.le_of_ble_eq_true rfl) (Nat.le_of_ble_eq_true rfl) (Nat.le_of_ble_eq_true rfl) rfl rfl (Nat.le_of_ble_eq_true rfl) (Nat.le_of_ble_eq_true rfl) rfl ?_
  refine s_X9_in (hGo_i ?_)
  by_cases q10 : inR y 0 3
  rotate_left
  · rw [if_neg q10]
    refine G_iconst (v := 2) dX9_debt_33 (by decide) ?_
    refine cv_X9_158 (cs' := 0) (ss' := 0) dX9_debt_34  (Nat.le_of_ble_eq_true rfl) (Nat.le_of_ble_eq_true rfl) (Nat.le_of_ble_eq_true rfl) rfl rfl (Nat.le_of_ble_eq_true rfl) (Nat.le_of_ble_eq_true rfl) rfl ?_
    refine s_X9_holds0 hT (by decide) (hGo_i ?_)
    refine G_if_eq (tgt := 49) dX9_debt_37 (by decide) (fun c37 => ?_) (fun c37 => ?_)
    · refine G_iconst (v := 0) dX9_debt_49 (by decide) ?_
      refine G_iret dX9_debt_50 rfl rfl (Nat.le_of_ble_eq_true rfl) (Nat.le_of_ble_eq_true rfl) ?_
      rw [if_neg q10] at h
      exact h _ _ hG1.thr (hF.up ⟨by decide, by decide⟩) up_at (fun z => absurd z (by decide))
    · exact absurd rfl c37
  rw [if_pos q10]
  refine G_iconst (v := 2) dX9_debt_33 (by decide) ?_
  refine cv_X9_158 (cs' := 0) (ss' := 0) dX9_debt_34  (Nat.le_of_ble_eq_true rfl) (Nat.le_of_ble_eq_true rfl) (Nat.le_of_ble_eq_true rfl) rfl rfl (Nat.le_of_ble_eq_true rfl) (Nat.le_of_ble_eq_true rfl) rfl ?_
  rw [if_pos q10] at h
  refine s_X9_holds1 hT (hGo_i ?_)
  refine G_if_eq (tgt := 49) dX9_debt_37 (by decide) (fun c37 => ?_) (fun c37 => ?_)
  · exact absurd c37 (by decide)
  obtain ⟨p, hp, rfl, ep⟩ := in_ix q00 (by omega)
  rw [ep] at h
  obtain ⟨s, ls, hs, rfl, es⟩ := inR_ix (i := 0) (k := 3) (by decide) (by decide) q10
  rw [es] at h
  refine G_aload_n dX9_debt_40 rfl ?_
  refine G_iload_n dX9_debt_41 rfl ?_
  refine G_iload_n dX9_debt_42 rfl ?_
  refine cv_X9_84 (cs' := 0) (ss' := 0) dX9_debt_43  (Nat.le_of_ble_eq_true rfl) (Nat.le_of_ble_eq_true rfl) (Nat.le_of_ble_eq_true rfl) rfl rfl (Nat.le_of_ble_eq_true rfl) (Nat.le_of_ble_eq_true rfl) rfl ?_
  refine s_X9_db hR (by omega) (by omega) (hA.d hp (by omega)) (hGo_i ?_)
  refine G_goto (tgt := 50) dX9_debt_46 (by decide) ?_
  refine G_iret dX9_debt_50 rfl rfl (Nat.le_of_ble_eq_true rfl) (Nat.le_of_ble_eq_true rfl) ?_
  exact h M1 _ hG1 hF hT (fun _ => rfl)
theorem m_owes {x y z' : Int32} (hG : MG M g) (hO : Okg g) (h : ∀ M' v, MG M' g → Fm M M' → M'.1 20 0 0 5 = nI (qOwes g x y z').1 → ((qOwes g x y z').1 = 0 → v = (qOwes g x y z').2) → P (.inl (some (.int v))) M') : Sp E yX9_owes cX9_owes zX9_owes [.ref (ad E 20 0 0), .int x, .int y, .int z'] M P := by
  unfold qOwes at h
  refine Sp_of (own := RX9) (by decide) rfl rfl (Nat.le_of_ble_eq_true rfl) (fun C => ?_)
  refine G_aload_n dX9_owes_0 rfl ?_
  refine G_iconst (v := 0) dX9_owes_1 (by decide) ?_
  refine pf_X9_41 dX9_owes_2  ?_
  have hG1 : MG (M.up 20 0 0 5 0) g := hG.thr
  have hT : (M.up 20 0 0 5 0).1 20 0 0 5 = 0 := up_at
  have hF : Fm M (M.up 20 0 0 5 0) := Fm.rfl.up ⟨by decide, by decide⟩
  generalize M.up 20 0 0 5 0 = M1 at hG1 hT hF ⊢
  have hR := hG1.1
  have hA := hG1.2.1
  have h12 := hA.n12
  refine G_aload_n dX9_owes_5 rfl ?_
  refine G_aload_n dX9_owes_6 rfl ?_
  refine G_iload_n dX9_owes_7 rfl ?_
  refine cv_X9_297 (cs' := 0) (ss' := 0) dX9_owes_8  (Nat.le_of_ble_eq_true rfl) (Nat.le_of_ble_eq_true rfl) (Nat.le_of_ble_eq_true rfl) rfl rfl (Nat.le_of_ble_eq_true rfl) (Nat.le_of_ble_eq_true rfl) rfl ?_
  refine s_X9_isPupil hR hA (hGo_i ?_)
  by_cases q00 : inP g.A x
  rotate_left
  · rw [if_neg q00]
    refine G_if_eq (tgt := 26) dX9_owes_11 (by decide) (fun c11 => ?_) (fun c11 => ?_)
    rotate_left
    · exact absurd rfl c11
    refine G_iconst (v := 0) dX9_owes_26 (by decide) ?_
    refine G_iconst (v := 1) dX9_owes_27 (by decide) ?_
    refine cv_X9_158 (cs' := 0) (ss' := 0) dX9_owes_28  (Nat.le_of_ble_eq_true rfl) (Nat.le_of_ble_eq_true rfl) (Nat.le_of_ble_eq_true rfl) rfl rfl (Nat.le_of_ble_eq_true rfl) (Nat.le_of_ble_eq_true rfl) rfl ?_
    refine s_X9_holds0 hT (by decide) (hGo_i ?_)
    refine G_if_eq (tgt := 58) dX9_owes_31 (by decide) (fun c31 => ?_) (fun c31 => ?_)
    · refine G_iconst (v := 0) dX9_owes_58 (by decide) ?_
      refine G_iret dX9_owes_59 rfl rfl (Nat.le_of_ble_eq_true rfl) (Nat.le_of_ble_eq_true rfl) ?_
      rw [if_neg (fun z => q00 z.1)] at h
      exact h _ _ hG1.thr (hF.up ⟨by decide, by decide⟩) up_at (fun z => absurd z (by decide))
    · exact absurd rfl c31
  rw [if_pos q00]
  refine G_if_eq (tgt := 26) dX9_owes_11 (by decide) (fun c11 => ?_) (fun c11 => ?_)
  · exact absurd c11 (by decide)
  refine G_aload_n dX9_owes_14 rfl ?_
  refine G_iload_n dX9_owes_15 rfl ?_
  refine cv_X9_297 (cs' := 0) (ss' := 0) dX9_owes_16  (Nat.le_of_ble_eq_true rfl) (Nat.le_of_ble_eq_true rfl) (Nat.le_of_ble_eq_true rfl) rfl rfl (Nat.le_of_ble_eq_true rfl) (Nat.le_of_ble_eq_true rfl) rfl ?_
  refine s_X9_isPupil hR hA (hGo_i ?_)
  by_cases q01 : inP g.A y
  rotate_left
  · rw [if_neg q01]
    refine G_if_eq (tgt := 26) dX9_owes_19 (by decide) (fun c19 => ?_) (fun c19 => ?_)
    rotate_left
    · exact absurd rfl c19
    refine G_iconst (v := 0) dX9_owes_26 (by decide) ?_
    refine G_iconst (v := 1) dX9_owes_27 (by decide) ?_
    refine cv_X9_158 (cs' := 0) (ss' := 0) dX9_owes_28  (Nat.le_of_ble_eq_true rfl) (Nat.le_of_ble_eq_true rfl) (Nat.le_of_ble_eq_true rfl) rfl rfl (Nat.le_of_ble_eq_true rfl) (Nat.le_of_ble_eq_true rfl) rfl ?_
    refine s_X9_holds0 hT (by decide) (hGo_i ?_)
    refine G_if_eq (tgt := 58) dX9_owes_31 (by decide) (fun c31 => ?_) (fun c31 => ?_)
    · refine G_iconst (v := 0) dX9_owes_58 (by decide) ?_
      refine G_iret dX9_owes_59 rfl rfl (Nat.le_of_ble_eq_true rfl) (Nat.le_of_ble_eq_true rfl) ?_
      rw [if_neg (fun z => q01 z.2)] at h
      exact h _ _ hG1.thr (hF.up ⟨by decide, by decide⟩) up_at (fun z => absurd z (by decide))
    · exact absurd rfl c31
  rw [if_pos q01]
  refine G_if_eq (tgt := 26) dX9_owes_19 (by decide) (fun c19 => ?_) (fun c19 => ?_)
  · exact absurd c19 (by decide)
  refine G_iconst (v := 1) dX9_owes_22 (by decide) ?_
  refine G_goto (tgt := 27) dX9_owes_23 (by decide) ?_
  refine G_iconst (v := 1) dX9_owes_27 (by decide) ?_
  refine cv_X9_158 (cs' := 0) (ss' := 0) dX9_owes_28  (Nat.le_of_ble_eq_true rfl) (Nat.le_of_ble_eq_true rfl) (Nat.le_of_ble_eq_true rfl) rfl rfl (Nat.le_of_ble_eq_true rfl) (Nat.le_of_ble_eq_true rfl) rfl ?_
  rw [if_pos ⟨q00, q01⟩] at h
  refine s_X9_holds1 hT (hGo_i ?_)
  refine G_if_eq (tgt := 58) dX9_owes_31 (by decide) (fun c31 => ?_) (fun c31 => ?_)
  · exact absurd c31 (by decide)
  refine G_aload_n dX9_owes_34 rfl ?_
  refine G_iload_n dX9_owes_35 rfl ?_
  refine G_iconst (v := 0) dX9_owes_36 (by decide) ?_
  refine G_iconst (v := 1) dX9_owes_37 (by decide) ?_
  refine cv_X9_162 (cs' := 0) (ss' := 0) dX9_owes_38  (Nat.le_of_ble_eq_true rfl) (Nat.le_of_ble_eq_true rfl) (Nat.le_of_ble_eq_true rfl) rfl rfl (Nat.le_of_ble_eq_true rfl) (Nat.le_of_ble_eq_true rfl) rfl ?_
  refine s_X9_in (hGo_i ?_)
  by_cases q10 : inR z' 0 1
  rotate_left
  · rw [if_neg q10]
    refine G_iconst (v := 2) dX9_owes_41 (by decide) ?_
    refine cv_X9_158 (cs' := 0) (ss' := 0) dX9_owes_42  (Nat.le_of_ble_eq_true rfl) (Nat.le_of_ble_eq_true rfl) (Nat.le_of_ble_eq_true rfl) rfl rfl (Nat.le_of_ble_eq_true rfl) (Nat.le_of_ble_eq_true rfl) rfl ?_
    refine s_X9_holds0 hT (by decide) (hGo_i ?_)
    refine G_if_eq (tgt := 58) dX9_owes_45 (by decide) (fun c45 => ?_) (fun c45 => ?_)
    · refine G_iconst (v := 0) dX9_owes_58 (by decide) ?_
      refine G_iret dX9_owes_59 rfl rfl (Nat.le_of_ble_eq_true rfl) (Nat.le_of_ble_eq_true rfl) ?_
      rw [if_neg q10] at h
      exact h _ _ hG1.thr (hF.up ⟨by decide, by decide⟩) up_at (fun z => absurd z (by decide))
    · exact absurd rfl c45
  rw [if_pos q10]
  refine G_iconst (v := 2) dX9_owes_41 (by decide) ?_
  refine cv_X9_158 (cs' := 0) (ss' := 0) dX9_owes_42  (Nat.le_of_ble_eq_true rfl) (Nat.le_of_ble_eq_true rfl) (Nat.le_of_ble_eq_true rfl) rfl rfl (Nat.le_of_ble_eq_true rfl) (Nat.le_of_ble_eq_true rfl) rfl ?_
  rw [if_pos q10] at h
  refine s_X9_holds1 hT (hGo_i ?_)
  refine G_if_eq (tgt := 58) dX9_owes_45 (by decide) (fun c45 => ?_) (fun c45 => ?_)
  · exact absurd c45 (by decide)
  refine G_aload_n dX9_owes_48 rfl ?_
  refine G_iload_n dX9_owes_49 rfl ?_
  refine G_iload_n dX9_owes_50 rfl ?_
  refine G_iload_n dX9_owes_51 rfl ?_
  refine cv_X9_306 (cs' := 0) (ss' := 0) dX9_owes_52  (Nat.le_of_ble_eq_true rfl) (Nat.le_of_ble_eq_true rfl) (Nat.le_of_ble_eq_true rfl) rfl rfl (Nat.le_of_ble_eq_true rfl) (Nat.le_of_ble_eq_true rfl) rfl ?_
  refine s_X9_owed hR hA (hGo_i ?_)
  refine G_goto (tgt := 59) dX9_owes_55 (by decide) ?_
  refine G_iret dX9_owes_59 rfl rfl (Nat.le_of_ble_eq_true rfl) (Nat.le_of_ble_eq_true rfl) ?_
  exact h M1 _ hG1 hF hT (fun _ => rfl)
theorem m_isNear {x y : Int32} (hG : MG M g) (hO : Okg g) (h : ∀ M' v, MG M' g → Fm M M' → M'.1 20 0 0 5 = nI (qNear g x y).1 → ((qNear g x y).1 = 0 → v = (qNear g x y).2) → P (.inl (some (.int v))) M') : Sp E yX9_isNear cX9_isNear zX9_isNear [.ref (ad E 20 0 0), .int x, .int y] M P := by
  unfold qNear at h
  refine Sp_of (own := RX9) (by decide) rfl rfl (Nat.le_of_ble_eq_true rfl) (fun C => ?_)
  refine G_aload_n dX9_isNear_0 rfl ?_
  refine G_iconst (v := 0) dX9_isNear_1 (by decide) ?_
  refine pf_X9_41 dX9_isNear_2  ?_
  have hG1 : MG (M.up 20 0 0 5 0) g := hG.thr
  have hT : (M.up 20 0 0 5 0).1 20 0 0 5 = 0 := up_at
  have hF : Fm M (M.up 20 0 0 5 0) := Fm.rfl.up ⟨by decide, by decide⟩
  generalize M.up 20 0 0 5 0 = M1 at hG1 hT hF ⊢
  have hR := hG1.1
  have hA := hG1.2.1
  have h12 := hA.n12
  refine G_aload_n dX9_isNear_5 rfl ?_
  refine G_aload_n dX9_isNear_6 rfl ?_
  refine G_iload_n dX9_isNear_7 rfl ?_
  refine cv_X9_297 (cs' := 0) (ss' := 0) dX9_isNear_8  (Nat.le_of_ble_eq_true rfl) (Nat.le_of_ble_eq_true rfl) (Nat.le_of_ble_eq_true rfl) rfl rfl (Nat.le_of_ble_eq_true rfl) (Nat.le_of_ble_eq_true rfl) rfl ?_
  refine s_X9_isPupil hR hA (hGo_i ?_)
  by_cases q00 : inP g.A x
  rotate_left
  · rw [if_neg q00]
    refine G_if_eq (tgt := 26) dX9_isNear_11 (by decide) (fun c11 => ?_) (fun c11 => ?_)
    rotate_left
    · exact absurd rfl c11
    refine G_iconst (v := 0) dX9_isNear_26 (by decide) ?_
    refine G_iconst (v := 1) dX9_isNear_27 (by decide) ?_
    refine cv_X9_158 (cs' := 0) (ss' := 0) dX9_isNear_28  (Nat.le_of_ble_eq_true rfl) (Nat.le_of_ble_eq_true rfl) (Nat.le_of_ble_eq_true rfl) rfl rfl (Nat.le_of_ble_eq_true rfl) (Nat.le_of_ble_eq_true rfl) rfl ?_
    refine s_X9_holds0 hT (by decide) (hGo_i ?_)
    refine G_if_eq (tgt := 47) dX9_isNear_31 (by decide) (fun c31 => ?_) (fun c31 => ?_)
    · refine G_iconst (v := 0) dX9_isNear_47 (by decide) ?_
      refine G_iret dX9_isNear_48 rfl rfl (Nat.le_of_ble_eq_true rfl) (Nat.le_of_ble_eq_true rfl) ?_
      rw [if_neg (fun z => q00 z.1)] at h
      exact h _ _ hG1.thr (hF.up ⟨by decide, by decide⟩) up_at (fun z => absurd z (by decide))
    · exact absurd rfl c31
  rw [if_pos q00]
  refine G_if_eq (tgt := 26) dX9_isNear_11 (by decide) (fun c11 => ?_) (fun c11 => ?_)
  · exact absurd c11 (by decide)
  refine G_aload_n dX9_isNear_14 rfl ?_
  refine G_iload_n dX9_isNear_15 rfl ?_
  refine cv_X9_297 (cs' := 0) (ss' := 0) dX9_isNear_16  (Nat.le_of_ble_eq_true rfl) (Nat.le_of_ble_eq_true rfl) (Nat.le_of_ble_eq_true rfl) rfl rfl (Nat.le_of_ble_eq_true rfl) (Nat.le_of_ble_eq_true rfl) rfl ?_
  refine s_X9_isPupil hR hA (hGo_i ?_)
  by_cases q01 : inP g.A y
  rotate_left
  · rw [if_neg q01]
    refine G_if_eq (tgt := 26) dX9_isNear_19 (by decide) (fun c19 => ?_) (fun c19 => ?_)
    rotate_left
    · exact absurd rfl c19
    refine G_iconst (v := 0) dX9_isNear_26 (by decide) ?_
    refine G_iconst (v := 1) dX9_isNear_27 (by decide) ?_
    refine cv_X9_158 (cs' := 0) (ss' := 0) dX9_isNear_28  (Nat.le_of_ble_eq_true rfl) (Nat.le_of_ble_eq_true rfl) (Nat.le_of_ble_eq_true rfl) rfl rfl (Nat.le_of_ble_eq_true rfl) (Nat.le_of_ble_eq_true rfl) rfl ?_
    refine s_X9_holds0 hT (by decide) (hGo_i ?_)
    refine G_if_eq (tgt := 47) dX9_isNear_31 (by decide) (fun c31 => ?_) (fun c31 => ?_)
    · refine G_iconst (v := 0) dX9_isNear_47 (by decide) ?_
      refine G_iret dX9_isNear_48 rfl rfl (Nat.le_of_ble_eq_true rfl) (Nat.le_of_ble_eq_true rfl) ?_
      rw [if_neg (fun z => q01 z.2)] at h
      exact h _ _ hG1.thr (hF.up ⟨by decide, by decide⟩) up_at (fun z => absurd z (by decide))
    · exact absurd rfl c31
  rw [if_pos q01]
  refine G_if_eq (tgt := 26) dX9_isNear_19 (by decide) (fun c19 => ?_) (fun c19 => ?_)
  · exact absurd c19 (by decide)
  refine G_iconst (v := 1) dX9_isNear_22 (by decide) ?_
  refine G_goto (tgt := 27) dX9_isNear_23 (by decide) ?_
  refine G_iconst (v := 1) dX9_isNear_27 (by decide) ?_
  refine cv_X9_158 (cs' := 0) (ss' := 0) dX9_isNear_28  (Nat.le_of_ble_eq_true rfl) (Nat.le_of_ble_eq_true rfl) (Nat.le_of_ble_eq_true rfl) rfl rfl (Nat.le_of_ble_eq_true rfl) (Nat.le_of_ble_eq_true rfl) rfl ?_
  rw [if_pos ⟨q00, q01⟩] at h
  refine s_X9_holds1 hT (hGo_i ?_)
  refine G_if_eq (tgt := 47) dX9_isNear_31 (by decide) (fun c31 => ?_) (fun c31 => ?_)
  · exact absurd c31 (by decide)
  obtain ⟨p, hp, rfl, ep⟩ := in_ix q00 (by omega)
  obtain ⟨o, ho, rfl, eo⟩ := in_ix q01 (by omega)
  rw [ep, eo] at h
  refine G_aload_n dX9_isNear_34 rfl ?_
  refine G_iload_n dX9_isNear_35 rfl ?_
  refine G_iload_n dX9_isNear_36 rfl ?_
  refine cv_X9_103 (cs' := 0) (ss' := 0) dX9_isNear_37  (Nat.le_of_ble_eq_true rfl) (Nat.le_of_ble_eq_true rfl) (Nat.le_of_ble_eq_true rfl) rfl rfl (Nat.le_of_ble_eq_true rfl) (Nat.le_of_ble_eq_true rfl) rfl ?_
  refine s_X9_areNear hR hA hp ho (hGo_i ?_)
  by_cases n1 : nr g.A p o = true
  · rw [if_pos n1] at h ⊢
    refine G_if_eq (tgt := 47) dX9_isNear_40 (by decide) (fun c40 => ?_) (fun c40 => ?_)
    · exact absurd c40 (by decide)
    · refine G_iconst (v := 1) dX9_isNear_43 (by decide) ?_
      refine G_goto (tgt := 48) dX9_isNear_44 (by decide) ?_
      refine G_iret dX9_isNear_48 rfl rfl (Nat.le_of_ble_eq_true rfl) (Nat.le_of_ble_eq_true rfl) ?_
      exact h M1 _ hG1 hF hT (fun _ => rfl)
  · rw [if_neg n1] at h ⊢
    refine G_if_eq (tgt := 47) dX9_isNear_40 (by decide) (fun c40 => ?_) (fun c40 => ?_)
    · refine G_iconst (v := 0) dX9_isNear_47 (by decide) ?_
      refine G_iret dX9_isNear_48 rfl rfl (Nat.le_of_ble_eq_true rfl) (Nat.le_of_ble_eq_true rfl) ?_
      exact h M1 _ hG1 hF hT (fun _ => rfl)
    · exact absurd rfl c40
theorem m_witness {x y : Int32} (hG : MG M g) (hO : Okg g) (h : ∀ M' v, MG M' g → Fm M M' → M'.1 20 0 0 5 = nI (qWitness g x y).1 → ((qWitness g x y).1 = 0 → v = (qWitness g x y).2) → P (.inl (some (.int v))) M') : Sp E yX9_witness cX9_witness zX9_witness [.ref (ad E 20 0 0), .int x, .int y] M P := by
  unfold qWitness at h
  refine Sp_of (own := RX9) (by decide) rfl rfl (Nat.le_of_ble_eq_true rfl) (fun C => ?_)
  refine G_aload_n dX9_witness_0 rfl ?_
  refine G_iconst (v := 0) dX9_witness_1 (by decide) ?_
  refine pf_X9_41 dX9_witness_2  ?_
  have hG1 : MG (M.up 20 0 0 5 0) g := hG.thr
  have hT : (M.up 20 0 0 5 0).1 20 0 0 5 = 0 := up_at
  have hF : Fm M (M.up 20 0 0 5 0) := Fm.rfl.up ⟨by decide, by decide⟩
  generalize M.up 20 0 0 5 0 = M1 at hG1 hT hF ⊢
  have hR := hG1.1
  have hA := hG1.2.1
  have h12 := hA.n12
  refine G_aload_n dX9_witness_5 rfl ?_
  refine G_aload_n dX9_witness_6 rfl ?_
  refine G_iload_n dX9_witness_7 rfl ?_
  refine cv_X9_297 (cs' := 0) (ss' := 0) dX9_witness_8  (Nat.le_of_ble_eq_true rfl) (Nat.le_of_ble_eq_true rfl) (Nat.le_of_ble_eq_true rfl) rfl rfl (Nat.le_of_ble_eq_true rfl) (Nat.le_of_ble_eq_true rfl) rfl ?_
  refine s_X9_isPupil hR hA (hGo_i ?_)
  by_cases q00 : inP g.A x
  rotate_left
  · rw [if_neg q00]
    refine G_iconst (v := 1) dX9_witness_11 (by decide) ?_
    refine cv_X9_158 (cs' := 0) (ss' := 0) dX9_witness_12  (Nat.le_of_ble_eq_true rfl) (Nat.le_of_ble_eq_true rfl) (Nat.le_of_ble_eq_true rfl) rfl rfl (Nat.le_of_ble_eq_true rfl) (Nat.le_of_ble_eq_true rfl) rfl ?_
    refine s_X9_holds0 hT (by decide) (hGo_i ?_)
    refine G_if_ne (tgt := 20) dX9_witness_15 (by decide) (fun c15 => ?_) (fun c15 => ?_)
    · exact absurd rfl c15
    · refine G_iconst (v := 0) dX9_witness_18 (by decide) ?_
      refine G_iret dX9_witness_19 rfl rfl (Nat.le_of_ble_eq_true rfl) (Nat.le_of_ble_eq_true rfl) ?_
      rw [if_neg q00] at h
      exact h _ _ hG1.thr (hF.up ⟨by decide, by decide⟩) up_at (fun z => absurd z (by decide))
  rw [if_pos q00]
  refine G_iconst (v := 1) dX9_witness_11 (by decide) ?_
  refine cv_X9_158 (cs' := 0) (ss' := 0) dX9_witness_12  (Nat.le_of_ble_eq_true rfl) (Nat.le_of_ble_eq_true rfl) (Nat.le_of_ble_eq_true rfl) rfl rfl (Nat.le_of_ble_eq_true rfl) (Nat.le_of_ble_eq_true rfl) rfl ?_
  rw [if_pos q00] at h
  refine s_X9_holds1 hT (hGo_i ?_)
  refine G_if_ne (tgt := 20) dX9_witness_15 (by decide) (fun c15 => ?_) (fun c15 => ?_)
  rotate_left
  · exact absurd c15 (by decide)
  obtain ⟨p, hp, rfl, ep⟩ := in_ix q00 (by omega)
  rw [ep] at h
  obtain ⟨W, eW⟩ := (hO.1.2.2.1 p hp).2.2.2.2
  have ef := hA.f (t := 9) hp (by decide)
  rw [eW] at h ef
  rw [lowV_bs W h12] at h
  refine G_iload_n dX9_witness_20 rfl ?_
  refine G_istore_n dX9_witness_21 (Nat.le_of_ble_eq_true rfl) ?_
  refine G_iconst (v := 0) dX9_witness_22 (by decide) ?_
  refine G_istore dX9_witness_23 (Nat.le_of_ble_eq_true rfl) ?_
  refine G_lv (lv' := [(0, .ref (ad E 20 0 0)), (1, .int (nI p)), (3, .int y), (4, .int (nI 0))]) ⟨rfl, rfl, rfl, rfl, trivial⟩ ?_
  refine up0 (c := g.A.n) (H := fun i => ∀ z, nth W (g.A.n - i) i z = nth W g.A.n 0 y → G E C RX9 cX9_witness zX9_witness P 0 0 M1 25 [(0, .ref (ad E 20 0 0)), (1, .int (nI p)), (3, .int z), (4, .int (nI i))] []) (fun z hz => ?_) (fun i hi ih z hz => ?_) y rfl
  · rw [Nat.sub_self] at hz
    refine G_iload dX9_witness_25 rfl ?_
    refine G_aload_n dX9_witness_27 rfl ?_
    refine G_iconst (v := 0) dX9_witness_28 (by decide) ?_
    refine cv_X9_50 (cs' := 0) (ss' := 0) dX9_witness_29  (Nat.le_of_ble_eq_true rfl) (Nat.le_of_ble_eq_true rfl) (Nat.le_of_ble_eq_true rfl) rfl rfl (Nat.le_of_ble_eq_true rfl) (Nat.le_of_ble_eq_true rfl) rfl ?_
    refine s_X9_get (w := 0) hR (by decide) hA.n (hGo_i ?_)
    refine G_icmp_ge (tgt := 69) dX9_witness_32 (by decide) (fun c32 => ?_) (fun c32 => ?_)
    · refine G_iconst (v := (-1)) dX9_witness_69 (by decide) ?_
      refine G_iret dX9_witness_70 rfl rfl (Nat.le_of_ble_eq_true rfl) (Nat.le_of_ble_eq_true rfl) ?_
      exact h M1 _ hG1 hF hT (fun _ => hz)
    · exact absurd (Int32.le_refl _) c32
  · rw [show g.A.n - i = (g.A.n - (i + 1)) + 1 by omega] at hz
    have hz : (if W i = true then (if z = 0 then nI i else nth W (g.A.n - (i + 1)) (i + 1) (z - 1)) else nth W (g.A.n - (i + 1)) (i + 1) z) = nth W g.A.n 0 y := hz
    refine G_iload dX9_witness_25 rfl ?_
    refine G_aload_n dX9_witness_27 rfl ?_
    refine G_iconst (v := 0) dX9_witness_28 (by decide) ?_
    refine cv_X9_50 (cs' := 0) (ss' := 0) dX9_witness_29  (Nat.le_of_ble_eq_true rfl) (Nat.le_of_ble_eq_true rfl) (Nat.le_of_ble_eq_true rfl) rfl rfl (Nat.le_of_ble_eq_true rfl) (Nat.le_of_ble_eq_true rfl) rfl ?_
    refine s_X9_get (w := 0) hR (by decide) hA.n (hGo_i ?_)
    refine G_icmp_ge (tgt := 69) dX9_witness_32 (by decide) (fun c32 => ?_) (fun c32 => ?_)
    · exact absurd c32 (nI_ge hi (by omega))
    · refine G_aload_n dX9_witness_35 rfl ?_
      refine G_iload_n dX9_witness_36 rfl ?_
      refine G_bipush (v := 9) dX9_witness_37 (by decide) ?_
      refine cv_X9_54 (cs' := 0) (ss' := 0) dX9_witness_39  (Nat.le_of_ble_eq_true rfl) (Nat.le_of_ble_eq_true rfl) (Nat.le_of_ble_eq_true rfl) rfl rfl (Nat.le_of_ble_eq_true rfl) (Nat.le_of_ble_eq_true rfl) rfl ?_
      refine s_X9_pu (t := 9) hR (by omega) (by decide) ef (hGo_i ?_)
      refine G_iload dX9_witness_42 rfl ?_
      refine G_ishr dX9_witness_44 ?_
      refine G_iconst (v := 1) dX9_witness_45 (by decide) ?_
      refine G_iand dX9_witness_46 ?_
      rw [bs_bit W h12 (by omega)]
      by_cases q : W i = true
      · rw [if_pos ⟨hi, q⟩]
        rw [if_pos q] at hz
        refine G_if_ne (tgt := 53) dX9_witness_47 (by decide) (fun c47 => ?_) (fun c47 => ?_)
        · refine G_iload_n dX9_witness_53 rfl ?_
          refine G_if_ne (tgt := 60) dX9_witness_54 (by decide) (fun c54 => ?_) (fun c54 => ?_)
          · rw [if_neg c54] at hz
            refine G_iinc (v := (-1)) dX9_witness_60 rfl (Nat.le_of_ble_eq_true rfl) (by decide) ?_
            refine G_iinc (v := 1) dX9_witness_63 rfl (Nat.le_of_ble_eq_true rfl) (by decide) ?_
            refine G_goto (tgt := 25) dX9_witness_66 (by decide) ?_
            exact G_lv2 (ih (z - 1) hz) ⟨rfl, rfl, lvi (by rw [Int32.sub_eq_add_neg]), lvi (nI_1 i), trivial⟩
          · rw [if_pos c54] at hz
            refine G_iload dX9_witness_57 rfl ?_
            refine G_iret dX9_witness_59 rfl rfl (Nat.le_of_ble_eq_true rfl) (Nat.le_of_ble_eq_true rfl) ?_
            exact h M1 _ hG1 hF hT (fun _ => hz)
        · exact absurd c47 (by decide)
      · rw [if_neg (fun y => q y.2)]
        rw [if_neg q] at hz
        refine G_if_ne (tgt := 53) dX9_witness_47 (by decide) (fun c47 => ?_) (fun c47 => ?_)
        · exact absurd rfl c47
        · refine G_goto (tgt := 63) dX9_witness_50 (by decide) ?_
          refine G_iinc (v := 1) dX9_witness_63 rfl (Nat.le_of_ble_eq_true rfl) (by decide) ?_
          refine G_goto (tgt := 25) dX9_witness_66 (by decide) ?_
          exact G_lv2 (ih z hz) ⟨rfl, rfl, rfl, lvi (nI_1 i), trivial⟩
theorem m_bench {x y : Int32} (hG : MG M g) (hO : Okg g) (h : ∀ M' v, MG M' g → Fm M M' → M'.1 20 0 0 5 = nI (qBench g x y).1 → ((qBench g x y).1 = 0 → v = (qBench g x y).2) → P (.inl (some (.int v))) M') : Sp E yX9_bench cX9_bench zX9_bench [.ref (ad E 20 0 0), .int x, .int y] M P := by
  unfold qBench at h
  refine Sp_of (own := RX9) (by decide) rfl rfl (Nat.le_of_ble_eq_true rfl) (fun C => ?_)
  refine G_aload_n dX9_bench_0 rfl ?_
  refine G_iconst (v := 0) dX9_bench_1 (by decide) ?_
  refine pf_X9_41 dX9_bench_2  ?_
  have hG1 : MG (M.up 20 0 0 5 0) g := hG.thr
  have hT : (M.up 20 0 0 5 0).1 20 0 0 5 = 0 := up_at
  have hF : Fm M (M.up 20 0 0 5 0) := Fm.rfl.up ⟨by decide, by decide⟩
  generalize M.up 20 0 0 5 0 = M1 at hG1 hT hF ⊢
  have hR := hG1.1
  have hA := hG1.2.1
  have h12 := hA.n12
  refine G_aload_n dX9_bench_5 rfl ?_
  refine G_iload_n dX9_bench_6 rfl ?_
  refine G_iconst (v := 0) dX9_bench_7 (by decide) ?_
  refine G_iconst (v := 5) dX9_bench_8 (by decide) ?_
  refine cv_X9_162 (cs' := 0) (ss' := 0) dX9_bench_9  (Nat.le_of_ble_eq_true rfl) (Nat.le_of_ble_eq_true rfl) (Nat.le_of_ble_eq_true rfl) rfl rfl (Nat.le_of_ble_eq_true rfl) (Nat.le_of_ble_eq_true rfl) rfl ?_
  refine s_X9_in (hGo_i ?_)
  by_cases q00 : inR x 0 5
  rotate_left
  · rw [if_neg q00]
    refine G_if_eq (tgt := 28) dX9_bench_12 (by decide) (fun c12 => ?_) (fun c12 => ?_)
    rotate_left
    · exact absurd rfl c12
    refine G_iconst (v := 0) dX9_bench_28 (by decide) ?_
    refine G_iconst (v := 1) dX9_bench_29 (by decide) ?_
    refine cv_X9_158 (cs' := 0) (ss' := 0) dX9_bench_30  (Nat.le_of_ble_eq_true rfl) (Nat.le_of_ble_eq_true rfl) (Nat.le_of_ble_eq_true rfl) rfl rfl (Nat.le_of_ble_eq_true rfl) (Nat.le_of_ble_eq_true rfl) rfl ?_
    refine s_X9_holds0 hT (by decide) (hGo_i ?_)
    refine G_if_eq (tgt := 45) dX9_bench_33 (by decide) (fun c33 => ?_) (fun c33 => ?_)
    · refine G_iconst (v := 0) dX9_bench_45 (by decide) ?_
      refine G_iret dX9_bench_46 rfl rfl (Nat.le_of_ble_eq_true rfl) (Nat.le_of_ble_eq_true rfl) ?_
      rw [if_neg (fun z => q00 z.1)] at h
      exact h _ _ hG1.thr (hF.up ⟨by decide, by decide⟩) up_at (fun z => absurd z (by decide))
    · exact absurd rfl c33
  rw [if_pos q00]
  refine G_if_eq (tgt := 28) dX9_bench_12 (by decide) (fun c12 => ?_) (fun c12 => ?_)
  · exact absurd c12 (by decide)
  refine G_iload_n dX9_bench_15 rfl ?_
  refine G_iconst (v := 0) dX9_bench_16 (by decide) ?_
  refine G_iconst (v := 5) dX9_bench_17 (by decide) ?_
  refine cv_X9_162 (cs' := 0) (ss' := 0) dX9_bench_18  (Nat.le_of_ble_eq_true rfl) (Nat.le_of_ble_eq_true rfl) (Nat.le_of_ble_eq_true rfl) rfl rfl (Nat.le_of_ble_eq_true rfl) (Nat.le_of_ble_eq_true rfl) rfl ?_
  refine s_X9_in (hGo_i ?_)
  by_cases q01 : inR y 0 5
  rotate_left
  · rw [if_neg q01]
    refine G_if_eq (tgt := 28) dX9_bench_21 (by decide) (fun c21 => ?_) (fun c21 => ?_)
    rotate_left
    · exact absurd rfl c21
    refine G_iconst (v := 0) dX9_bench_28 (by decide) ?_
    refine G_iconst (v := 1) dX9_bench_29 (by decide) ?_
    refine cv_X9_158 (cs' := 0) (ss' := 0) dX9_bench_30  (Nat.le_of_ble_eq_true rfl) (Nat.le_of_ble_eq_true rfl) (Nat.le_of_ble_eq_true rfl) rfl rfl (Nat.le_of_ble_eq_true rfl) (Nat.le_of_ble_eq_true rfl) rfl ?_
    refine s_X9_holds0 hT (by decide) (hGo_i ?_)
    refine G_if_eq (tgt := 45) dX9_bench_33 (by decide) (fun c33 => ?_) (fun c33 => ?_)
    · refine G_iconst (v := 0) dX9_bench_45 (by decide) ?_
      refine G_iret dX9_bench_46 rfl rfl (Nat.le_of_ble_eq_true rfl) (Nat.le_of_ble_eq_true rfl) ?_
      rw [if_neg (fun z => q01 z.2)] at h
      exact h _ _ hG1.thr (hF.up ⟨by decide, by decide⟩) up_at (fun z => absurd z (by decide))
    · exact absurd rfl c33
  rw [if_pos q01]
  refine G_if_eq (tgt := 28) dX9_bench_21 (by decide) (fun c21 => ?_) (fun c21 => ?_)
  · exact absurd c21 (by decide)
  refine G_iconst (v := 1) dX9_bench_24 (by decide) ?_
  refine G_goto (tgt := 29) dX9_bench_25 (by decide) ?_
  refine G_iconst (v := 1) dX9_bench_29 (by decide) ?_
  refine cv_X9_158 (cs' := 0) (ss' := 0) dX9_bench_30  (Nat.le_of_ble_eq_true rfl) (Nat.le_of_ble_eq_true rfl) (Nat.le_of_ble_eq_true rfl) rfl rfl (Nat.le_of_ble_eq_true rfl) (Nat.le_of_ble_eq_true rfl) rfl ?_
  rw [if_pos ⟨q00, q01⟩] at h
  refine s_X9_holds1 hT (hGo_i ?_)
  refine G_if_eq (tgt := 45) dX9_bench_33 (by decide) (fun c33 => ?_) (fun c33 => ?_)
  · exact absurd c33 (by decide)
  refine G_aload_n dX9_bench_36 rfl ?_
  refine G_iload_n dX9_bench_37 rfl ?_
  refine G_iload_n dX9_bench_38 rfl ?_
  refine cv_X9_214 (cs' := 0) (ss' := 0) dX9_bench_39  (Nat.le_of_ble_eq_true rfl) (Nat.le_of_ble_eq_true rfl) (Nat.le_of_ble_eq_true rfl) rfl rfl (Nat.le_of_ble_eq_true rfl) (Nat.le_of_ble_eq_true rfl) rfl ?_
  refine s_X9_pupilOn hR hA (hGo_i ?_)
  refine G_goto (tgt := 46) dX9_bench_42 (by decide) ?_
  refine G_iret dX9_bench_46 rfl rfl (Nat.le_of_ble_eq_true rfl) (Nat.le_of_ble_eq_true rfl) ?_
  exact h M1 _ hG1 hF hT (fun _ => rfl)
theorem m_seers {x y : Int32} (hG : MG M g) (hO : Okg g) (h : ∀ M' v, MG M' g → Fm M M' → M'.1 20 0 0 5 = nI (qSeers g x y).1 → ((qSeers g x y).1 = 0 → v = (qSeers g x y).2) → P (.inl (some (.int v))) M') : Sp E yX9_seers cX9_seers zX9_seers [.ref (ad E 20 0 0), .int x, .int y] M P := by
  unfold qSeers at h
  refine Sp_of (own := RX9) (by decide) rfl rfl (Nat.le_of_ble_eq_true rfl) (fun C => ?_)
  refine G_aload_n dX9_seers_0 rfl ?_
  refine G_iconst (v := 0) dX9_seers_1 (by decide) ?_
  refine pf_X9_41 dX9_seers_2  ?_
  have hG1 : MG (M.up 20 0 0 5 0) g := hG.thr
  have hT : (M.up 20 0 0 5 0).1 20 0 0 5 = 0 := up_at
  have hF : Fm M (M.up 20 0 0 5 0) := Fm.rfl.up ⟨by decide, by decide⟩
  generalize M.up 20 0 0 5 0 = M1 at hG1 hT hF ⊢
  have hR := hG1.1
  have hA := hG1.2.1
  have h12 := hA.n12
  refine G_aload_n dX9_seers_5 rfl ?_
  refine G_aload_n dX9_seers_6 rfl ?_
  refine G_iload_n dX9_seers_7 rfl ?_
  refine cv_X9_297 (cs' := 0) (ss' := 0) dX9_seers_8  (Nat.le_of_ble_eq_true rfl) (Nat.le_of_ble_eq_true rfl) (Nat.le_of_ble_eq_true rfl) rfl rfl (Nat.le_of_ble_eq_true rfl) (Nat.le_of_ble_eq_true rfl) rfl ?_
  refine s_X9_isPupil hR hA (hGo_i ?_)
  by_cases q00 : inP g.A x
  rotate_left
  · rw [if_neg q00]
    refine G_if_eq (tgt := 26) dX9_seers_11 (by decide) (fun c11 => ?_) (fun c11 => ?_)
    rotate_left
    · exact absurd rfl c11
    refine G_iconst (v := 0) dX9_seers_26 (by decide) ?_
    refine G_iconst (v := 1) dX9_seers_27 (by decide) ?_
    refine cv_X9_158 (cs' := 0) (ss' := 0) dX9_seers_28  (Nat.le_of_ble_eq_true rfl) (Nat.le_of_ble_eq_true rfl) (Nat.le_of_ble_eq_true rfl) rfl rfl (Nat.le_of_ble_eq_true rfl) (Nat.le_of_ble_eq_true rfl) rfl ?_
    refine s_X9_holds0 hT (by decide) (hGo_i ?_)
    refine G_if_eq (tgt := 61) dX9_seers_31 (by decide) (fun c31 => ?_) (fun c31 => ?_)
    · refine G_iconst (v := 0) dX9_seers_61 (by decide) ?_
      refine G_iret dX9_seers_62 rfl rfl (Nat.le_of_ble_eq_true rfl) (Nat.le_of_ble_eq_true rfl) ?_
      rw [if_neg (fun z => q00 z.1)] at h
      exact h _ _ hG1.thr (hF.up ⟨by decide, by decide⟩) up_at (fun z => absurd z (by decide))
    · exact absurd rfl c31
  rw [if_pos q00]
  refine G_if_eq (tgt := 26) dX9_seers_11 (by decide) (fun c11 => ?_) (fun c11 => ?_)
  · exact absurd c11 (by decide)
  refine G_aload_n dX9_seers_14 rfl ?_
  refine G_iload_n dX9_seers_15 rfl ?_
  refine cv_X9_297 (cs' := 0) (ss' := 0) dX9_seers_16  (Nat.le_of_ble_eq_true rfl) (Nat.le_of_ble_eq_true rfl) (Nat.le_of_ble_eq_true rfl) rfl rfl (Nat.le_of_ble_eq_true rfl) (Nat.le_of_ble_eq_true rfl) rfl ?_
  refine s_X9_isPupil hR hA (hGo_i ?_)
  by_cases q01 : inP g.A y
  rotate_left
  · rw [if_neg q01]
    refine G_if_eq (tgt := 26) dX9_seers_19 (by decide) (fun c19 => ?_) (fun c19 => ?_)
    rotate_left
    · exact absurd rfl c19
    refine G_iconst (v := 0) dX9_seers_26 (by decide) ?_
    refine G_iconst (v := 1) dX9_seers_27 (by decide) ?_
    refine cv_X9_158 (cs' := 0) (ss' := 0) dX9_seers_28  (Nat.le_of_ble_eq_true rfl) (Nat.le_of_ble_eq_true rfl) (Nat.le_of_ble_eq_true rfl) rfl rfl (Nat.le_of_ble_eq_true rfl) (Nat.le_of_ble_eq_true rfl) rfl ?_
    refine s_X9_holds0 hT (by decide) (hGo_i ?_)
    refine G_if_eq (tgt := 61) dX9_seers_31 (by decide) (fun c31 => ?_) (fun c31 => ?_)
    · refine G_iconst (v := 0) dX9_seers_61 (by decide) ?_
      refine G_iret dX9_seers_62 rfl rfl (Nat.le_of_ble_eq_true rfl) (Nat.le_of_ble_eq_true rfl) ?_
      rw [if_neg (fun z => q01 z.2)] at h
      exact h _ _ hG1.thr (hF.up ⟨by decide, by decide⟩) up_at (fun z => absurd z (by decide))
    · exact absurd rfl c31
  rw [if_pos q01]
  refine G_if_eq (tgt := 26) dX9_seers_19 (by decide) (fun c19 => ?_) (fun c19 => ?_)
  · exact absurd c19 (by decide)
  refine G_iconst (v := 1) dX9_seers_22 (by decide) ?_
  refine G_goto (tgt := 27) dX9_seers_23 (by decide) ?_
  refine G_iconst (v := 1) dX9_seers_27 (by decide) ?_
  refine cv_X9_158 (cs' := 0) (ss' := 0) dX9_seers_28  (Nat.le_of_ble_eq_true rfl) (Nat.le_of_ble_eq_true rfl) (Nat.le_of_ble_eq_true rfl) rfl rfl (Nat.le_of_ble_eq_true rfl) (Nat.le_of_ble_eq_true rfl) rfl ?_
  rw [if_pos ⟨q00, q01⟩] at h
  refine s_X9_holds1 hT (hGo_i ?_)
  refine G_if_eq (tgt := 61) dX9_seers_31 (by decide) (fun c31 => ?_) (fun c31 => ?_)
  · exact absurd c31 (by decide)
  obtain ⟨p, hp, rfl, ep⟩ := in_ix q00 (by omega)
  obtain ⟨o, ho, rfl, eo⟩ := in_ix q01 (by omega)
  rw [ep, eo] at h
  refine G_aload_n dX9_seers_34 rfl ?_
  refine G_iload_n dX9_seers_35 rfl ?_
  refine G_iload_n dX9_seers_36 rfl ?_
  refine G_icmp_eq (tgt := 44) dX9_seers_37 (by decide) (fun c37 => ?_) (fun c37 => ?_)
  · rw [if_neg (fun z => z c37)] at h
    refine G_iconst (v := 0) dX9_seers_44 (by decide) ?_
    refine G_iconst (v := 2) dX9_seers_45 (by decide) ?_
    refine cv_X9_158 (cs' := 0) (ss' := 0) dX9_seers_46  (Nat.le_of_ble_eq_true rfl) (Nat.le_of_ble_eq_true rfl) (Nat.le_of_ble_eq_true rfl) rfl rfl (Nat.le_of_ble_eq_true rfl) (Nat.le_of_ble_eq_true rfl) rfl ?_
    refine s_X9_holds0 hT (by decide) (hGo_i ?_)
    refine G_if_eq (tgt := 61) dX9_seers_49 (by decide) (fun c49 => ?_) (fun c49 => ?_)
    · refine G_iconst (v := 0) dX9_seers_61 (by decide) ?_
      refine G_iret dX9_seers_62 rfl rfl (Nat.le_of_ble_eq_true rfl) (Nat.le_of_ble_eq_true rfl) ?_
      exact h _ _ hG1.thr (hF.up ⟨by decide, by decide⟩) up_at (fun z => absurd z (by decide))
    · exact absurd rfl c49
  rw [if_pos c37] at h
  refine G_iconst (v := 1) dX9_seers_40 (by decide) ?_
  refine G_goto (tgt := 45) dX9_seers_41 (by decide) ?_
  refine G_iconst (v := 2) dX9_seers_45 (by decide) ?_
  refine cv_X9_158 (cs' := 0) (ss' := 0) dX9_seers_46  (Nat.le_of_ble_eq_true rfl) (Nat.le_of_ble_eq_true rfl) (Nat.le_of_ble_eq_true rfl) rfl rfl (Nat.le_of_ble_eq_true rfl) (Nat.le_of_ble_eq_true rfl) rfl ?_
  refine s_X9_holds1 hT (hGo_i ?_)
  refine G_if_eq (tgt := 61) dX9_seers_49 (by decide) (fun c49 => ?_) (fun c49 => ?_)
  · exact absurd c49 (by decide)
  refine G_aload_n dX9_seers_52 rfl ?_
  refine G_iload_n dX9_seers_53 rfl ?_
  refine G_iload_n dX9_seers_54 rfl ?_
  refine cv_X9_309 (cs' := 0) (ss' := 0) dX9_seers_55  (Nat.le_of_ble_eq_true rfl) (Nat.le_of_ble_eq_true rfl) (Nat.le_of_ble_eq_true rfl) rfl rfl (Nat.le_of_ble_eq_true rfl) (Nat.le_of_ble_eq_true rfl) rfl ?_
  refine s_X9_allSeers hR hA hO.1.2.2.1 hp ho (hGo_i ?_)
  refine G_goto (tgt := 62) dX9_seers_58 (by decide) ?_
  refine G_iret dX9_seers_62 rfl rfl (Nat.le_of_ble_eq_true rfl) (Nat.le_of_ble_eq_true rfl) ?_
  exact h M1 _ hG1 hF hT (fun _ => rfl)
theorem m_why {x y : Int32} (hG : MG M g) (hO : Okg g) (h : ∀ M' v, MG M' g → Fm M M' → M'.1 20 0 0 5 = nI (qWhy g x y).1 → ((qWhy g x y).1 = 0 → v = (qWhy g x y).2) → P (.inl (some (.int v))) M') : Sp E yX9_why cX9_why zX9_why [.ref (ad E 20 0 0), .int x, .int y] M P := by
  unfold qWhy at h
  refine Sp_of (own := RX9) (by decide) rfl rfl (Nat.le_of_ble_eq_true rfl) (fun C => ?_)
  refine G_aload_n dX9_why_0 rfl ?_
  refine G_iconst (v := 0) dX9_why_1 (by decide) ?_
  refine pf_X9_41 dX9_why_2  ?_
  have hG1 : MG (M.up 20 0 0 5 0) g := hG.thr
  have hT : (M.up 20 0 0 5 0).1 20 0 0 5 = 0 := up_at
  have hF : Fm M (M.up 20 0 0 5 0) := Fm.rfl.up ⟨by decide, by decide⟩
  generalize M.up 20 0 0 5 0 = M1 at hG1 hT hF ⊢
  have hR := hG1.1
  have hA := hG1.2.1
  have h12 := hA.n12
  refine G_aload_n dX9_why_5 rfl ?_
  refine G_aload_n dX9_why_6 rfl ?_
  refine G_iload_n dX9_why_7 rfl ?_
  refine cv_X9_297 (cs' := 0) (ss' := 0) dX9_why_8  (Nat.le_of_ble_eq_true rfl) (Nat.le_of_ble_eq_true rfl) (Nat.le_of_ble_eq_true rfl) rfl rfl (Nat.le_of_ble_eq_true rfl) (Nat.le_of_ble_eq_true rfl) rfl ?_
  refine s_X9_isPupil hR hA (hGo_i ?_)
  by_cases q00 : inP g.A x
  rotate_left
  · rw [if_neg q00]
    refine G_iconst (v := 1) dX9_why_11 (by decide) ?_
    refine cv_X9_158 (cs' := 0) (ss' := 0) dX9_why_12  (Nat.le_of_ble_eq_true rfl) (Nat.le_of_ble_eq_true rfl) (Nat.le_of_ble_eq_true rfl) rfl rfl (Nat.le_of_ble_eq_true rfl) (Nat.le_of_ble_eq_true rfl) rfl ?_
    refine s_X9_holds0 hT (by decide) (hGo_i ?_)
    refine G_if_eq (tgt := 32) dX9_why_15 (by decide) (fun c15 => ?_) (fun c15 => ?_)
    · refine G_iconst (v := 0) dX9_why_32 (by decide) ?_
      refine G_iret dX9_why_33 rfl rfl (Nat.le_of_ble_eq_true rfl) (Nat.le_of_ble_eq_true rfl) ?_
      rw [if_neg q00] at h
      exact h _ _ hG1.thr (hF.up ⟨by decide, by decide⟩) up_at (fun z => absurd z (by decide))
    · exact absurd rfl c15
  rw [if_pos q00]
  refine G_iconst (v := 1) dX9_why_11 (by decide) ?_
  refine cv_X9_158 (cs' := 0) (ss' := 0) dX9_why_12  (Nat.le_of_ble_eq_true rfl) (Nat.le_of_ble_eq_true rfl) (Nat.le_of_ble_eq_true rfl) rfl rfl (Nat.le_of_ble_eq_true rfl) (Nat.le_of_ble_eq_true rfl) rfl ?_
  rw [if_pos q00] at h
  refine s_X9_holds1 hT (hGo_i ?_)
  refine G_if_eq (tgt := 32) dX9_why_15 (by decide) (fun c15 => ?_) (fun c15 => ?_)
  · exact absurd c15 (by decide)
  refine G_aload_n dX9_why_18 rfl ?_
  refine G_iload_n dX9_why_19 rfl ?_
  refine G_iconst (v := 0) dX9_why_20 (by decide) ?_
  refine G_iconst (v := 1) dX9_why_21 (by decide) ?_
  refine cv_X9_162 (cs' := 0) (ss' := 0) dX9_why_22  (Nat.le_of_ble_eq_true rfl) (Nat.le_of_ble_eq_true rfl) (Nat.le_of_ble_eq_true rfl) rfl rfl (Nat.le_of_ble_eq_true rfl) (Nat.le_of_ble_eq_true rfl) rfl ?_
  refine s_X9_in (hGo_i ?_)
  by_cases q10 : inR y 0 1
  rotate_left
  · rw [if_neg q10]
    refine G_iconst (v := 2) dX9_why_25 (by decide) ?_
    refine cv_X9_158 (cs' := 0) (ss' := 0) dX9_why_26  (Nat.le_of_ble_eq_true rfl) (Nat.le_of_ble_eq_true rfl) (Nat.le_of_ble_eq_true rfl) rfl rfl (Nat.le_of_ble_eq_true rfl) (Nat.le_of_ble_eq_true rfl) rfl ?_
    refine s_X9_holds0 hT (by decide) (hGo_i ?_)
    refine G_if_ne (tgt := 34) dX9_why_29 (by decide) (fun c29 => ?_) (fun c29 => ?_)
    · exact absurd rfl c29
    · refine G_iconst (v := 0) dX9_why_32 (by decide) ?_
      refine G_iret dX9_why_33 rfl rfl (Nat.le_of_ble_eq_true rfl) (Nat.le_of_ble_eq_true rfl) ?_
      rw [if_neg q10] at h
      exact h _ _ hG1.thr (hF.up ⟨by decide, by decide⟩) up_at (fun z => absurd z (by decide))
  rw [if_pos q10]
  refine G_iconst (v := 2) dX9_why_25 (by decide) ?_
  refine cv_X9_158 (cs' := 0) (ss' := 0) dX9_why_26  (Nat.le_of_ble_eq_true rfl) (Nat.le_of_ble_eq_true rfl) (Nat.le_of_ble_eq_true rfl) rfl rfl (Nat.le_of_ble_eq_true rfl) (Nat.le_of_ble_eq_true rfl) rfl ?_
  rw [if_pos q10] at h
  refine s_X9_holds1 hT (hGo_i ?_)
  refine G_if_ne (tgt := 34) dX9_why_29 (by decide) (fun c29 => ?_) (fun c29 => ?_)
  rotate_left
  · exact absurd c29 (by decide)
  obtain ⟨p, hp, rfl, ep⟩ := in_ix q00 (by omega)
  rw [ep] at h
  refine G_aload_n dX9_why_34 rfl ?_
  refine G_iload_n dX9_why_35 rfl ?_
  refine cv_X9_315 (cs' := 0) (ss' := 0) dX9_why_36  (Nat.le_of_ble_eq_true rfl) (Nat.le_of_ble_eq_true rfl) (Nat.le_of_ble_eq_true rfl) rfl rfl (Nat.le_of_ble_eq_true rfl) (Nat.le_of_ble_eq_true rfl) rfl ?_
  refine s_X9_reasonOf hR hA hO.1 hp (hGo_i ?_)
  refine G_istore_n dX9_why_39 (Nat.le_of_ble_eq_true rfl) ?_
  refine G_iload_n dX9_why_40 rfl ?_
  refine G_if_ne (tgt := 46) dX9_why_41 (by decide) (fun c41 => ?_) (fun c41 => ?_)
  rotate_left
  · rw [if_pos c41] at h
    refine G_iload_n dX9_why_44 rfl ?_
    refine G_iret dX9_why_45 rfl rfl (Nat.le_of_ble_eq_true rfl) (Nat.le_of_ble_eq_true rfl) ?_
    exact h M1 _ hG1 hF hT (fun _ => rfl)
  rw [if_neg c41] at h
  unfold whyV at h
  rcases standV_cases g.A p with e | e | e | e | e
  · rw [e] at h ⊢
    rw [if_pos rfl] at h
    refine G_iload_n dX9_why_46 rfl ?_
    refine G_tIn (off := 29) (tgt := 76) dX9_why_47 (by decide) (by decide) rfl (by decide) ?_
    refine G_bipush (v := 100) dX9_why_76 (by decide) ?_
    refine G_aload_n dX9_why_78 rfl ?_
    refine G_iload_n dX9_why_79 rfl ?_
    refine G_bipush (v := 8) dX9_why_80 (by decide) ?_
    refine cv_X9_54 (cs' := 0) (ss' := 0) dX9_why_82  (Nat.le_of_ble_eq_true rfl) (Nat.le_of_ble_eq_true rfl) (Nat.le_of_ble_eq_true rfl) rfl rfl (Nat.le_of_ble_eq_true rfl) (Nat.le_of_ble_eq_true rfl) rfl ?_
    refine s_X9_pu (t := 8) hR (by omega) (by decide) (hA.f hp (by decide)) (hGo_i ?_)
    refine G_iadd dX9_why_85 ?_
    refine G_iret dX9_why_86 rfl rfl (Nat.le_of_ble_eq_true rfl) (Nat.le_of_ble_eq_true rfl) ?_
    exact h M1 _ hG1 hF hT (fun _ => rfl)
  · rw [e] at h ⊢
    rw [if_neg (by decide), if_pos rfl] at h
    refine G_iload_n dX9_why_46 rfl ?_
    refine G_tIn (off := 40) (tgt := 87) dX9_why_47 (by decide) (by decide) rfl (by decide) ?_
    refine G_sipush (v := 200) dX9_why_87 (by decide) ?_
    refine G_aload_n dX9_why_90 rfl ?_
    refine G_iload_n dX9_why_91 rfl ?_
    refine G_bipush (v := 6) dX9_why_92 (by decide) ?_
    refine cv_X9_54 (cs' := 0) (ss' := 0) dX9_why_94  (Nat.le_of_ble_eq_true rfl) (Nat.le_of_ble_eq_true rfl) (Nat.le_of_ble_eq_true rfl) rfl rfl (Nat.le_of_ble_eq_true rfl) (Nat.le_of_ble_eq_true rfl) rfl ?_
    refine s_X9_pu (t := 6) hR (by omega) (by decide) (hA.f hp (by decide)) (hGo_i ?_)
    refine G_iadd dX9_why_97 ?_
    refine G_aload_n dX9_why_98 rfl ?_
    refine G_iload_n dX9_why_99 rfl ?_
    refine cv_X9_133 (cs' := 0) (ss' := 0) dX9_why_100  (Nat.le_of_ble_eq_true rfl) (Nat.le_of_ble_eq_true rfl) (Nat.le_of_ble_eq_true rfl) rfl rfl (Nat.le_of_ble_eq_true rfl) (Nat.le_of_ble_eq_true rfl) rfl ?_
    refine s_X9_growth hR hA hO.1 hp (hGo_i ?_)
    refine G_iadd dX9_why_103 ?_
    rw [Int32.add_assoc]
    refine G_iret dX9_why_104 rfl rfl (Nat.le_of_ble_eq_true rfl) (Nat.le_of_ble_eq_true rfl) ?_
    exact h M1 _ hG1 hF hT (fun _ => rfl)
  · rw [e] at h ⊢
    rw [if_neg (by decide), if_neg (by decide), if_pos rfl] at h
    refine G_iload_n dX9_why_46 rfl ?_
    refine G_tIn (off := 58) (tgt := 105) dX9_why_47 (by decide) (by decide) rfl (by decide) ?_
    refine G_sipush (v := 300) dX9_why_105 (by decide) ?_
    refine G_aload_n dX9_why_108 rfl ?_
    refine G_iload_n dX9_why_109 rfl ?_
    refine cv_X9_136 (cs' := 0) (ss' := 0) dX9_why_110  (Nat.le_of_ble_eq_true rfl) (Nat.le_of_ble_eq_true rfl) (Nat.le_of_ble_eq_true rfl) rfl rfl (Nat.le_of_ble_eq_true rfl) (Nat.le_of_ble_eq_true rfl) rfl ?_
    refine s_X9_marksL hR hA hO.1 hp (hGo_i ?_)
    refine G_iadd dX9_why_113 ?_
    refine G_iret dX9_why_114 rfl rfl (Nat.le_of_ble_eq_true rfl) (Nat.le_of_ble_eq_true rfl) ?_
    exact h M1 _ hG1 hF hT (fun _ => rfl)
  · rw [e] at h ⊢
    rw [if_neg (by decide), if_neg (by decide), if_neg (by decide), if_pos rfl] at h
    refine G_iload_n dX9_why_46 rfl ?_
    refine G_tIn (off := 68) (tgt := 115) dX9_why_47 (by decide) (by decide) rfl (by decide) ?_
    refine G_sipush (v := 400) dX9_why_115 (by decide) ?_
    refine G_aload_n dX9_why_118 rfl ?_
    refine G_iload_n dX9_why_119 rfl ?_
    refine cv_X9_312 (cs' := 0) (ss' := 0) dX9_why_120  (Nat.le_of_ble_eq_true rfl) (Nat.le_of_ble_eq_true rfl) (Nat.le_of_ble_eq_true rfl) rfl rfl (Nat.le_of_ble_eq_true rfl) (Nat.le_of_ble_eq_true rfl) rfl ?_
    refine s_X9_unpayable hR hA hO.1 hp (hGo_i ?_)
    refine G_iadd dX9_why_123 ?_
    refine G_iret dX9_why_124 rfl rfl (Nat.le_of_ble_eq_true rfl) (Nat.le_of_ble_eq_true rfl) ?_
    exact h M1 _ hG1 hF hT (fun _ => rfl)
  · rw [e] at h ⊢
    rw [if_neg (by decide), if_neg (by decide), if_neg (by decide), if_neg (by decide)] at h
    refine G_iload_n dX9_why_46 rfl ?_
    refine G_tOut (tgt := 125) dX9_why_47 (by decide) (by decide) ?_
    refine G_sipush (v := 500) dX9_why_125 (by decide) ?_
    refine G_aload_n dX9_why_128 rfl ?_
    refine G_iload_n dX9_why_129 rfl ?_
    refine G_iconst (v := 5) dX9_why_130 (by decide) ?_
    refine cv_X9_54 (cs' := 0) (ss' := 0) dX9_why_131  (Nat.le_of_ble_eq_true rfl) (Nat.le_of_ble_eq_true rfl) (Nat.le_of_ble_eq_true rfl) rfl rfl (Nat.le_of_ble_eq_true rfl) (Nat.le_of_ble_eq_true rfl) rfl ?_
    refine s_X9_pu (t := 5) hR (by omega) (by decide) (hA.f hp (by decide)) (hGo_i ?_)
    refine G_iadd dX9_why_134 ?_
    refine G_iret dX9_why_135 rfl rfl (Nat.le_of_ble_eq_true rfl) (Nat.le_of_ble_eq_true rfl) ?_
    exact h M1 _ hG1 hF hT (fun _ => rfl)
theorem m_most {x : Int32} (hG : MG M g) (hO : Okg g) (h : ∀ M' v, MG M' g → Fm M M' → M'.1 20 0 0 5 = nI (qMost g x).1 → ((qMost g x).1 = 0 → v = (qMost g x).2) → P (.inl (some (.int v))) M') : Sp E yX9_most cX9_most zX9_most [.ref (ad E 20 0 0), .int x] M P := by
  unfold qMost at h
  refine Sp_of (own := RX9) (by decide) rfl rfl (Nat.le_of_ble_eq_true rfl) (fun C => ?_)
  refine G_aload_n dX9_most_0 rfl ?_
  refine G_iconst (v := 0) dX9_most_1 (by decide) ?_
  refine pf_X9_41 dX9_most_2  ?_
  have hG1 : MG (M.up 20 0 0 5 0) g := hG.thr
  have hT : (M.up 20 0 0 5 0).1 20 0 0 5 = 0 := up_at
  have hF : Fm M (M.up 20 0 0 5 0) := Fm.rfl.up ⟨by decide, by decide⟩
  generalize M.up 20 0 0 5 0 = M1 at hG1 hT hF ⊢
  have hR := hG1.1
  have hA := hG1.2.1
  have h12 := hA.n12
  refine G_aload_n dX9_most_5 rfl ?_
  refine G_iload_n dX9_most_6 rfl ?_
  refine G_iconst (v := 0) dX9_most_7 (by decide) ?_
  refine G_iconst (v := 4) dX9_most_8 (by decide) ?_
  refine cv_X9_162 (cs' := 0) (ss' := 0) dX9_most_9  (Nat.le_of_ble_eq_true rfl) (Nat.le_of_ble_eq_true rfl) (Nat.le_of_ble_eq_true rfl) rfl rfl (Nat.le_of_ble_eq_true rfl) (Nat.le_of_ble_eq_true rfl) rfl ?_
  refine s_X9_in (hGo_i ?_)
  by_cases q00 : inR x 0 4
  rotate_left
  · rw [if_neg q00]
    refine G_iconst (v := 1) dX9_most_12 (by decide) ?_
    refine cv_X9_158 (cs' := 0) (ss' := 0) dX9_most_13  (Nat.le_of_ble_eq_true rfl) (Nat.le_of_ble_eq_true rfl) (Nat.le_of_ble_eq_true rfl) rfl rfl (Nat.le_of_ble_eq_true rfl) (Nat.le_of_ble_eq_true rfl) rfl ?_
    refine s_X9_holds0 hT (by decide) (hGo_i ?_)
    refine G_if_ne (tgt := 21) dX9_most_16 (by decide) (fun c16 => ?_) (fun c16 => ?_)
    · exact absurd rfl c16
    · refine G_iconst (v := 0) dX9_most_19 (by decide) ?_
      refine G_iret dX9_most_20 rfl rfl (Nat.le_of_ble_eq_true rfl) (Nat.le_of_ble_eq_true rfl) ?_
      rw [if_neg q00] at h
      exact h _ _ hG1.thr (hF.up ⟨by decide, by decide⟩) up_at (fun z => absurd z (by decide))
  rw [if_pos q00]
  refine G_iconst (v := 1) dX9_most_12 (by decide) ?_
  refine cv_X9_158 (cs' := 0) (ss' := 0) dX9_most_13  (Nat.le_of_ble_eq_true rfl) (Nat.le_of_ble_eq_true rfl) (Nat.le_of_ble_eq_true rfl) rfl rfl (Nat.le_of_ble_eq_true rfl) (Nat.le_of_ble_eq_true rfl) rfl ?_
  rw [if_pos q00] at h
  refine s_X9_holds1 hT (hGo_i ?_)
  refine G_if_ne (tgt := 21) dX9_most_16 (by decide) (fun c16 => ?_) (fun c16 => ?_)
  rotate_left
  · exact absurd c16 (by decide)
  obtain ⟨k, lk, hk, rfl, ek⟩ := inR_ix (i := 0) (k := 4) (by decide) (by decide) q00
  rw [ek] at h
  have h2 := hO.1.1.1
  refine G_iconst (v := 0) dX9_most_21 (by decide) ?_
  refine G_istore_n dX9_most_22 (Nat.le_of_ble_eq_true rfl) ?_
  refine G_iconst (v := 1) dX9_most_23 (by decide) ?_
  refine G_istore_n dX9_most_24 (Nat.le_of_ble_eq_true rfl) ?_
  refine G_lv (lv' := [(0, .ref (ad E 20 0 0)), (1, .int (nI k)), (2, .int (nI (bestV (meaV g.A k) 1))), (3, .int (nI 1))]) ⟨rfl, rfl, lvi (by rw [bestV_1]; rfl), rfl, trivial⟩ ?_
  refine upTo (c := g.A.n) (H := fun i => 0 < i → G E C RX9 cX9_most zX9_most P 0 0 M1 25 [(0, .ref (ad E 20 0 0)), (1, .int (nI k)), (2, .int (nI (bestV (meaV g.A k) i))), (3, .int (nI i))] []) (fun _ => ?_) (fun i hi ih h0 => ?_) 1 (by omega) (by decide)
  · refine G_iload_n dX9_most_25 rfl ?_
    refine G_aload_n dX9_most_26 rfl ?_
    refine G_iconst (v := 0) dX9_most_27 (by decide) ?_
    refine cv_X9_50 (cs' := 0) (ss' := 0) dX9_most_28  (Nat.le_of_ble_eq_true rfl) (Nat.le_of_ble_eq_true rfl) (Nat.le_of_ble_eq_true rfl) rfl rfl (Nat.le_of_ble_eq_true rfl) (Nat.le_of_ble_eq_true rfl) rfl ?_
    refine s_X9_get (w := 0) hR (by decide) hA.n (hGo_i ?_)
    refine G_icmp_ge (tgt := 57) dX9_most_31 (by decide) (fun c31 => ?_) (fun c31 => ?_)
    · refine G_iload_n dX9_most_57 rfl ?_
      refine G_iret dX9_most_58 rfl rfl (Nat.le_of_ble_eq_true rfl) (Nat.le_of_ble_eq_true rfl) ?_
      exact h M1 _ hG1 hF hT (fun _ => rfl)
    · exact absurd (Int32.le_refl _) c31
  · have hb := bestV_lt (f := meaV g.A k) h0
    refine G_iload_n dX9_most_25 rfl ?_
    refine G_aload_n dX9_most_26 rfl ?_
    refine G_iconst (v := 0) dX9_most_27 (by decide) ?_
    refine cv_X9_50 (cs' := 0) (ss' := 0) dX9_most_28  (Nat.le_of_ble_eq_true rfl) (Nat.le_of_ble_eq_true rfl) (Nat.le_of_ble_eq_true rfl) rfl rfl (Nat.le_of_ble_eq_true rfl) (Nat.le_of_ble_eq_true rfl) rfl ?_
    refine s_X9_get (w := 0) hR (by decide) hA.n (hGo_i ?_)
    refine G_icmp_ge (tgt := 57) dX9_most_31 (by decide) (fun c31 => ?_) (fun c31 => ?_)
    · exact absurd c31 (nI_ge hi (by omega))
    · refine G_aload_n dX9_most_34 rfl ?_
      refine G_iload_n dX9_most_35 rfl ?_
      refine G_iload_n dX9_most_36 rfl ?_
      refine cv_X9_318 (cs' := 0) (ss' := 0) dX9_most_37  (Nat.le_of_ble_eq_true rfl) (Nat.le_of_ble_eq_true rfl) (Nat.le_of_ble_eq_true rfl) rfl rfl (Nat.le_of_ble_eq_true rfl) (Nat.le_of_ble_eq_true rfl) rfl ?_
      refine s_X9_rank hR hA hi (by omega) (hGo_i ?_)
      refine G_aload_n dX9_most_40 rfl ?_
      refine G_iload_n dX9_most_41 rfl ?_
      refine G_iload_n dX9_most_42 rfl ?_
      refine cv_X9_318 (cs' := 0) (ss' := 0) dX9_most_43  (Nat.le_of_ble_eq_true rfl) (Nat.le_of_ble_eq_true rfl) (Nat.le_of_ble_eq_true rfl) rfl rfl (Nat.le_of_ble_eq_true rfl) (Nat.le_of_ble_eq_true rfl) rfl ?_
      refine s_X9_rank hR hA (by omega) (by omega) (hGo_i ?_)
      refine G_icmp_le (tgt := 51) dX9_most_46 (by decide) (fun c46 => ?_) (fun c46 => ?_)
      · refine G_iinc (v := 1) dX9_most_51 rfl (Nat.le_of_ble_eq_true rfl) (by decide) ?_
        refine G_goto (tgt := 25) dX9_most_54 (by decide) ?_
        refine G_lv2 (ih (by omega)) ⟨rfl, rfl, lvi ?_, lvi (nI_1 i), trivial⟩
        exact congrArg nI (if_neg (Int32.not_lt.mpr c46)).symm
      · refine G_iload_n dX9_most_49 rfl ?_
        refine G_istore_n dX9_most_50 (Nat.le_of_ble_eq_true rfl) ?_
        refine G_iinc (v := 1) dX9_most_51 rfl (Nat.le_of_ble_eq_true rfl) (by decide) ?_
        refine G_goto (tgt := 25) dX9_most_54 (by decide) ?_
        refine G_lv2 (ih (by omega)) ⟨rfl, rfl, lvi ?_, lvi (nI_1 i), trivial⟩
        exact congrArg nI (if_pos (Int32.not_le.mp c46)).symm
theorem m_mostOf {x : Int32} (hG : MG M g) (hO : Okg g) (h : ∀ M' v, MG M' g → Fm M M' → M'.1 20 0 0 5 = nI (qMostOf g x).1 → ((qMostOf g x).1 = 0 → v = (qMostOf g x).2) → P (.inl (some (.int v))) M') : Sp E yX9_mostOf cX9_mostOf zX9_mostOf [.ref (ad E 20 0 0), .int x] M P := by
  unfold qMostOf at h
  refine Sp_of (own := RX9) (by decide) rfl rfl (Nat.le_of_ble_eq_true rfl) (fun C => ?_)
  refine G_aload_n dX9_mostOf_0 rfl ?_
  refine G_iconst (v := 0) dX9_mostOf_1 (by decide) ?_
  refine pf_X9_41 dX9_mostOf_2  ?_
  have hG1 : MG (M.up 20 0 0 5 0) g := hG.thr
  have hT : (M.up 20 0 0 5 0).1 20 0 0 5 = 0 := up_at
  have hF : Fm M (M.up 20 0 0 5 0) := Fm.rfl.up ⟨by decide, by decide⟩
  generalize M.up 20 0 0 5 0 = M1 at hG1 hT hF ⊢
  have hR := hG1.1
  have hA := hG1.2.1
  have h12 := hA.n12
  refine G_aload_n dX9_mostOf_5 rfl ?_
  refine G_iload_n dX9_mostOf_6 rfl ?_
  refine G_iconst (v := 0) dX9_mostOf_7 (by decide) ?_
  refine G_iconst (v := 1) dX9_mostOf_8 (by decide) ?_
  refine cv_X9_162 (cs' := 0) (ss' := 0) dX9_mostOf_9  (Nat.le_of_ble_eq_true rfl) (Nat.le_of_ble_eq_true rfl) (Nat.le_of_ble_eq_true rfl) rfl rfl (Nat.le_of_ble_eq_true rfl) (Nat.le_of_ble_eq_true rfl) rfl ?_
  refine s_X9_in (hGo_i ?_)
  by_cases q00 : inR x 0 1
  rotate_left
  · rw [if_neg q00]
    refine G_iconst (v := 1) dX9_mostOf_12 (by decide) ?_
    refine cv_X9_158 (cs' := 0) (ss' := 0) dX9_mostOf_13  (Nat.le_of_ble_eq_true rfl) (Nat.le_of_ble_eq_true rfl) (Nat.le_of_ble_eq_true rfl) rfl rfl (Nat.le_of_ble_eq_true rfl) (Nat.le_of_ble_eq_true rfl) rfl ?_
    refine s_X9_holds0 hT (by decide) (hGo_i ?_)
    refine G_if_ne (tgt := 21) dX9_mostOf_16 (by decide) (fun c16 => ?_) (fun c16 => ?_)
    · exact absurd rfl c16
    · refine G_iconst (v := 0) dX9_mostOf_19 (by decide) ?_
      refine G_iret dX9_mostOf_20 rfl rfl (Nat.le_of_ble_eq_true rfl) (Nat.le_of_ble_eq_true rfl) ?_
      rw [if_neg q00] at h
      exact h _ _ hG1.thr (hF.up ⟨by decide, by decide⟩) up_at (fun z => absurd z (by decide))
  rw [if_pos q00]
  refine G_iconst (v := 1) dX9_mostOf_12 (by decide) ?_
  refine cv_X9_158 (cs' := 0) (ss' := 0) dX9_mostOf_13  (Nat.le_of_ble_eq_true rfl) (Nat.le_of_ble_eq_true rfl) (Nat.le_of_ble_eq_true rfl) rfl rfl (Nat.le_of_ble_eq_true rfl) (Nat.le_of_ble_eq_true rfl) rfl ?_
  rw [if_pos q00] at h
  refine s_X9_holds1 hT (hGo_i ?_)
  refine G_if_ne (tgt := 21) dX9_mostOf_16 (by decide) (fun c16 => ?_) (fun c16 => ?_)
  rotate_left
  · exact absurd c16 (by decide)
  obtain ⟨s, ls, hs, rfl, es⟩ := inR_ix (i := 0) (k := 1) (by decide) (by decide) q00
  rw [es] at h
  have h2 := hO.1.1.1
  refine G_iconst (v := 0) dX9_mostOf_21 (by decide) ?_
  refine G_istore_n dX9_mostOf_22 (Nat.le_of_ble_eq_true rfl) ?_
  refine G_iconst (v := 1) dX9_mostOf_23 (by decide) ?_
  refine G_istore_n dX9_mostOf_24 (Nat.le_of_ble_eq_true rfl) ?_
  refine G_lv (lv' := [(0, .ref (ad E 20 0 0)), (1, .int (nI s)), (2, .int (nI (bestV (fun p => nI (g.A.s (2 * p + s)).length) 1))), (3, .int (nI 1))]) ⟨rfl, rfl, lvi (by rw [bestV_1]; rfl), rfl, trivial⟩ ?_
  refine upTo (c := g.A.n) (H := fun i => 0 < i → G E C RX9 cX9_mostOf zX9_mostOf P 0 0 M1 25 [(0, .ref (ad E 20 0 0)), (1, .int (nI s)), (2, .int (nI (bestV (fun p => nI (g.A.s (2 * p + s)).length) i))), (3, .int (nI i))] []) (fun _ => ?_) (fun i hi ih h0 => ?_) 1 (by omega) (by decide)
  · refine G_iload_n dX9_mostOf_25 rfl ?_
    refine G_aload_n dX9_mostOf_26 rfl ?_
    refine G_iconst (v := 0) dX9_mostOf_27 (by decide) ?_
    refine cv_X9_50 (cs' := 0) (ss' := 0) dX9_mostOf_28  (Nat.le_of_ble_eq_true rfl) (Nat.le_of_ble_eq_true rfl) (Nat.le_of_ble_eq_true rfl) rfl rfl (Nat.le_of_ble_eq_true rfl) (Nat.le_of_ble_eq_true rfl) rfl ?_
    refine s_X9_get (w := 0) hR (by decide) hA.n (hGo_i ?_)
    refine G_icmp_ge (tgt := 57) dX9_mostOf_31 (by decide) (fun c31 => ?_) (fun c31 => ?_)
    · refine G_iload_n dX9_mostOf_57 rfl ?_
      refine G_iret dX9_mostOf_58 rfl rfl (Nat.le_of_ble_eq_true rfl) (Nat.le_of_ble_eq_true rfl) ?_
      exact h M1 _ hG1 hF hT (fun _ => rfl)
    · exact absurd (Int32.le_refl _) c31
  · have hb := bestV_lt (f := fun p => nI (g.A.s (2 * p + s)).length) h0
    refine G_iload_n dX9_mostOf_25 rfl ?_
    refine G_aload_n dX9_mostOf_26 rfl ?_
    refine G_iconst (v := 0) dX9_mostOf_27 (by decide) ?_
    refine cv_X9_50 (cs' := 0) (ss' := 0) dX9_mostOf_28  (Nat.le_of_ble_eq_true rfl) (Nat.le_of_ble_eq_true rfl) (Nat.le_of_ble_eq_true rfl) rfl rfl (Nat.le_of_ble_eq_true rfl) (Nat.le_of_ble_eq_true rfl) rfl ?_
    refine s_X9_get (w := 0) hR (by decide) hA.n (hGo_i ?_)
    refine G_icmp_ge (tgt := 57) dX9_mostOf_31 (by decide) (fun c31 => ?_) (fun c31 => ?_)
    · exact absurd c31 (nI_ge hi (by omega))
    · refine G_aload_n dX9_mostOf_34 rfl ?_
      refine G_iload_n dX9_mostOf_35 rfl ?_
      refine G_iload_n dX9_mostOf_36 rfl ?_
      refine cv_X9_65 (cs' := 0) (ss' := 0) dX9_mostOf_37  (Nat.le_of_ble_eq_true rfl) (Nat.le_of_ble_eq_true rfl) (Nat.le_of_ble_eq_true rfl) rfl rfl (Nat.le_of_ble_eq_true rfl) (Nat.le_of_ble_eq_true rfl) rfl ?_
      refine s_X9_many hR (by omega) (by omega) (hA.many hi (by omega)) (hGo_i ?_)
      refine G_aload_n dX9_mostOf_40 rfl ?_
      refine G_iload_n dX9_mostOf_41 rfl ?_
      refine G_iload_n dX9_mostOf_42 rfl ?_
      refine cv_X9_65 (cs' := 0) (ss' := 0) dX9_mostOf_43  (Nat.le_of_ble_eq_true rfl) (Nat.le_of_ble_eq_true rfl) (Nat.le_of_ble_eq_true rfl) rfl rfl (Nat.le_of_ble_eq_true rfl) (Nat.le_of_ble_eq_true rfl) rfl ?_
      refine s_X9_many hR (by omega) (by omega) (hA.many (by omega) (by omega)) (hGo_i ?_)
      refine G_icmp_le (tgt := 51) dX9_mostOf_46 (by decide) (fun c46 => ?_) (fun c46 => ?_)
      · refine G_iinc (v := 1) dX9_mostOf_51 rfl (Nat.le_of_ble_eq_true rfl) (by decide) ?_
        refine G_goto (tgt := 25) dX9_mostOf_54 (by decide) ?_
        refine G_lv2 (ih (by omega)) ⟨rfl, rfl, lvi ?_, lvi (nI_1 i), trivial⟩
        exact congrArg nI (if_neg (Int32.not_lt.mpr c46)).symm
      · refine G_iload_n dX9_mostOf_49 rfl ?_
        refine G_istore_n dX9_mostOf_50 (Nat.le_of_ble_eq_true rfl) ?_
        refine G_iinc (v := 1) dX9_mostOf_51 rfl (Nat.le_of_ble_eq_true rfl) (by decide) ?_
        refine G_goto (tgt := 25) dX9_mostOf_54 (by decide) ?_
        refine G_lv2 (ih (by omega)) ⟨rfl, rfl, lvi ?_, lvi (nI_1 i), trivial⟩
        exact congrArg nI (if_pos (Int32.not_le.mp c46)).symm
theorem m_makers {x y : Int32} (hG : MG M g) (hO : Okg g) (h : ∀ M' v, MG M' g → Fm M M' → M'.1 20 0 0 5 = nI (qMakers g x y).1 → ((qMakers g x y).1 = 0 → v = (qMakers g x y).2) → P (.inl (some (.int v))) M') : Sp E yX9_makers cX9_makers zX9_makers [.ref (ad E 20 0 0), .int x, .int y] M P := by
  unfold qMakers at h
  refine Sp_of (own := RX9) (by decide) rfl rfl (Nat.le_of_ble_eq_true rfl) (fun C => ?_)
  refine G_aload_n dX9_makers_0 rfl ?_
  refine G_iconst (v := 0) dX9_makers_1 (by decide) ?_
  refine pf_X9_41 dX9_makers_2  ?_
  have hG1 : MG (M.up 20 0 0 5 0) g := hG.thr
  have hT : (M.up 20 0 0 5 0).1 20 0 0 5 = 0 := up_at
  have hF : Fm M (M.up 20 0 0 5 0) := Fm.rfl.up ⟨by decide, by decide⟩
  generalize M.up 20 0 0 5 0 = M1 at hG1 hT hF ⊢
  have hR := hG1.1
  have hA := hG1.2.1
  have h12 := hA.n12
  refine G_aload_n dX9_makers_5 rfl ?_
  refine G_aload_n dX9_makers_6 rfl ?_
  refine G_iload_n dX9_makers_7 rfl ?_
  refine cv_X9_297 (cs' := 0) (ss' := 0) dX9_makers_8  (Nat.le_of_ble_eq_true rfl) (Nat.le_of_ble_eq_true rfl) (Nat.le_of_ble_eq_true rfl) rfl rfl (Nat.le_of_ble_eq_true rfl) (Nat.le_of_ble_eq_true rfl) rfl ?_
  refine s_X9_isPupil hR hA (hGo_i ?_)
  by_cases q00 : inP g.A x
  rotate_left
  · rw [if_neg q00]
    refine G_iconst (v := 1) dX9_makers_11 (by decide) ?_
    refine cv_X9_158 (cs' := 0) (ss' := 0) dX9_makers_12  (Nat.le_of_ble_eq_true rfl) (Nat.le_of_ble_eq_true rfl) (Nat.le_of_ble_eq_true rfl) rfl rfl (Nat.le_of_ble_eq_true rfl) (Nat.le_of_ble_eq_true rfl) rfl ?_
    refine s_X9_holds0 hT (by decide) (hGo_i ?_)
    refine G_if_eq (tgt := 32) dX9_makers_15 (by decide) (fun c15 => ?_) (fun c15 => ?_)
    · refine G_iconst (v := 0) dX9_makers_32 (by decide) ?_
      refine G_iret dX9_makers_33 rfl rfl (Nat.le_of_ble_eq_true rfl) (Nat.le_of_ble_eq_true rfl) ?_
      rw [if_neg q00] at h
      exact h _ _ hG1.thr (hF.up ⟨by decide, by decide⟩) up_at (fun z => absurd z (by decide))
    · exact absurd rfl c15
  rw [if_pos q00]
  refine G_iconst (v := 1) dX9_makers_11 (by decide) ?_
  refine cv_X9_158 (cs' := 0) (ss' := 0) dX9_makers_12  (Nat.le_of_ble_eq_true rfl) (Nat.le_of_ble_eq_true rfl) (Nat.le_of_ble_eq_true rfl) rfl rfl (Nat.le_of_ble_eq_true rfl) (Nat.le_of_ble_eq_true rfl) rfl ?_
  rw [if_pos q00] at h
  refine s_X9_holds1 hT (hGo_i ?_)
  refine G_if_eq (tgt := 32) dX9_makers_15 (by decide) (fun c15 => ?_) (fun c15 => ?_)
  · exact absurd c15 (by decide)
  refine G_aload_n dX9_makers_18 rfl ?_
  refine G_iload_n dX9_makers_19 rfl ?_
  refine G_iconst (v := 0) dX9_makers_20 (by decide) ?_
  refine G_iconst (v := 1) dX9_makers_21 (by decide) ?_
  refine cv_X9_162 (cs' := 0) (ss' := 0) dX9_makers_22  (Nat.le_of_ble_eq_true rfl) (Nat.le_of_ble_eq_true rfl) (Nat.le_of_ble_eq_true rfl) rfl rfl (Nat.le_of_ble_eq_true rfl) (Nat.le_of_ble_eq_true rfl) rfl ?_
  refine s_X9_in (hGo_i ?_)
  by_cases q10 : inR y 0 1
  rotate_left
  · rw [if_neg q10]
    refine G_iconst (v := 2) dX9_makers_25 (by decide) ?_
    refine cv_X9_158 (cs' := 0) (ss' := 0) dX9_makers_26  (Nat.le_of_ble_eq_true rfl) (Nat.le_of_ble_eq_true rfl) (Nat.le_of_ble_eq_true rfl) rfl rfl (Nat.le_of_ble_eq_true rfl) (Nat.le_of_ble_eq_true rfl) rfl ?_
    refine s_X9_holds0 hT (by decide) (hGo_i ?_)
    refine G_if_ne (tgt := 34) dX9_makers_29 (by decide) (fun c29 => ?_) (fun c29 => ?_)
    · exact absurd rfl c29
    · refine G_iconst (v := 0) dX9_makers_32 (by decide) ?_
      refine G_iret dX9_makers_33 rfl rfl (Nat.le_of_ble_eq_true rfl) (Nat.le_of_ble_eq_true rfl) ?_
      rw [if_neg q10] at h
      exact h _ _ hG1.thr (hF.up ⟨by decide, by decide⟩) up_at (fun z => absurd z (by decide))
  rw [if_pos q10]
  refine G_iconst (v := 2) dX9_makers_25 (by decide) ?_
  refine cv_X9_158 (cs' := 0) (ss' := 0) dX9_makers_26  (Nat.le_of_ble_eq_true rfl) (Nat.le_of_ble_eq_true rfl) (Nat.le_of_ble_eq_true rfl) rfl rfl (Nat.le_of_ble_eq_true rfl) (Nat.le_of_ble_eq_true rfl) rfl ?_
  rw [if_pos q10] at h
  refine s_X9_holds1 hT (hGo_i ?_)
  refine G_if_ne (tgt := 34) dX9_makers_29 (by decide) (fun c29 => ?_) (fun c29 => ?_)
  rotate_left
  · exact absurd c29 (by decide)
  obtain ⟨p, hp, rfl, ep⟩ := in_ix q00 (by omega)
  rw [ep] at h
  obtain ⟨s, ls, hs, rfl, es⟩ := inR_ix (i := 0) (k := 1) (by decide) (by decide) q10
  rw [es] at h
  have l20 := hA.l20 hp (s := s) (by omega)
  have hm := (hO.1.2.2.2.1 (2 * p + s) (by omega)).2
  rw [bitsL_bs hm h12, bc_bs _ h12] at h
  refine G_iconst (v := 0) dX9_makers_34 (by decide) ?_
  refine G_istore_n dX9_makers_35 (Nat.le_of_ble_eq_true rfl) ?_
  refine G_iconst (v := 0) dX9_makers_36 (by decide) ?_
  refine G_istore dX9_makers_37 (Nat.le_of_ble_eq_true rfl) ?_
  refine G_lv (lv' := [(0, .ref (ad E 20 0 0)), (1, .int (nI p)), (2, .int (nI s)), (3, .int (sm 0 (fun m => if decide (¬ nI m = -1 ∧ 0 < cN (g.A.s (2 * p + s)) (nI m) (g.A.s (2 * p + s)).length) = true then 1 else 0))), (4, .int (nI 0))]) ⟨rfl, rfl, rfl, rfl, rfl, trivial⟩ ?_
  refine up0 (c := g.A.n) (H := fun i => G E C RX9 cX9_makers zX9_makers P 0 0 M1 39 [(0, .ref (ad E 20 0 0)), (1, .int (nI p)), (2, .int (nI s)), (3, .int (sm i (fun m => if decide (¬ nI m = -1 ∧ 0 < cN (g.A.s (2 * p + s)) (nI m) (g.A.s (2 * p + s)).length) = true then 1 else 0))), (4, .int (nI i))] []) ?_ (fun i hi ih => ?_)
  · refine G_iload dX9_makers_39 rfl ?_
    refine G_aload_n dX9_makers_41 rfl ?_
    refine G_iconst (v := 0) dX9_makers_42 (by decide) ?_
    refine cv_X9_50 (cs' := 0) (ss' := 0) dX9_makers_43  (Nat.le_of_ble_eq_true rfl) (Nat.le_of_ble_eq_true rfl) (Nat.le_of_ble_eq_true rfl) rfl rfl (Nat.le_of_ble_eq_true rfl) (Nat.le_of_ble_eq_true rfl) rfl ?_
    refine s_X9_get (w := 0) hR (by decide) hA.n (hGo_i ?_)
    refine G_icmp_ge (tgt := 83) dX9_makers_46 (by decide) (fun c46 => ?_) (fun c46 => ?_)
    · refine G_iload_n dX9_makers_83 rfl ?_
      refine G_iret dX9_makers_84 rfl rfl (Nat.le_of_ble_eq_true rfl) (Nat.le_of_ble_eq_true rfl) ?_
      exact h M1 _ hG1 hF hT (fun _ => rfl)
    · exact absurd (Int32.le_refl _) c46
  · refine G_iload dX9_makers_39 rfl ?_
    refine G_aload_n dX9_makers_41 rfl ?_
    refine G_iconst (v := 0) dX9_makers_42 (by decide) ?_
    refine cv_X9_50 (cs' := 0) (ss' := 0) dX9_makers_43  (Nat.le_of_ble_eq_true rfl) (Nat.le_of_ble_eq_true rfl) (Nat.le_of_ble_eq_true rfl) rfl rfl (Nat.le_of_ble_eq_true rfl) (Nat.le_of_ble_eq_true rfl) rfl ?_
    refine s_X9_get (w := 0) hR (by decide) hA.n (hGo_i ?_)
    refine G_icmp_ge (tgt := 83) dX9_makers_46 (by decide) (fun c46 => ?_) (fun c46 => ?_)
    · exact absurd c46 (nI_ge hi (by omega))
    · refine G_iload_n dX9_makers_49 rfl ?_
      refine G_aload_n dX9_makers_50 rfl ?_
      refine G_iload_n dX9_makers_51 rfl ?_
      refine G_iload_n dX9_makers_52 rfl ?_
      refine G_iload dX9_makers_53 rfl ?_
      refine G_aload_n dX9_makers_55 rfl ?_
      refine G_iload_n dX9_makers_56 rfl ?_
      refine G_iload_n dX9_makers_57 rfl ?_
      refine cv_X9_65 (cs' := 0) (ss' := 0) dX9_makers_58  (Nat.le_of_ble_eq_true rfl) (Nat.le_of_ble_eq_true rfl) (Nat.le_of_ble_eq_true rfl) rfl rfl (Nat.le_of_ble_eq_true rfl) (Nat.le_of_ble_eq_true rfl) rfl ?_
      refine s_X9_many hR (by omega) (by omega) (hA.many hp (by omega)) (hGo_i ?_)
      refine cv_X9_126 (cs' := 0) (ss' := 0) dX9_makers_61  (Nat.le_of_ble_eq_true rfl) (Nat.le_of_ble_eq_true rfl) (Nat.le_of_ble_eq_true rfl) rfl rfl (Nat.le_of_ble_eq_true rfl) (Nat.le_of_ble_eq_true rfl) rfl ?_
      refine s_X9_ofMaker hR hA hp (by omega) (Nat.le_refl _) (hGo_i ?_)
      rw [ofM_c]
      have hc := cN_le (L := g.A.s (2 * p + s)) (x := nI i) (h := (g.A.s (2 * p + s)).length)
      refine G_if_le (tgt := 71) dX9_makers_64 (by decide) (fun c64 => ?_) (fun c64 => ?_)
      · have q : ¬ 0 < cN (g.A.s (2 * p + s)) (nI i) (g.A.s (2 * p + s)).length := fun z => absurd c64 (nI_nle z (by omega))
        refine G_iconst (v := 0) dX9_makers_71 (by decide) ?_
        refine cv_X9_110 (cs' := 0) (ss' := 0) dX9_makers_72  (Nat.le_of_ble_eq_true rfl) (Nat.le_of_ble_eq_true rfl) (Nat.le_of_ble_eq_true rfl) rfl rfl (Nat.le_of_ble_eq_true rfl) (Nat.le_of_ble_eq_true rfl) rfl ?_
        refine s_X9_one (Or.inl rfl) (hGo_i ?_)
        refine G_iadd dX9_makers_75 ?_
        refine G_istore_n dX9_makers_76 (Nat.le_of_ble_eq_true rfl) ?_
        refine G_iinc (v := 1) dX9_makers_77 rfl (Nat.le_of_ble_eq_true rfl) (by decide) ?_
        refine G_goto (tgt := 39) dX9_makers_80 (by decide) ?_
        exact G_lv2 ih ⟨rfl, rfl, rfl, lvi (sm_t (if_neg (by rw [decide_eq_true_eq]; exact fun z => q z.2))), lvi (nI_1 i), trivial⟩
      · have q : 0 < cN (g.A.s (2 * p + s)) (nI i) (g.A.s (2 * p + s)).length := by
          rcases Nat.eq_zero_or_pos (cN (g.A.s (2 * p + s)) (nI i) (g.A.s (2 * p + s)).length) with z | z
          · rw [z] at c64
            exact absurd (show nI 0 ≤ 0 by decide) c64
          · exact z
        refine G_iconst (v := 1) dX9_makers_67 (by decide) ?_
        refine G_goto (tgt := 72) dX9_makers_68 (by decide) ?_
        refine cv_X9_110 (cs' := 0) (ss' := 0) dX9_makers_72  (Nat.le_of_ble_eq_true rfl) (Nat.le_of_ble_eq_true rfl) (Nat.le_of_ble_eq_true rfl) rfl rfl (Nat.le_of_ble_eq_true rfl) (Nat.le_of_ble_eq_true rfl) rfl ?_
        refine s_X9_one (Or.inr rfl) (hGo_i ?_)
        refine G_iadd dX9_makers_75 ?_
        refine G_istore_n dX9_makers_76 (Nat.le_of_ble_eq_true rfl) ?_
        refine G_iinc (v := 1) dX9_makers_77 rfl (Nat.le_of_ble_eq_true rfl) (by decide) ?_
        refine G_goto (tgt := 39) dX9_makers_80 (by decide) ?_
        exact G_lv2 ih ⟨rfl, rfl, rfl, lvi (sm_t (if_pos (decide_eq_true ⟨nI_nm1 (by omega), q⟩))), lvi (nI_1 i), trivial⟩
theorem m_needs {x y : Int32} (hG : MG M g) (hO : Okg g) (h : ∀ M' v, MG M' g → Fm M M' → M'.1 20 0 0 5 = nI (qNeeds g x y).1 → ((qNeeds g x y).1 = 0 → v = (qNeeds g x y).2) → P (.inl (some (.int v))) M') : Sp E yX9_needs cX9_needs zX9_needs [.ref (ad E 20 0 0), .int x, .int y] M P := by
  unfold qNeeds at h
  refine Sp_of (own := RX9) (by decide) rfl rfl (Nat.le_of_ble_eq_true rfl) (fun C => ?_)
  refine G_aload_n dX9_needs_0 rfl ?_
  refine G_iconst (v := 0) dX9_needs_1 (by decide) ?_
  refine pf_X9_41 dX9_needs_2  ?_
  have hG1 : MG (M.up 20 0 0 5 0) g := hG.thr
  have hT : (M.up 20 0 0 5 0).1 20 0 0 5 = 0 := up_at
  have hF : Fm M (M.up 20 0 0 5 0) := Fm.rfl.up ⟨by decide, by decide⟩
  generalize M.up 20 0 0 5 0 = M1 at hG1 hT hF ⊢
  have hR := hG1.1
  have hA := hG1.2.1
  have h12 := hA.n12
  refine G_aload_n dX9_needs_5 rfl ?_
  refine G_aload_n dX9_needs_6 rfl ?_
  refine G_iload_n dX9_needs_7 rfl ?_
  refine cv_X9_297 (cs' := 0) (ss' := 0) dX9_needs_8  (Nat.le_of_ble_eq_true rfl) (Nat.le_of_ble_eq_true rfl) (Nat.le_of_ble_eq_true rfl) rfl rfl (Nat.le_of_ble_eq_true rfl) (Nat.le_of_ble_eq_true rfl) rfl ?_
  refine s_X9_isPupil hR hA (hGo_i ?_)
  by_cases q00 : inP g.A x
  rotate_left
  · rw [if_neg q00]
    refine G_iconst (v := 1) dX9_needs_11 (by decide) ?_
    refine cv_X9_158 (cs' := 0) (ss' := 0) dX9_needs_12  (Nat.le_of_ble_eq_true rfl) (Nat.le_of_ble_eq_true rfl) (Nat.le_of_ble_eq_true rfl) rfl rfl (Nat.le_of_ble_eq_true rfl) (Nat.le_of_ble_eq_true rfl) rfl ?_
    refine s_X9_holds0 hT (by decide) (hGo_i ?_)
    refine G_if_eq (tgt := 49) dX9_needs_15 (by decide) (fun c15 => ?_) (fun c15 => ?_)
    · refine G_iconst (v := 0) dX9_needs_49 (by decide) ?_
      refine G_iret dX9_needs_50 rfl rfl (Nat.le_of_ble_eq_true rfl) (Nat.le_of_ble_eq_true rfl) ?_
      rw [if_neg q00] at h
      exact h _ _ hG1.thr (hF.up ⟨by decide, by decide⟩) up_at (fun z => absurd z (by decide))
    · exact absurd rfl c15
  rw [if_pos q00]
  refine G_iconst (v := 1) dX9_needs_11 (by decide) ?_
  refine cv_X9_158 (cs' := 0) (ss' := 0) dX9_needs_12  (Nat.le_of_ble_eq_true rfl) (Nat.le_of_ble_eq_true rfl) (Nat.le_of_ble_eq_true rfl) rfl rfl (Nat.le_of_ble_eq_true rfl) (Nat.le_of_ble_eq_true rfl) rfl ?_
  rw [if_pos q00] at h
  refine s_X9_holds1 hT (hGo_i ?_)
  refine G_if_eq (tgt := 49) dX9_needs_15 (by decide) (fun c15 => ?_) (fun c15 => ?_)
  · exact absurd c15 (by decide)
  refine G_aload_n dX9_needs_18 rfl ?_
  refine G_iload_n dX9_needs_19 rfl ?_
  refine G_iconst (v := 0) dX9_needs_20 (by decide) ?_
  refine G_iconst (v := 1) dX9_needs_21 (by decide) ?_
  refine cv_X9_162 (cs' := 0) (ss' := 0) dX9_needs_22  (Nat.le_of_ble_eq_true rfl) (Nat.le_of_ble_eq_true rfl) (Nat.le_of_ble_eq_true rfl) rfl rfl (Nat.le_of_ble_eq_true rfl) (Nat.le_of_ble_eq_true rfl) rfl ?_
  refine s_X9_in (hGo_i ?_)
  by_cases q10 : inR y 0 1
  rotate_left
  · rw [if_neg q10]
    refine G_iconst (v := 2) dX9_needs_25 (by decide) ?_
    refine cv_X9_158 (cs' := 0) (ss' := 0) dX9_needs_26  (Nat.le_of_ble_eq_true rfl) (Nat.le_of_ble_eq_true rfl) (Nat.le_of_ble_eq_true rfl) rfl rfl (Nat.le_of_ble_eq_true rfl) (Nat.le_of_ble_eq_true rfl) rfl ?_
    refine s_X9_holds0 hT (by decide) (hGo_i ?_)
    refine G_if_eq (tgt := 49) dX9_needs_29 (by decide) (fun c29 => ?_) (fun c29 => ?_)
    · refine G_iconst (v := 0) dX9_needs_49 (by decide) ?_
      refine G_iret dX9_needs_50 rfl rfl (Nat.le_of_ble_eq_true rfl) (Nat.le_of_ble_eq_true rfl) ?_
      rw [if_neg q10] at h
      exact h _ _ hG1.thr (hF.up ⟨by decide, by decide⟩) up_at (fun z => absurd z (by decide))
    · exact absurd rfl c29
  rw [if_pos q10]
  refine G_iconst (v := 2) dX9_needs_25 (by decide) ?_
  refine cv_X9_158 (cs' := 0) (ss' := 0) dX9_needs_26  (Nat.le_of_ble_eq_true rfl) (Nat.le_of_ble_eq_true rfl) (Nat.le_of_ble_eq_true rfl) rfl rfl (Nat.le_of_ble_eq_true rfl) (Nat.le_of_ble_eq_true rfl) rfl ?_
  rw [if_pos q10] at h
  refine s_X9_holds1 hT (hGo_i ?_)
  refine G_if_eq (tgt := 49) dX9_needs_29 (by decide) (fun c29 => ?_) (fun c29 => ?_)
  · exact absurd c29 (by decide)
  obtain ⟨p, hp, rfl, ep⟩ := in_ix q00 (by omega)
  rw [ep] at h
  obtain ⟨s, ls, hs, rfl, es⟩ := inR_ix (i := 0) (k := 1) (by decide) (by decide) q10
  rw [es] at h
  have h0 : 0 ≤ g.A.g (4 + s) := by
    rcases (show s = 0 ∨ s = 1 by omega) with rfl | rfl
    · exact hO.1.2.1.2.1
    · exact hO.1.2.1.2.2
  rw [hdV_N hO.1 hp (by omega)] at h
  refine G_aload_n dX9_needs_32 rfl ?_
  refine G_iconst (v := 4) dX9_needs_33 (by decide) ?_
  refine G_iload_n dX9_needs_34 rfl ?_
  refine G_iadd dX9_needs_35 ?_
  rw [show (4 : Int32) + nI s = nI (4 + s) from nI_add 4 s]
  refine cv_X9_50 (cs' := 0) (ss' := 0) dX9_needs_36  (Nat.le_of_ble_eq_true rfl) (Nat.le_of_ble_eq_true rfl) (Nat.le_of_ble_eq_true rfl) rfl rfl (Nat.le_of_ble_eq_true rfl) (Nat.le_of_ble_eq_true rfl) rfl ?_
  refine s_X9_get (v := g.A.g (4 + s)) hR (by omega) (by
    have := hA.g (t := 3 + s) (by omega)
    rw [show 1 + (3 + s) = 4 + s by omega] at this
    exact this) (hGo_i ?_)
  refine G_aload_n dX9_needs_39 rfl ?_
  refine G_iload_n dX9_needs_40 rfl ?_
  refine G_iload_n dX9_needs_41 rfl ?_
  refine cv_X9_123 (cs' := 0) (ss' := 0) dX9_needs_42  (Nat.le_of_ble_eq_true rfl) (Nat.le_of_ble_eq_true rfl) (Nat.le_of_ble_eq_true rfl) rfl rfl (Nat.le_of_ble_eq_true rfl) (Nat.le_of_ble_eq_true rfl) rfl ?_
  refine s_X9_handsIn hR hA hp (by omega) h0 (hGo_i ?_)
  refine G_isub dX9_needs_45 ?_
  refine G_goto (tgt := 50) dX9_needs_46 (by decide) ?_
  refine G_iret dX9_needs_50 rfl rfl (Nat.le_of_ble_eq_true rfl) (Nat.le_of_ble_eq_true rfl) ?_
  exact h M1 _ hG1 hF hT (fun _ => rfl)
theorem m_nearTo {x y : Int32} (hG : MG M g) (hO : Okg g) (h : ∀ M' v, MG M' g → Fm M M' → M'.1 20 0 0 5 = nI (qNearTo g x y).1 → ((qNearTo g x y).1 = 0 → v = (qNearTo g x y).2) → P (.inl (some (.int v))) M') : Sp E yX9_nearTo cX9_nearTo zX9_nearTo [.ref (ad E 20 0 0), .int x, .int y] M P := by
  unfold qNearTo at h
  refine Sp_of (own := RX9) (by decide) rfl rfl (Nat.le_of_ble_eq_true rfl) (fun C => ?_)
  refine G_aload_n dX9_nearTo_0 rfl ?_
  refine G_iconst (v := 0) dX9_nearTo_1 (by decide) ?_
  refine pf_X9_41 dX9_nearTo_2  ?_
  have hG1 : MG (M.up 20 0 0 5 0) g := hG.thr
  have hT : (M.up 20 0 0 5 0).1 20 0 0 5 = 0 := up_at
  have hF : Fm M (M.up 20 0 0 5 0) := Fm.rfl.up ⟨by decide, by decide⟩
  generalize M.up 20 0 0 5 0 = M1 at hG1 hT hF ⊢
  have hR := hG1.1
  have hA := hG1.2.1
  have h12 := hA.n12
  refine G_aload_n dX9_nearTo_5 rfl ?_
  refine G_aload_n dX9_nearTo_6 rfl ?_
  refine G_iload_n dX9_nearTo_7 rfl ?_
  refine cv_X9_297 (cs' := 0) (ss' := 0) dX9_nearTo_8  (Nat.le_of_ble_eq_true rfl) (Nat.le_of_ble_eq_true rfl) (Nat.le_of_ble_eq_true rfl) rfl rfl (Nat.le_of_ble_eq_true rfl) (Nat.le_of_ble_eq_true rfl) rfl ?_
  refine s_X9_isPupil hR hA (hGo_i ?_)
  by_cases q00 : inP g.A x
  rotate_left
  · rw [if_neg q00]
    refine G_iconst (v := 1) dX9_nearTo_11 (by decide) ?_
    refine cv_X9_158 (cs' := 0) (ss' := 0) dX9_nearTo_12  (Nat.le_of_ble_eq_true rfl) (Nat.le_of_ble_eq_true rfl) (Nat.le_of_ble_eq_true rfl) rfl rfl (Nat.le_of_ble_eq_true rfl) (Nat.le_of_ble_eq_true rfl) rfl ?_
    refine s_X9_holds0 hT (by decide) (hGo_i ?_)
    refine G_if_ne (tgt := 20) dX9_nearTo_15 (by decide) (fun c15 => ?_) (fun c15 => ?_)
    · exact absurd rfl c15
    · refine G_iconst (v := 0) dX9_nearTo_18 (by decide) ?_
      refine G_iret dX9_nearTo_19 rfl rfl (Nat.le_of_ble_eq_true rfl) (Nat.le_of_ble_eq_true rfl) ?_
      rw [if_neg q00] at h
      exact h _ _ hG1.thr (hF.up ⟨by decide, by decide⟩) up_at (fun z => absurd z (by decide))
  rw [if_pos q00]
  refine G_iconst (v := 1) dX9_nearTo_11 (by decide) ?_
  refine cv_X9_158 (cs' := 0) (ss' := 0) dX9_nearTo_12  (Nat.le_of_ble_eq_true rfl) (Nat.le_of_ble_eq_true rfl) (Nat.le_of_ble_eq_true rfl) rfl rfl (Nat.le_of_ble_eq_true rfl) (Nat.le_of_ble_eq_true rfl) rfl ?_
  rw [if_pos q00] at h
  refine s_X9_holds1 hT (hGo_i ?_)
  refine G_if_ne (tgt := 20) dX9_nearTo_15 (by decide) (fun c15 => ?_) (fun c15 => ?_)
  rotate_left
  · exact absurd c15 (by decide)
  obtain ⟨p, hp, rfl, ep⟩ := in_ix q00 (by omega)
  rw [ep] at h
  rw [show nearsV g.A p = bs (fun i => decide (i ≠ p) && nr g.A i p) g.A.n from rfl, lowV_bs _ h12] at h
  generalize hW : (fun i => decide (i ≠ p) && nr g.A i p) = W at h
  have eW : ∀ i, W i = (decide (i ≠ p) && nr g.A i p) := fun i => by rw [← hW]
  refine G_iload_n dX9_nearTo_20 rfl ?_
  refine G_istore_n dX9_nearTo_21 (Nat.le_of_ble_eq_true rfl) ?_
  refine G_iconst (v := 0) dX9_nearTo_22 (by decide) ?_
  refine G_istore dX9_nearTo_23 (Nat.le_of_ble_eq_true rfl) ?_
  refine G_lv (lv' := [(0, .ref (ad E 20 0 0)), (1, .int (nI p)), (3, .int y), (4, .int (nI 0))]) ⟨rfl, rfl, rfl, rfl, trivial⟩ ?_
  refine up0 (c := g.A.n) (H := fun i => ∀ z, nth W (g.A.n - i) i z = nth W g.A.n 0 y → G E C RX9 cX9_nearTo zX9_nearTo P 0 0 M1 25 [(0, .ref (ad E 20 0 0)), (1, .int (nI p)), (3, .int z), (4, .int (nI i))] []) (fun z hz => ?_) (fun i hi ih z hz => ?_) y rfl
  · rw [Nat.sub_self] at hz
    refine G_iload dX9_nearTo_25 rfl ?_
    refine G_aload_n dX9_nearTo_27 rfl ?_
    refine G_iconst (v := 0) dX9_nearTo_28 (by decide) ?_
    refine cv_X9_50 (cs' := 0) (ss' := 0) dX9_nearTo_29  (Nat.le_of_ble_eq_true rfl) (Nat.le_of_ble_eq_true rfl) (Nat.le_of_ble_eq_true rfl) rfl rfl (Nat.le_of_ble_eq_true rfl) (Nat.le_of_ble_eq_true rfl) rfl ?_
    refine s_X9_get (w := 0) hR (by decide) hA.n (hGo_i ?_)
    refine G_icmp_ge (tgt := 70) dX9_nearTo_32 (by decide) (fun c32 => ?_) (fun c32 => ?_)
    · refine G_iconst (v := (-1)) dX9_nearTo_70 (by decide) ?_
      refine G_iret dX9_nearTo_71 rfl rfl (Nat.le_of_ble_eq_true rfl) (Nat.le_of_ble_eq_true rfl) ?_
      exact h M1 _ hG1 hF hT (fun _ => hz)
    · exact absurd (Int32.le_refl _) c32
  · rw [show g.A.n - i = (g.A.n - (i + 1)) + 1 by omega] at hz
    have hz : (if W i = true then (if z = 0 then nI i else nth W (g.A.n - (i + 1)) (i + 1) (z - 1)) else nth W (g.A.n - (i + 1)) (i + 1) z) = nth W g.A.n 0 y := hz
    have g64 : W i ≠ true → G E C RX9 cX9_nearTo zX9_nearTo P 0 0 M1 64 [(0, .ref (ad E 20 0 0)), (1, .int (nI p)), (3, .int z), (4, .int (nI i))] [] := fun q => by
      rw [if_neg q] at hz
      refine G_iinc (v := 1) dX9_nearTo_64 rfl (Nat.le_of_ble_eq_true rfl) (by decide) ?_
      refine G_goto (tgt := 25) dX9_nearTo_67 (by decide) ?_
      exact G_lv2 (ih z hz) ⟨rfl, rfl, rfl, lvi (nI_1 i), trivial⟩
    refine G_iload dX9_nearTo_25 rfl ?_
    refine G_aload_n dX9_nearTo_27 rfl ?_
    refine G_iconst (v := 0) dX9_nearTo_28 (by decide) ?_
    refine cv_X9_50 (cs' := 0) (ss' := 0) dX9_nearTo_29  (Nat.le_of_ble_eq_true rfl) (Nat.le_of_ble_eq_true rfl) (Nat.le_of_ble_eq_true rfl) rfl rfl (Nat.le_of_ble_eq_true rfl) (Nat.le_of_ble_eq_true rfl) rfl ?_
    refine s_X9_get (w := 0) hR (by decide) hA.n (hGo_i ?_)
    refine G_icmp_ge (tgt := 70) dX9_nearTo_32 (by decide) (fun c32 => ?_) (fun c32 => ?_)
    · exact absurd c32 (nI_ge hi (by omega))
    · refine G_iload dX9_nearTo_35 rfl ?_
      refine G_iload_n dX9_nearTo_37 rfl ?_
      refine G_icmp_eq (tgt := 64) dX9_nearTo_38 (by decide) (fun c38 => ?_) (fun c38 => ?_)
      · have e : i = p := (nI_eq (by omega) (by omega)).mp c38
        exact g64 (by rw [eW, decide_eq_false (fun q => q e), Bool.false_and]; decide)
      · have e : i ≠ p := fun q => c38 (by rw [q])
        refine G_aload_n dX9_nearTo_41 rfl ?_
        refine G_iload dX9_nearTo_42 rfl ?_
        refine G_iload_n dX9_nearTo_44 rfl ?_
        refine cv_X9_103 (cs' := 0) (ss' := 0) dX9_nearTo_45  (Nat.le_of_ble_eq_true rfl) (Nat.le_of_ble_eq_true rfl) (Nat.le_of_ble_eq_true rfl) rfl rfl (Nat.le_of_ble_eq_true rfl) (Nat.le_of_ble_eq_true rfl) rfl ?_
        refine s_X9_areNear hR hA hi hp (hGo_i ?_)
        by_cases q : nr g.A i p = true
        · rw [if_pos q]
          have qW : W i = true := by
            rw [eW, decide_eq_true e, q]
            rfl
          rw [if_pos qW] at hz
          refine G_if_ne (tgt := 54) dX9_nearTo_48 (by decide) (fun c48 => ?_) (fun c48 => ?_)
          · refine G_iload_n dX9_nearTo_54 rfl ?_
            refine G_if_ne (tgt := 61) dX9_nearTo_55 (by decide) (fun c55 => ?_) (fun c55 => ?_)
            · rw [if_neg c55] at hz
              refine G_iinc (v := (-1)) dX9_nearTo_61 rfl (Nat.le_of_ble_eq_true rfl) (by decide) ?_
              refine G_iinc (v := 1) dX9_nearTo_64 rfl (Nat.le_of_ble_eq_true rfl) (by decide) ?_
              refine G_goto (tgt := 25) dX9_nearTo_67 (by decide) ?_
              exact G_lv2 (ih (z - 1) hz) ⟨rfl, rfl, lvi (by rw [Int32.sub_eq_add_neg]), lvi (nI_1 i), trivial⟩
            · rw [if_pos c55] at hz
              refine G_iload dX9_nearTo_58 rfl ?_
              refine G_iret dX9_nearTo_60 rfl rfl (Nat.le_of_ble_eq_true rfl) (Nat.le_of_ble_eq_true rfl) ?_
              exact h M1 _ hG1 hF hT (fun _ => hz)
          · exact absurd c48 (by decide)
        · rw [if_neg q]
          refine G_if_ne (tgt := 54) dX9_nearTo_48 (by decide) (fun c48 => ?_) (fun c48 => ?_)
          · exact absurd rfl c48
          · refine G_goto (tgt := 64) dX9_nearTo_51 (by decide) ?_
            exact g64 (fun z => by rw [eW, Bool.and_eq_true] at z; exact q z.2)
theorem m_debtOf {x y : Int32} (hG : MG M g) (hO : Okg g) (h : ∀ M' v, MG M' g → Fm M M' → M'.1 20 0 0 5 = nI (qDebtOf g x y).1 → ((qDebtOf g x y).1 = 0 → v = (qDebtOf g x y).2) → P (.inl (some (.int v))) M') : Sp E yX9_debtOf cX9_debtOf zX9_debtOf [.ref (ad E 20 0 0), .int x, .int y] M P := by
  unfold qDebtOf at h
  refine Sp_of (own := RX9) (by decide) rfl rfl (Nat.le_of_ble_eq_true rfl) (fun C => ?_)
  refine G_aload_n dX9_debtOf_0 rfl ?_
  refine G_iconst (v := 0) dX9_debtOf_1 (by decide) ?_
  refine pf_X9_41 dX9_debtOf_2  ?_
  have hG1 : MG (M.up 20 0 0 5 0) g := hG.thr
  have hT : (M.up 20 0 0 5 0).1 20 0 0 5 = 0 := up_at
  have hF : Fm M (M.up 20 0 0 5 0) := Fm.rfl.up ⟨by decide, by decide⟩
  generalize M.up 20 0 0 5 0 = M1 at hG1 hT hF ⊢
  have hR := hG1.1
  have hA := hG1.2.1
  have h12 := hA.n12
  refine G_aload_n dX9_debtOf_5 rfl ?_
  refine G_aload_n dX9_debtOf_6 rfl ?_
  refine G_iload_n dX9_debtOf_7 rfl ?_
  refine cv_X9_297 (cs' := 0) (ss' := 0) dX9_debtOf_8  (Nat.le_of_ble_eq_true rfl) (Nat.le_of_ble_eq_true rfl) (Nat.le_of_ble_eq_true rfl) rfl rfl (Nat.le_of_ble_eq_true rfl) (Nat.le_of_ble_eq_true rfl) rfl ?_
  refine s_X9_isPupil hR hA (hGo_i ?_)
  by_cases q00 : inP g.A x
  rotate_left
  · rw [if_neg q00]
    refine G_iconst (v := 1) dX9_debtOf_11 (by decide) ?_
    refine cv_X9_158 (cs' := 0) (ss' := 0) dX9_debtOf_12  (Nat.le_of_ble_eq_true rfl) (Nat.le_of_ble_eq_true rfl) (Nat.le_of_ble_eq_true rfl) rfl rfl (Nat.le_of_ble_eq_true rfl) (Nat.le_of_ble_eq_true rfl) rfl ?_
    refine s_X9_holds0 hT (by decide) (hGo_i ?_)
    refine G_if_ne (tgt := 20) dX9_debtOf_15 (by decide) (fun c15 => ?_) (fun c15 => ?_)
    · exact absurd rfl c15
    · refine G_iconst (v := 0) dX9_debtOf_18 (by decide) ?_
      refine G_iret dX9_debtOf_19 rfl rfl (Nat.le_of_ble_eq_true rfl) (Nat.le_of_ble_eq_true rfl) ?_
      rw [if_neg q00] at h
      exact h _ _ hG1.thr (hF.up ⟨by decide, by decide⟩) up_at (fun z => absurd z (by decide))
  rw [if_pos q00]
  refine G_iconst (v := 1) dX9_debtOf_11 (by decide) ?_
  refine cv_X9_158 (cs' := 0) (ss' := 0) dX9_debtOf_12  (Nat.le_of_ble_eq_true rfl) (Nat.le_of_ble_eq_true rfl) (Nat.le_of_ble_eq_true rfl) rfl rfl (Nat.le_of_ble_eq_true rfl) (Nat.le_of_ble_eq_true rfl) rfl ?_
  rw [if_pos q00] at h
  refine s_X9_holds1 hT (hGo_i ?_)
  refine G_if_ne (tgt := 20) dX9_debtOf_15 (by decide) (fun c15 => ?_) (fun c15 => ?_)
  rotate_left
  · exact absurd c15 (by decide)
  have h30 := hA.d30
  unfold debtOfV at h
  generalize hW : (fun i => decide (dg g.A.d i 0 = x)) = W at h
  have eW : ∀ i, W i = decide (dg g.A.d i 0 = x) := fun i => by rw [← hW]
  refine G_iload_n dX9_debtOf_20 rfl ?_
  refine G_istore_n dX9_debtOf_21 (Nat.le_of_ble_eq_true rfl) ?_
  refine G_iconst (v := 0) dX9_debtOf_22 (by decide) ?_
  refine G_istore dX9_debtOf_23 (Nat.le_of_ble_eq_true rfl) ?_
  refine G_lv (lv' := [(0, .ref (ad E 20 0 0)), (1, .int x), (3, .int y), (4, .int (nI 0))]) ⟨rfl, rfl, rfl, rfl, trivial⟩ ?_
  refine up0 (c := g.A.d.length) (H := fun i => ∀ z, nth W (g.A.d.length - i) i z = nth W g.A.d.length 0 y → G E C RX9 cX9_debtOf zX9_debtOf P 0 0 M1 25 [(0, .ref (ad E 20 0 0)), (1, .int x), (3, .int z), (4, .int (nI i))] []) (fun z hz => ?_) (fun i hi ih z hz => ?_) y rfl
  · rw [Nat.sub_self] at hz
    refine G_iload dX9_debtOf_25 rfl ?_
    refine G_aload_n dX9_debtOf_27 rfl ?_
    refine G_bipush (v := 6) dX9_debtOf_28 (by decide) ?_
    refine cv_X9_50 (cs' := 0) (ss' := 0) dX9_debtOf_30  (Nat.le_of_ble_eq_true rfl) (Nat.le_of_ble_eq_true rfl) (Nat.le_of_ble_eq_true rfl) rfl rfl (Nat.le_of_ble_eq_true rfl) (Nat.le_of_ble_eq_true rfl) rfl ?_
    refine s_X9_get (w := 6) hR (by decide) hA.dn (hGo_i ?_)
    refine G_icmp_ge (tgt := 66) dX9_debtOf_33 (by decide) (fun c33 => ?_) (fun c33 => ?_)
    · refine G_iconst (v := (-1)) dX9_debtOf_66 (by decide) ?_
      refine G_iret dX9_debtOf_67 rfl rfl (Nat.le_of_ble_eq_true rfl) (Nat.le_of_ble_eq_true rfl) ?_
      exact h M1 _ hG1 hF hT (fun _ => hz)
    · exact absurd (Int32.le_refl _) c33
  · rw [show g.A.d.length - i = (g.A.d.length - (i + 1)) + 1 by omega] at hz
    have hz : (if W i = true then (if z = 0 then nI i else nth W (g.A.d.length - (i + 1)) (i + 1) (z - 1)) else nth W (g.A.d.length - (i + 1)) (i + 1) z) = nth W g.A.d.length 0 y := hz
    refine G_iload dX9_debtOf_25 rfl ?_
    refine G_aload_n dX9_debtOf_27 rfl ?_
    refine G_bipush (v := 6) dX9_debtOf_28 (by decide) ?_
    refine cv_X9_50 (cs' := 0) (ss' := 0) dX9_debtOf_30  (Nat.le_of_ble_eq_true rfl) (Nat.le_of_ble_eq_true rfl) (Nat.le_of_ble_eq_true rfl) rfl rfl (Nat.le_of_ble_eq_true rfl) (Nat.le_of_ble_eq_true rfl) rfl ?_
    refine s_X9_get (w := 6) hR (by decide) hA.dn (hGo_i ?_)
    refine G_icmp_ge (tgt := 66) dX9_debtOf_33 (by decide) (fun c33 => ?_) (fun c33 => ?_)
    · exact absurd c33 (nI_ge hi (by omega))
    · refine G_aload_n dX9_debtOf_36 rfl ?_
      refine G_iload dX9_debtOf_37 rfl ?_
      refine G_iconst (v := 0) dX9_debtOf_39 (by decide) ?_
      refine cv_X9_84 (cs' := 0) (ss' := 0) dX9_debtOf_40  (Nat.le_of_ble_eq_true rfl) (Nat.le_of_ble_eq_true rfl) (Nat.le_of_ble_eq_true rfl) rfl rfl (Nat.le_of_ble_eq_true rfl) (Nat.le_of_ble_eq_true rfl) rfl ?_
      refine s_X9_db (t := 0) hR (by omega) (by decide) (hA.d hi (by decide)) (hGo_i ?_)
      refine G_iload_n dX9_debtOf_43 rfl ?_
      refine G_icmp_eq (tgt := 50) dX9_debtOf_44 (by decide) (fun c44 => ?_) (fun c44 => ?_)
      · rw [if_pos (by rw [eW]; exact decide_eq_true c44)] at hz
        refine G_iload_n dX9_debtOf_50 rfl ?_
        refine G_if_ne (tgt := 57) dX9_debtOf_51 (by decide) (fun c51 => ?_) (fun c51 => ?_)
        · rw [if_neg c51] at hz
          refine G_iinc (v := (-1)) dX9_debtOf_57 rfl (Nat.le_of_ble_eq_true rfl) (by decide) ?_
          refine G_iinc (v := 1) dX9_debtOf_60 rfl (Nat.le_of_ble_eq_true rfl) (by decide) ?_
          refine G_goto (tgt := 25) dX9_debtOf_63 (by decide) ?_
          exact G_lv2 (ih (z - 1) hz) ⟨rfl, rfl, lvi (by rw [Int32.sub_eq_add_neg]), lvi (nI_1 i), trivial⟩
        · rw [if_pos c51] at hz
          refine G_iload dX9_debtOf_54 rfl ?_
          refine G_iret dX9_debtOf_56 rfl rfl (Nat.le_of_ble_eq_true rfl) (Nat.le_of_ble_eq_true rfl) ?_
          exact h M1 _ hG1 hF hT (fun _ => hz)
      · rw [if_neg (by rw [eW, decide_eq_true_eq]; exact c44)] at hz
        refine G_goto (tgt := 60) dX9_debtOf_47 (by decide) ?_
        refine G_iinc (v := 1) dX9_debtOf_60 rfl (Nat.le_of_ble_eq_true rfl) (by decide) ?_
        refine G_goto (tgt := 25) dX9_debtOf_63 (by decide) ?_
        exact G_lv2 (ih z hz) ⟨rfl, rfl, rfl, lvi (nI_1 i), trivial⟩
theorem m_refusals {x : Int32} (hG : MG M g) (hO : Okg g) (h : ∀ M' v, MG M' g → Fm M M' → M'.1 20 0 0 5 = nI (qRefusals g x).1 → ((qRefusals g x).1 = 0 → v = (qRefusals g x).2) → P (.inl (some (.int v))) M') : Sp E yX9_refusals cX9_refusals zX9_refusals [.ref (ad E 20 0 0), .int x] M P := by
  unfold qRefusals at h
  refine Sp_of (own := RX9) (by decide) rfl rfl (Nat.le_of_ble_eq_true rfl) (fun C => ?_)
  refine G_aload_n dX9_refusals_0 rfl ?_
  refine G_iconst (v := 0) dX9_refusals_1 (by decide) ?_
  refine pf_X9_41 dX9_refusals_2  ?_
  have hG1 : MG (M.up 20 0 0 5 0) g := hG.thr
  have hT : (M.up 20 0 0 5 0).1 20 0 0 5 = 0 := up_at
  have hF : Fm M (M.up 20 0 0 5 0) := Fm.rfl.up ⟨by decide, by decide⟩
  generalize M.up 20 0 0 5 0 = M1 at hG1 hT hF ⊢
  have hR := hG1.1
  have hA := hG1.2.1
  have h12 := hA.n12
  refine G_aload_n dX9_refusals_5 rfl ?_
  refine G_iload_n dX9_refusals_6 rfl ?_
  refine G_iconst (v := 1) dX9_refusals_7 (by decide) ?_
  refine G_bipush (v := 10) dX9_refusals_8 (by decide) ?_
  refine cv_X9_162 (cs' := 0) (ss' := 0) dX9_refusals_10  (Nat.le_of_ble_eq_true rfl) (Nat.le_of_ble_eq_true rfl) (Nat.le_of_ble_eq_true rfl) rfl rfl (Nat.le_of_ble_eq_true rfl) (Nat.le_of_ble_eq_true rfl) rfl ?_
  refine s_X9_in (hGo_i ?_)
  by_cases q00 : inR x 1 10
  rotate_left
  · rw [if_neg q00]
    refine G_iconst (v := 1) dX9_refusals_13 (by decide) ?_
    refine cv_X9_158 (cs' := 0) (ss' := 0) dX9_refusals_14  (Nat.le_of_ble_eq_true rfl) (Nat.le_of_ble_eq_true rfl) (Nat.le_of_ble_eq_true rfl) rfl rfl (Nat.le_of_ble_eq_true rfl) (Nat.le_of_ble_eq_true rfl) rfl ?_
    refine s_X9_holds0 hT (by decide) (hGo_i ?_)
    refine G_if_eq (tgt := 29) dX9_refusals_17 (by decide) (fun c17 => ?_) (fun c17 => ?_)
    · refine G_iconst (v := 0) dX9_refusals_29 (by decide) ?_
      refine G_iret dX9_refusals_30 rfl rfl (Nat.le_of_ble_eq_true rfl) (Nat.le_of_ble_eq_true rfl) ?_
      rw [if_neg q00] at h
      exact h _ _ hG1.thr (hF.up ⟨by decide, by decide⟩) up_at (fun z => absurd z (by decide))
    · exact absurd rfl c17
  rw [if_pos q00]
  refine G_iconst (v := 1) dX9_refusals_13 (by decide) ?_
  refine cv_X9_158 (cs' := 0) (ss' := 0) dX9_refusals_14  (Nat.le_of_ble_eq_true rfl) (Nat.le_of_ble_eq_true rfl) (Nat.le_of_ble_eq_true rfl) rfl rfl (Nat.le_of_ble_eq_true rfl) (Nat.le_of_ble_eq_true rfl) rfl ?_
  rw [if_pos q00] at h
  refine s_X9_holds1 hT (hGo_i ?_)
  refine G_if_eq (tgt := 29) dX9_refusals_17 (by decide) (fun c17 => ?_) (fun c17 => ?_)
  · exact absurd c17 (by decide)
  obtain ⟨k, lk, hk, rfl, ek⟩ := inR_ix (i := 1) (k := 10) (by decide) (by decide) q00
  rw [ek] at h
  refine G_aload_n dX9_refusals_20 rfl ?_
  refine gf_X9_17 dX9_refusals_21  ?_
  refine G_iload_n dX9_refusals_24 rfl ?_
  refine G_iald dX9_refusals_25 ⟨by decide, rfl, rfl⟩ rfl rfl (show k < 11 by omega) (by decide) ?_
  rw [hG1.2.2.2.2.1 k lk hk]
  refine G_goto (tgt := 30) dX9_refusals_26 (by decide) ?_
  refine G_iret dX9_refusals_30 rfl rfl (Nat.le_of_ble_eq_true rfl) (Nat.le_of_ble_eq_true rfl) ?_
  exact h M1 _ hG1 hF hT (fun _ => rfl)
theorem m_couldMake {x y : Int32} (hG : MG M g) (hO : Okg g) (h : ∀ M' v, MG M' g → Fm M M' → M'.1 20 0 0 5 = nI (qCouldMake g x y).1 → ((qCouldMake g x y).1 = 0 → v = (qCouldMake g x y).2) → P (.inl (some (.int v))) M') : Sp E yX9_couldMake cX9_couldMake zX9_couldMake [.ref (ad E 20 0 0), .int x, .int y] M P := by
  unfold qCouldMake at h
  refine Sp_of (own := RX9) (by decide) rfl rfl (Nat.le_of_ble_eq_true rfl) (fun C => ?_)
  refine G_aload_n dX9_couldMake_0 rfl ?_
  refine G_iconst (v := 0) dX9_couldMake_1 (by decide) ?_
  refine pf_X9_41 dX9_couldMake_2  ?_
  have hG1 : MG (M.up 20 0 0 5 0) g := hG.thr
  have hT : (M.up 20 0 0 5 0).1 20 0 0 5 = 0 := up_at
  have hF : Fm M (M.up 20 0 0 5 0) := Fm.rfl.up ⟨by decide, by decide⟩
  generalize M.up 20 0 0 5 0 = M1 at hG1 hT hF ⊢
  have hR := hG1.1
  have hA := hG1.2.1
  have h12 := hA.n12
  refine G_aload_n dX9_couldMake_5 rfl ?_
  refine G_aload_n dX9_couldMake_6 rfl ?_
  refine G_iload_n dX9_couldMake_7 rfl ?_
  refine cv_X9_297 (cs' := 0) (ss' := 0) dX9_couldMake_8  (Nat.le_of_ble_eq_true rfl) (Nat.le_of_ble_eq_true rfl) (Nat.le_of_ble_eq_true rfl) rfl rfl (Nat.le_of_ble_eq_true rfl) (Nat.le_of_ble_eq_true rfl) rfl ?_
  refine s_X9_isPupil hR hA (hGo_i ?_)
  by_cases q00 : inP g.A x
  rotate_left
  · rw [if_neg q00]
    refine G_iconst (v := 1) dX9_couldMake_11 (by decide) ?_
    refine cv_X9_158 (cs' := 0) (ss' := 0) dX9_couldMake_12  (Nat.le_of_ble_eq_true rfl) (Nat.le_of_ble_eq_true rfl) (Nat.le_of_ble_eq_true rfl) rfl rfl (Nat.le_of_ble_eq_true rfl) (Nat.le_of_ble_eq_true rfl) rfl ?_
    refine s_X9_holds0 hT (by decide) (hGo_i ?_)
    refine G_if_eq (tgt := 53) dX9_couldMake_15 (by decide) (fun c15 => ?_) (fun c15 => ?_)
    · refine G_iconst (v := 0) dX9_couldMake_53 (by decide) ?_
      refine G_iret dX9_couldMake_54 rfl rfl (Nat.le_of_ble_eq_true rfl) (Nat.le_of_ble_eq_true rfl) ?_
      rw [if_neg q00] at h
      exact h _ _ hG1.thr (hF.up ⟨by decide, by decide⟩) up_at (fun z => absurd z (by decide))
    · exact absurd rfl c15
  rw [if_pos q00]
  refine G_iconst (v := 1) dX9_couldMake_11 (by decide) ?_
  refine cv_X9_158 (cs' := 0) (ss' := 0) dX9_couldMake_12  (Nat.le_of_ble_eq_true rfl) (Nat.le_of_ble_eq_true rfl) (Nat.le_of_ble_eq_true rfl) rfl rfl (Nat.le_of_ble_eq_true rfl) (Nat.le_of_ble_eq_true rfl) rfl ?_
  rw [if_pos q00] at h
  refine s_X9_holds1 hT (hGo_i ?_)
  refine G_if_eq (tgt := 53) dX9_couldMake_15 (by decide) (fun c15 => ?_) (fun c15 => ?_)
  · exact absurd c15 (by decide)
  refine G_aload_n dX9_couldMake_18 rfl ?_
  refine G_iload_n dX9_couldMake_19 rfl ?_
  refine G_iconst (v := 0) dX9_couldMake_20 (by decide) ?_
  refine G_iconst (v := 1) dX9_couldMake_21 (by decide) ?_
  refine cv_X9_162 (cs' := 0) (ss' := 0) dX9_couldMake_22  (Nat.le_of_ble_eq_true rfl) (Nat.le_of_ble_eq_true rfl) (Nat.le_of_ble_eq_true rfl) rfl rfl (Nat.le_of_ble_eq_true rfl) (Nat.le_of_ble_eq_true rfl) rfl ?_
  refine s_X9_in (hGo_i ?_)
  by_cases q10 : inR y 0 1
  rotate_left
  · rw [if_neg q10]
    refine G_iconst (v := 2) dX9_couldMake_25 (by decide) ?_
    refine cv_X9_158 (cs' := 0) (ss' := 0) dX9_couldMake_26  (Nat.le_of_ble_eq_true rfl) (Nat.le_of_ble_eq_true rfl) (Nat.le_of_ble_eq_true rfl) rfl rfl (Nat.le_of_ble_eq_true rfl) (Nat.le_of_ble_eq_true rfl) rfl ?_
    refine s_X9_holds0 hT (by decide) (hGo_i ?_)
    refine G_if_eq (tgt := 53) dX9_couldMake_29 (by decide) (fun c29 => ?_) (fun c29 => ?_)
    · refine G_iconst (v := 0) dX9_couldMake_53 (by decide) ?_
      refine G_iret dX9_couldMake_54 rfl rfl (Nat.le_of_ble_eq_true rfl) (Nat.le_of_ble_eq_true rfl) ?_
      rw [if_neg q10] at h
      exact h _ _ hG1.thr (hF.up ⟨by decide, by decide⟩) up_at (fun z => absurd z (by decide))
    · exact absurd rfl c29
  rw [if_pos q10]
  refine G_iconst (v := 2) dX9_couldMake_25 (by decide) ?_
  refine cv_X9_158 (cs' := 0) (ss' := 0) dX9_couldMake_26  (Nat.le_of_ble_eq_true rfl) (Nat.le_of_ble_eq_true rfl) (Nat.le_of_ble_eq_true rfl) rfl rfl (Nat.le_of_ble_eq_true rfl) (Nat.le_of_ble_eq_true rfl) rfl ?_
  rw [if_pos q10] at h
  refine s_X9_holds1 hT (hGo_i ?_)
  refine G_if_eq (tgt := 53) dX9_couldMake_29 (by decide) (fun c29 => ?_) (fun c29 => ?_)
  · exact absurd c29 (by decide)
  obtain ⟨p, hp, rfl, ep⟩ := in_ix q00 (by omega)
  rw [ep] at h
  obtain ⟨s, ls, hs, rfl, es⟩ := inR_ix (i := 0) (k := 1) (by decide) (by decide) q10
  rw [es] at h
  unfold couldV at h
  have hf := hO.1.2.2.1 p hp
  have hsk : (1 : Int32) ≤ g.A.f p (2 + s) ∧ g.A.f p (2 + s) ≤ 9 := by
    rcases (show s = 0 ∨ s = 1 by omega) with rfl | rfl
    · exact hf.1
    · exact hf.2.1
  obtain ⟨k, hk1, hk2, ek, -⟩ := inR_ix (i := 1) (k := 9) (by decide) (by decide) hsk
  have e10 : (10 : Int32) - g.A.f p (2 + s) = nI (10 - k) := by rw [ek]; exact nI_subN (b := 10) (by omega)
  rw [e10, if_pos (show (0 : Int32) < nI (10 - k) from nI_lt (a := 0) (by omega) (by omega))] at h
  refine G_aload_n dX9_couldMake_32 rfl ?_
  refine G_iload_n dX9_couldMake_33 rfl ?_
  refine G_iconst (v := 5) dX9_couldMake_34 (by decide) ?_
  refine cv_X9_54 (cs' := 0) (ss' := 0) dX9_couldMake_35  (Nat.le_of_ble_eq_true rfl) (Nat.le_of_ble_eq_true rfl) (Nat.le_of_ble_eq_true rfl) rfl rfl (Nat.le_of_ble_eq_true rfl) (Nat.le_of_ble_eq_true rfl) rfl ?_
  refine s_X9_pu (t := 5) hR (by omega) (by decide) (hA.f hp (by decide)) (hGo_i ?_)
  refine G_bipush (v := 10) dX9_couldMake_38 (by decide) ?_
  refine G_aload_n dX9_couldMake_40 rfl ?_
  refine G_iload_n dX9_couldMake_41 rfl ?_
  refine G_iconst (v := 2) dX9_couldMake_42 (by decide) ?_
  refine G_iload_n dX9_couldMake_43 rfl ?_
  refine G_iadd dX9_couldMake_44 ?_
  rw [show (2 : Int32) + nI s = nI (2 + s) from nI_add 2 s]
  refine cv_X9_54 (cs' := 0) (ss' := 0) dX9_couldMake_45  (Nat.le_of_ble_eq_true rfl) (Nat.le_of_ble_eq_true rfl) (Nat.le_of_ble_eq_true rfl) rfl rfl (Nat.le_of_ble_eq_true rfl) (Nat.le_of_ble_eq_true rfl) rfl ?_
  refine s_X9_pu hR (by omega) (by omega) (hA.f hp (by omega)) (hGo_i ?_)
  refine G_isub dX9_couldMake_48 ?_
  rw [e10]
  refine G_idiv dX9_couldMake_49 (nI_ne0 (by omega) (by omega)) ?_
  refine G_goto (tgt := 54) dX9_couldMake_50 (by decide) ?_
  refine G_iret dX9_couldMake_54 rfl rfl (Nat.le_of_ble_eq_true rfl) (Nat.le_of_ble_eq_true rfl) ?_
  exact h M1 _ hG1 hF hT (fun _ => rfl)
theorem m_ifWeek {x y : Int32} (hG : MG M g) (hO : Okg g) (h : ∀ M' v, MG M' g → Fm M M' → M'.1 20 0 0 5 = nI (qIfWeek g x y).1 → ((qIfWeek g x y).1 = 0 → v = (qIfWeek g x y).2) → P (.inl (some (.int v))) M') : Sp E yX9_ifWeek cX9_ifWeek zX9_ifWeek [.ref (ad E 20 0 0), .int x, .int y] M P := by
  unfold qIfWeek at h
  refine Sp_of (own := RX9) (by decide) rfl rfl (Nat.le_of_ble_eq_true rfl) (fun C => ?_)
  refine G_aload_n dX9_ifWeek_0 rfl ?_
  refine G_iconst (v := 0) dX9_ifWeek_1 (by decide) ?_
  refine pf_X9_41 dX9_ifWeek_2  ?_
  have hG1 : MG (M.up 20 0 0 5 0) g := hG.thr
  have hT : (M.up 20 0 0 5 0).1 20 0 0 5 = 0 := up_at
  have hF : Fm M (M.up 20 0 0 5 0) := Fm.rfl.up ⟨by decide, by decide⟩
  generalize M.up 20 0 0 5 0 = M1 at hG1 hT hF ⊢
  have hR := hG1.1
  have hA := hG1.2.1
  have h12 := hA.n12
  refine G_aload_n dX9_ifWeek_5 rfl ?_
  refine G_aload_n dX9_ifWeek_6 rfl ?_
  refine G_iload_n dX9_ifWeek_7 rfl ?_
  refine cv_X9_297 (cs' := 0) (ss' := 0) dX9_ifWeek_8  (Nat.le_of_ble_eq_true rfl) (Nat.le_of_ble_eq_true rfl) (Nat.le_of_ble_eq_true rfl) rfl rfl (Nat.le_of_ble_eq_true rfl) (Nat.le_of_ble_eq_true rfl) rfl ?_
  refine s_X9_isPupil hR hA (hGo_i ?_)
  by_cases q00 : inP g.A x
  rotate_left
  · rw [if_neg q00]
    refine G_iconst (v := 1) dX9_ifWeek_11 (by decide) ?_
    refine cv_X9_158 (cs' := 0) (ss' := 0) dX9_ifWeek_12  (Nat.le_of_ble_eq_true rfl) (Nat.le_of_ble_eq_true rfl) (Nat.le_of_ble_eq_true rfl) rfl rfl (Nat.le_of_ble_eq_true rfl) (Nat.le_of_ble_eq_true rfl) rfl ?_
    refine s_X9_holds0 hT (by decide) (hGo_i ?_)
    refine G_if_eq (tgt := 32) dX9_ifWeek_15 (by decide) (fun c15 => ?_) (fun c15 => ?_)
    · refine G_iconst (v := 0) dX9_ifWeek_32 (by decide) ?_
      refine G_iret dX9_ifWeek_33 rfl rfl (Nat.le_of_ble_eq_true rfl) (Nat.le_of_ble_eq_true rfl) ?_
      rw [if_neg q00] at h
      exact h _ _ hG1.thr (hF.up ⟨by decide, by decide⟩) up_at (fun z => absurd z (by decide))
    · exact absurd rfl c15
  rw [if_pos q00]
  refine G_iconst (v := 1) dX9_ifWeek_11 (by decide) ?_
  refine cv_X9_158 (cs' := 0) (ss' := 0) dX9_ifWeek_12  (Nat.le_of_ble_eq_true rfl) (Nat.le_of_ble_eq_true rfl) (Nat.le_of_ble_eq_true rfl) rfl rfl (Nat.le_of_ble_eq_true rfl) (Nat.le_of_ble_eq_true rfl) rfl ?_
  rw [if_pos q00] at h
  refine s_X9_holds1 hT (hGo_i ?_)
  refine G_if_eq (tgt := 32) dX9_ifWeek_15 (by decide) (fun c15 => ?_) (fun c15 => ?_)
  · exact absurd c15 (by decide)
  refine G_aload_n dX9_ifWeek_18 rfl ?_
  refine G_iload_n dX9_ifWeek_19 rfl ?_
  refine G_iconst (v := 0) dX9_ifWeek_20 (by decide) ?_
  refine G_iconst (v := 2) dX9_ifWeek_21 (by decide) ?_
  refine cv_X9_162 (cs' := 0) (ss' := 0) dX9_ifWeek_22  (Nat.le_of_ble_eq_true rfl) (Nat.le_of_ble_eq_true rfl) (Nat.le_of_ble_eq_true rfl) rfl rfl (Nat.le_of_ble_eq_true rfl) (Nat.le_of_ble_eq_true rfl) rfl ?_
  refine s_X9_in (hGo_i ?_)
  by_cases q10 : inR y 0 2
  rotate_left
  · rw [if_neg q10]
    refine G_iconst (v := 2) dX9_ifWeek_25 (by decide) ?_
    refine cv_X9_158 (cs' := 0) (ss' := 0) dX9_ifWeek_26  (Nat.le_of_ble_eq_true rfl) (Nat.le_of_ble_eq_true rfl) (Nat.le_of_ble_eq_true rfl) rfl rfl (Nat.le_of_ble_eq_true rfl) (Nat.le_of_ble_eq_true rfl) rfl ?_
    refine s_X9_holds0 hT (by decide) (hGo_i ?_)
    refine G_if_ne (tgt := 34) dX9_ifWeek_29 (by decide) (fun c29 => ?_) (fun c29 => ?_)
    · exact absurd rfl c29
    · refine G_iconst (v := 0) dX9_ifWeek_32 (by decide) ?_
      refine G_iret dX9_ifWeek_33 rfl rfl (Nat.le_of_ble_eq_true rfl) (Nat.le_of_ble_eq_true rfl) ?_
      rw [if_neg q10] at h
      exact h _ _ hG1.thr (hF.up ⟨by decide, by decide⟩) up_at (fun z => absurd z (by decide))
  rw [if_pos q10]
  refine G_iconst (v := 2) dX9_ifWeek_25 (by decide) ?_
  refine cv_X9_158 (cs' := 0) (ss' := 0) dX9_ifWeek_26  (Nat.le_of_ble_eq_true rfl) (Nat.le_of_ble_eq_true rfl) (Nat.le_of_ble_eq_true rfl) rfl rfl (Nat.le_of_ble_eq_true rfl) (Nat.le_of_ble_eq_true rfl) rfl ?_
  rw [if_pos q10] at h
  refine s_X9_holds1 hT (hGo_i ?_)
  refine G_if_ne (tgt := 34) dX9_ifWeek_29 (by decide) (fun c29 => ?_) (fun c29 => ?_)
  rotate_left
  · exact absurd c29 (by decide)
  obtain ⟨p, hp, rfl, ep⟩ := in_ix q00 (by omega)
  rw [ep] at h
  obtain ⟨k, lk, hk, rfl, ek⟩ := inR_ix (i := 0) (k := 2) (by decide) (by decide) q10
  rw [ek] at h
  unfold ifWeekV at h
  rcases (show k = 0 ∨ k = 1 ∨ k = 2 by omega) with rfl | rfl | rfl
  · rw [if_pos rfl] at h
    refine G_iload_n dX9_ifWeek_34 rfl ?_
    refine G_if_ne (tgt := 46) dX9_ifWeek_35 (by decide) (fun c35 => ?_) (fun c35 => ?_)
    · exact absurd rfl c35
    · refine G_aload_n dX9_ifWeek_38 rfl ?_
      refine G_iload_n dX9_ifWeek_39 rfl ?_
      refine cv_X9_136 (cs' := 0) (ss' := 0) dX9_ifWeek_40  (Nat.le_of_ble_eq_true rfl) (Nat.le_of_ble_eq_true rfl) (Nat.le_of_ble_eq_true rfl) rfl rfl (Nat.le_of_ble_eq_true rfl) (Nat.le_of_ble_eq_true rfl) rfl ?_
      refine s_X9_marksL hR hA hO.1 hp (hGo_i ?_)
      refine G_goto (tgt := 64) dX9_ifWeek_43 (by decide) ?_
      refine G_iret dX9_ifWeek_64 rfl rfl (Nat.le_of_ble_eq_true rfl) (Nat.le_of_ble_eq_true rfl) ?_
      exact h M1 _ hG1 hF hT (fun _ => rfl)
  · rw [if_neg (by decide), if_pos rfl] at h
    refine G_iload_n dX9_ifWeek_34 rfl ?_
    refine G_if_ne (tgt := 46) dX9_ifWeek_35 (by decide) (fun c35 => ?_) (fun c35 => ?_)
    · refine G_iload_n dX9_ifWeek_46 rfl ?_
      refine G_iconst (v := 1) dX9_ifWeek_47 (by decide) ?_
      refine G_icmp_ne (tgt := 59) dX9_ifWeek_48 (by decide) (fun c48 => ?_) (fun c48 => ?_)
      · exact absurd rfl c48
      · refine G_aload_n dX9_ifWeek_51 rfl ?_
        refine G_iload_n dX9_ifWeek_52 rfl ?_
        refine cv_X9_133 (cs' := 0) (ss' := 0) dX9_ifWeek_53  (Nat.le_of_ble_eq_true rfl) (Nat.le_of_ble_eq_true rfl) (Nat.le_of_ble_eq_true rfl) rfl rfl (Nat.le_of_ble_eq_true rfl) (Nat.le_of_ble_eq_true rfl) rfl ?_
        refine s_X9_growth hR hA hO.1 hp (hGo_i ?_)
        refine G_goto (tgt := 64) dX9_ifWeek_56 (by decide) ?_
        refine G_iret dX9_ifWeek_64 rfl rfl (Nat.le_of_ble_eq_true rfl) (Nat.le_of_ble_eq_true rfl) ?_
        exact h M1 _ hG1 hF hT (fun _ => rfl)
    · exact absurd c35 (by decide)
  · rw [if_neg (by decide), if_neg (by decide)] at h
    refine G_iload_n dX9_ifWeek_34 rfl ?_
    refine G_if_ne (tgt := 46) dX9_ifWeek_35 (by decide) (fun c35 => ?_) (fun c35 => ?_)
    · refine G_iload_n dX9_ifWeek_46 rfl ?_
      refine G_iconst (v := 1) dX9_ifWeek_47 (by decide) ?_
      refine G_icmp_ne (tgt := 59) dX9_ifWeek_48 (by decide) (fun c48 => ?_) (fun c48 => ?_)
      · refine G_aload_n dX9_ifWeek_59 rfl ?_
        refine G_iload_n dX9_ifWeek_60 rfl ?_
        refine cv_X9_330 (cs' := 0) (ss' := 0) dX9_ifWeek_61  (Nat.le_of_ble_eq_true rfl) (Nat.le_of_ble_eq_true rfl) (Nat.le_of_ble_eq_true rfl) rfl rfl (Nat.le_of_ble_eq_true rfl) (Nat.le_of_ble_eq_true rfl) rfl ?_
        refine s_X9_detentionThen hR hA hO.1 hp (hGo_i ?_)
        refine G_iret dX9_ifWeek_64 rfl rfl (Nat.le_of_ble_eq_true rfl) (Nat.le_of_ble_eq_true rfl) ?_
        exact h M1 _ hG1 hF hT (fun _ => rfl)
      · exact absurd c48 (by decide)
    · exact absurd c35 (by decide)
theorem m_ifMoved {x y z' : Int32} (hG : MG M g) (hO : Okg g) (h : ∀ M' v, MG M' g → Fm M M' → M'.1 20 0 0 5 = nI (qIfMoved g x y z').1 → ((qIfMoved g x y z').1 = 0 → v = (qIfMoved g x y z').2) → P (.inl (some (.int v))) M') : Sp E yX9_ifMoved cX9_ifMoved zX9_ifMoved [.ref (ad E 20 0 0), .int x, .int y, .int z'] M P := by
  unfold qIfMoved at h
  refine Sp_of (own := RX9) (by decide) rfl rfl (Nat.le_of_ble_eq_true rfl) (fun C => ?_)
  refine G_aload_n dX9_ifMoved_0 rfl ?_
  refine G_iconst (v := 0) dX9_ifMoved_1 (by decide) ?_
  refine pf_X9_41 dX9_ifMoved_2  ?_
  have hG1 : MG (M.up 20 0 0 5 0) g := hG.thr
  have hT : (M.up 20 0 0 5 0).1 20 0 0 5 = 0 := up_at
  have hF : Fm M (M.up 20 0 0 5 0) := Fm.rfl.up ⟨by decide, by decide⟩
  generalize M.up 20 0 0 5 0 = M1 at hG1 hT hF ⊢
  have hR := hG1.1
  have hA := hG1.2.1
  have h12 := hA.n12
  refine G_aload_n dX9_ifMoved_5 rfl ?_
  refine G_aload_n dX9_ifMoved_6 rfl ?_
  refine G_iload_n dX9_ifMoved_7 rfl ?_
  refine cv_X9_297 (cs' := 0) (ss' := 0) dX9_ifMoved_8  (Nat.le_of_ble_eq_true rfl) (Nat.le_of_ble_eq_true rfl) (Nat.le_of_ble_eq_true rfl) rfl rfl (Nat.le_of_ble_eq_true rfl) (Nat.le_of_ble_eq_true rfl) rfl ?_
  refine s_X9_isPupil hR hA (hGo_i ?_)
  by_cases q00 : inP g.A x
  rotate_left
  · rw [if_neg q00]
    refine G_iconst (v := 1) dX9_ifMoved_11 (by decide) ?_
    refine cv_X9_158 (cs' := 0) (ss' := 0) dX9_ifMoved_12  (Nat.le_of_ble_eq_true rfl) (Nat.le_of_ble_eq_true rfl) (Nat.le_of_ble_eq_true rfl) rfl rfl (Nat.le_of_ble_eq_true rfl) (Nat.le_of_ble_eq_true rfl) rfl ?_
    refine s_X9_holds0 hT (by decide) (hGo_i ?_)
    refine G_if_eq (tgt := 59) dX9_ifMoved_15 (by decide) (fun c15 => ?_) (fun c15 => ?_)
    · refine G_iconst (v := 0) dX9_ifMoved_59 (by decide) ?_
      refine G_iret dX9_ifMoved_60 rfl rfl (Nat.le_of_ble_eq_true rfl) (Nat.le_of_ble_eq_true rfl) ?_
      rw [if_neg q00] at h
      exact h _ _ hG1.thr (hF.up ⟨by decide, by decide⟩) up_at (fun z => absurd z (by decide))
    · exact absurd rfl c15
  rw [if_pos q00]
  refine G_iconst (v := 1) dX9_ifMoved_11 (by decide) ?_
  refine cv_X9_158 (cs' := 0) (ss' := 0) dX9_ifMoved_12  (Nat.le_of_ble_eq_true rfl) (Nat.le_of_ble_eq_true rfl) (Nat.le_of_ble_eq_true rfl) rfl rfl (Nat.le_of_ble_eq_true rfl) (Nat.le_of_ble_eq_true rfl) rfl ?_
  rw [if_pos q00] at h
  refine s_X9_holds1 hT (hGo_i ?_)
  refine G_if_eq (tgt := 59) dX9_ifMoved_15 (by decide) (fun c15 => ?_) (fun c15 => ?_)
  · exact absurd c15 (by decide)
  refine G_aload_n dX9_ifMoved_18 rfl ?_
  refine G_iload_n dX9_ifMoved_19 rfl ?_
  refine G_iconst (v := 0) dX9_ifMoved_20 (by decide) ?_
  refine G_iconst (v := 5) dX9_ifMoved_21 (by decide) ?_
  refine cv_X9_162 (cs' := 0) (ss' := 0) dX9_ifMoved_22  (Nat.le_of_ble_eq_true rfl) (Nat.le_of_ble_eq_true rfl) (Nat.le_of_ble_eq_true rfl) rfl rfl (Nat.le_of_ble_eq_true rfl) (Nat.le_of_ble_eq_true rfl) rfl ?_
  refine s_X9_in (hGo_i ?_)
  by_cases q10 : inR y 0 5
  rotate_left
  · rw [if_neg q10]
    refine G_if_eq (tgt := 41) dX9_ifMoved_25 (by decide) (fun c25 => ?_) (fun c25 => ?_)
    rotate_left
    · exact absurd rfl c25
    refine G_iconst (v := 0) dX9_ifMoved_41 (by decide) ?_
    refine G_iconst (v := 2) dX9_ifMoved_42 (by decide) ?_
    refine cv_X9_158 (cs' := 0) (ss' := 0) dX9_ifMoved_43  (Nat.le_of_ble_eq_true rfl) (Nat.le_of_ble_eq_true rfl) (Nat.le_of_ble_eq_true rfl) rfl rfl (Nat.le_of_ble_eq_true rfl) (Nat.le_of_ble_eq_true rfl) rfl ?_
    refine s_X9_holds0 hT (by decide) (hGo_i ?_)
    refine G_if_eq (tgt := 59) dX9_ifMoved_46 (by decide) (fun c46 => ?_) (fun c46 => ?_)
    · refine G_iconst (v := 0) dX9_ifMoved_59 (by decide) ?_
      refine G_iret dX9_ifMoved_60 rfl rfl (Nat.le_of_ble_eq_true rfl) (Nat.le_of_ble_eq_true rfl) ?_
      rw [if_neg (fun z => q10 z.1)] at h
      exact h _ _ hG1.thr (hF.up ⟨by decide, by decide⟩) up_at (fun z => absurd z (by decide))
    · exact absurd rfl c46
  rw [if_pos q10]
  refine G_if_eq (tgt := 41) dX9_ifMoved_25 (by decide) (fun c25 => ?_) (fun c25 => ?_)
  · exact absurd c25 (by decide)
  refine G_iload_n dX9_ifMoved_28 rfl ?_
  refine G_iconst (v := 0) dX9_ifMoved_29 (by decide) ?_
  refine G_iconst (v := 5) dX9_ifMoved_30 (by decide) ?_
  refine cv_X9_162 (cs' := 0) (ss' := 0) dX9_ifMoved_31  (Nat.le_of_ble_eq_true rfl) (Nat.le_of_ble_eq_true rfl) (Nat.le_of_ble_eq_true rfl) rfl rfl (Nat.le_of_ble_eq_true rfl) (Nat.le_of_ble_eq_true rfl) rfl ?_
  refine s_X9_in (hGo_i ?_)
  by_cases q11 : inR z' 0 5
  rotate_left
  · rw [if_neg q11]
    refine G_if_eq (tgt := 41) dX9_ifMoved_34 (by decide) (fun c34 => ?_) (fun c34 => ?_)
    rotate_left
    · exact absurd rfl c34
    refine G_iconst (v := 0) dX9_ifMoved_41 (by decide) ?_
    refine G_iconst (v := 2) dX9_ifMoved_42 (by decide) ?_
    refine cv_X9_158 (cs' := 0) (ss' := 0) dX9_ifMoved_43  (Nat.le_of_ble_eq_true rfl) (Nat.le_of_ble_eq_true rfl) (Nat.le_of_ble_eq_true rfl) rfl rfl (Nat.le_of_ble_eq_true rfl) (Nat.le_of_ble_eq_true rfl) rfl ?_
    refine s_X9_holds0 hT (by decide) (hGo_i ?_)
    refine G_if_eq (tgt := 59) dX9_ifMoved_46 (by decide) (fun c46 => ?_) (fun c46 => ?_)
    · refine G_iconst (v := 0) dX9_ifMoved_59 (by decide) ?_
      refine G_iret dX9_ifMoved_60 rfl rfl (Nat.le_of_ble_eq_true rfl) (Nat.le_of_ble_eq_true rfl) ?_
      rw [if_neg (fun z => q11 z.2)] at h
      exact h _ _ hG1.thr (hF.up ⟨by decide, by decide⟩) up_at (fun z => absurd z (by decide))
    · exact absurd rfl c46
  rw [if_pos q11]
  refine G_if_eq (tgt := 41) dX9_ifMoved_34 (by decide) (fun c34 => ?_) (fun c34 => ?_)
  · exact absurd c34 (by decide)
  refine G_iconst (v := 1) dX9_ifMoved_37 (by decide) ?_
  refine G_goto (tgt := 42) dX9_ifMoved_38 (by decide) ?_
  refine G_iconst (v := 2) dX9_ifMoved_42 (by decide) ?_
  refine cv_X9_158 (cs' := 0) (ss' := 0) dX9_ifMoved_43  (Nat.le_of_ble_eq_true rfl) (Nat.le_of_ble_eq_true rfl) (Nat.le_of_ble_eq_true rfl) rfl rfl (Nat.le_of_ble_eq_true rfl) (Nat.le_of_ble_eq_true rfl) rfl ?_
  rw [if_pos ⟨q10, q11⟩] at h
  refine s_X9_holds1 hT (hGo_i ?_)
  refine G_if_eq (tgt := 59) dX9_ifMoved_46 (by decide) (fun c46 => ?_) (fun c46 => ?_)
  · exact absurd c46 (by decide)
  obtain ⟨p, hp, rfl, ep⟩ := in_ix q00 (by omega)
  rw [ep] at h
  refine G_aload_n dX9_ifMoved_49 rfl ?_
  refine G_iload_n dX9_ifMoved_50 rfl ?_
  refine G_iload_n dX9_ifMoved_51 rfl ?_
  refine G_iload_n dX9_ifMoved_52 rfl ?_
  refine cv_X9_342 (cs' := 0) (ss' := 0) dX9_ifMoved_53  (Nat.le_of_ble_eq_true rfl) (Nat.le_of_ble_eq_true rfl) (Nat.le_of_ble_eq_true rfl) rfl rfl (Nat.le_of_ble_eq_true rfl) (Nat.le_of_ble_eq_true rfl) rfl ?_
  refine s_X9_spiesNear hR hA hO.1.2.2.1 hp (hGo_i ?_)
  refine G_goto (tgt := 60) dX9_ifMoved_56 (by decide) ?_
  refine G_iret dX9_ifMoved_60 rfl rfl (Nat.le_of_ble_eq_true rfl) (Nat.le_of_ble_eq_true rfl) ?_
  exact h M1 _ hG1 hF hT (fun _ => rfl)
end MQRY
