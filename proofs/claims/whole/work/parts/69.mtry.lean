/-! ===== HomeworkBarterModel: accounts, what would be ===== -/
section MTRY
variable {E : Ed} {M M' : Mm} {P : Res → Mm → Prop} {A : Ab} {o : Nat} {g : Gs}
theorem i_sub2 {a d e : Int32} : a - d - e = a - (d + e) := by
  simp only [Int32.sub_eq_add_neg, Int32.neg_add]
  ac_rfl
theorem sm_sub {f h : Nat → Int32} : ∀ n, sm n (fun k => f k - h k) = sm n f - sm n h
  | 0 => (show (0 : Int32) = 0 - 0 by decide)
  | n + 1 => by
    show sm n (fun k => f k - h k) + (f n - h n) = sm n f + f n - (sm n h + h n)
    rw [sm_sub n]
    simp only [Int32.sub_eq_add_neg, Int32.neg_add]
    ac_rfl
theorem m_gap (hG : MG M g) (hO : Okg g) (h : ∀ M', MG M' g → Fm M M' → M'.1 20 0 0 5 = 0 → P (.inl (some (.int (gapV g.A)))) M') : Sp E yX9_gap cX9_gap zX9_gap [.ref (ad E 20 0 0)] M P := by
  refine Sp_of (own := RX9) (by decide) rfl rfl (Nat.le_of_ble_eq_true rfl) (fun C => ?_)
  refine G_aload_n dX9_gap_0 rfl ?_
  refine G_iconst (v := 0) dX9_gap_1 (by decide) ?_
  refine pf_X9_41 dX9_gap_2  ?_
  have hG1 : MG (M.up 20 0 0 5 0) g := hG.thr
  have hT : (M.up 20 0 0 5 0).1 20 0 0 5 = 0 := up_at
  have hF : Fm M (M.up 20 0 0 5 0) := Fm.rfl.up ⟨by decide, by decide⟩
  generalize M.up 20 0 0 5 0 = M1 at hG1 hT hF ⊢
  have hR := hG1.1
  have hA := hG1.2.1
  have h12 := hA.n12
  refine G_aload_n dX9_gap_5 rfl ?_
  refine G_bipush (v := 7) dX9_gap_6 (by decide) ?_
  refine cv_X9_50 (cs' := 0) (ss' := 0) dX9_gap_8  (Nat.le_of_ble_eq_true rfl) (Nat.le_of_ble_eq_true rfl) (Nat.le_of_ble_eq_true rfl) rfl rfl (Nat.le_of_ble_eq_true rfl) (Nat.le_of_ble_eq_true rfl) rfl ?_
  refine s_X9_get (w := 7) hR (by decide) (hA.tl (t := 0) (by decide)) (hGo_i ?_)
  refine G_aload_n dX9_gap_11 rfl ?_
  refine G_bipush (v := 8) dX9_gap_12 (by decide) ?_
  refine cv_X9_50 (cs' := 0) (ss' := 0) dX9_gap_14  (Nat.le_of_ble_eq_true rfl) (Nat.le_of_ble_eq_true rfl) (Nat.le_of_ble_eq_true rfl) rfl rfl (Nat.le_of_ble_eq_true rfl) (Nat.le_of_ble_eq_true rfl) rfl ?_
  refine s_X9_get (w := 8) hR (by decide) (hA.tl (t := 1) (by decide)) (hGo_i ?_)
  refine G_iadd dX9_gap_17 ?_
  refine G_aload_n dX9_gap_18 rfl ?_
  refine G_iconst (v := 0) dX9_gap_19 (by decide) ?_
  refine cv_X9_288 (cs' := 0) (ss' := 0) dX9_gap_20  (Nat.le_of_ble_eq_true rfl) (Nat.le_of_ble_eq_true rfl) (Nat.le_of_ble_eq_true rfl) rfl rfl (Nat.le_of_ble_eq_true rfl) (Nat.le_of_ble_eq_true rfl) rfl ?_
  refine s_X9_piecesIn (s := 0) hR hA (by decide) (hGo_i ?_)
  refine G_isub dX9_gap_23 ?_
  refine G_aload_n dX9_gap_24 rfl ?_
  refine G_iconst (v := 1) dX9_gap_25 (by decide) ?_
  refine cv_X9_288 (cs' := 0) (ss' := 0) dX9_gap_26  (Nat.le_of_ble_eq_true rfl) (Nat.le_of_ble_eq_true rfl) (Nat.le_of_ble_eq_true rfl) rfl rfl (Nat.le_of_ble_eq_true rfl) (Nat.le_of_ble_eq_true rfl) rfl ?_
  refine s_X9_piecesIn (s := 1) hR hA (by decide) (hGo_i ?_)
  refine G_isub dX9_gap_29 ?_
  refine G_aload_n dX9_gap_30 rfl ?_
  refine G_bipush (v := 12) dX9_gap_31 (by decide) ?_
  refine cv_X9_50 (cs' := 0) (ss' := 0) dX9_gap_33  (Nat.le_of_ble_eq_true rfl) (Nat.le_of_ble_eq_true rfl) (Nat.le_of_ble_eq_true rfl) rfl rfl (Nat.le_of_ble_eq_true rfl) (Nat.le_of_ble_eq_true rfl) rfl ?_
  refine s_X9_get (w := 12) hR (by decide) (hA.tl (t := 5) (by decide)) (hGo_i ?_)
  refine G_isub dX9_gap_36 ?_
  refine G_aload_n dX9_gap_37 rfl ?_
  refine G_bipush (v := 13) dX9_gap_38 (by decide) ?_
  refine cv_X9_50 (cs' := 0) (ss' := 0) dX9_gap_40  (Nat.le_of_ble_eq_true rfl) (Nat.le_of_ble_eq_true rfl) (Nat.le_of_ble_eq_true rfl) rfl rfl (Nat.le_of_ble_eq_true rfl) (Nat.le_of_ble_eq_true rfl) rfl ?_
  refine s_X9_get (w := 13) hR (by decide) (hA.tl (t := 6) (by decide)) (hGo_i ?_)
  refine G_isub dX9_gap_43 ?_
  refine G_istore_n dX9_gap_44 (Nat.le_of_ble_eq_true rfl) ?_
  refine G_iconst (v := 0) dX9_gap_45 (by decide) ?_
  refine G_istore_n dX9_gap_46 (Nat.le_of_ble_eq_true rfl) ?_
  refine G_iconst (v := 0) dX9_gap_47 (by decide) ?_
  refine G_istore_n dX9_gap_48 (Nat.le_of_ble_eq_true rfl) ?_
  refine G_iconst (v := 0) dX9_gap_49 (by decide) ?_
  refine G_istore dX9_gap_50 (Nat.le_of_ble_eq_true rfl) ?_
  refine G_lv (lv' := [(0, .ref (ad E 20 0 0)), (1, .int (g.A.g 7 + g.A.g 8 - piecesV g.A 0 - piecesV g.A 1 - g.A.g 12 - g.A.g 13)), (2, .int (sm 0 (fun i => owedByV g.A i - owedToV g.A i))), (3, .int 0), (4, .int (nI 0))]) ⟨rfl, rfl, rfl, rfl, rfl, trivial⟩ ?_
  refine up0 (c := g.A.n) (H := fun i => G E C RX9 cX9_gap zX9_gap P 0 0 M1 52 [(0, .ref (ad E 20 0 0)), (1, .int (g.A.g 7 + g.A.g 8 - piecesV g.A 0 - piecesV g.A 1 - g.A.g 12 - g.A.g 13)), (2, .int (sm i (fun i => owedByV g.A i - owedToV g.A i))), (3, .int 0), (4, .int (nI i))] []) ?_ (fun i hi ih => ?_)
  · refine G_iload dX9_gap_52 rfl ?_
    refine G_aload_n dX9_gap_54 rfl ?_
    refine G_iconst (v := 0) dX9_gap_55 (by decide) ?_
    refine cv_X9_50 (cs' := 0) (ss' := 0) dX9_gap_56  (Nat.le_of_ble_eq_true rfl) (Nat.le_of_ble_eq_true rfl) (Nat.le_of_ble_eq_true rfl) rfl rfl (Nat.le_of_ble_eq_true rfl) (Nat.le_of_ble_eq_true rfl) rfl ?_
    refine s_X9_get (w := 0) hR (by decide) hA.n (hGo_i ?_)
    refine G_icmp_ge (tgt := 130) dX9_gap_59 (by decide) (fun c59 => ?_) (fun c59 => ?_)
    · have eg : gapV g.A = iabs (g.A.g 7 + g.A.g 8 - piecesV g.A 0 - piecesV g.A 1 - g.A.g 12 - g.A.g 13) + iabs (sm g.A.n (fun i => owedByV g.A i - owedToV g.A i)) + 0 := by
        unfold gapV
        rw [i_sub2 (e := g.A.g 13), sm_sub (f := owedByV g.A) (h := owedToV g.A), Int32.add_zero]
      have h := h M1 hG1 hF hT
      rw [eg] at h
      refine G_iload_n dX9_gap_130 rfl ?_
      refine G_mabs dX9_gap_131 (hqx 1650 (by decide +kernel) rfl) (hqx 682 (by decide +kernel) rfl) (hqx 16 (by decide +kernel) rfl) (hqx 683 (by decide +kernel) rfl) (Nat.le_of_ble_eq_true rfl) (Nat.le_of_ble_eq_true rfl) (Nat.le_of_ble_eq_true rfl) (Nat.le_of_ble_eq_true rfl) ?_
      refine G_iload_n dX9_gap_134 rfl ?_
      refine G_mabs dX9_gap_135 (hqx 1650 (by decide +kernel) rfl) (hqx 682 (by decide +kernel) rfl) (hqx 16 (by decide +kernel) rfl) (hqx 683 (by decide +kernel) rfl) (Nat.le_of_ble_eq_true rfl) (Nat.le_of_ble_eq_true rfl) (Nat.le_of_ble_eq_true rfl) (Nat.le_of_ble_eq_true rfl) ?_
      refine G_iadd dX9_gap_138 ?_
      refine G_iload_n dX9_gap_139 rfl ?_
      refine G_iadd dX9_gap_140 ?_
      refine G_iret dX9_gap_141 rfl rfl (Nat.le_of_ble_eq_true rfl) (Nat.le_of_ble_eq_true rfl) ?_
      exact h
    · exact absurd (Int32.le_refl _) c59
  · have l0 := hA.l20 hi (s := 0) (by decide)
    have l1 := hA.l20 hi (s := 1) (by decide)
    refine G_iload dX9_gap_52 rfl ?_
    refine G_aload_n dX9_gap_54 rfl ?_
    refine G_iconst (v := 0) dX9_gap_55 (by decide) ?_
    refine cv_X9_50 (cs' := 0) (ss' := 0) dX9_gap_56  (Nat.le_of_ble_eq_true rfl) (Nat.le_of_ble_eq_true rfl) (Nat.le_of_ble_eq_true rfl) rfl rfl (Nat.le_of_ble_eq_true rfl) (Nat.le_of_ble_eq_true rfl) rfl ?_
    refine s_X9_get (w := 0) hR (by decide) hA.n (hGo_i ?_)
    refine G_icmp_ge (tgt := 130) dX9_gap_59 (by decide) (fun c59 => ?_) (fun c59 => ?_)
    · exact absurd c59 (nI_ge hi (by omega))
    · refine G_iload_n dX9_gap_62 rfl ?_
      refine G_aload_n dX9_gap_63 rfl ?_
      refine G_iload dX9_gap_64 rfl ?_
      refine G_iconst (v := 0) dX9_gap_66 (by decide) ?_
      refine cv_X9_300 (cs' := 0) (ss' := 0) dX9_gap_67  (Nat.le_of_ble_eq_true rfl) (Nat.le_of_ble_eq_true rfl) (Nat.le_of_ble_eq_true rfl) rfl rfl (Nat.le_of_ble_eq_true rfl) (Nat.le_of_ble_eq_true rfl) rfl ?_
      refine s_X9_allOf (t := 0) hR hA (by decide) (hGo_i ?_)
      refine G_aload_n dX9_gap_70 rfl ?_
      refine G_iload dX9_gap_71 rfl ?_
      refine G_iconst (v := 1) dX9_gap_73 (by decide) ?_
      refine cv_X9_300 (cs' := 0) (ss' := 0) dX9_gap_74  (Nat.le_of_ble_eq_true rfl) (Nat.le_of_ble_eq_true rfl) (Nat.le_of_ble_eq_true rfl) rfl rfl (Nat.le_of_ble_eq_true rfl) (Nat.le_of_ble_eq_true rfl) rfl ?_
      refine s_X9_allOf (t := 1) hR hA (by decide) (hGo_i ?_)
      refine G_isub dX9_gap_77 ?_
      refine G_iadd dX9_gap_78 ?_
      refine G_istore_n dX9_gap_79 (Nat.le_of_ble_eq_true rfl) ?_
      refine G_iload_n dX9_gap_80 rfl ?_
      refine G_aload_n dX9_gap_81 rfl ?_
      refine G_iload dX9_gap_82 rfl ?_
      refine G_iconst (v := 0) dX9_gap_84 (by decide) ?_
      refine cv_X9_65 (cs' := 0) (ss' := 0) dX9_gap_85  (Nat.le_of_ble_eq_true rfl) (Nat.le_of_ble_eq_true rfl) (Nat.le_of_ble_eq_true rfl) rfl rfl (Nat.le_of_ble_eq_true rfl) (Nat.le_of_ble_eq_true rfl) rfl ?_
      refine s_X9_many (s := 0) hR (by omega) (by decide) (hA.many hi (by decide)) (hGo_i ?_)
      refine G_bipush (v := 20) dX9_gap_88 (by decide) ?_
      refine G_icmp_le (tgt := 97) dX9_gap_90 (by decide) (fun c90 => ?_) (fun c90 => ?_)
      rotate_left
      · exact absurd (nI_le l0 (by decide)) c90
      refine G_iconst (v := 0) dX9_gap_97 (by decide) ?_
      refine cv_X9_110 (cs' := 0) (ss' := 0) dX9_gap_98  (Nat.le_of_ble_eq_true rfl) (Nat.le_of_ble_eq_true rfl) (Nat.le_of_ble_eq_true rfl) rfl rfl (Nat.le_of_ble_eq_true rfl) (Nat.le_of_ble_eq_true rfl) rfl ?_
      refine s_X9_one (Or.inl rfl) (hGo_i ?_)
      refine G_aload_n dX9_gap_101 rfl ?_
      refine G_iload dX9_gap_102 rfl ?_
      refine G_iconst (v := 1) dX9_gap_104 (by decide) ?_
      refine cv_X9_65 (cs' := 0) (ss' := 0) dX9_gap_105  (Nat.le_of_ble_eq_true rfl) (Nat.le_of_ble_eq_true rfl) (Nat.le_of_ble_eq_true rfl) rfl rfl (Nat.le_of_ble_eq_true rfl) (Nat.le_of_ble_eq_true rfl) rfl ?_
      refine s_X9_many (s := 1) hR (by omega) (by decide) (hA.many hi (by decide)) (hGo_i ?_)
      refine G_bipush (v := 20) dX9_gap_108 (by decide) ?_
      refine G_icmp_le (tgt := 117) dX9_gap_110 (by decide) (fun c110 => ?_) (fun c110 => ?_)
      rotate_left
      · exact absurd (nI_le l1 (by decide)) c110
      refine G_iconst (v := 0) dX9_gap_117 (by decide) ?_
      refine cv_X9_110 (cs' := 0) (ss' := 0) dX9_gap_118  (Nat.le_of_ble_eq_true rfl) (Nat.le_of_ble_eq_true rfl) (Nat.le_of_ble_eq_true rfl) rfl rfl (Nat.le_of_ble_eq_true rfl) (Nat.le_of_ble_eq_true rfl) rfl ?_
      refine s_X9_one (Or.inl rfl) (hGo_i ?_)
      refine G_iadd dX9_gap_121 ?_
      refine G_iadd dX9_gap_122 ?_
      refine G_istore_n dX9_gap_123 (Nat.le_of_ble_eq_true rfl) ?_
      refine G_iinc (v := 1) dX9_gap_124 rfl (Nat.le_of_ble_eq_true rfl) (by decide) ?_
      refine G_goto (tgt := 52) dX9_gap_127 (by decide) ?_
      exact G_lv2 ih ⟨rfl, rfl, rfl, rfl, lvi (nI_1 i), trivial⟩
theorem m_meanMarks (hG : MG M g) (hO : Okg g) (h : ∀ M', MG M' g → Fm M M' → M'.1 20 0 0 5 = 0 → P (.inl (some (.double (meanV g.A)))) M') : Sp E yX9_meanMarks cX9_meanMarks zX9_meanMarks [.ref (ad E 20 0 0)] M P := by
  refine Sp_of (own := RX9) (by decide) rfl rfl (Nat.le_of_ble_eq_true rfl) (fun C => ?_)
  refine G_aload_n dX9_meanMarks_0 rfl ?_
  refine G_iconst (v := 0) dX9_meanMarks_1 (by decide) ?_
  refine pf_X9_41 dX9_meanMarks_2  ?_
  have hG1 : MG (M.up 20 0 0 5 0) g := hG.thr
  have hT : (M.up 20 0 0 5 0).1 20 0 0 5 = 0 := up_at
  have hF : Fm M (M.up 20 0 0 5 0) := Fm.rfl.up ⟨by decide, by decide⟩
  generalize M.up 20 0 0 5 0 = M1 at hG1 hT hF ⊢
  have hR := hG1.1
  have hA := hG1.2.1
  have h12 := hA.n12
  have h2 := hO.1.1.1
  refine G_aload_n dX9_meanMarks_5 rfl ?_
  refine G_bipush (v := 7) dX9_meanMarks_6 (by decide) ?_
  refine cv_X9_81 (cs' := 0) (ss' := 0) dX9_meanMarks_8  (Nat.le_of_ble_eq_true rfl) (Nat.le_of_ble_eq_true rfl) (Nat.le_of_ble_eq_true rfl) rfl rfl (Nat.le_of_ble_eq_true rfl) (Nat.le_of_ble_eq_true rfl) rfl ?_
  refine s_X9_sumOf (t := 7) (f := fun p => g.A.f p 7) hR hA (by decide) (fun p hp => hA.f hp (by decide)) (hGo_i ?_)
  refine G_i2d dX9_meanMarks_11 ?_
  refine G_aload_n dX9_meanMarks_12 rfl ?_
  refine G_iconst (v := 0) dX9_meanMarks_13 (by decide) ?_
  refine cv_X9_50 (cs' := 0) (ss' := 0) dX9_meanMarks_14  (Nat.le_of_ble_eq_true rfl) (Nat.le_of_ble_eq_true rfl) (Nat.le_of_ble_eq_true rfl) rfl rfl (Nat.le_of_ble_eq_true rfl) (Nat.le_of_ble_eq_true rfl) rfl ?_
  refine s_X9_get (w := 0) hR (by decide) hA.n (hGo_i ?_)
  refine G_i2d dX9_meanMarks_17 ?_
  refine G_ddiv dX9_meanMarks_18 (qn64 (nI_ne0 (by omega) (by omega))) ?_
  refine G_dret dX9_meanMarks_19 rfl (Nat.le_of_ble_eq_true rfl) (Nat.le_of_ble_eq_true rfl) ?_
  exact h M1 hG1 hF hT
theorem m_ownShare {x : Int32} (hG : MG M g) (hO : Okg g) (h : ∀ M' v, MG M' g → Fm M M' → M'.1 20 0 0 5 = (if inP g.A x then 0 else 1) → (∀ p, p < g.A.n → x = nI p → v = ownV g.A p) → P (.inl (some (.float v))) M') : Sp E yX9_ownShare cX9_ownShare zX9_ownShare [.ref (ad E 20 0 0), .int x] M P := by
  refine Sp_of (own := RX9) (by decide) rfl rfl (Nat.le_of_ble_eq_true rfl) (fun C => ?_)
  refine G_aload_n dX9_ownShare_0 rfl ?_
  refine G_iconst (v := 0) dX9_ownShare_1 (by decide) ?_
  refine pf_X9_41 dX9_ownShare_2  ?_
  have hG1 : MG (M.up 20 0 0 5 0) g := hG.thr
  have hT : (M.up 20 0 0 5 0).1 20 0 0 5 = 0 := up_at
  have hF : Fm M (M.up 20 0 0 5 0) := Fm.rfl.up ⟨by decide, by decide⟩
  generalize M.up 20 0 0 5 0 = M1 at hG1 hT hF ⊢
  have hR := hG1.1
  have hA := hG1.2.1
  have h12 := hA.n12
  refine G_aload_n dX9_ownShare_5 rfl ?_
  refine G_aload_n dX9_ownShare_6 rfl ?_
  refine G_iload_n dX9_ownShare_7 rfl ?_
  refine cv_X9_297 (cs' := 0) (ss' := 0) dX9_ownShare_8  (Nat.le_of_ble_eq_true rfl) (Nat.le_of_ble_eq_true rfl) (Nat.le_of_ble_eq_true rfl) rfl rfl (Nat.le_of_ble_eq_true rfl) (Nat.le_of_ble_eq_true rfl) rfl ?_
  refine s_X9_isPupil hR hA (hGo_i ?_)
  by_cases q00 : inP g.A x
  rotate_left
  · rw [if_neg q00]
    refine G_iconst (v := 1) dX9_ownShare_11 (by decide) ?_
    refine cv_X9_158 (cs' := 0) (ss' := 0) dX9_ownShare_12  (Nat.le_of_ble_eq_true rfl) (Nat.le_of_ble_eq_true rfl) (Nat.le_of_ble_eq_true rfl) rfl rfl (Nat.le_of_ble_eq_true rfl) (Nat.le_of_ble_eq_true rfl) rfl ?_
    refine s_X9_holds0 hT (by decide) (hGo_i ?_)
    refine G_if_ne (tgt := 20) dX9_ownShare_15 (by decide) (fun c15 => ?_) (fun c15 => ?_)
    · exact absurd rfl c15
    · refine G_fconst0 dX9_ownShare_18 ?_
      refine G_fret dX9_ownShare_19 rfl (Nat.le_of_ble_eq_true rfl) (Nat.le_of_ble_eq_true rfl) ?_
      refine h _ _ hG1.thr (hF.up ⟨by decide, by decide⟩) (by rw [if_neg q00]; exact up_at) (fun p hp e => absurd (show inP g.A x from ?_) q00)
      rw [e]
      exact ⟨nI_le (a := 0) (by omega) (by omega), nI_lt hp (by omega)⟩
  rw [if_pos q00]
  refine G_iconst (v := 1) dX9_ownShare_11 (by decide) ?_
  refine cv_X9_158 (cs' := 0) (ss' := 0) dX9_ownShare_12  (Nat.le_of_ble_eq_true rfl) (Nat.le_of_ble_eq_true rfl) (Nat.le_of_ble_eq_true rfl) rfl rfl (Nat.le_of_ble_eq_true rfl) (Nat.le_of_ble_eq_true rfl) rfl ?_
  refine s_X9_holds1 hT (hGo_i ?_)
  refine G_if_ne (tgt := 20) dX9_ownShare_15 (by decide) (fun c15 => ?_) (fun c15 => ?_)
  rotate_left
  · exact absurd c15 (by decide)
  obtain ⟨p, hp, rfl, ep⟩ := in_ix q00 (by omega)
  have h : ∀ v, v = ownV g.A p → P (.inl (some (.float v))) M1 := fun v hv => h M1 v hG1 hF (by rw [if_pos q00]; exact hT) (fun k hk e => by rw [(nI_eq (by omega) (by omega)).mp e] at hv; exact hv)
  have l0 := hA.l20 hp (s := 0) (by decide)
  have l1 := hA.l20 hp (s := 1) (by decide)
  refine G_aload_n dX9_ownShare_20 rfl ?_
  refine G_iload_n dX9_ownShare_21 rfl ?_
  refine G_iconst (v := 0) dX9_ownShare_22 (by decide) ?_
  refine cv_X9_65 (cs' := 0) (ss' := 0) dX9_ownShare_23  (Nat.le_of_ble_eq_true rfl) (Nat.le_of_ble_eq_true rfl) (Nat.le_of_ble_eq_true rfl) rfl rfl (Nat.le_of_ble_eq_true rfl) (Nat.le_of_ble_eq_true rfl) rfl ?_
  refine s_X9_many (s := 0) hR (by omega) (by decide) (hA.many hp (by decide)) (hGo_i ?_)
  refine G_aload_n dX9_ownShare_26 rfl ?_
  refine G_iload_n dX9_ownShare_27 rfl ?_
  refine G_iconst (v := 1) dX9_ownShare_28 (by decide) ?_
  refine cv_X9_65 (cs' := 0) (ss' := 0) dX9_ownShare_29  (Nat.le_of_ble_eq_true rfl) (Nat.le_of_ble_eq_true rfl) (Nat.le_of_ble_eq_true rfl) rfl rfl (Nat.le_of_ble_eq_true rfl) (Nat.le_of_ble_eq_true rfl) rfl ?_
  refine s_X9_many (s := 1) hR (by omega) (by decide) (hA.many hp (by decide)) (hGo_i ?_)
  refine G_iadd dX9_ownShare_32 ?_
  rw [nI_add]
  refine G_istore_n dX9_ownShare_33 (Nat.le_of_ble_eq_true rfl) ?_
  refine G_aload_n dX9_ownShare_34 rfl ?_
  refine G_iload_n dX9_ownShare_35 rfl ?_
  refine G_iconst (v := 0) dX9_ownShare_36 (by decide) ?_
  refine G_iload_n dX9_ownShare_37 rfl ?_
  refine G_aload_n dX9_ownShare_38 rfl ?_
  refine G_iload_n dX9_ownShare_39 rfl ?_
  refine G_iconst (v := 0) dX9_ownShare_40 (by decide) ?_
  refine cv_X9_65 (cs' := 0) (ss' := 0) dX9_ownShare_41  (Nat.le_of_ble_eq_true rfl) (Nat.le_of_ble_eq_true rfl) (Nat.le_of_ble_eq_true rfl) rfl rfl (Nat.le_of_ble_eq_true rfl) (Nat.le_of_ble_eq_true rfl) rfl ?_
  refine s_X9_many (s := 0) hR (by omega) (by decide) (hA.many hp (by decide)) (hGo_i ?_)
  refine cv_X9_126 (cs' := 0) (ss' := 0) dX9_ownShare_44  (Nat.le_of_ble_eq_true rfl) (Nat.le_of_ble_eq_true rfl) (Nat.le_of_ble_eq_true rfl) rfl rfl (Nat.le_of_ble_eq_true rfl) (Nat.le_of_ble_eq_true rfl) rfl ?_
  refine s_X9_ofMaker (s := 0) hR hA hp (by decide) (Nat.le_refl _) (hGo_i ?_)
  refine G_aload_n dX9_ownShare_47 rfl ?_
  refine G_iload_n dX9_ownShare_48 rfl ?_
  refine G_iconst (v := 1) dX9_ownShare_49 (by decide) ?_
  refine G_iload_n dX9_ownShare_50 rfl ?_
  refine G_aload_n dX9_ownShare_51 rfl ?_
  refine G_iload_n dX9_ownShare_52 rfl ?_
  refine G_iconst (v := 1) dX9_ownShare_53 (by decide) ?_
  refine cv_X9_65 (cs' := 0) (ss' := 0) dX9_ownShare_54  (Nat.le_of_ble_eq_true rfl) (Nat.le_of_ble_eq_true rfl) (Nat.le_of_ble_eq_true rfl) rfl rfl (Nat.le_of_ble_eq_true rfl) (Nat.le_of_ble_eq_true rfl) rfl ?_
  refine s_X9_many (s := 1) hR (by omega) (by decide) (hA.many hp (by decide)) (hGo_i ?_)
  refine cv_X9_126 (cs' := 0) (ss' := 0) dX9_ownShare_57  (Nat.le_of_ble_eq_true rfl) (Nat.le_of_ble_eq_true rfl) (Nat.le_of_ble_eq_true rfl) rfl rfl (Nat.le_of_ble_eq_true rfl) (Nat.le_of_ble_eq_true rfl) rfl ?_
  refine s_X9_ofMaker (s := 1) hR hA hp (by decide) (Nat.le_refl _) (hGo_i ?_)
  refine G_iadd dX9_ownShare_60 ?_
  refine G_istore_n dX9_ownShare_61 (Nat.le_of_ble_eq_true rfl) ?_
  refine G_iload_n dX9_ownShare_62 rfl ?_
  refine G_if_ne (tgt := 70) dX9_ownShare_63 (by decide) (fun c63 => ?_) (fun c63 => ?_)
  · have e : ¬ (g.A.s (2 * p + 0)).length + (g.A.s (2 * p + 1)).length = 0 := fun q => c63 (by rw [q]; rfl)
    refine G_iload_n dX9_ownShare_70 rfl ?_
    refine G_i2f dX9_ownShare_71 ?_
    refine G_iload_n dX9_ownShare_72 rfl ?_
    refine G_i2f dX9_ownShare_73 ?_
    refine G_fdiv dX9_ownShare_74 (qn32 c63) ?_
    refine G_fret dX9_ownShare_75 rfl (Nat.le_of_ble_eq_true rfl) (Nat.le_of_ble_eq_true rfl) ?_
    exact h _ (if_neg e).symm
  · have e : (g.A.s (2 * p + 0)).length + (g.A.s (2 * p + 1)).length = 0 := (nI_eq (b := 0) (by omega) (by decide)).mp c63
    refine G_fconst0 dX9_ownShare_66 ?_
    refine G_goto (tgt := 75) dX9_ownShare_67 (by decide) ?_
    refine G_fret dX9_ownShare_75 rfl (Nat.le_of_ble_eq_true rfl) (Nat.le_of_ble_eq_true rfl) ?_
    exact h _ (if_pos e).symm
theorem Fo.mid {M1 : Mm} (hR : M.1 20 0 0 3 = 0) (h : Fo 9 (M.up 20 0 0 3 9) M1) : Fo 9 M (M1.up 20 0 0 3 0) := ⟨h.1, fun k j p hk t => by
  by_cases e : k = 20 ∧ j = 0 ∧ p = 0 ∧ t = 3
  · obtain ⟨rfl, rfl, rfl, rfl⟩ := e
    exact up_at.trans hR.symm
  · have e1 : ∀ (X : Mm) (v : Int32), (X.up 20 0 0 3 v).1 k j p t = X.1 k j p t := fun X v => by
      show mU X.1 20 0 0 3 v k j p t = _
      unfold mU
      exact if_neg e
    exact (e1 _ _).trans ((h.2.1 k j p hk t).trans (e1 _ _)), fun t ht => (up_nk (by decide)).trans ((h.2.2 t ht).trans (up_nk (by decide)))⟩
theorem s_X9_tries (hG : MG M g) (h : ∀ M2, MG M2 g → Fo 9 M M2 → MR (M2.up 20 0 0 3 9) 9 g.A → Ro (M2.up 20 0 0 3 9) 9 → P (.inl none) (M2.up 20 0 0 3 9)) : Sp E yX9_tries cX9_tries zX9_tries [.ref (ad E 20 0 0)] M P := by
  refine Sp_of (own := RX9) (by decide) rfl rfl (Nat.le_of_ble_eq_true rfl) (fun C => ?_)
  refine G_aload_n dX9_tries_0 rfl ?_
  refine G_iconst (v := 0) dX9_tries_1 (by decide) ?_
  refine G_bipush (v := 9) dX9_tries_2 (by decide) ?_
  refine cv_X9_152 (cs' := 0) (ss' := 0) dX9_tries_4  (Nat.le_of_ble_eq_true rfl) (Nat.le_of_ble_eq_true rfl) (Nat.le_of_ble_eq_true rfl) rfl rfl (Nat.le_of_ble_eq_true rfl) (Nat.le_of_ble_eq_true rfl) rfl ?_
  refine s_X9_copies (a := 0) (b' := 9) (by decide) (by decide) (by decide) (fun M2 e2 f2 => hGo_v ?_)
  refine G_aload_n dX9_tries_7 rfl ?_
  refine G_bipush (v := 9) dX9_tries_8 (by decide) ?_
  refine pf_X9_44 dX9_tries_10  ?_
  refine G_vret dX9_tries_13 rfl (Nat.le_of_ble_eq_true rfl) (Nat.le_of_ble_eq_true rfl) ?_
  exact h M2 (hG.row9 (by decide) f2) f2 ((hG.2.1.ext e2).keep (fun t => up_nk (by decide))) ⟨up_at, by decide⟩
theorem s_X9_isBack {v : Int32} (h : P (.inl (some (.int v))) (M.up 20 0 0 3 0)) : Sp E yX9_isBack cX9_isBack zX9_isBack [.ref (ad E 20 0 0), .int v] M P := by
  refine Sp_of (own := RX9) (by decide) rfl rfl (Nat.le_of_ble_eq_true rfl) (fun C => ?_)
  refine G_aload_n dX9_isBack_0 rfl ?_
  refine G_iconst (v := 0) dX9_isBack_1 (by decide) ?_
  refine pf_X9_44 dX9_isBack_2  ?_
  refine G_iload_n dX9_isBack_5 rfl ?_
  refine G_iret dX9_isBack_6 rfl rfl (Nat.le_of_ble_eq_true rfl) (Nat.le_of_ble_eq_true rfl) ?_
  exact h
theorem MG.after {M1 : Mm} (h : MG M g) (f : Fo 9 (M.up 20 0 0 3 9) M1) : MG (M1.up 20 0 0 3 0) g := h.row9 (by decide) (Fo.mid h.1.1 f)
theorem m_ifPassed {x y : Int32} (hG : MG M g) (hO : Okg g) (h : ∀ M' v, MG M' g → Fm M M' → M'.1 20 0 0 5 = nI (qIfPassed g x y).1 → ((qIfPassed g x y).1 = 0 → v = (qIfPassed g x y).2) → P (.inl (some (.int v))) M') : Sp E yX9_ifPassed cX9_ifPassed zX9_ifPassed [.ref (ad E 20 0 0), .int x, .int y] M P := by
  unfold qIfPassed at h
  refine Sp_of (own := RX9) (by decide) rfl rfl (Nat.le_of_ble_eq_true rfl) (fun C => ?_)
  refine G_aload_n dX9_ifPassed_0 rfl ?_
  refine G_iconst (v := 0) dX9_ifPassed_1 (by decide) ?_
  refine pf_X9_41 dX9_ifPassed_2  ?_
  have hG1 : MG (M.up 20 0 0 5 0) g := hG.thr
  have hT : (M.up 20 0 0 5 0).1 20 0 0 5 = 0 := up_at
  have hF : Fm M (M.up 20 0 0 5 0) := Fm.rfl.up ⟨by decide, by decide⟩
  generalize M.up 20 0 0 5 0 = M1 at hG1 hT hF ⊢
  have hR := hG1.1
  have hA := hG1.2.1
  have h12 := hA.n12
  refine G_aload_n dX9_ifPassed_5 rfl ?_
  refine G_iload_n dX9_ifPassed_6 rfl ?_
  refine G_iconst (v := 0) dX9_ifPassed_7 (by decide) ?_
  refine G_bipush (v := 30) dX9_ifPassed_8 (by decide) ?_
  refine cv_X9_162 (cs' := 0) (ss' := 0) dX9_ifPassed_10  (Nat.le_of_ble_eq_true rfl) (Nat.le_of_ble_eq_true rfl) (Nat.le_of_ble_eq_true rfl) rfl rfl (Nat.le_of_ble_eq_true rfl) (Nat.le_of_ble_eq_true rfl) rfl ?_
  refine s_X9_in (hGo_i ?_)
  by_cases q00 : inR x 0 30
  rotate_left
  · rw [if_neg q00]
    refine G_if_eq (tgt := 29) dX9_ifPassed_13 (by decide) (fun c13 => ?_) (fun c13 => ?_)
    rotate_left
    · exact absurd rfl c13
    refine G_iconst (v := 0) dX9_ifPassed_29 (by decide) ?_
    refine G_iconst (v := 1) dX9_ifPassed_30 (by decide) ?_
    refine cv_X9_158 (cs' := 0) (ss' := 0) dX9_ifPassed_31  (Nat.le_of_ble_eq_true rfl) (Nat.le_of_ble_eq_true rfl) (Nat.le_of_ble_eq_true rfl) rfl rfl (Nat.le_of_ble_eq_true rfl) (Nat.le_of_ble_eq_true rfl) rfl ?_
    refine s_X9_holds0 hT (by decide) (hGo_i ?_)
    refine G_if_ne (tgt := 39) dX9_ifPassed_34 (by decide) (fun c34 => ?_) (fun c34 => ?_)
    · exact absurd rfl c34
    · refine G_iconst (v := 0) dX9_ifPassed_37 (by decide) ?_
      refine G_iret dX9_ifPassed_38 rfl rfl (Nat.le_of_ble_eq_true rfl) (Nat.le_of_ble_eq_true rfl) ?_
      rw [if_neg (fun z => q00 z.1)] at h
      exact h _ _ hG1.thr (hF.up ⟨by decide, by decide⟩) up_at (fun z => absurd z (by decide))
  rw [if_pos q00]
  refine G_if_eq (tgt := 29) dX9_ifPassed_13 (by decide) (fun c13 => ?_) (fun c13 => ?_)
  · exact absurd c13 (by decide)
  refine G_iload_n dX9_ifPassed_16 rfl ?_
  refine G_iconst (v := 0) dX9_ifPassed_17 (by decide) ?_
  refine G_iconst (v := 3) dX9_ifPassed_18 (by decide) ?_
  refine cv_X9_162 (cs' := 0) (ss' := 0) dX9_ifPassed_19  (Nat.le_of_ble_eq_true rfl) (Nat.le_of_ble_eq_true rfl) (Nat.le_of_ble_eq_true rfl) rfl rfl (Nat.le_of_ble_eq_true rfl) (Nat.le_of_ble_eq_true rfl) rfl ?_
  refine s_X9_in (hGo_i ?_)
  by_cases q01 : inR y 0 3
  rotate_left
  · rw [if_neg q01]
    refine G_if_eq (tgt := 29) dX9_ifPassed_22 (by decide) (fun c22 => ?_) (fun c22 => ?_)
    rotate_left
    · exact absurd rfl c22
    refine G_iconst (v := 0) dX9_ifPassed_29 (by decide) ?_
    refine G_iconst (v := 1) dX9_ifPassed_30 (by decide) ?_
    refine cv_X9_158 (cs' := 0) (ss' := 0) dX9_ifPassed_31  (Nat.le_of_ble_eq_true rfl) (Nat.le_of_ble_eq_true rfl) (Nat.le_of_ble_eq_true rfl) rfl rfl (Nat.le_of_ble_eq_true rfl) (Nat.le_of_ble_eq_true rfl) rfl ?_
    refine s_X9_holds0 hT (by decide) (hGo_i ?_)
    refine G_if_ne (tgt := 39) dX9_ifPassed_34 (by decide) (fun c34 => ?_) (fun c34 => ?_)
    · exact absurd rfl c34
    · refine G_iconst (v := 0) dX9_ifPassed_37 (by decide) ?_
      refine G_iret dX9_ifPassed_38 rfl rfl (Nat.le_of_ble_eq_true rfl) (Nat.le_of_ble_eq_true rfl) ?_
      rw [if_neg (fun z => q01 z.2)] at h
      exact h _ _ hG1.thr (hF.up ⟨by decide, by decide⟩) up_at (fun z => absurd z (by decide))
  rw [if_pos q01]
  refine G_if_eq (tgt := 29) dX9_ifPassed_22 (by decide) (fun c22 => ?_) (fun c22 => ?_)
  · exact absurd c22 (by decide)
  refine G_iconst (v := 1) dX9_ifPassed_25 (by decide) ?_
  refine G_goto (tgt := 30) dX9_ifPassed_26 (by decide) ?_
  refine G_iconst (v := 1) dX9_ifPassed_30 (by decide) ?_
  refine cv_X9_158 (cs' := 0) (ss' := 0) dX9_ifPassed_31  (Nat.le_of_ble_eq_true rfl) (Nat.le_of_ble_eq_true rfl) (Nat.le_of_ble_eq_true rfl) rfl rfl (Nat.le_of_ble_eq_true rfl) (Nat.le_of_ble_eq_true rfl) rfl ?_
  rw [if_pos ⟨q00, q01⟩] at h
  refine s_X9_holds1 hT (hGo_i ?_)
  refine G_if_ne (tgt := 39) dX9_ifPassed_34 (by decide) (fun c34 => ?_) (fun c34 => ?_)
  rotate_left
  · exact absurd c34 (by decide)
  obtain ⟨n, ln, hn, rfl, en⟩ := inR_ix (i := 0) (k := 30) (by decide) (by decide) q00
  rw [en] at h
  obtain ⟨k, lk, hk, rfl, ek⟩ := inR_ix (i := 0) (k := 3) (by decide) (by decide) q01
  rw [ek] at h
  refine G_aload_n dX9_ifPassed_39 rfl ?_
  refine cv_X9_333 (cs' := 0) (ss' := 0) dX9_ifPassed_40  (Nat.le_of_ble_eq_true rfl) (Nat.le_of_ble_eq_true rfl) (Nat.le_of_ble_eq_true rfl) rfl rfl (Nat.le_of_ble_eq_true rfl) (Nat.le_of_ble_eq_true rfl) rfl ?_
  refine s_X9_tries hG1 (fun M2 hG2 f2 a2 r2 => hGo_v ?_)
  refine G_aload_n dX9_ifPassed_43 rfl ?_
  refine G_iload_n dX9_ifPassed_44 rfl ?_
  refine cv_X9_336 (cs' := 0) (ss' := 0) dX9_ifPassed_45  (Nat.le_of_ble_eq_true rfl) (Nat.le_of_ble_eq_true rfl) (Nat.le_of_ble_eq_true rfl) rfl rfl (Nat.le_of_ble_eq_true rfl) (Nat.le_of_ble_eq_true rfl) rfl ?_
  refine s_X9_passes r2 a2 hO.1 hn (fun M3 a3 f3 => hGo_i ?_)
  have r3 := r2.fo f3
  have o3 := wks_ok hO.1 n
  rcases (show k = 0 ∨ k = 1 ∨ k = 2 ∨ k = 3 by omega) with rfl | rfl | rfl | rfl
  · refine G_istore_n dX9_ifPassed_48 (Nat.le_of_ble_eq_true rfl) ?_
    refine G_iload_n dX9_ifPassed_49 rfl ?_
    refine G_tIn (off := 26) (tgt := 76) dX9_ifPassed_50 (by decide) (by decide) rfl (by decide) ?_
    refine G_aload_n dX9_ifPassed_76 rfl ?_
    refine G_aload_n dX9_ifPassed_77 rfl ?_
    refine G_bipush (v := 7) dX9_ifPassed_78 (by decide) ?_
    refine cv_X9_81 (cs' := 0) (ss' := 0) dX9_ifPassed_80  (Nat.le_of_ble_eq_true rfl) (Nat.le_of_ble_eq_true rfl) (Nat.le_of_ble_eq_true rfl) rfl rfl (Nat.le_of_ble_eq_true rfl) (Nat.le_of_ble_eq_true rfl) rfl ?_
    refine s_X9_sumOf (t := 7) (f := fun p => (wks g.A n).f p 7) r3 a3 (by decide) (fun p hp => a3.f hp (by decide)) (hGo_i ?_)
    refine cv_X9_339 (cs' := 0) (ss' := 0) dX9_ifPassed_83  (Nat.le_of_ble_eq_true rfl) (Nat.le_of_ble_eq_true rfl) (Nat.le_of_ble_eq_true rfl) rfl rfl (Nat.le_of_ble_eq_true rfl) (Nat.le_of_ble_eq_true rfl) rfl ?_
    refine s_X9_isBack (hGo_i ?_)
    refine G_iret dX9_ifPassed_86 rfl rfl (Nat.le_of_ble_eq_true rfl) (Nat.le_of_ble_eq_true rfl) ?_
    exact h _ _ (hG2.after f3) (Fo.mo (Fo.mid hG2.1.1 f3) (Fo.mo f2 hF)) ((up_nt (by decide)).trans (((f3).k (by decide) 0 0 5).trans ((up_nt (by decide)).trans ((f2.k (by decide) 0 0 5).trans hT)))) (fun _ => rfl)
  · refine G_istore_n dX9_ifPassed_48 (Nat.le_of_ble_eq_true rfl) ?_
    refine G_iload_n dX9_ifPassed_49 rfl ?_
    refine G_tIn (off := 37) (tgt := 87) dX9_ifPassed_50 (by decide) (by decide) rfl (by decide) ?_
    refine G_aload_n dX9_ifPassed_87 rfl ?_
    refine G_aload_n dX9_ifPassed_88 rfl ?_
    refine cv_X9_291 (cs' := 0) (ss' := 0) dX9_ifPassed_89  (Nat.le_of_ble_eq_true rfl) (Nat.le_of_ble_eq_true rfl) (Nat.le_of_ble_eq_true rfl) rfl rfl (Nat.le_of_ble_eq_true rfl) (Nat.le_of_ble_eq_true rfl) rfl ?_
    refine s_X9_allOwed r3 a3 (hGo_i ?_)
    refine cv_X9_339 (cs' := 0) (ss' := 0) dX9_ifPassed_92  (Nat.le_of_ble_eq_true rfl) (Nat.le_of_ble_eq_true rfl) (Nat.le_of_ble_eq_true rfl) rfl rfl (Nat.le_of_ble_eq_true rfl) (Nat.le_of_ble_eq_true rfl) rfl ?_
    refine s_X9_isBack (hGo_i ?_)
    refine G_iret dX9_ifPassed_95 rfl rfl (Nat.le_of_ble_eq_true rfl) (Nat.le_of_ble_eq_true rfl) ?_
    exact h _ _ (hG2.after f3) (Fo.mo (Fo.mid hG2.1.1 f3) (Fo.mo f2 hF)) ((up_nt (by decide)).trans (((f3).k (by decide) 0 0 5).trans ((up_nt (by decide)).trans ((f2.k (by decide) 0 0 5).trans hT)))) (fun _ => rfl)
  · refine G_istore_n dX9_ifPassed_48 (Nat.le_of_ble_eq_true rfl) ?_
    refine G_iload_n dX9_ifPassed_49 rfl ?_
    refine G_tIn (off := 46) (tgt := 96) dX9_ifPassed_50 (by decide) (by decide) rfl (by decide) ?_
    refine G_aload_n dX9_ifPassed_96 rfl ?_
    refine G_aload_n dX9_ifPassed_97 rfl ?_
    refine cv_X9_294 (cs' := 0) (ss' := 0) dX9_ifPassed_98  (Nat.le_of_ble_eq_true rfl) (Nat.le_of_ble_eq_true rfl) (Nat.le_of_ble_eq_true rfl) rfl rfl (Nat.le_of_ble_eq_true rfl) (Nat.le_of_ble_eq_true rfl) rfl ?_
    refine s_X9_allDetained r3 a3 (hGo_i ?_)
    refine cv_X9_339 (cs' := 0) (ss' := 0) dX9_ifPassed_101  (Nat.le_of_ble_eq_true rfl) (Nat.le_of_ble_eq_true rfl) (Nat.le_of_ble_eq_true rfl) rfl rfl (Nat.le_of_ble_eq_true rfl) (Nat.le_of_ble_eq_true rfl) rfl ?_
    refine s_X9_isBack (hGo_i ?_)
    refine G_iret dX9_ifPassed_104 rfl rfl (Nat.le_of_ble_eq_true rfl) (Nat.le_of_ble_eq_true rfl) ?_
    exact h _ _ (hG2.after f3) (Fo.mo (Fo.mid hG2.1.1 f3) (Fo.mo f2 hF)) ((up_nt (by decide)).trans (((f3).k (by decide) 0 0 5).trans ((up_nt (by decide)).trans ((f2.k (by decide) 0 0 5).trans hT)))) (fun _ => rfl)
  · refine G_istore_n dX9_ifPassed_48 (Nat.le_of_ble_eq_true rfl) ?_
    refine G_iload_n dX9_ifPassed_49 rfl ?_
    refine G_tOut (tgt := 105) dX9_ifPassed_50 (by decide) (by decide) ?_
    refine G_aload_n dX9_ifPassed_105 rfl ?_
    refine G_aload_n dX9_ifPassed_106 rfl ?_
    refine G_iconst (v := 0) dX9_ifPassed_107 (by decide) ?_
    refine cv_X9_288 (cs' := 0) (ss' := 0) dX9_ifPassed_108  (Nat.le_of_ble_eq_true rfl) (Nat.le_of_ble_eq_true rfl) (Nat.le_of_ble_eq_true rfl) rfl rfl (Nat.le_of_ble_eq_true rfl) (Nat.le_of_ble_eq_true rfl) rfl ?_
    refine s_X9_piecesIn (s := 0) r3 a3 (by decide) (hGo_i ?_)
    refine G_aload_n dX9_ifPassed_111 rfl ?_
    refine G_iconst (v := 1) dX9_ifPassed_112 (by decide) ?_
    refine cv_X9_288 (cs' := 0) (ss' := 0) dX9_ifPassed_113  (Nat.le_of_ble_eq_true rfl) (Nat.le_of_ble_eq_true rfl) (Nat.le_of_ble_eq_true rfl) rfl rfl (Nat.le_of_ble_eq_true rfl) (Nat.le_of_ble_eq_true rfl) rfl ?_
    refine s_X9_piecesIn (s := 1) r3 a3 (by decide) (hGo_i ?_)
    refine G_iadd dX9_ifPassed_116 ?_
    refine cv_X9_339 (cs' := 0) (ss' := 0) dX9_ifPassed_117  (Nat.le_of_ble_eq_true rfl) (Nat.le_of_ble_eq_true rfl) (Nat.le_of_ble_eq_true rfl) rfl rfl (Nat.le_of_ble_eq_true rfl) (Nat.le_of_ble_eq_true rfl) rfl ?_
    refine s_X9_isBack (hGo_i ?_)
    refine G_iret dX9_ifPassed_120 rfl rfl (Nat.le_of_ble_eq_true rfl) (Nat.le_of_ble_eq_true rfl) ?_
    exact h _ _ (hG2.after f3) (Fo.mo (Fo.mid hG2.1.1 f3) (Fo.mo f2 hF)) ((up_nt (by decide)).trans (((f3).k (by decide) 0 0 5).trans ((up_nt (by decide)).trans ((f2.k (by decide) 0 0 5).trans hT)))) (fun _ => rfl)
theorem m_freeIn {x : Int32} (hG : MG M g) (hO : Okg g) (h : ∀ M' v, MG M' g → Fm M M' → M'.1 20 0 0 5 = nI (qFreeIn g x).1 → ((qFreeIn g x).1 = 0 → v = (qFreeIn g x).2) → P (.inl (some (.int v))) M') : Sp E yX9_freeIn cX9_freeIn zX9_freeIn [.ref (ad E 20 0 0), .int x] M P := by
  unfold qFreeIn at h
  refine Sp_of (own := RX9) (by decide) rfl rfl (Nat.le_of_ble_eq_true rfl) (fun C => ?_)
  refine G_aload_n dX9_freeIn_0 rfl ?_
  refine G_iconst (v := 0) dX9_freeIn_1 (by decide) ?_
  refine pf_X9_41 dX9_freeIn_2  ?_
  have hG1 : MG (M.up 20 0 0 5 0) g := hG.thr
  have hT : (M.up 20 0 0 5 0).1 20 0 0 5 = 0 := up_at
  have hF : Fm M (M.up 20 0 0 5 0) := Fm.rfl.up ⟨by decide, by decide⟩
  generalize M.up 20 0 0 5 0 = M1 at hG1 hT hF ⊢
  have hR := hG1.1
  have hA := hG1.2.1
  have h12 := hA.n12
  refine G_aload_n dX9_freeIn_5 rfl ?_
  refine G_aload_n dX9_freeIn_6 rfl ?_
  refine G_iload_n dX9_freeIn_7 rfl ?_
  refine cv_X9_297 (cs' := 0) (ss' := 0) dX9_freeIn_8  (Nat.le_of_ble_eq_true rfl) (Nat.le_of_ble_eq_true rfl) (Nat.le_of_ble_eq_true rfl) rfl rfl (Nat.le_of_ble_eq_true rfl) (Nat.le_of_ble_eq_true rfl) rfl ?_
  refine s_X9_isPupil hR hA (hGo_i ?_)
  by_cases q00 : inP g.A x
  rotate_left
  · rw [if_neg q00]
    refine G_iconst (v := 1) dX9_freeIn_11 (by decide) ?_
    refine cv_X9_158 (cs' := 0) (ss' := 0) dX9_freeIn_12  (Nat.le_of_ble_eq_true rfl) (Nat.le_of_ble_eq_true rfl) (Nat.le_of_ble_eq_true rfl) rfl rfl (Nat.le_of_ble_eq_true rfl) (Nat.le_of_ble_eq_true rfl) rfl ?_
    refine s_X9_holds0 hT (by decide) (hGo_i ?_)
    refine G_if_ne (tgt := 20) dX9_freeIn_15 (by decide) (fun c15 => ?_) (fun c15 => ?_)
    · exact absurd rfl c15
    · refine G_iconst (v := 0) dX9_freeIn_18 (by decide) ?_
      refine G_iret dX9_freeIn_19 rfl rfl (Nat.le_of_ble_eq_true rfl) (Nat.le_of_ble_eq_true rfl) ?_
      rw [if_neg q00] at h
      exact h _ _ hG1.thr (hF.up ⟨by decide, by decide⟩) up_at (fun z => absurd z (by decide))
  rw [if_pos q00]
  refine G_iconst (v := 1) dX9_freeIn_11 (by decide) ?_
  refine cv_X9_158 (cs' := 0) (ss' := 0) dX9_freeIn_12  (Nat.le_of_ble_eq_true rfl) (Nat.le_of_ble_eq_true rfl) (Nat.le_of_ble_eq_true rfl) rfl rfl (Nat.le_of_ble_eq_true rfl) (Nat.le_of_ble_eq_true rfl) rfl ?_
  rw [if_pos q00] at h
  refine s_X9_holds1 hT (hGo_i ?_)
  refine G_if_ne (tgt := 20) dX9_freeIn_15 (by decide) (fun c15 => ?_) (fun c15 => ?_)
  rotate_left
  · exact absurd c15 (by decide)
  obtain ⟨p, hp, rfl, ep⟩ := in_ix q00 (by omega)
  rw [ep] at h
  unfold freeV at h
  refine G_aload_n dX9_freeIn_20 rfl ?_
  refine cv_X9_333 (cs' := 0) (ss' := 0) dX9_freeIn_21  (Nat.le_of_ble_eq_true rfl) (Nat.le_of_ble_eq_true rfl) (Nat.le_of_ble_eq_true rfl) rfl rfl (Nat.le_of_ble_eq_true rfl) (Nat.le_of_ble_eq_true rfl) rfl ?_
  refine s_X9_tries hG1 (fun M2 hG2 f2 a2 r2 => hGo_v ?_)
  refine G_iconst (v := 0) dX9_freeIn_24 (by decide) ?_
  refine G_istore_n dX9_freeIn_25 (Nat.le_of_ble_eq_true rfl) ?_
  refine G_lv (lv' := [(0, .ref (ad E 20 0 0)), (1, .int (nI p)), (2, .int (nI 0))]) ⟨rfl, rfl, rfl, trivial⟩ ?_
  refine up0 (c := 31) (H := fun i => ∀ M3, (∀ k, k < i → decide (¬ 0 < (wks g.A k).f p 8) = false) → MR M3 9 (wks g.A i) → Fo 9 (M2.up 20 0 0 3 9) M3 → G E C RX9 cX9_freeIn zX9_freeIn P 0 0 M3 26 [(0, .ref (ad E 20 0 0)), (1, .int (nI p)), (2, .int (nI i))] []) (fun M3 hno a3 f3 => ?_) (fun i hi ih M3 hno a3 f3 => ?_) (M2.up 20 0 0 3 9) (fun k hk => absurd hk (Nat.not_lt_zero k)) a2 Fo.rfl
  · refine G_iload_n dX9_freeIn_26 rfl ?_
    refine G_bipush (v := 30) dX9_freeIn_27 (by decide) ?_
    refine G_icmp_gt (tgt := 56) dX9_freeIn_29 (by decide) (fun c29 => ?_) (fun c29 => ?_)
    · refine G_aload_n dX9_freeIn_56 rfl ?_
      refine G_iconst (v := (-1)) dX9_freeIn_57 (by decide) ?_
      refine cv_X9_339 (cs' := 0) (ss' := 0) dX9_freeIn_58  (Nat.le_of_ble_eq_true rfl) (Nat.le_of_ble_eq_true rfl) (Nat.le_of_ble_eq_true rfl) rfl rfl (Nat.le_of_ble_eq_true rfl) (Nat.le_of_ble_eq_true rfl) rfl ?_
      refine s_X9_isBack (hGo_i ?_)
      refine G_iret dX9_freeIn_61 rfl rfl (Nat.le_of_ble_eq_true rfl) (Nat.le_of_ble_eq_true rfl) ?_
      rw [first_none hno] at h
      exact h _ _ (hG2.after f3) (Fo.mo (Fo.mid hG2.1.1 f3) (Fo.mo f2 hF)) ((up_nt (by decide)).trans (((f3).k (by decide) 0 0 5).trans ((up_nt (by decide)).trans ((f2.k (by decide) 0 0 5).trans hT)))) (fun _ => rfl)
    · exact absurd (show (30 : Int32) < nI 31 by decide) c29
  · have r3 := r2.fo f3
    have o3 := wks_ok hO.1 i
    have hpn : p < (wks g.A i).n := by rw [wks_n]; exact hp
    refine G_iload_n dX9_freeIn_26 rfl ?_
    refine G_bipush (v := 30) dX9_freeIn_27 (by decide) ?_
    refine G_icmp_gt (tgt := 56) dX9_freeIn_29 (by decide) (fun c29 => ?_) (fun c29 => ?_)
    · exact absurd (show nI 30 < nI i from c29) (nI_nlt (by omega) (by decide))
    · refine G_aload_n dX9_freeIn_32 rfl ?_
      refine G_iload_n dX9_freeIn_33 rfl ?_
      refine cv_X9_99 (cs' := 0) (ss' := 0) dX9_freeIn_34  (Nat.le_of_ble_eq_true rfl) (Nat.le_of_ble_eq_true rfl) (Nat.le_of_ble_eq_true rfl) rfl rfl (Nat.le_of_ble_eq_true rfl) (Nat.le_of_ble_eq_true rfl) rfl ?_
      refine s_X9_isDetained r3 (by omega) (a3.f hpn (by decide)) (hGo_i ?_)
      by_cases c : 0 < (wks g.A i).f p 8
      · rw [if_pos c]
        refine G_if_ne (tgt := 46) dX9_freeIn_37 (by decide) (fun c37 => ?_) (fun c37 => ?_)
        · refine G_aload_n dX9_freeIn_46 rfl ?_
          refine cv_X9_149 (cs' := 0) (ss' := 0) dX9_freeIn_47  (Nat.le_of_ble_eq_true rfl) (Nat.le_of_ble_eq_true rfl) (Nat.le_of_ble_eq_true rfl) rfl rfl (Nat.le_of_ble_eq_true rfl) (Nat.le_of_ble_eq_true rfl) rfl ?_
          refine s_X9_weekEnds r3 a3 o3 (fun M4 a4 f4 => hGo_v ?_)
          refine G_iinc (v := 1) dX9_freeIn_50 rfl (Nat.le_of_ble_eq_true rfl) (by decide) ?_
          refine G_goto (tgt := 26) dX9_freeIn_53 (by decide) ?_
          refine G_lv2 (ih M4 (fun k hk => ?_) a4 (f3.trans f4)) ⟨rfl, rfl, lvi (nI_1 i), trivial⟩
          by_cases e : k = i
          · subst e
            exact decide_eq_false (fun q => q c)
          · exact hno k (by omega)
        · exact absurd c37 (by decide)
      · rw [if_neg c]
        refine G_if_ne (tgt := 46) dX9_freeIn_37 (by decide) (fun c37 => ?_) (fun c37 => ?_)
        · exact absurd rfl c37
        · refine G_aload_n dX9_freeIn_40 rfl ?_
          refine G_iload_n dX9_freeIn_41 rfl ?_
          refine cv_X9_339 (cs' := 0) (ss' := 0) dX9_freeIn_42  (Nat.le_of_ble_eq_true rfl) (Nat.le_of_ble_eq_true rfl) (Nat.le_of_ble_eq_true rfl) rfl rfl (Nat.le_of_ble_eq_true rfl) (Nat.le_of_ble_eq_true rfl) rfl ?_
          refine s_X9_isBack (hGo_i ?_)
          refine G_iret dX9_freeIn_45 rfl rfl (Nat.le_of_ble_eq_true rfl) (Nat.le_of_ble_eq_true rfl) ?_
          rw [first_at hi hno (decide_eq_true c)] at h
          exact h _ _ (hG2.after f3) (Fo.mo (Fo.mid hG2.1.1 f3) (Fo.mo f2 hF)) ((up_nt (by decide)).trans (((f3).k (by decide) 0 0 5).trans ((up_nt (by decide)).trans ((f2.k (by decide) 0 0 5).trans hT)))) (fun _ => rfl)
end MTRY
