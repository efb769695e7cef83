/-! ===== HomeworkBarterModel: commands read, done ===== -/
section MCM2
variable {E : Ed} {M M' M0 M1 : Mm} {P : Res → Mm → Prop} {L : List Int32} {T T' : Tks}
theorem s_X9_readsNumbers {c k : Nat} (hc : c < 25) (hk : k < 7) (hX : MT M L) (hT : TX M L T) (h : ∀ M', MT M' L → TX M' L (rA L (vK k) T).1 → ((rA L (vK k) T).1.code = 0 → ∀ t, t < (rA L (vK k) T).2.length → M'.1 25 0 0 (5 * c + 1 + t) = (rA L (vK k) T).2.getD t 0) → Fn (5 * c + 1) M M' → P (.inl none) M') : Sp E yX9_readsNumbers cX9_readsNumbers zX9_readsNumbers [.ref (ad E 20 0 0), .int (nI (5 * c)), .int (nI k)] M P := by
  have fin : ∀ M1 R T1 xs, R = rA L (vK k) T → RS L (5 * c + 1) M M1 R T1 xs [] → P (.inl none) M1 := fun M1 R T1 xs eR s => by
    obtain ⟨h1, h2, h3, h4, h5⟩ := s
    have h4 : R.1 = T1 := h4
    rw [← h4, eR] at h2
    refine h M1 h1 h2 (fun z => ?_) h3
    rw [← eR] at z ⊢
    obtain ⟨e, q⟩ := h5 z
    have e : R.2 = xs := e.trans (List.append_nil _)
    rw [e]
    exact q
  have s0 : RS L (5 * c + 1) M M (rA L (vK k) T) T [] (vK k) := ⟨hX, hT, Fn.rfl, rfl, fun _ => ⟨rfl, fun t ht => absurd ht (Nat.not_lt_zero t)⟩⟩
  refine Sp_of (own := RX9) (by decide) rfl rfl (Nat.le_of_ble_eq_true rfl) (fun C => ?_)
  refine G_aload_n dX9_readsNumbers_0 rfl ?_
  refine gf_X9_27 dX9_readsNumbers_1  ?_
  refine G_iload_n dX9_readsNumbers_4 rfl ?_
  refine G_iconst (v := 1) dX9_readsNumbers_5 (by decide) ?_
  refine G_iadd dX9_readsNumbers_6 ?_
  rw [show nI (5 * c) + (1 : Int32) = nI (5 * c + 1) from nI_add _ 1]
  rcases (show k = 0 ∨ k = 1 ∨ k = 2 ∨ k = 3 ∨ k = 4 ∨ k = 5 ∨ k = 6 by omega) with rfl | rfl | rfl | rfl | rfl | rfl | rfl
  · generalize hR : rA L (vK 0) T = R at s0
    refine G_iload_n dX9_readsNumbers_7 rfl ?_
    refine G_bipush (v := 6) dX9_readsNumbers_8 (by decide) ?_
    refine G_icmp_ne (tgt := 23) dX9_readsNumbers_10 (by decide) (fun c10 => ?_) (fun c10 => ?_)
    rotate_left
    · exact absurd c10 (by decide)
    refine G_aload_n dX9_readsNumbers_23 rfl ?_
    refine G_iconst (v := 0) dX9_readsNumbers_24 (by decide) ?_
    refine G_bipush (v := 11) dX9_readsNumbers_25 (by decide) ?_
    refine cv_X9_211 (cs' := 0) (ss' := 0) dX9_readsNumbers_27  (Nat.le_of_ble_eq_true rfl) (Nat.le_of_ble_eq_true rfl) (Nat.le_of_ble_eq_true rfl) rfl rfl (Nat.le_of_ble_eq_true rfl) (Nat.le_of_ble_eq_true rfl) rfl ?_
    refine s_X9_reads (α := 0) (β := 11) (by decide) (by decide) s0.1 s0.2.1 (fun M1 r1 x1 f1 v1 => hGo_i ?_)
    refine G_iast dX9_readsNumbers_30 ⟨by decide, rfl, rfl⟩ (fun _ => rfl) rfl (show 5 * c + 1 < 125 by omega) (by decide) ?_
    have s1 := s0.num (xs := []) x1 f1 v1
    have s1 : RS _ _ _ (M1.up 25 0 0 (5 * c + 1) r1) _ _ _ _ := s1
    generalize M1.up 25 0 0 (5 * c + 1) r1 = N1 at s1 ⊢
    refine G_iload_n dX9_readsNumbers_31 rfl ?_
    refine G_tIn (off := 36) (tgt := 68) dX9_readsNumbers_32 (by decide) (by decide) rfl (by decide) ?_
    refine G_aload_n dX9_readsNumbers_68 rfl ?_
    refine gf_X9_27 dX9_readsNumbers_69  ?_
    refine G_iload_n dX9_readsNumbers_72 rfl ?_
    refine G_iconst (v := 2) dX9_readsNumbers_73 (by decide) ?_
    refine G_iadd dX9_readsNumbers_74 ?_
    rw [show nI (5 * c) + (2 : Int32) = nI (5 * c + 2) from nI_add _ 2]
    refine G_aload_n dX9_readsNumbers_75 rfl ?_
    refine cv_X9_255 (cs' := 0) (ss' := 0) dX9_readsNumbers_76  (Nat.le_of_ble_eq_true rfl) (Nat.le_of_ble_eq_true rfl) (Nat.le_of_ble_eq_true rfl) rfl rfl (Nat.le_of_ble_eq_true rfl) (Nat.le_of_ble_eq_true rfl) rfl ?_
    refine s_X9_readsKind s1.1 s1.2.1 (fun M2 x2 f2 => hGo_i ?_)
    have t2 := s1.sub x2 f2
    refine G_iast dX9_readsNumbers_79 ⟨by decide, rfl, rfl⟩ (fun _ => rfl) rfl (show 5 * c + 2 < 125 by omega) (by decide) ?_
    have s2 : RS _ _ _ (M2.up 25 0 0 (5 * c + 2) (sbV L _)) _ _ _ _ := t2
    generalize M2.up 25 0 0 (5 * c + 2) (sbV L _) = N2 at s2 ⊢
    refine G_aload_n dX9_readsNumbers_80 rfl ?_
    refine gf_X9_27 dX9_readsNumbers_81  ?_
    refine G_iload_n dX9_readsNumbers_84 rfl ?_
    refine G_iconst (v := 3) dX9_readsNumbers_85 (by decide) ?_
    refine G_iadd dX9_readsNumbers_86 ?_
    rw [show nI (5 * c) + (3 : Int32) = nI (5 * c + 3) from nI_add _ 3]
    refine G_aload_n dX9_readsNumbers_87 rfl ?_
    refine G_iconst (v := 1) dX9_readsNumbers_88 (by decide) ?_
    refine G_bipush (v := 20) dX9_readsNumbers_89 (by decide) ?_
    refine cv_X9_211 (cs' := 0) (ss' := 0) dX9_readsNumbers_91  (Nat.le_of_ble_eq_true rfl) (Nat.le_of_ble_eq_true rfl) (Nat.le_of_ble_eq_true rfl) rfl rfl (Nat.le_of_ble_eq_true rfl) (Nat.le_of_ble_eq_true rfl) rfl ?_
    refine s_X9_reads (α := 1) (β := 20) (by decide) (by decide) s2.1 s2.2.1 (fun M3 r3 x3 f3 v3 => hGo_i ?_)
    have t3 := s2.num x3 f3 v3
    refine G_iast dX9_readsNumbers_94 ⟨by decide, rfl, rfl⟩ (fun _ => rfl) rfl (show 5 * c + 3 < 125 by omega) (by decide) ?_
    have s3 : RS _ _ _ (M3.up 25 0 0 (5 * c + 3) r3) _ _ _ _ := t3
    generalize M3.up 25 0 0 (5 * c + 3) r3 = N3 at s3 ⊢
    refine G_vret dX9_readsNumbers_95 rfl (Nat.le_of_ble_eq_true rfl) (Nat.le_of_ble_eq_true rfl) ?_
    exact fin _ _ _ _ hR.symm s3
  · generalize hR : rA L (vK 1) T = R at s0
    refine G_iload_n dX9_readsNumbers_7 rfl ?_
    refine G_bipush (v := 6) dX9_readsNumbers_8 (by decide) ?_
    refine G_icmp_ne (tgt := 23) dX9_readsNumbers_10 (by decide) (fun c10 => ?_) (fun c10 => ?_)
    rotate_left
    · exact absurd c10 (by decide)
    refine G_aload_n dX9_readsNumbers_23 rfl ?_
    refine G_iconst (v := 0) dX9_readsNumbers_24 (by decide) ?_
    refine G_bipush (v := 11) dX9_readsNumbers_25 (by decide) ?_
    refine cv_X9_211 (cs' := 0) (ss' := 0) dX9_readsNumbers_27  (Nat.le_of_ble_eq_true rfl) (Nat.le_of_ble_eq_true rfl) (Nat.le_of_ble_eq_true rfl) rfl rfl (Nat.le_of_ble_eq_true rfl) (Nat.le_of_ble_eq_true rfl) rfl ?_
    refine s_X9_reads (α := 0) (β := 11) (by decide) (by decide) s0.1 s0.2.1 (fun M1 r1 x1 f1 v1 => hGo_i ?_)
    refine G_iast dX9_readsNumbers_30 ⟨by decide, rfl, rfl⟩ (fun _ => rfl) rfl (show 5 * c + 1 < 125 by omega) (by decide) ?_
    have s1 := s0.num (xs := []) x1 f1 v1
    have s1 : RS _ _ _ (M1.up 25 0 0 (5 * c + 1) r1) _ _ _ _ := s1
    generalize M1.up 25 0 0 (5 * c + 1) r1 = N1 at s1 ⊢
    refine G_iload_n dX9_readsNumbers_31 rfl ?_
    refine G_tIn (off := 64) (tgt := 96) dX9_readsNumbers_32 (by decide) (by decide) rfl (by decide) ?_
    refine G_aload_n dX9_readsNumbers_96 rfl ?_
    refine gf_X9_27 dX9_readsNumbers_97  ?_
    refine G_iload_n dX9_readsNumbers_100 rfl ?_
    refine G_iconst (v := 2) dX9_readsNumbers_101 (by decide) ?_
    refine G_iadd dX9_readsNumbers_102 ?_
    rw [show nI (5 * c) + (2 : Int32) = nI (5 * c + 2) from nI_add _ 2]
    refine G_aload_n dX9_readsNumbers_103 rfl ?_
    refine G_iconst (v := 0) dX9_readsNumbers_104 (by decide) ?_
    refine G_bipush (v := 11) dX9_readsNumbers_105 (by decide) ?_
    refine cv_X9_211 (cs' := 0) (ss' := 0) dX9_readsNumbers_107  (Nat.le_of_ble_eq_true rfl) (Nat.le_of_ble_eq_true rfl) (Nat.le_of_ble_eq_true rfl) rfl rfl (Nat.le_of_ble_eq_true rfl) (Nat.le_of_ble_eq_true rfl) rfl ?_
    refine s_X9_reads (α := 0) (β := 11) (by decide) (by decide) s1.1 s1.2.1 (fun M2 r2 x2 f2 v2 => hGo_i ?_)
    have t2 := s1.num x2 f2 v2
    refine G_iast dX9_readsNumbers_110 ⟨by decide, rfl, rfl⟩ (fun _ => rfl) rfl (show 5 * c + 2 < 125 by omega) (by decide) ?_
    have s2 : RS _ _ _ (M2.up 25 0 0 (5 * c + 2) r2) _ _ _ _ := t2
    generalize M2.up 25 0 0 (5 * c + 2) r2 = N2 at s2 ⊢
    refine G_aload_n dX9_readsNumbers_111 rfl ?_
    refine gf_X9_27 dX9_readsNumbers_112  ?_
    refine G_iload_n dX9_readsNumbers_115 rfl ?_
    refine G_iconst (v := 3) dX9_readsNumbers_116 (by decide) ?_
    refine G_iadd dX9_readsNumbers_117 ?_
    rw [show nI (5 * c) + (3 : Int32) = nI (5 * c + 3) from nI_add _ 3]
    refine G_aload_n dX9_readsNumbers_118 rfl ?_
    refine G_iconst (v := 0) dX9_readsNumbers_119 (by decide) ?_
    refine G_bipush (v := 20) dX9_readsNumbers_120 (by decide) ?_
    refine cv_X9_211 (cs' := 0) (ss' := 0) dX9_readsNumbers_122  (Nat.le_of_ble_eq_true rfl) (Nat.le_of_ble_eq_true rfl) (Nat.le_of_ble_eq_true rfl) rfl rfl (Nat.le_of_ble_eq_true rfl) (Nat.le_of_ble_eq_true rfl) rfl ?_
    refine s_X9_reads (α := 0) (β := 20) (by decide) (by decide) s2.1 s2.2.1 (fun M3 r3 x3 f3 v3 => hGo_i ?_)
    have t3 := s2.num x3 f3 v3
    refine G_iast dX9_readsNumbers_125 ⟨by decide, rfl, rfl⟩ (fun _ => rfl) rfl (show 5 * c + 3 < 125 by omega) (by decide) ?_
    have s3 : RS _ _ _ (M3.up 25 0 0 (5 * c + 3) r3) _ _ _ _ := t3
    generalize M3.up 25 0 0 (5 * c + 3) r3 = N3 at s3 ⊢
    refine G_aload_n dX9_readsNumbers_126 rfl ?_
    refine gf_X9_27 dX9_readsNumbers_127  ?_
    refine G_iload_n dX9_readsNumbers_130 rfl ?_
    refine G_iconst (v := 4) dX9_readsNumbers_131 (by decide) ?_
    refine G_iadd dX9_readsNumbers_132 ?_
    rw [show nI (5 * c) + (4 : Int32) = nI (5 * c + 4) from nI_add _ 4]
    refine G_aload_n dX9_readsNumbers_133 rfl ?_
    refine G_iconst (v := 0) dX9_readsNumbers_134 (by decide) ?_
    refine G_bipush (v := 20) dX9_readsNumbers_135 (by decide) ?_
    refine cv_X9_211 (cs' := 0) (ss' := 0) dX9_readsNumbers_137  (Nat.le_of_ble_eq_true rfl) (Nat.le_of_ble_eq_true rfl) (Nat.le_of_ble_eq_true rfl) rfl rfl (Nat.le_of_ble_eq_true rfl) (Nat.le_of_ble_eq_true rfl) rfl ?_
    refine s_X9_reads (α := 0) (β := 20) (by decide) (by decide) s3.1 s3.2.1 (fun M4 r4 x4 f4 v4 => hGo_i ?_)
    have t4 := s3.num x4 f4 v4
    refine G_iast dX9_readsNumbers_140 ⟨by decide, rfl, rfl⟩ (fun _ => rfl) rfl (show 5 * c + 4 < 125 by omega) (by decide) ?_
    have s4 : RS _ _ _ (M4.up 25 0 0 (5 * c + 4) r4) _ _ _ _ := t4
    generalize M4.up 25 0 0 (5 * c + 4) r4 = N4 at s4 ⊢
    refine G_vret dX9_readsNumbers_141 rfl (Nat.le_of_ble_eq_true rfl) (Nat.le_of_ble_eq_true rfl) ?_
    exact fin _ _ _ _ hR.symm s4
  · generalize hR : rA L (vK 2) T = R at s0
    refine G_iload_n dX9_readsNumbers_7 rfl ?_
    refine G_bipush (v := 6) dX9_readsNumbers_8 (by decide) ?_
    refine G_icmp_ne (tgt := 23) dX9_readsNumbers_10 (by decide) (fun c10 => ?_) (fun c10 => ?_)
    rotate_left
    · exact absurd c10 (by decide)
    refine G_aload_n dX9_readsNumbers_23 rfl ?_
    refine G_iconst (v := 0) dX9_readsNumbers_24 (by decide) ?_
    refine G_bipush (v := 11) dX9_readsNumbers_25 (by decide) ?_
    refine cv_X9_211 (cs' := 0) (ss' := 0) dX9_readsNumbers_27  (Nat.le_of_ble_eq_true rfl) (Nat.le_of_ble_eq_true rfl) (Nat.le_of_ble_eq_true rfl) rfl rfl (Nat.le_of_ble_eq_true rfl) (Nat.le_of_ble_eq_true rfl) rfl ?_
    refine s_X9_reads (α := 0) (β := 11) (by decide) (by decide) s0.1 s0.2.1 (fun M1 r1 x1 f1 v1 => hGo_i ?_)
    refine G_iast dX9_readsNumbers_30 ⟨by decide, rfl, rfl⟩ (fun _ => rfl) rfl (show 5 * c + 1 < 125 by omega) (by decide) ?_
    have s1 := s0.num (xs := []) x1 f1 v1
    have s1 : RS _ _ _ (M1.up 25 0 0 (5 * c + 1) r1) _ _ _ _ := s1
    generalize M1.up 25 0 0 (5 * c + 1) r1 = N1 at s1 ⊢
    refine G_iload_n dX9_readsNumbers_31 rfl ?_
    refine G_tIn (off := 110) (tgt := 142) dX9_readsNumbers_32 (by decide) (by decide) rfl (by decide) ?_
    refine G_aload_n dX9_readsNumbers_142 rfl ?_
    refine gf_X9_27 dX9_readsNumbers_143  ?_
    refine G_iload_n dX9_readsNumbers_146 rfl ?_
    refine G_iconst (v := 2) dX9_readsNumbers_147 (by decide) ?_
    refine G_iadd dX9_readsNumbers_148 ?_
    rw [show nI (5 * c) + (2 : Int32) = nI (5 * c + 2) from nI_add _ 2]
    refine G_aload_n dX9_readsNumbers_149 rfl ?_
    refine G_iconst (v := 0) dX9_readsNumbers_150 (by decide) ?_
    refine G_bipush (v := 11) dX9_readsNumbers_151 (by decide) ?_
    refine cv_X9_211 (cs' := 0) (ss' := 0) dX9_readsNumbers_153  (Nat.le_of_ble_eq_true rfl) (Nat.le_of_ble_eq_true rfl) (Nat.le_of_ble_eq_true rfl) rfl rfl (Nat.le_of_ble_eq_true rfl) (Nat.le_of_ble_eq_true rfl) rfl ?_
    refine s_X9_reads (α := 0) (β := 11) (by decide) (by decide) s1.1 s1.2.1 (fun M2 r2 x2 f2 v2 => hGo_i ?_)
    have t2 := s1.num x2 f2 v2
    refine G_iast dX9_readsNumbers_156 ⟨by decide, rfl, rfl⟩ (fun _ => rfl) rfl (show 5 * c + 2 < 125 by omega) (by decide) ?_
    have s2 : RS _ _ _ (M2.up 25 0 0 (5 * c + 2) r2) _ _ _ _ := t2
    generalize M2.up 25 0 0 (5 * c + 2) r2 = N2 at s2 ⊢
    refine G_aload_n dX9_readsNumbers_157 rfl ?_
    refine gf_X9_27 dX9_readsNumbers_158  ?_
    refine G_iload_n dX9_readsNumbers_161 rfl ?_
    refine G_iconst (v := 3) dX9_readsNumbers_162 (by decide) ?_
    refine G_iadd dX9_readsNumbers_163 ?_
    rw [show nI (5 * c) + (3 : Int32) = nI (5 * c + 3) from nI_add _ 3]
    refine G_aload_n dX9_readsNumbers_164 rfl ?_
    refine cv_X9_255 (cs' := 0) (ss' := 0) dX9_readsNumbers_165  (Nat.le_of_ble_eq_true rfl) (Nat.le_of_ble_eq_true rfl) (Nat.le_of_ble_eq_true rfl) rfl rfl (Nat.le_of_ble_eq_true rfl) (Nat.le_of_ble_eq_true rfl) rfl ?_
    refine s_X9_readsKind s2.1 s2.2.1 (fun M3 x3 f3 => hGo_i ?_)
    have t3 := s2.sub x3 f3
    refine G_iast dX9_readsNumbers_168 ⟨by decide, rfl, rfl⟩ (fun _ => rfl) rfl (show 5 * c + 3 < 125 by omega) (by decide) ?_
    have s3 : RS _ _ _ (M3.up 25 0 0 (5 * c + 3) (sbV L _)) _ _ _ _ := t3
    generalize M3.up 25 0 0 (5 * c + 3) (sbV L _) = N3 at s3 ⊢
    refine G_aload_n dX9_readsNumbers_169 rfl ?_
    refine gf_X9_27 dX9_readsNumbers_170  ?_
    refine G_iload_n dX9_readsNumbers_173 rfl ?_
    refine G_iconst (v := 4) dX9_readsNumbers_174 (by decide) ?_
    refine G_iadd dX9_readsNumbers_175 ?_
    rw [show nI (5 * c) + (4 : Int32) = nI (5 * c + 4) from nI_add _ 4]
    refine G_aload_n dX9_readsNumbers_176 rfl ?_
    refine G_iconst (v := 1) dX9_readsNumbers_177 (by decide) ?_
    refine G_bipush (v := 20) dX9_readsNumbers_178 (by decide) ?_
    refine cv_X9_211 (cs' := 0) (ss' := 0) dX9_readsNumbers_180  (Nat.le_of_ble_eq_true rfl) (Nat.le_of_ble_eq_true rfl) (Nat.le_of_ble_eq_true rfl) rfl rfl (Nat.le_of_ble_eq_true rfl) (Nat.le_of_ble_eq_true rfl) rfl ?_
    refine s_X9_reads (α := 1) (β := 20) (by decide) (by decide) s3.1 s3.2.1 (fun M4 r4 x4 f4 v4 => hGo_i ?_)
    have t4 := s3.num x4 f4 v4
    refine G_iast dX9_readsNumbers_183 ⟨by decide, rfl, rfl⟩ (fun _ => rfl) rfl (show 5 * c + 4 < 125 by omega) (by decide) ?_
    have s4 : RS _ _ _ (M4.up 25 0 0 (5 * c + 4) r4) _ _ _ _ := t4
    generalize M4.up 25 0 0 (5 * c + 4) r4 = N4 at s4 ⊢
    refine G_vret dX9_readsNumbers_184 rfl (Nat.le_of_ble_eq_true rfl) (Nat.le_of_ble_eq_true rfl) ?_
    exact fin _ _ _ _ hR.symm s4
  · generalize hR : rA L (vK 3) T = R at s0
    refine G_iload_n dX9_readsNumbers_7 rfl ?_
    refine G_bipush (v := 6) dX9_readsNumbers_8 (by decide) ?_
    refine G_icmp_ne (tgt := 23) dX9_readsNumbers_10 (by decide) (fun c10 => ?_) (fun c10 => ?_)
    rotate_left
    · exact absurd c10 (by decide)
    refine G_aload_n dX9_readsNumbers_23 rfl ?_
    refine G_iconst (v := 0) dX9_readsNumbers_24 (by decide) ?_
    refine G_bipush (v := 11) dX9_readsNumbers_25 (by decide) ?_
    refine cv_X9_211 (cs' := 0) (ss' := 0) dX9_readsNumbers_27  (Nat.le_of_ble_eq_true rfl) (Nat.le_of_ble_eq_true rfl) (Nat.le_of_ble_eq_true rfl) rfl rfl (Nat.le_of_ble_eq_true rfl) (Nat.le_of_ble_eq_true rfl) rfl ?_
    refine s_X9_reads (α := 0) (β := 11) (by decide) (by decide) s0.1 s0.2.1 (fun M1 r1 x1 f1 v1 => hGo_i ?_)
    refine G_iast dX9_readsNumbers_30 ⟨by decide, rfl, rfl⟩ (fun _ => rfl) rfl (show 5 * c + 1 < 125 by omega) (by decide) ?_
    have s1 := s0.num (xs := []) x1 f1 v1
    have s1 : RS _ _ _ (M1.up 25 0 0 (5 * c + 1) r1) _ _ _ _ := s1
    generalize M1.up 25 0 0 (5 * c + 1) r1 = N1 at s1 ⊢
    refine G_iload_n dX9_readsNumbers_31 rfl ?_
    refine G_tIn (off := 110) (tgt := 142) dX9_readsNumbers_32 (by decide) (by decide) rfl (by decide) ?_
    refine G_aload_n dX9_readsNumbers_142 rfl ?_
    refine gf_X9_27 dX9_readsNumbers_143  ?_
    refine G_iload_n dX9_readsNumbers_146 rfl ?_
    refine G_iconst (v := 2) dX9_readsNumbers_147 (by decide) ?_
    refine G_iadd dX9_readsNumbers_148 ?_
    rw [show nI (5 * c) + (2 : Int32) = nI (5 * c + 2) from nI_add _ 2]
    refine G_aload_n dX9_readsNumbers_149 rfl ?_
    refine G_iconst (v := 0) dX9_readsNumbers_150 (by decide) ?_
    refine G_bipush (v := 11) dX9_readsNumbers_151 (by decide) ?_
    refine cv_X9_211 (cs' := 0) (ss' := 0) dX9_readsNumbers_153  (Nat.le_of_ble_eq_true rfl) (Nat.le_of_ble_eq_true rfl) (Nat.le_of_ble_eq_true rfl) rfl rfl (Nat.le_of_ble_eq_true rfl) (Nat.le_of_ble_eq_true rfl) rfl ?_
    refine s_X9_reads (α := 0) (β := 11) (by decide) (by decide) s1.1 s1.2.1 (fun M2 r2 x2 f2 v2 => hGo_i ?_)
    have t2 := s1.num x2 f2 v2
    refine G_iast dX9_readsNumbers_156 ⟨by decide, rfl, rfl⟩ (fun _ => rfl) rfl (show 5 * c + 2 < 125 by omega) (by decide) ?_
    have s2 : RS _ _ _ (M2.up 25 0 0 (5 * c + 2) r2) _ _ _ _ := t2
    generalize M2.up 25 0 0 (5 * c + 2) r2 = N2 at s2 ⊢
    refine G_aload_n dX9_readsNumbers_157 rfl ?_
    refine gf_X9_27 dX9_readsNumbers_158  ?_
    refine G_iload_n dX9_readsNumbers_161 rfl ?_
    refine G_iconst (v := 3) dX9_readsNumbers_162 (by decide) ?_
    refine G_iadd dX9_readsNumbers_163 ?_
    rw [show nI (5 * c) + (3 : Int32) = nI (5 * c + 3) from nI_add _ 3]
    refine G_aload_n dX9_readsNumbers_164 rfl ?_
    refine cv_X9_255 (cs' := 0) (ss' := 0) dX9_readsNumbers_165  (Nat.le_of_ble_eq_true rfl) (Nat.le_of_ble_eq_true rfl) (Nat.le_of_ble_eq_true rfl) rfl rfl (Nat.le_of_ble_eq_true rfl) (Nat.le_of_ble_eq_true rfl) rfl ?_
    refine s_X9_readsKind s2.1 s2.2.1 (fun M3 x3 f3 => hGo_i ?_)
    have t3 := s2.sub x3 f3
    refine G_iast dX9_readsNumbers_168 ⟨by decide, rfl, rfl⟩ (fun _ => rfl) rfl (show 5 * c + 3 < 125 by omega) (by decide) ?_
    have s3 : RS _ _ _ (M3.up 25 0 0 (5 * c + 3) (sbV L _)) _ _ _ _ := t3
    generalize M3.up 25 0 0 (5 * c + 3) (sbV L _) = N3 at s3 ⊢
    refine G_aload_n dX9_readsNumbers_169 rfl ?_
    refine gf_X9_27 dX9_readsNumbers_170  ?_
    refine G_iload_n dX9_readsNumbers_173 rfl ?_
    refine G_iconst (v := 4) dX9_readsNumbers_174 (by decide) ?_
    refine G_iadd dX9_readsNumbers_175 ?_
    rw [show nI (5 * c) + (4 : Int32) = nI (5 * c + 4) from nI_add _ 4]
    refine G_aload_n dX9_readsNumbers_176 rfl ?_
    refine G_iconst (v := 1) dX9_readsNumbers_177 (by decide) ?_
    refine G_bipush (v := 20) dX9_readsNumbers_178 (by decide) ?_
    refine cv_X9_211 (cs' := 0) (ss' := 0) dX9_readsNumbers_180  (Nat.le_of_ble_eq_true rfl) (Nat.le_of_ble_eq_true rfl) (Nat.le_of_ble_eq_true rfl) rfl rfl (Nat.le_of_ble_eq_true rfl) (Nat.le_of_ble_eq_true rfl) rfl ?_
    refine s_X9_reads (α := 1) (β := 20) (by decide) (by decide) s3.1 s3.2.1 (fun M4 r4 x4 f4 v4 => hGo_i ?_)
    have t4 := s3.num x4 f4 v4
    refine G_iast dX9_readsNumbers_183 ⟨by decide, rfl, rfl⟩ (fun _ => rfl) rfl (show 5 * c + 4 < 125 by omega) (by decide) ?_
    have s4 : RS _ _ _ (M4.up 25 0 0 (5 * c + 4) r4) _ _ _ _ := t4
    generalize M4.up 25 0 0 (5 * c + 4) r4 = N4 at s4 ⊢
    refine G_vret dX9_readsNumbers_184 rfl (Nat.le_of_ble_eq_true rfl) (Nat.le_of_ble_eq_true rfl) ?_
    exact fin _ _ _ _ hR.symm s4
  · generalize hR : rA L (vK 4) T = R at s0
    refine G_iload_n dX9_readsNumbers_7 rfl ?_
    refine G_bipush (v := 6) dX9_readsNumbers_8 (by decide) ?_
    refine G_icmp_ne (tgt := 23) dX9_readsNumbers_10 (by decide) (fun c10 => ?_) (fun c10 => ?_)
    rotate_left
    · exact absurd c10 (by decide)
    refine G_aload_n dX9_readsNumbers_23 rfl ?_
    refine G_iconst (v := 0) dX9_readsNumbers_24 (by decide) ?_
    refine G_bipush (v := 11) dX9_readsNumbers_25 (by decide) ?_
    refine cv_X9_211 (cs' := 0) (ss' := 0) dX9_readsNumbers_27  (Nat.le_of_ble_eq_true rfl) (Nat.le_of_ble_eq_true rfl) (Nat.le_of_ble_eq_true rfl) rfl rfl (Nat.le_of_ble_eq_true rfl) (Nat.le_of_ble_eq_true rfl) rfl ?_
    refine s_X9_reads (α := 0) (β := 11) (by decide) (by decide) s0.1 s0.2.1 (fun M1 r1 x1 f1 v1 => hGo_i ?_)
    refine G_iast dX9_readsNumbers_30 ⟨by decide, rfl, rfl⟩ (fun _ => rfl) rfl (show 5 * c + 1 < 125 by omega) (by decide) ?_
    have s1 := s0.num (xs := []) x1 f1 v1
    have s1 : RS _ _ _ (M1.up 25 0 0 (5 * c + 1) r1) _ _ _ _ := s1
    generalize M1.up 25 0 0 (5 * c + 1) r1 = N1 at s1 ⊢
    refine G_iload_n dX9_readsNumbers_31 rfl ?_
    refine G_tIn (off := 153) (tgt := 185) dX9_readsNumbers_32 (by decide) (by decide) rfl (by decide) ?_
    refine G_aload_n dX9_readsNumbers_185 rfl ?_
    refine gf_X9_27 dX9_readsNumbers_186  ?_
    refine G_iload_n dX9_readsNumbers_189 rfl ?_
    refine G_iconst (v := 2) dX9_readsNumbers_190 (by decide) ?_
    refine G_iadd dX9_readsNumbers_191 ?_
    rw [show nI (5 * c) + (2 : Int32) = nI (5 * c + 2) from nI_add _ 2]
    refine G_aload_n dX9_readsNumbers_192 rfl ?_
    refine G_iconst (v := 0) dX9_readsNumbers_193 (by decide) ?_
    refine G_iconst (v := 5) dX9_readsNumbers_194 (by decide) ?_
    refine cv_X9_211 (cs' := 0) (ss' := 0) dX9_readsNumbers_195  (Nat.le_of_ble_eq_true rfl) (Nat.le_of_ble_eq_true rfl) (Nat.le_of_ble_eq_true rfl) rfl rfl (Nat.le_of_ble_eq_true rfl) (Nat.le_of_ble_eq_true rfl) rfl ?_
    refine s_X9_reads (α := 0) (β := 5) (by decide) (by decide) s1.1 s1.2.1 (fun M2 r2 x2 f2 v2 => hGo_i ?_)
    have t2 := s1.num x2 f2 v2
    refine G_iast dX9_readsNumbers_198 ⟨by decide, rfl, rfl⟩ (fun _ => rfl) rfl (show 5 * c + 2 < 125 by omega) (by decide) ?_
    have s2 : RS _ _ _ (M2.up 25 0 0 (5 * c + 2) r2) _ _ _ _ := t2
    generalize M2.up 25 0 0 (5 * c + 2) r2 = N2 at s2 ⊢
    refine G_aload_n dX9_readsNumbers_199 rfl ?_
    refine gf_X9_27 dX9_readsNumbers_200  ?_
    refine G_iload_n dX9_readsNumbers_203 rfl ?_
    refine G_iconst (v := 3) dX9_readsNumbers_204 (by decide) ?_
    refine G_iadd dX9_readsNumbers_205 ?_
    rw [show nI (5 * c) + (3 : Int32) = nI (5 * c + 3) from nI_add _ 3]
    refine G_aload_n dX9_readsNumbers_206 rfl ?_
    refine G_iconst (v := 0) dX9_readsNumbers_207 (by decide) ?_
    refine G_iconst (v := 5) dX9_readsNumbers_208 (by decide) ?_
    refine cv_X9_211 (cs' := 0) (ss' := 0) dX9_readsNumbers_209  (Nat.le_of_ble_eq_true rfl) (Nat.le_of_ble_eq_true rfl) (Nat.le_of_ble_eq_true rfl) rfl rfl (Nat.le_of_ble_eq_true rfl) (Nat.le_of_ble_eq_true rfl) rfl ?_
    refine s_X9_reads (α := 0) (β := 5) (by decide) (by decide) s2.1 s2.2.1 (fun M3 r3 x3 f3 v3 => hGo_i ?_)
    have t3 := s2.num x3 f3 v3
    refine G_iast dX9_readsNumbers_212 ⟨by decide, rfl, rfl⟩ (fun _ => rfl) rfl (show 5 * c + 3 < 125 by omega) (by decide) ?_
    have s3 : RS _ _ _ (M3.up 25 0 0 (5 * c + 3) r3) _ _ _ _ := t3
    generalize M3.up 25 0 0 (5 * c + 3) r3 = N3 at s3 ⊢
    refine G_vret dX9_readsNumbers_213 rfl (Nat.le_of_ble_eq_true rfl) (Nat.le_of_ble_eq_true rfl) ?_
    exact fin _ _ _ _ hR.symm s3
  · generalize hR : rA L (vK 5) T = R at s0
    refine G_iload_n dX9_readsNumbers_7 rfl ?_
    refine G_bipush (v := 6) dX9_readsNumbers_8 (by decide) ?_
    refine G_icmp_ne (tgt := 23) dX9_readsNumbers_10 (by decide) (fun c10 => ?_) (fun c10 => ?_)
    rotate_left
    · exact absurd c10 (by decide)
    refine G_aload_n dX9_readsNumbers_23 rfl ?_
    refine G_iconst (v := 0) dX9_readsNumbers_24 (by decide) ?_
    refine G_bipush (v := 11) dX9_readsNumbers_25 (by decide) ?_
    refine cv_X9_211 (cs' := 0) (ss' := 0) dX9_readsNumbers_27  (Nat.le_of_ble_eq_true rfl) (Nat.le_of_ble_eq_true rfl) (Nat.le_of_ble_eq_true rfl) rfl rfl (Nat.le_of_ble_eq_true rfl) (Nat.le_of_ble_eq_true rfl) rfl ?_
    refine s_X9_reads (α := 0) (β := 11) (by decide) (by decide) s0.1 s0.2.1 (fun M1 r1 x1 f1 v1 => hGo_i ?_)
    refine G_iast dX9_readsNumbers_30 ⟨by decide, rfl, rfl⟩ (fun _ => rfl) rfl (show 5 * c + 1 < 125 by omega) (by decide) ?_
    have s1 := s0.num (xs := []) x1 f1 v1
    have s1 : RS _ _ _ (M1.up 25 0 0 (5 * c + 1) r1) _ _ _ _ := s1
    generalize M1.up 25 0 0 (5 * c + 1) r1 = N1 at s1 ⊢
    refine G_iload_n dX9_readsNumbers_31 rfl ?_
    refine G_tOut (tgt := 214) dX9_readsNumbers_32 (by decide) (by decide) ?_
    refine G_vret dX9_readsNumbers_214 rfl (Nat.le_of_ble_eq_true rfl) (Nat.le_of_ble_eq_true rfl) ?_
    exact fin _ _ _ _ hR.symm s1
  · generalize hR : rA L (vK 6) T = R at s0
    refine G_iload_n dX9_readsNumbers_7 rfl ?_
    refine G_bipush (v := 6) dX9_readsNumbers_8 (by decide) ?_
    refine G_icmp_ne (tgt := 23) dX9_readsNumbers_10 (by decide) (fun c10 => ?_) (fun c10 => ?_)
    · exact absurd rfl c10
    refine G_aload_n dX9_readsNumbers_13 rfl ?_
    refine G_iconst (v := 1) dX9_readsNumbers_14 (by decide) ?_
    refine G_bipush (v := 10) dX9_readsNumbers_15 (by decide) ?_
    refine cv_X9_211 (cs' := 0) (ss' := 0) dX9_readsNumbers_17  (Nat.le_of_ble_eq_true rfl) (Nat.le_of_ble_eq_true rfl) (Nat.le_of_ble_eq_true rfl) rfl rfl (Nat.le_of_ble_eq_true rfl) (Nat.le_of_ble_eq_true rfl) rfl ?_
    refine s_X9_reads (α := 1) (β := 10) (by decide) (by decide) s0.1 s0.2.1 (fun M1 r1 x1 f1 v1 => hGo_i ?_)
    refine G_goto (tgt := 30) dX9_readsNumbers_20 (by decide) ?_
    refine G_iast dX9_readsNumbers_30 ⟨by decide, rfl, rfl⟩ (fun _ => rfl) rfl (show 5 * c + 1 < 125 by omega) (by decide) ?_
    have s1 := s0.num (xs := []) x1 f1 v1
    have s1 : RS _ _ _ (M1.up 25 0 0 (5 * c + 1) r1) _ _ _ _ := s1
    generalize M1.up 25 0 0 (5 * c + 1) r1 = N1 at s1 ⊢
    refine G_iload_n dX9_readsNumbers_31 rfl ?_
    refine G_tOut (tgt := 214) dX9_readsNumbers_32 (by decide) (by decide) ?_
    refine G_vret dX9_readsNumbers_214 rfl (Nat.le_of_ble_eq_true rfl) (Nat.le_of_ble_eq_true rfl) ?_
    exact fin _ _ _ _ hR.symm s1
def Sc (M : Mm) (Cs : List Cmd) : Prop := M.1 20 0 0 15 = nI Cs.length ∧ Cs.length ≤ 25 ∧ ∀ i, i < Cs.length → M.1 25 0 0 (5 * i) = nI (cg Cs i).1 ∧ (cg Cs i).1 < 7 ∧ (cg Cs i).2.length = (vK (cg Cs i).1).length ∧ ∀ t, t < (cg Cs i).2.length → M.1 25 0 0 (5 * i + 1 + t) = (cg Cs i).2.getD t 0
/-- changed: the reader's fields, the commands -/
def Fy (M M' : Mm) : Prop := M'.2 = M.2 ∧ ∀ k j p t, ¬ (k = 20 ∧ (8 ≤ t ∧ t ≤ 13 ∨ t = 15)) → k ≠ 25 → M'.1 k j p t = M.1 k j p t
theorem Fy.rfl : Fy M M := ⟨Eq.refl _, fun _ _ _ _ _ _ => Eq.refl _⟩
theorem Fy.trans {M'' : Mm} (h : Fy M M') (h2 : Fy M' M'') : Fy M M'' := ⟨h2.1.trans h.1, fun k j p t q r => (h2.2 k j p t q r).trans (h.2 k j p t q r)⟩
theorem Fx.fy (h : Fx M M') : Fy M M' := ⟨h.1, fun k j p t q _ => h.2 k j p t (fun z => q ⟨z.1, Or.inl z.2⟩)⟩
theorem Fn.fy {n : Nat} (h : Fn n M M') : Fy M M' := ⟨h.1, fun k j p t q r => h.2 k j p t (fun z => q ⟨z.1, Or.inl z.2⟩) (fun z => r z.1)⟩
theorem TX.k15 {v : Int32} (h : TX M L T) : TX (M.up 20 0 0 15 v) L T := by
  obtain ⟨a, b, c, d, e⟩ := h
  have k : ∀ u, u ≠ 15 → (M.up 20 0 0 15 v).1 20 0 0 u = M.1 20 0 0 u := fun u hu => up_nt hu
  refine ⟨(k 8 (by decide)).trans a, (k 9 (by decide)).trans b, c, d, fun z => ?_⟩
  obtain ⟨e1, e2, e3, e4⟩ := e z
  refine ⟨(k 12 (by decide)).trans e1, (k 11 (by decide)).trans e2, (k 10 (by decide)).trans e3, fun y => ?_⟩
  obtain ⟨n, n1, n2, n3⟩ := e4 y
  exact ⟨n, n1, (k 13 (by decide)).trans n2, n3⟩
theorem vb_7 (h : vb L T ≠ 7) : vb L T < 7 := by
  have q : vb L T ≤ 7 := by
    unfold vb
    repeat' split
    all_goals decide
  omega
theorem s_X9_readsCommand {Cs : List Cmd} (hX : MT M L) (hT : TX M L T) (c0 : T.code = 0) (hS : Sc M Cs) (h : ∀ M', MT M' L → TX M' L (rcT L T Cs) → ((rcT L T Cs).code = 0 → Sc M' (rcC L T Cs)) → Fy M M' → P (.inl none) M') : Sp E yX9_readsCommand cX9_readsCommand zX9_readsCommand [.ref (ad E 20 0 0)] M P := by
  obtain ⟨s1, s2, s3⟩ := hS
  have bad : ∀ M1 T1, TX M1 L T1 → Fx M M1 → T1.code ≠ 0 → c2 L T Cs.length = T1 → P (.inl none) M1 := fun M1 T1 x1 f1 z e => by
    have e3 : c3 L T Cs.length = T1 := by
      unfold c3
      rw [e, adv_bad z]
    have er : rcT L T Cs = T1 := by
      unfold rcT
      rw [e3, if_neg z]
    exact h M1 (hX.fx f1) (by rw [er]; exact x1) (fun y => absurd (er ▸ y) z) f1.fy
  refine Sp_of (own := RX9) (by decide) rfl rfl (Nat.le_of_ble_eq_true rfl) (fun C => ?_)
  refine G_aload_n dX9_readsCommand_0 rfl ?_
  refine cv_X9_258 (cs' := 0) (ss' := 0) dX9_readsCommand_1  (Nat.le_of_ble_eq_true rfl) (Nat.le_of_ble_eq_true rfl) (Nat.le_of_ble_eq_true rfl) rfl rfl (Nat.le_of_ble_eq_true rfl) (Nat.le_of_ble_eq_true rfl) rfl ?_
  refine s_X9_commandHere hX hT (hGo_i ?_)
  by_cases hv : vb L T = 7
  · rw [if_pos hv]
    have z : (fai 1 T).code ≠ 0 := fai_is (by decide)
    refine G_istore_n dX9_readsCommand_4 (Nat.le_of_ble_eq_true rfl) ?_
    refine G_aload_n dX9_readsCommand_5 rfl ?_
    refine G_iload_n dX9_readsCommand_6 rfl ?_
    refine G_iconst (v := (-1)) dX9_readsCommand_7 (by decide) ?_
    refine G_icmp_eq (tgt := 15) dX9_readsCommand_8 (by decide) (fun c8 => ?_) (fun c8 => ?_)
    rotate_left
    · exact absurd rfl c8
    refine G_iconst (v := 0) dX9_readsCommand_15 (by decide) ?_
    refine G_iconst (v := 1) dX9_readsCommand_16 (by decide) ?_
    refine cv_X9_200 (cs' := 0) (ss' := 0) dX9_readsCommand_17  (Nat.le_of_ble_eq_true rfl) (Nat.le_of_ble_eq_true rfl) (Nat.le_of_ble_eq_true rfl) rfl rfl (Nat.le_of_ble_eq_true rfl) (Nat.le_of_ble_eq_true rfl) rfl ?_
    refine s_X9_must hT (by decide) (Or.inl rfl) (fun M1 x1 f1 => hGo_i ?_)
    rw [if_pos rfl] at x1 ⊢
    rw [if_neg z]
    refine G_if_eq (tgt := 45) dX9_readsCommand_20 (by decide) (fun c20 => ?_) (fun c20 => ?_)
    · refine G_vret dX9_readsCommand_45 rfl (Nat.le_of_ble_eq_true rfl) (Nat.le_of_ble_eq_true rfl) ?_
      refine bad M1 _ x1 f1 z ?_
      unfold c2
      rw [if_pos hv, fai_bad z, ite_self]
    · exact absurd rfl c20
  have hv7 := vb_7 hv
  rw [if_neg hv]
  refine G_istore_n dX9_readsCommand_4 (Nat.le_of_ble_eq_true rfl) ?_
  refine G_aload_n dX9_readsCommand_5 rfl ?_
  refine G_iload_n dX9_readsCommand_6 rfl ?_
  refine G_iconst (v := (-1)) dX9_readsCommand_7 (by decide) ?_
  refine G_icmp_eq (tgt := 15) dX9_readsCommand_8 (by decide) (fun c8 => ?_) (fun c8 => ?_)
  · exact absurd c8 (nI_nm1 (by omega))
  refine G_iconst (v := 1) dX9_readsCommand_11 (by decide) ?_
  refine G_goto (tgt := 16) dX9_readsCommand_12 (by decide) ?_
  refine G_iconst (v := 1) dX9_readsCommand_16 (by decide) ?_
  refine cv_X9_200 (cs' := 0) (ss' := 0) dX9_readsCommand_17  (Nat.le_of_ble_eq_true rfl) (Nat.le_of_ble_eq_true rfl) (Nat.le_of_ble_eq_true rfl) rfl rfl (Nat.le_of_ble_eq_true rfl) (Nat.le_of_ble_eq_true rfl) rfl ?_
  refine s_X9_must hT (by decide) (Or.inr rfl) (fun M1 x1 f1 => hGo_i ?_)
  rw [if_neg (show ¬ (1 : Int32) = 0 by decide)] at x1 ⊢
  rw [if_pos c0]
  have l1 : M1.1 20 0 0 15 = nI Cs.length := (f1.2 20 0 0 15 (fun q => absurd q.2.2 (by decide))).trans s1
  refine G_if_eq (tgt := 45) dX9_readsCommand_20 (by decide) (fun c20 => ?_) (fun c20 => ?_)
  · exact absurd c20 (by decide)
  refine G_aload_n dX9_readsCommand_23 rfl ?_
  refine G_aload_n dX9_readsCommand_24 rfl ?_
  refine gf_X9_261 dX9_readsCommand_25  ?_
  rw [l1]
  refine G_bipush (v := 25) dX9_readsCommand_28 (by decide) ?_
  refine G_icmp_ge (tgt := 37) dX9_readsCommand_30 (by decide) (fun c30 => ?_) (fun c30 => ?_)
  · have hn : ¬ Cs.length < 25 := fun z => absurd (show nI 25 ≤ nI Cs.length from c30) (nI_ge z (by decide))
    have z : (fai 4 T).code ≠ 0 := fai_is (by decide)
    refine G_iconst (v := 0) dX9_readsCommand_37 (by decide) ?_
    refine G_iconst (v := 4) dX9_readsCommand_38 (by decide) ?_
    refine cv_X9_200 (cs' := 0) (ss' := 0) dX9_readsCommand_39  (Nat.le_of_ble_eq_true rfl) (Nat.le_of_ble_eq_true rfl) (Nat.le_of_ble_eq_true rfl) rfl rfl (Nat.le_of_ble_eq_true rfl) (Nat.le_of_ble_eq_true rfl) rfl ?_
    refine s_X9_must x1 (by decide) (Or.inl rfl) (fun M2 x2 f2 => hGo_i ?_)
    rw [if_pos rfl] at x2 ⊢
    rw [if_neg z]
    refine G_if_ne (tgt := 46) dX9_readsCommand_42 (by decide) (fun c42 => ?_) (fun c42 => ?_)
    · exact absurd rfl c42
    · refine G_vret dX9_readsCommand_45 rfl (Nat.le_of_ble_eq_true rfl) (Nat.le_of_ble_eq_true rfl) ?_
      refine bad M2 _ x2 (f1.trans f2) z ?_
      unfold c2
      rw [if_neg hn, if_neg hv]
  have hn : Cs.length < 25 := by
    rcases Nat.lt_or_ge Cs.length 25 with z | z
    · exact z
    · exact absurd (nI_le z (by omega)) c30
  refine G_iconst (v := 1) dX9_readsCommand_33 (by decide) ?_
  refine G_goto (tgt := 38) dX9_readsCommand_34 (by decide) ?_
  refine G_iconst (v := 4) dX9_readsCommand_38 (by decide) ?_
  refine cv_X9_200 (cs' := 0) (ss' := 0) dX9_readsCommand_39  (Nat.le_of_ble_eq_true rfl) (Nat.le_of_ble_eq_true rfl) (Nat.le_of_ble_eq_true rfl) rfl rfl (Nat.le_of_ble_eq_true rfl) (Nat.le_of_ble_eq_true rfl) rfl ?_
  refine s_X9_must x1 (by decide) (Or.inr rfl) (fun M2 x2 f2 => hGo_i ?_)
  rw [if_neg (show ¬ (1 : Int32) = 0 by decide)] at x2 ⊢
  rw [if_pos c0]
  have f2 := f1.trans f2
  refine G_if_ne (tgt := 46) dX9_readsCommand_42 (by decide) (fun c42 => ?_) (fun c42 => ?_)
  rotate_left
  · exact absurd c42 (by decide)
  refine G_aload_n dX9_readsCommand_46 rfl ?_
  refine cv_X9_203 (cs' := 0) (ss' := 0) dX9_readsCommand_47  (Nat.le_of_ble_eq_true rfl) (Nat.le_of_ble_eq_true rfl) (Nat.le_of_ble_eq_true rfl) rfl rfl (Nat.le_of_ble_eq_true rfl) (Nat.le_of_ble_eq_true rfl) rfl ?_
  refine s_X9_goesOn (hX.fx f2) x2 (fun M3 x3 f3 => hGo_v ?_)
  have f3 := f2.trans f3
  have e3 : c3 L T Cs.length = adv L T := by
    unfold c3 c2
    rw [if_pos hn, if_neg hv]
  have z3 : (c3 L T Cs.length).code = 0 := by rw [e3, adv_code]; exact c0
  rw [← e3] at x3
  have l3 : M3.1 20 0 0 15 = nI Cs.length := (f3.2 20 0 0 15 (fun q => absurd q.2.2 (by decide))).trans s1
  have er : rcT L T Cs = tkS L (rA L (vK (vb L T)) (c3 L T Cs.length)).1 := if_pos z3
  have ec : rcC L T Cs = Cs ++ [(vb L T, (rA L (vK (vb L T)) (c3 L T Cs.length)).2)] := if_pos z3
  refine G_aload_n dX9_readsCommand_50 rfl ?_
  refine gf_X9_27 dX9_readsCommand_51  ?_
  refine G_iconst (v := 5) dX9_readsCommand_54 (by decide) ?_
  refine G_aload_n dX9_readsCommand_55 rfl ?_
  refine gf_X9_261 dX9_readsCommand_56  ?_
  rw [l3]
  refine G_imul dX9_readsCommand_59 ?_
  rw [show (5 : Int32) = nI 5 from rfl, pk_mul]
  refine G_iload_n dX9_readsCommand_60 rfl ?_
  refine G_iast dX9_readsCommand_61 ⟨by decide, rfl, rfl⟩ (fun _ => rfl) rfl (show 5 * Cs.length < 125 by omega) (by decide) ?_
  have x4 := x3.k25 (t := 5 * Cs.length) (v := nI (vb L T))
  have f4 : Fy M (M3.up 25 0 0 (5 * Cs.length) (nI (vb L T))) := f3.fy.trans (Fn.up (Nat.le_refl _)).fy
  have m4 : MT (M3.up 25 0 0 (5 * Cs.length) (nI (vb L T))) L := (hX.fx f3).fn (Fn.up (Nat.le_refl _))
  have l4 : (M3.up 25 0 0 (5 * Cs.length) (nI (vb L T))).1 20 0 0 15 = nI Cs.length := (up_nk (by decide)).trans l3
  have v4 : (M3.up 25 0 0 (5 * Cs.length) (nI (vb L T))).1 25 0 0 (5 * Cs.length) = nI (vb L T) := up_at
  have o4 : ∀ t, t < 5 * Cs.length → (M3.up 25 0 0 (5 * Cs.length) (nI (vb L T))).1 25 0 0 t = M.1 25 0 0 t := fun t ht => (up_nt (by omega)).trans (f3.2 25 0 0 t (fun q => absurd q.1 (by decide)))
  generalize M3.up 25 0 0 (5 * Cs.length) (nI (vb L T)) = M4 at x4 f4 m4 l4 v4 o4 ⊢
  refine G_aload_n dX9_readsCommand_62 rfl ?_
  refine G_iconst (v := 5) dX9_readsCommand_63 (by decide) ?_
  refine G_aload_n dX9_readsCommand_64 rfl ?_
  refine gf_X9_261 dX9_readsCommand_65  ?_
  rw [l4]
  refine G_imul dX9_readsCommand_68 ?_
  rw [show (5 : Int32) = nI 5 from rfl, pk_mul]
  refine G_iload_n dX9_readsCommand_69 rfl ?_
  refine cv_X9_264 (cs' := 0) (ss' := 0) dX9_readsCommand_70  (Nat.le_of_ble_eq_true rfl) (Nat.le_of_ble_eq_true rfl) (Nat.le_of_ble_eq_true rfl) rfl rfl (Nat.le_of_ble_eq_true rfl) (Nat.le_of_ble_eq_true rfl) rfl ?_
  refine s_X9_readsNumbers hn hv7 m4 x4 (fun M5 m5 x5 a5 f5 => hGo_v ?_)
  refine G_aload_n dX9_readsCommand_73 rfl ?_
  refine cv_X9_219 (cs' := 0) (ss' := 0) dX9_readsCommand_74  (Nat.le_of_ble_eq_true rfl) (Nat.le_of_ble_eq_true rfl) (Nat.le_of_ble_eq_true rfl) rfl rfl (Nat.le_of_ble_eq_true rfl) (Nat.le_of_ble_eq_true rfl) rfl ?_
  refine s_X9_endsLine m5 x5 (fun M6 x6 f6 => hGo_v ?_)
  have l6 : M6.1 20 0 0 15 = nI Cs.length := (f6.2 20 0 0 15 (fun q => absurd q.2.2 (by decide))).trans ((f5.2 20 0 0 15 (fun q => absurd q.2.2 (by decide)) (fun q => absurd q.1 (by decide))).trans l4)
  rw [← er] at x6
  refine G_aload_n dX9_readsCommand_77 rfl ?_
  refine G_dup dX9_readsCommand_78 rfl ?_
  refine gf_X9_261 dX9_readsCommand_79  ?_
  rw [l6]
  refine G_iconst (v := 1) dX9_readsCommand_82 (by decide) ?_
  refine G_iadd dX9_readsCommand_83 ?_
  rw [show nI Cs.length + (1 : Int32) = nI (Cs.length + 1) from nI_add _ 1]
  refine pf_X9_261 dX9_readsCommand_84  ?_
  refine G_vret dX9_readsCommand_87 rfl (Nat.le_of_ble_eq_true rfl) (Nat.le_of_ble_eq_true rfl) ?_
  have k25 : ∀ t, (M6.up 20 0 0 15 (nI (Cs.length + 1))).1 25 0 0 t = M5.1 25 0 0 t := fun t => (up_nk (by decide)).trans (f6.2 25 0 0 t (fun q => absurd q.1 (by decide)))
  refine h _ ⟨(up_nt (by decide)).trans (m5.fx f6).1, (m5.fx f6).2.1, fun k hk => (up_nk (by decide)).trans ((m5.fx f6).2.2 k hk)⟩ x6.k15 (fun z => ?_) ((f4.trans f5.fy).trans (f6.fy.trans ⟨rfl, fun k j p t q r => by
    by_cases e : k = 20
    · subst e
      exact up_ft (fun y => q ⟨rfl, Or.inr y⟩)
    · exact up_nk e⟩))
  have za : (rA L (vK (vb L T)) (c3 L T Cs.length)).1.code = 0 := (tkS_good (er ▸ z)).1
  rw [ec]
  refine ⟨by rw [List.length_append]; exact up_at, by rw [List.length_append]; show Cs.length + 1 ≤ 25; omega, fun i hi => ?_⟩
  rw [List.length_append] at hi
  have hi : i < Cs.length + 1 := hi
  by_cases q : i = Cs.length
  · subst q
    rw [cg_new]
    refine ⟨?_, hv7, rA_len, fun t ht => (k25 _).trans (a5 za t ht)⟩
    rw [k25]
    exact (f5.2 25 0 0 _ (fun y => absurd y.1 (by decide)) (fun y => by have := y.2; omega)).trans v4
  · have hi2 : i < Cs.length := by omega
    rw [cg_old hi2]
    obtain ⟨u1, u2, u3, u4⟩ := s3 i hi2
    have ln : (cg Cs i).2.length ≤ 4 := by rw [u3]; exact vK_len
    have ko : ∀ t, t < 5 * Cs.length → (M6.up 20 0 0 15 (nI (Cs.length + 1))).1 25 0 0 t = M.1 25 0 0 t := fun t ht => (k25 t).trans ((f5.2 25 0 0 t (fun y => absurd y.1 (by decide)) (fun y => by have := y.2; omega)).trans (o4 t ht))
    exact ⟨(ko _ (by omega)).trans u1, u2, u3, fun t ht => (ko _ (by omega)).trans (u4 t ht)⟩
end MCM2
