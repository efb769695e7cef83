/-! ===== HomeworkBarterModel: acts done ===== -/
section MDO
variable {E : Ed} {M M' : Mm} {P : Res → Mm → Prop} {A B : Ab} {o : Nat} {g : Gs}
theorem rp_succ {x : Int32} {i : Nat} : List.replicate i x ++ [x] = List.replicate (i + 1) x := by rw [List.replicate_succ']
theorem m_work {x y z' : Int32} (hG : MG M g) (hO : Okg g) (h : ∀ M' v, MG M' (qWork g x y z').1 → Fm M M' → M'.1 20 0 0 5 = nI (qWork g x y z').2.1 → ((qWork g x y z').2.1 = 0 → v = (qWork g x y z').2.2) → P (.inl (some (.int v))) M') : Sp E yX9_work cX9_work zX9_work [.ref (ad E 20 0 0), .int x, .int y, .int z'] M P := by
  unfold qWork at h
  refine Sp_of (own := RX9) (by decide) rfl rfl (Nat.le_of_ble_eq_true rfl) (fun C => ?_)
  refine G_aload_n dX9_work_0 rfl ?_
  refine G_iconst (v := 0) dX9_work_1 (by decide) ?_
  refine pf_X9_41 dX9_work_2  ?_
  have hG1 : MG (M.up 20 0 0 5 0) g := hG.thr
  have hT : (M.up 20 0 0 5 0).1 20 0 0 5 = 0 := up_at
  have hF : Fm M (M.up 20 0 0 5 0) := Fm.rfl.up ⟨by decide, by decide⟩
  generalize M.up 20 0 0 5 0 = M1 at hG1 hT hF ⊢
  have hR := hG1.1
  have hA := hG1.2.1
  have h12 := hA.n12
  refine G_aload_n dX9_work_5 rfl ?_
  refine G_aload_n dX9_work_6 rfl ?_
  refine G_iload_n dX9_work_7 rfl ?_
  refine cv_X9_297 (cs' := 0) (ss' := 0) dX9_work_8  (Nat.le_of_ble_eq_true rfl) (Nat.le_of_ble_eq_true rfl) (Nat.le_of_ble_eq_true rfl) rfl rfl (Nat.le_of_ble_eq_true rfl) (Nat.le_of_ble_eq_true rfl) rfl ?_
  refine s_X9_isPupil hR hA (hGo_i ?_)
  by_cases q00 : inP g.A x
  rotate_left
  · rw [if_neg q00]
    refine G_iconst (v := 1) dX9_work_11 (by decide) ?_
    refine cv_X9_158 (cs' := 0) (ss' := 0) dX9_work_12  (Nat.le_of_ble_eq_true rfl) (Nat.le_of_ble_eq_true rfl) (Nat.le_of_ble_eq_true rfl) rfl rfl (Nat.le_of_ble_eq_true rfl) (Nat.le_of_ble_eq_true rfl) rfl ?_
    refine s_X9_holds0 hT (by decide) (hGo_i ?_)
    refine G_if_eq (tgt := 50) dX9_work_15 (by decide) (fun c15 => ?_) (fun c15 => ?_)
    · refine G_iconst (v := 0) dX9_work_50 (by decide) ?_
      refine G_iret dX9_work_51 rfl rfl (Nat.le_of_ble_eq_true rfl) (Nat.le_of_ble_eq_true rfl) ?_
      rw [if_neg q00] at h
      exact h _ _ hG1.thr (hF.up ⟨by decide, by decide⟩) up_at (fun z => absurd z (Nat.succ_ne_zero _))
    · exact absurd rfl c15
  rw [if_pos q00]
  refine G_iconst (v := 1) dX9_work_11 (by decide) ?_
  refine cv_X9_158 (cs' := 0) (ss' := 0) dX9_work_12  (Nat.le_of_ble_eq_true rfl) (Nat.le_of_ble_eq_true rfl) (Nat.le_of_ble_eq_true rfl) rfl rfl (Nat.le_of_ble_eq_true rfl) (Nat.le_of_ble_eq_true rfl) rfl ?_
  rw [if_pos q00] at h
  refine s_X9_holds1 hT (hGo_i ?_)
  refine G_if_eq (tgt := 50) dX9_work_15 (by decide) (fun c15 => ?_) (fun c15 => ?_)
  · exact absurd c15 (by decide)
  refine G_aload_n dX9_work_18 rfl ?_
  refine G_iload_n dX9_work_19 rfl ?_
  refine G_iconst (v := 0) dX9_work_20 (by decide) ?_
  refine G_iconst (v := 1) dX9_work_21 (by decide) ?_
  refine cv_X9_162 (cs' := 0) (ss' := 0) dX9_work_22  (Nat.le_of_ble_eq_true rfl) (Nat.le_of_ble_eq_true rfl) (Nat.le_of_ble_eq_true rfl) rfl rfl (Nat.le_of_ble_eq_true rfl) (Nat.le_of_ble_eq_true rfl) rfl ?_
  refine s_X9_in (hGo_i ?_)
  by_cases q10 : inR y 0 1
  rotate_left
  · rw [if_neg q10]
    refine G_if_eq (tgt := 42) dX9_work_25 (by decide) (fun c25 => ?_) (fun c25 => ?_)
    rotate_left
    · exact absurd rfl c25
    refine G_iconst (v := 0) dX9_work_42 (by decide) ?_
    refine G_iconst (v := 2) dX9_work_43 (by decide) ?_
    refine cv_X9_158 (cs' := 0) (ss' := 0) dX9_work_44  (Nat.le_of_ble_eq_true rfl) (Nat.le_of_ble_eq_true rfl) (Nat.le_of_ble_eq_true rfl) rfl rfl (Nat.le_of_ble_eq_true rfl) (Nat.le_of_ble_eq_true rfl) rfl ?_
    refine s_X9_holds0 hT (by decide) (hGo_i ?_)
    refine G_if_ne (tgt := 52) dX9_work_47 (by decide) (fun c47 => ?_) (fun c47 => ?_)
    · exact absurd rfl c47
    · refine G_iconst (v := 0) dX9_work_50 (by decide) ?_
      refine G_iret dX9_work_51 rfl rfl (Nat.le_of_ble_eq_true rfl) (Nat.le_of_ble_eq_true rfl) ?_
      rw [if_neg (fun z => q10 z.1)] at h
      exact h _ _ hG1.thr (hF.up ⟨by decide, by decide⟩) up_at (fun z => absurd z (Nat.succ_ne_zero _))
  rw [if_pos q10]
  refine G_if_eq (tgt := 42) dX9_work_25 (by decide) (fun c25 => ?_) (fun c25 => ?_)
  · exact absurd c25 (by decide)
  refine G_iload_n dX9_work_28 rfl ?_
  refine G_iconst (v := 1) dX9_work_29 (by decide) ?_
  refine G_bipush (v := 20) dX9_work_30 (by decide) ?_
  refine cv_X9_162 (cs' := 0) (ss' := 0) dX9_work_32  (Nat.le_of_ble_eq_true rfl) (Nat.le_of_ble_eq_true rfl) (Nat.le_of_ble_eq_true rfl) rfl rfl (Nat.le_of_ble_eq_true rfl) (Nat.le_of_ble_eq_true rfl) rfl ?_
  refine s_X9_in (hGo_i ?_)
  by_cases q11 : inR z' 1 20
  rotate_left
  · rw [if_neg q11]
    refine G_if_eq (tgt := 42) dX9_work_35 (by decide) (fun c35 => ?_) (fun c35 => ?_)
    rotate_left
    · exact absurd rfl c35
    refine G_iconst (v := 0) dX9_work_42 (by decide) ?_
    refine G_iconst (v := 2) dX9_work_43 (by decide) ?_
    refine cv_X9_158 (cs' := 0) (ss' := 0) dX9_work_44  (Nat.le_of_ble_eq_true rfl) (Nat.le_of_ble_eq_true rfl) (Nat.le_of_ble_eq_true rfl) rfl rfl (Nat.le_of_ble_eq_true rfl) (Nat.le_of_ble_eq_true rfl) rfl ?_
    refine s_X9_holds0 hT (by decide) (hGo_i ?_)
    refine G_if_ne (tgt := 52) dX9_work_47 (by decide) (fun c47 => ?_) (fun c47 => ?_)
    · exact absurd rfl c47
    · refine G_iconst (v := 0) dX9_work_50 (by decide) ?_
      refine G_iret dX9_work_51 rfl rfl (Nat.le_of_ble_eq_true rfl) (Nat.le_of_ble_eq_true rfl) ?_
      rw [if_neg (fun z => q11 z.2)] at h
      exact h _ _ hG1.thr (hF.up ⟨by decide, by decide⟩) up_at (fun z => absurd z (Nat.succ_ne_zero _))
  rw [if_pos q11]
  refine G_if_eq (tgt := 42) dX9_work_35 (by decide) (fun c35 => ?_) (fun c35 => ?_)
  · exact absurd c35 (by decide)
  refine G_iconst (v := 1) dX9_work_38 (by decide) ?_
  refine G_goto (tgt := 43) dX9_work_39 (by decide) ?_
  refine G_iconst (v := 2) dX9_work_43 (by decide) ?_
  refine cv_X9_158 (cs' := 0) (ss' := 0) dX9_work_44  (Nat.le_of_ble_eq_true rfl) (Nat.le_of_ble_eq_true rfl) (Nat.le_of_ble_eq_true rfl) rfl rfl (Nat.le_of_ble_eq_true rfl) (Nat.le_of_ble_eq_true rfl) rfl ?_
  rw [if_pos ⟨q10, q11⟩] at h
  refine s_X9_holds1 hT (hGo_i ?_)
  refine G_if_ne (tgt := 52) dX9_work_47 (by decide) (fun c47 => ?_) (fun c47 => ?_)
  rotate_left
  · exact absurd c47 (by decide)
  obtain ⟨p, hp, rfl, ep⟩ := in_ix q00 (by omega)
  rw [ep] at h
  obtain ⟨s, ls, hs, rfl, es⟩ := inR_ix (i := 0) (k := 1) (by decide) (by decide) q10
  rw [es] at h
  obtain ⟨n, ln, hn, rfl, en⟩ := inR_ix (i := 1) (k := 20) (by decide) (by decide) q11
  rw [en] at h
  unfold sWork rMake at h
  have hs2 : s < 2 := by omega
  have l20 := hA.l20 hp hs2
  have e2 : (2 : Int32) + nI s = nI (2 + s) := nI_add 2 s
  refine G_iload_n dX9_work_52 rfl ?_
  refine G_bipush (v := 10) dX9_work_53 (by decide) ?_
  refine G_aload_n dX9_work_55 rfl ?_
  refine G_iload_n dX9_work_56 rfl ?_
  refine G_iconst (v := 2) dX9_work_57 (by decide) ?_
  refine G_iload_n dX9_work_58 rfl ?_
  refine G_iadd dX9_work_59 ?_
  rw [e2]
  refine cv_X9_54 (cs' := 0) (ss' := 0) dX9_work_60  (Nat.le_of_ble_eq_true rfl) (Nat.le_of_ble_eq_true rfl) (Nat.le_of_ble_eq_true rfl) rfl rfl (Nat.le_of_ble_eq_true rfl) (Nat.le_of_ble_eq_true rfl) rfl ?_
  refine s_X9_pu (t := 2 + s) hR (by omega) (by omega) (hA.f hp (by omega)) (hGo_i ?_)
  refine G_isub dX9_work_63 ?_
  refine G_imul dX9_work_64 ?_
  refine G_istore dX9_work_65 (Nat.le_of_ble_eq_true rfl) ?_
  refine G_aload_n dX9_work_67 rfl ?_
  refine G_iload_n dX9_work_68 rfl ?_
  refine G_iconst (v := 5) dX9_work_69 (by decide) ?_
  refine cv_X9_54 (cs' := 0) (ss' := 0) dX9_work_70  (Nat.le_of_ble_eq_true rfl) (Nat.le_of_ble_eq_true rfl) (Nat.le_of_ble_eq_true rfl) rfl rfl (Nat.le_of_ble_eq_true rfl) (Nat.le_of_ble_eq_true rfl) rfl ?_
  refine s_X9_pu (t := 5) hR (by omega) (by decide) (hA.f hp (by decide)) (hGo_i ?_)
  refine G_iload dX9_work_73 rfl ?_
  refine G_icmp_ge (tgt := 84) dX9_work_75 (by decide) (fun c75 => ?_) (fun c75 => ?_)
  rotate_left
  · rw [if_pos (Int32.not_le.mp c75), if_neg (by decide)] at h
    refine G_aload_n dX9_work_78 rfl ?_
    refine G_iconst (v := 2) dX9_work_79 (by decide) ?_
    refine cv_X9_345 (cs' := 0) (ss' := 0) dX9_work_80  (Nat.le_of_ble_eq_true rfl) (Nat.le_of_ble_eq_true rfl) (Nat.le_of_ble_eq_true rfl) rfl rfl (Nat.le_of_ble_eq_true rfl) (Nat.le_of_ble_eq_true rfl) rfl ?_
    refine s_X9_refuses hG1 (isR_of (by decide)) (fun M2 hG2 f2 t2 => hGo_i ?_)
    refine G_iret dX9_work_83 rfl rfl (Nat.le_of_ble_eq_true rfl) (Nat.le_of_ble_eq_true rfl) ?_
    exact h M2 _ hG2 (hF.trans f2) (t2.trans hT) (fun _ => rfl)
  rw [if_neg (Int32.not_lt.mpr c75)] at h
  refine G_aload_n dX9_work_84 rfl ?_
  refine G_iload_n dX9_work_85 rfl ?_
  refine G_iload_n dX9_work_86 rfl ?_
  refine cv_X9_65 (cs' := 0) (ss' := 0) dX9_work_87  (Nat.le_of_ble_eq_true rfl) (Nat.le_of_ble_eq_true rfl) (Nat.le_of_ble_eq_true rfl) rfl rfl (Nat.le_of_ble_eq_true rfl) (Nat.le_of_ble_eq_true rfl) rfl ?_
  refine s_X9_many hR (by omega) hs2 (hA.many hp hs2) (hGo_i ?_)
  refine G_iload_n dX9_work_90 rfl ?_
  refine G_iadd dX9_work_91 ?_
  rw [nI_add]
  rw [show (20 : Int32) - nI (g.A.s (2 * p + s)).length = nI (20 - (g.A.s (2 * p + s)).length) from nI_subN l20] at h
  refine G_bipush (v := 20) dX9_work_92 (by decide) ?_
  refine G_icmp_le (tgt := 103) dX9_work_94 (by decide) (fun c94 => ?_) (fun c94 => ?_)
  rotate_left
  · rw [if_neg (show ¬ nI n ≤ nI (20 - (g.A.s (2 * p + s)).length) from nI_ge (by
      rcases Nat.lt_or_ge 20 ((g.A.s (2 * p + s)).length + n) with q | q
      · omega
      · exact absurd (nI_le (b := 20) q (by decide)) c94) (by omega)), if_neg (by decide)] at h
    refine G_aload_n dX9_work_97 rfl ?_
    refine G_iconst (v := 3) dX9_work_98 (by decide) ?_
    refine cv_X9_345 (cs' := 0) (ss' := 0) dX9_work_99  (Nat.le_of_ble_eq_true rfl) (Nat.le_of_ble_eq_true rfl) (Nat.le_of_ble_eq_true rfl) rfl rfl (Nat.le_of_ble_eq_true rfl) (Nat.le_of_ble_eq_true rfl) rfl ?_
    refine s_X9_refuses hG1 (isR_of (by decide)) (fun M2 hG2 f2 t2 => hGo_i ?_)
    refine G_iret dX9_work_102 rfl rfl (Nat.le_of_ble_eq_true rfl) (Nat.le_of_ble_eq_true rfl) ?_
    exact h M2 _ hG2 (hF.trans f2) (t2.trans hT) (fun _ => rfl)
  have hl : (g.A.s (2 * p + s)).length + n ≤ 20 := (nI_leI (b := 20) (by omega) (by decide)).mp c94
  rw [if_pos (show nI n ≤ nI (20 - (g.A.s (2 * p + s)).length) from nI_le (by omega) (by omega)), if_pos rfl] at h
  generalize hv : nI n * (10 - g.A.f p (2 + s)) = v at h ⊢
  refine G_aload_n dX9_work_103 rfl ?_
  refine cv_X9_348 (cs' := 0) (ss' := 0) dX9_work_104  (Nat.le_of_ble_eq_true rfl) (Nat.le_of_ble_eq_true rfl) (Nat.le_of_ble_eq_true rfl) rfl rfl (Nat.le_of_ble_eq_true rfl) (Nat.le_of_ble_eq_true rfl) rfl ?_
  refine s_X9_keeps hG1 (fun M2 hG2 f2 t2 => hGo_v ?_)
  have hF2 := hF.trans f2
  have hT2 := t2.trans hT
  have hR2 := hG2.1
  have hA2 : MR M2 0 g.A := hG2.2.1
  refine G_iconst (v := 0) dX9_work_107 (by decide) ?_
  refine G_istore dX9_work_108 (Nat.le_of_ble_eq_true rfl) ?_
  refine G_lv (lv' := [(0, .ref (ad E 20 0 0)), (1, .int (nI p)), (2, .int (nI s)), (3, .int (nI n)), (4, .int v), (5, .int (nI 0))]) ⟨rfl, rfl, rfl, rfl, rfl, rfl, trivial⟩ ?_
  refine up0 (c := n) (H := fun i => ∀ M3, MR M3 0 (g.A.sS (2 * p + s) (g.A.s (2 * p + s) ++ List.replicate i (nI p))) → Fo 0 M2 M3 → G E C RX9 cX9_work zX9_work P 0 0 M3 110 [(0, .ref (ad E 20 0 0)), (1, .int (nI p)), (2, .int (nI s)), (3, .int (nI n)), (4, .int v), (5, .int (nI i))] []) (fun M3 a3 f3 => ?_) (fun i hi ih M3 a3 f3 => ?_) M2 (hA2.eq (by rw [List.replicate_zero, List.append_nil, sS_self])) Fo.rfl
  · have r3 := hR2.fo f3
    have aF := a3.wF (p := p) (t := 5) (v := g.A.f p 5 + -v) (by omega) (by decide)
    refine G_iload dX9_work_110 rfl ?_
    refine G_iload_n dX9_work_112 rfl ?_
    refine G_icmp_ge (tgt := 129) dX9_work_113 (by decide) (fun c113 => ?_) (fun c113 => ?_)
    · refine G_aload_n dX9_work_129 rfl ?_
      refine G_iload_n dX9_work_130 rfl ?_
      refine G_iconst (v := 5) dX9_work_131 (by decide) ?_
      refine G_iload dX9_work_132 rfl ?_
      refine G_ineg dX9_work_134 ?_
      refine cv_X9_68 (cs' := 0) (ss' := 0) dX9_work_135  (Nat.le_of_ble_eq_true rfl) (Nat.le_of_ble_eq_true rfl) (Nat.le_of_ble_eq_true rfl) rfl rfl (Nat.le_of_ble_eq_true rfl) (Nat.le_of_ble_eq_true rfl) rfl ?_
      refine s_X9_addsPupil (t := 5) (x := g.A.f p 5) r3 (by omega) (by decide) (a3.f (t := 5) hp (by decide)) (hGo_v ?_)
      refine G_aload_n dX9_work_138 rfl ?_
      refine G_iconst (v := 0) dX9_work_139 (by decide) ?_
      refine G_iload_n dX9_work_140 rfl ?_
      refine G_iadd dX9_work_141 ?_
      rw [show (0 : Int32) + nI s = nI s from Int32.zero_add _]
      refine G_iload_n dX9_work_142 rfl ?_
      refine cv_X9_117 (cs' := 0) (ss' := 0) dX9_work_143  (Nat.le_of_ble_eq_true rfl) (Nat.le_of_ble_eq_true rfl) (Nat.le_of_ble_eq_true rfl) rfl rfl (Nat.le_of_ble_eq_true rfl) (Nat.le_of_ble_eq_true rfl) rfl ?_
      have aG := aF.wG (t := 7 + s) (v := g.A.g (7 + s) + nI n) (by omega)
      refine s_X9_tallies (t := s) (x := g.A.g (7 + s)) r3.w (by omega) (aF.tl (t := s) (by omega)) (hGo_v ?_)
      have a5 : MR _ 0 (makeA g.A p s n) := aG.eq (by
        unfold makeA
        rw [hv, Int32.sub_eq_add_neg]
        rfl)
      have f5 : Fo 0 M2 ((M3.w 0 (17 + 12 * p + 5) (g.A.f p 5 + -v)).w 0 (7 + s) (g.A.g (7 + s) + nI n)) := (f3.w (by omega)).w (by omega)
      generalize (M3.w 0 (17 + 12 * p + 5) (g.A.f p 5 + -v)).w 0 (7 + s) (g.A.g (7 + s) + nI n) = M5 at a5 f5 ⊢
      refine G_aload_n dX9_work_146 rfl ?_
      refine G_iload_n dX9_work_147 rfl ?_
      refine G_iconst (v := 5) dX9_work_148 (by decide) ?_
      refine cv_X9_54 (cs' := 0) (ss' := 0) dX9_work_149  (Nat.le_of_ble_eq_true rfl) (Nat.le_of_ble_eq_true rfl) (Nat.le_of_ble_eq_true rfl) rfl rfl (Nat.le_of_ble_eq_true rfl) (Nat.le_of_ble_eq_true rfl) rfl ?_
      refine s_X9_pu (t := 5) (hR2.fo f5) (by omega) (by decide) (a5.f hp (by decide)) (hGo_i ?_)
      refine G_iret dX9_work_152 rfl rfl (Nat.le_of_ble_eq_true rfl) (Nat.le_of_ble_eq_true rfl) ?_
      refine h M5 _ (hG2.row f5 a5) (Fo.mo f5 hF2) ((f5.k (by decide) 0 0 5).trans hT2) (fun _ => ?_)
      show (if p = p ∧ 5 = 5 then g.A.f p 5 - nI n * (10 - g.A.f p (2 + s)) else g.A.f p 5) = g.A.f p 5 - v
      rw [if_pos ⟨rfl, rfl⟩, hv]
    · exact absurd (Int32.le_refl _) c113
  · refine G_iload dX9_work_110 rfl ?_
    refine G_iload_n dX9_work_112 rfl ?_
    refine G_icmp_ge (tgt := 129) dX9_work_113 (by decide) (fun c113 => ?_) (fun c113 => ?_)
    · exact absurd c113 (nI_ge hi (by omega))
    · refine G_aload_n dX9_work_116 rfl ?_
      refine G_iload_n dX9_work_117 rfl ?_
      refine G_iload_n dX9_work_118 rfl ?_
      refine G_iload_n dX9_work_119 rfl ?_
      refine cv_X9_75 (cs' := 0) (ss' := 0) dX9_work_120  (Nat.le_of_ble_eq_true rfl) (Nat.le_of_ble_eq_true rfl) (Nat.le_of_ble_eq_true rfl) rfl rfl (Nat.le_of_ble_eq_true rfl) (Nat.le_of_ble_eq_true rfl) rfl ?_
      refine s_X9_comes (hR2.fo f3) a3 hp hs2 (by rw [sS_at, List.length_append, List.length_replicate]; omega) (fun M4 a4 f4 => hGo_v ?_)
      rw [sS_at, sS_sS, List.append_assoc, rp_succ] at a4
      refine G_iinc (v := 1) dX9_work_123 rfl (Nat.le_of_ble_eq_true rfl) (by decide) ?_
      refine G_goto (tgt := 110) dX9_work_126 (by decide) ?_
      exact G_lv2 (ih M4 a4 (f3.trans f4)) ⟨rfl, rfl, rfl, rfl, rfl, lvi (nI_1 i), trivial⟩
theorem m_swap {x y n' m' : Int32} (hG : MG M g) (hO : Okg g) (h : ∀ M' v, MG M' (qSwap g x y n' m').1 → Fm M M' → M'.1 20 0 0 5 = nI (qSwap g x y n' m').2.1 → ((qSwap g x y n' m').2.1 = 0 → v = (qSwap g x y n' m').2.2) → P (.inl (some (.int v))) M') : Sp E yX9_swap cX9_swap zX9_swap [.ref (ad E 20 0 0), .int x, .int y, .int n', .int m'] M P := by
  unfold qSwap at h
  refine Sp_of (own := RX9) (by decide) rfl rfl (Nat.le_of_ble_eq_true rfl) (fun C => ?_)
  refine G_aload_n dX9_swap_0 rfl ?_
  refine G_iconst (v := 0) dX9_swap_1 (by decide) ?_
  refine pf_X9_41 dX9_swap_2  ?_
  have hG1 : MG (M.up 20 0 0 5 0) g := hG.thr
  have hT : (M.up 20 0 0 5 0).1 20 0 0 5 = 0 := up_at
  have hF : Fm M (M.up 20 0 0 5 0) := Fm.rfl.up ⟨by decide, by decide⟩
  generalize M.up 20 0 0 5 0 = M1 at hG1 hT hF ⊢
  have hR := hG1.1
  have hA := hG1.2.1
  have h12 := hA.n12
  refine G_aload_n dX9_swap_5 rfl ?_
  refine G_aload_n dX9_swap_6 rfl ?_
  refine G_iload_n dX9_swap_7 rfl ?_
  refine cv_X9_297 (cs' := 0) (ss' := 0) dX9_swap_8  (Nat.le_of_ble_eq_true rfl) (Nat.le_of_ble_eq_true rfl) (Nat.le_of_ble_eq_true rfl) rfl rfl (Nat.le_of_ble_eq_true rfl) (Nat.le_of_ble_eq_true rfl) rfl ?_
  refine s_X9_isPupil hR hA (hGo_i ?_)
  by_cases q00 : inP g.A x
  rotate_left
  · rw [if_neg q00]
    refine G_if_eq (tgt := 26) dX9_swap_11 (by decide) (fun c11 => ?_) (fun c11 => ?_)
    rotate_left
    · exact absurd rfl c11
    refine G_iconst (v := 0) dX9_swap_26 (by decide) ?_
    refine G_iconst (v := 1) dX9_swap_27 (by decide) ?_
    refine cv_X9_158 (cs' := 0) (ss' := 0) dX9_swap_28  (Nat.le_of_ble_eq_true rfl) (Nat.le_of_ble_eq_true rfl) (Nat.le_of_ble_eq_true rfl) rfl rfl (Nat.le_of_ble_eq_true rfl) (Nat.le_of_ble_eq_true rfl) rfl ?_
    refine s_X9_holds0 hT (by decide) (hGo_i ?_)
    refine G_if_eq (tgt := 68) dX9_swap_31 (by decide) (fun c31 => ?_) (fun c31 => ?_)
    · refine G_iconst (v := 0) dX9_swap_68 (by decide) ?_
      refine G_iret dX9_swap_69 rfl rfl (Nat.le_of_ble_eq_true rfl) (Nat.le_of_ble_eq_true rfl) ?_
      rw [if_neg (fun z => q00 z.1)] at h
      exact h _ _ hG1.thr (hF.up ⟨by decide, by decide⟩) up_at (fun z => absurd z (Nat.succ_ne_zero _))
    · exact absurd rfl c31
  rw [if_pos q00]
  refine G_if_eq (tgt := 26) dX9_swap_11 (by decide) (fun c11 => ?_) (fun c11 => ?_)
  · exact absurd c11 (by decide)
  refine G_aload_n dX9_swap_14 rfl ?_
  refine G_iload_n dX9_swap_15 rfl ?_
  refine cv_X9_297 (cs' := 0) (ss' := 0) dX9_swap_16  (Nat.le_of_ble_eq_true rfl) (Nat.le_of_ble_eq_true rfl) (Nat.le_of_ble_eq_true rfl) rfl rfl (Nat.le_of_ble_eq_true rfl) (Nat.le_of_ble_eq_true rfl) rfl ?_
  refine s_X9_isPupil hR hA (hGo_i ?_)
  by_cases q01 : inP g.A y
  rotate_left
  · rw [if_neg q01]
    refine G_if_eq (tgt := 26) dX9_swap_19 (by decide) (fun c19 => ?_) (fun c19 => ?_)
    rotate_left
    · exact absurd rfl c19
    refine G_iconst (v := 0) dX9_swap_26 (by decide) ?_
    refine G_iconst (v := 1) dX9_swap_27 (by decide) ?_
    refine cv_X9_158 (cs' := 0) (ss' := 0) dX9_swap_28  (Nat.le_of_ble_eq_true rfl) (Nat.le_of_ble_eq_true rfl) (Nat.le_of_ble_eq_true rfl) rfl rfl (Nat.le_of_ble_eq_true rfl) (Nat.le_of_ble_eq_true rfl) rfl ?_
    refine s_X9_holds0 hT (by decide) (hGo_i ?_)
    refine G_if_eq (tgt := 68) dX9_swap_31 (by decide) (fun c31 => ?_) (fun c31 => ?_)
    · refine G_iconst (v := 0) dX9_swap_68 (by decide) ?_
      refine G_iret dX9_swap_69 rfl rfl (Nat.le_of_ble_eq_true rfl) (Nat.le_of_ble_eq_true rfl) ?_
      rw [if_neg (fun z => q01 z.2)] at h
      exact h _ _ hG1.thr (hF.up ⟨by decide, by decide⟩) up_at (fun z => absurd z (Nat.succ_ne_zero _))
    · exact absurd rfl c31
  rw [if_pos q01]
  refine G_if_eq (tgt := 26) dX9_swap_19 (by decide) (fun c19 => ?_) (fun c19 => ?_)
  · exact absurd c19 (by decide)
  refine G_iconst (v := 1) dX9_swap_22 (by decide) ?_
  refine G_goto (tgt := 27) dX9_swap_23 (by decide) ?_
  refine G_iconst (v := 1) dX9_swap_27 (by decide) ?_
  refine cv_X9_158 (cs' := 0) (ss' := 0) dX9_swap_28  (Nat.le_of_ble_eq_true rfl) (Nat.le_of_ble_eq_true rfl) (Nat.le_of_ble_eq_true rfl) rfl rfl (Nat.le_of_ble_eq_true rfl) (Nat.le_of_ble_eq_true rfl) rfl ?_
  rw [if_pos ⟨q00, q01⟩] at h
  refine s_X9_holds1 hT (hGo_i ?_)
  refine G_if_eq (tgt := 68) dX9_swap_31 (by decide) (fun c31 => ?_) (fun c31 => ?_)
  · exact absurd c31 (by decide)
  refine G_aload_n dX9_swap_34 rfl ?_
  refine G_iload_n dX9_swap_35 rfl ?_
  refine G_iconst (v := 0) dX9_swap_36 (by decide) ?_
  refine G_bipush (v := 20) dX9_swap_37 (by decide) ?_
  refine cv_X9_162 (cs' := 0) (ss' := 0) dX9_swap_39  (Nat.le_of_ble_eq_true rfl) (Nat.le_of_ble_eq_true rfl) (Nat.le_of_ble_eq_true rfl) rfl rfl (Nat.le_of_ble_eq_true rfl) (Nat.le_of_ble_eq_true rfl) rfl ?_
  refine s_X9_in (hGo_i ?_)
  by_cases q10 : inR n' 0 20
  rotate_left
  · rw [if_neg q10]
    refine G_if_eq (tgt := 60) dX9_swap_42 (by decide) (fun c42 => ?_) (fun c42 => ?_)
    rotate_left
    · exact absurd rfl c42
    refine G_iconst (v := 0) dX9_swap_60 (by decide) ?_
    refine G_iconst (v := 2) dX9_swap_61 (by decide) ?_
    refine cv_X9_158 (cs' := 0) (ss' := 0) dX9_swap_62  (Nat.le_of_ble_eq_true rfl) (Nat.le_of_ble_eq_true rfl) (Nat.le_of_ble_eq_true rfl) rfl rfl (Nat.le_of_ble_eq_true rfl) (Nat.le_of_ble_eq_true rfl) rfl ?_
    refine s_X9_holds0 hT (by decide) (hGo_i ?_)
    refine G_if_ne (tgt := 70) dX9_swap_65 (by decide) (fun c65 => ?_) (fun c65 => ?_)
    · exact absurd rfl c65
    · refine G_iconst (v := 0) dX9_swap_68 (by decide) ?_
      refine G_iret dX9_swap_69 rfl rfl (Nat.le_of_ble_eq_true rfl) (Nat.le_of_ble_eq_true rfl) ?_
      rw [if_neg (fun z => q10 z.1)] at h
      exact h _ _ hG1.thr (hF.up ⟨by decide, by decide⟩) up_at (fun z => absurd z (Nat.succ_ne_zero _))
  rw [if_pos q10]
  refine G_if_eq (tgt := 60) dX9_swap_42 (by decide) (fun c42 => ?_) (fun c42 => ?_)
  · exact absurd c42 (by decide)
  refine G_iload dX9_swap_45 rfl ?_
  refine G_iconst (v := 0) dX9_swap_47 (by decide) ?_
  refine G_bipush (v := 20) dX9_swap_48 (by decide) ?_
  refine cv_X9_162 (cs' := 0) (ss' := 0) dX9_swap_50  (Nat.le_of_ble_eq_true rfl) (Nat.le_of_ble_eq_true rfl) (Nat.le_of_ble_eq_true rfl) rfl rfl (Nat.le_of_ble_eq_true rfl) (Nat.le_of_ble_eq_true rfl) rfl ?_
  refine s_X9_in (hGo_i ?_)
  by_cases q11 : inR m' 0 20
  rotate_left
  · rw [if_neg q11]
    refine G_if_eq (tgt := 60) dX9_swap_53 (by decide) (fun c53 => ?_) (fun c53 => ?_)
    rotate_left
    · exact absurd rfl c53
    refine G_iconst (v := 0) dX9_swap_60 (by decide) ?_
    refine G_iconst (v := 2) dX9_swap_61 (by decide) ?_
    refine cv_X9_158 (cs' := 0) (ss' := 0) dX9_swap_62  (Nat.le_of_ble_eq_true rfl) (Nat.le_of_ble_eq_true rfl) (Nat.le_of_ble_eq_true rfl) rfl rfl (Nat.le_of_ble_eq_true rfl) (Nat.le_of_ble_eq_true rfl) rfl ?_
    refine s_X9_holds0 hT (by decide) (hGo_i ?_)
    refine G_if_ne (tgt := 70) dX9_swap_65 (by decide) (fun c65 => ?_) (fun c65 => ?_)
    · exact absurd rfl c65
    · refine G_iconst (v := 0) dX9_swap_68 (by decide) ?_
      refine G_iret dX9_swap_69 rfl rfl (Nat.le_of_ble_eq_true rfl) (Nat.le_of_ble_eq_true rfl) ?_
      rw [if_neg (fun z => q11 z.2)] at h
      exact h _ _ hG1.thr (hF.up ⟨by decide, by decide⟩) up_at (fun z => absurd z (Nat.succ_ne_zero _))
  rw [if_pos q11]
  refine G_if_eq (tgt := 60) dX9_swap_53 (by decide) (fun c53 => ?_) (fun c53 => ?_)
  · exact absurd c53 (by decide)
  refine G_iconst (v := 1) dX9_swap_56 (by decide) ?_
  refine G_goto (tgt := 61) dX9_swap_57 (by decide) ?_
  refine G_iconst (v := 2) dX9_swap_61 (by decide) ?_
  refine cv_X9_158 (cs' := 0) (ss' := 0) dX9_swap_62  (Nat.le_of_ble_eq_true rfl) (Nat.le_of_ble_eq_true rfl) (Nat.le_of_ble_eq_true rfl) rfl rfl (Nat.le_of_ble_eq_true rfl) (Nat.le_of_ble_eq_true rfl) rfl ?_
  rw [if_pos ⟨q10, q11⟩] at h
  refine s_X9_holds1 hT (hGo_i ?_)
  refine G_if_ne (tgt := 70) dX9_swap_65 (by decide) (fun c65 => ?_) (fun c65 => ?_)
  rotate_left
  · exact absurd c65 (by decide)
  obtain ⟨p, hp, rfl, ep⟩ := in_ix q00 (by omega)
  rw [ep] at h
  obtain ⟨p2, hp2, rfl, ep2⟩ := in_ix q01 (by omega)
  rw [ep2] at h
  obtain ⟨n, ln, hn, rfl, en⟩ := inR_ix (i := 0) (k := 20) (by decide) (by decide) q10
  rw [en] at h
  obtain ⟨m, lm, hm, rfl, em⟩ := inR_ix (i := 0) (k := 20) (by decide) (by decide) q11
  rw [em] at h
  unfold sSwap at h
  have hl : ∀ q, q = 2 * p ∨ q = 2 * p + 1 ∨ q = 2 * p2 ∨ q = 2 * p2 + 1 → (g.A.s q).length ≤ 20 := fun q hq => hO.1.l20 (by omega)
  refine G_aload_n dX9_swap_70 rfl ?_
  refine G_iload_n dX9_swap_71 rfl ?_
  refine G_iload_n dX9_swap_72 rfl ?_
  refine G_iload_n dX9_swap_73 rfl ?_
  refine G_iload dX9_swap_74 rfl ?_
  refine cv_X9_324 (cs' := 0) (ss' := 0) dX9_swap_76  (Nat.le_of_ble_eq_true rfl) (Nat.le_of_ble_eq_true rfl) (Nat.le_of_ble_eq_true rfl) rfl rfl (Nat.le_of_ble_eq_true rfl) (Nat.le_of_ble_eq_true rfl) rfl ?_
  refine s_X9_barsSwap hR hA hp hp2 hn hm (hGo_i ?_)
  by_cases r0 : rSwap g.A p p2 n m = 0
  rotate_left
  · rw [if_neg r0] at h
    refine G_istore dX9_swap_79 (Nat.le_of_ble_eq_true rfl) ?_
    refine G_iload dX9_swap_81 rfl ?_
    refine G_if_le (tgt := 93) dX9_swap_83 (by decide) (fun c83 => ?_) (fun c83 => ?_)
    · rcases rSwap_c0 (A := g.A) (x := p) (y := p2) (n := n) (m := m) with z | ⟨k, k1, k2, ek⟩
      · exact absurd z r0
      · rw [ek] at c83
        exact absurd c83 (nI_nle (by omega) (by omega))
    · refine G_aload_n dX9_swap_86 rfl ?_
      refine G_iload dX9_swap_87 rfl ?_
      refine cv_X9_345 (cs' := 0) (ss' := 0) dX9_swap_89  (Nat.le_of_ble_eq_true rfl) (Nat.le_of_ble_eq_true rfl) (Nat.le_of_ble_eq_true rfl) rfl rfl (Nat.le_of_ble_eq_true rfl) (Nat.le_of_ble_eq_true rfl) rfl ?_
      refine s_X9_refuses hG1 (rSwap_c0 (A := g.A) (x := p) (y := p2) (n := n) (m := m).resolve_left r0) (fun M2 hG2 f2 t2 => hGo_i ?_)
      refine G_iret dX9_swap_92 rfl rfl (Nat.le_of_ble_eq_true rfl) (Nat.le_of_ble_eq_true rfl) ?_
      exact h M2 _ hG2 (hF.trans f2) (t2.trans hT) (fun _ => rfl)
  rw [if_pos r0] at h
  rw [r0]
  refine G_istore dX9_swap_79 (Nat.le_of_ble_eq_true rfl) ?_
  refine G_iload dX9_swap_81 rfl ?_
  refine G_if_le (tgt := 93) dX9_swap_83 (by decide) (fun c83 => ?_) (fun c83 => ?_)
  rotate_left
  · exact absurd (Int32.le_refl 0) c83
  obtain ⟨ne, ⟨l1, l2⟩, l3, l4⟩ := rSwap_0 hl hn hm r0
  refine G_aload_n dX9_swap_93 rfl ?_
  refine cv_X9_348 (cs' := 0) (ss' := 0) dX9_swap_94  (Nat.le_of_ble_eq_true rfl) (Nat.le_of_ble_eq_true rfl) (Nat.le_of_ble_eq_true rfl) rfl rfl (Nat.le_of_ble_eq_true rfl) (Nat.le_of_ble_eq_true rfl) rfl ?_
  refine s_X9_keeps hG1 (fun M2 hG2 f2 t2 => hGo_v ?_)
  have hF2 := hF.trans f2
  have hT2 := t2.trans hT
  have hR2 := hG2.1
  have hA2 : MR M2 0 g.A := hG2.2.1
  refine G_aload_n dX9_swap_97 rfl ?_
  refine G_iload_n dX9_swap_98 rfl ?_
  refine G_iload_n dX9_swap_99 rfl ?_
  refine G_iconst (v := 0) dX9_swap_100 (by decide) ?_
  refine G_iload_n dX9_swap_101 rfl ?_
  refine cv_X9_357 (cs' := 0) (ss' := 0) dX9_swap_102  (Nat.le_of_ble_eq_true rfl) (Nat.le_of_ble_eq_true rfl) (Nat.le_of_ble_eq_true rfl) rfl rfl (Nat.le_of_ble_eq_true rfl) (Nat.le_of_ble_eq_true rfl) rfl ?_
  refine s_X9_gives (s := 0) hR2 hA2 hp hp2 ne (by decide) l1 l3 (fun M3 a3 f3 => hGo_v ?_)
  refine G_aload_n dX9_swap_105 rfl ?_
  refine G_iload_n dX9_swap_106 rfl ?_
  refine G_iload_n dX9_swap_107 rfl ?_
  refine G_iconst (v := 1) dX9_swap_108 (by decide) ?_
  refine G_iload dX9_swap_109 rfl ?_
  refine cv_X9_357 (cs' := 0) (ss' := 0) dX9_swap_111  (Nat.le_of_ble_eq_true rfl) (Nat.le_of_ble_eq_true rfl) (Nat.le_of_ble_eq_true rfl) rfl rfl (Nat.le_of_ble_eq_true rfl) (Nat.le_of_ble_eq_true rfl) rfl ?_
  refine s_X9_gives (s := 1) (hR2.fo f3) a3 hp2 hp (fun q => ne q.symm) (by decide) (by rw [giveA_s (by omega) (by omega)]; exact l2) (by rw [giveA_s (by omega) (by omega)]; exact l4) (fun M4 a4 f4 => hGo_v ?_)
  have f4 := f3.trans f4
  refine G_aload_n dX9_swap_114 rfl ?_
  refine G_iconst (v := 2) dX9_swap_115 (by decide) ?_
  refine G_iconst (v := 1) dX9_swap_116 (by decide) ?_
  refine cv_X9_117 (cs' := 0) (ss' := 0) dX9_swap_117  (Nat.le_of_ble_eq_true rfl) (Nat.le_of_ble_eq_true rfl) (Nat.le_of_ble_eq_true rfl) rfl rfl (Nat.le_of_ble_eq_true rfl) (Nat.le_of_ble_eq_true rfl) rfl ?_
  refine s_X9_tallies (t := 2) (hR2.fo f4) (by decide) (a4.tl (by decide)) (hGo_v ?_)
  have a5 := a4.wG (t := 7 + 2) (v := (giveA (giveA g.A p p2 0 n) p2 p 1 m).g (7 + 2) + 1) (by omega)
  have f5 := f4.w (w := 7 + 2) (v := (giveA (giveA g.A p p2 0 n) p2 p 1 m).g (7 + 2) + 1) (by decide)
  generalize M4.w 0 (7 + 2) ((giveA (giveA g.A p p2 0 n) p2 p 1 m).g (7 + 2) + 1) = M5 at a5 f5 ⊢
  refine G_aload_n dX9_swap_120 rfl ?_
  refine G_iload_n dX9_swap_121 rfl ?_
  refine G_iload_n dX9_swap_122 rfl ?_
  refine cv_X9_361 (cs' := 0) (ss' := 0) dX9_swap_123  (Nat.le_of_ble_eq_true rfl) (Nat.le_of_ble_eq_true rfl) (Nat.le_of_ble_eq_true rfl) rfl rfl (Nat.le_of_ble_eq_true rfl) (Nat.le_of_ble_eq_true rfl) rfl ?_
  refine s_X9_seen (hR2.fo f5) a5 hO.1.2.2.1 hp hp2 ne (fun M6 a6 f6 => hGo_i ?_)
  have f6 := f5.trans f6
  refine G_iret dX9_swap_126 rfl rfl (Nat.le_of_ble_eq_true rfl) (Nat.le_of_ble_eq_true rfl) ?_
  exact h M6 _ (hG2.row f6 a6) (Fo.mo f6 hF2) ((f6.k (by decide) 0 0 5).trans hT2) (fun _ => rfl)
theorem m_lend {x y n' m' : Int32} (hG : MG M g) (hO : Okg g) (h : ∀ M' v, MG M' (qLend g x y n' m').1 → Fm M M' → M'.1 20 0 0 5 = nI (qLend g x y n' m').2.1 → ((qLend g x y n' m').2.1 = 0 → v = (qLend g x y n' m').2.2) → P (.inl (some (.int v))) M') : Sp E yX9_lend cX9_lend zX9_lend [.ref (ad E 20 0 0), .int x, .int y, .int n', .int m'] M P := by
  unfold qLend at h
  refine Sp_of (own := RX9) (by decide) rfl rfl (Nat.le_of_ble_eq_true rfl) (fun C => ?_)
  refine G_aload_n dX9_lend_0 rfl ?_
  refine G_iconst (v := 0) dX9_lend_1 (by decide) ?_
  refine pf_X9_41 dX9_lend_2  ?_
  have hG1 : MG (M.up 20 0 0 5 0) g := hG.thr
  have hT : (M.up 20 0 0 5 0).1 20 0 0 5 = 0 := up_at
  have hF : Fm M (M.up 20 0 0 5 0) := Fm.rfl.up ⟨by decide, by decide⟩
  generalize M.up 20 0 0 5 0 = M1 at hG1 hT hF ⊢
  have hR := hG1.1
  have hA := hG1.2.1
  have h12 := hA.n12
  refine G_aload_n dX9_lend_5 rfl ?_
  refine G_aload_n dX9_lend_6 rfl ?_
  refine G_iload_n dX9_lend_7 rfl ?_
  refine cv_X9_297 (cs' := 0) (ss' := 0) dX9_lend_8  (Nat.le_of_ble_eq_true rfl) (Nat.le_of_ble_eq_true rfl) (Nat.le_of_ble_eq_true rfl) rfl rfl (Nat.le_of_ble_eq_true rfl) (Nat.le_of_ble_eq_true rfl) rfl ?_
  refine s_X9_isPupil hR hA (hGo_i ?_)
  by_cases q00 : inP g.A x
  rotate_left
  · rw [if_neg q00]
    refine G_if_eq (tgt := 26) dX9_lend_11 (by decide) (fun c11 => ?_) (fun c11 => ?_)
    rotate_left
    · exact absurd rfl c11
    refine G_iconst (v := 0) dX9_lend_26 (by decide) ?_
    refine G_iconst (v := 1) dX9_lend_27 (by decide) ?_
    refine cv_X9_158 (cs' := 0) (ss' := 0) dX9_lend_28  (Nat.le_of_ble_eq_true rfl) (Nat.le_of_ble_eq_true rfl) (Nat.le_of_ble_eq_true rfl) rfl rfl (Nat.le_of_ble_eq_true rfl) (Nat.le_of_ble_eq_true rfl) rfl ?_
    refine s_X9_holds0 hT (by decide) (hGo_i ?_)
    refine G_if_eq (tgt := 67) dX9_lend_31 (by decide) (fun c31 => ?_) (fun c31 => ?_)
    · refine G_iconst (v := 0) dX9_lend_67 (by decide) ?_
      refine G_iret dX9_lend_68 rfl rfl (Nat.le_of_ble_eq_true rfl) (Nat.le_of_ble_eq_true rfl) ?_
      rw [if_neg (fun z => q00 z.1)] at h
      exact h _ _ hG1.thr (hF.up ⟨by decide, by decide⟩) up_at (fun z => absurd z (Nat.succ_ne_zero _))
    · exact absurd rfl c31
  rw [if_pos q00]
  refine G_if_eq (tgt := 26) dX9_lend_11 (by decide) (fun c11 => ?_) (fun c11 => ?_)
  · exact absurd c11 (by decide)
  refine G_aload_n dX9_lend_14 rfl ?_
  refine G_iload_n dX9_lend_15 rfl ?_
  refine cv_X9_297 (cs' := 0) (ss' := 0) dX9_lend_16  (Nat.le_of_ble_eq_true rfl) (Nat.le_of_ble_eq_true rfl) (Nat.le_of_ble_eq_true rfl) rfl rfl (Nat.le_of_ble_eq_true rfl) (Nat.le_of_ble_eq_true rfl) rfl ?_
  refine s_X9_isPupil hR hA (hGo_i ?_)
  by_cases q01 : inP g.A y
  rotate_left
  · rw [if_neg q01]
    refine G_if_eq (tgt := 26) dX9_lend_19 (by decide) (fun c19 => ?_) (fun c19 => ?_)
    rotate_left
    · exact absurd rfl c19
    refine G_iconst (v := 0) dX9_lend_26 (by decide) ?_
    refine G_iconst (v := 1) dX9_lend_27 (by decide) ?_
    refine cv_X9_158 (cs' := 0) (ss' := 0) dX9_lend_28  (Nat.le_of_ble_eq_true rfl) (Nat.le_of_ble_eq_true rfl) (Nat.le_of_ble_eq_true rfl) rfl rfl (Nat.le_of_ble_eq_true rfl) (Nat.le_of_ble_eq_true rfl) rfl ?_
    refine s_X9_holds0 hT (by decide) (hGo_i ?_)
    refine G_if_eq (tgt := 67) dX9_lend_31 (by decide) (fun c31 => ?_) (fun c31 => ?_)
    · refine G_iconst (v := 0) dX9_lend_67 (by decide) ?_
      refine G_iret dX9_lend_68 rfl rfl (Nat.le_of_ble_eq_true rfl) (Nat.le_of_ble_eq_true rfl) ?_
      rw [if_neg (fun z => q01 z.2)] at h
      exact h _ _ hG1.thr (hF.up ⟨by decide, by decide⟩) up_at (fun z => absurd z (Nat.succ_ne_zero _))
    · exact absurd rfl c31
  rw [if_pos q01]
  refine G_if_eq (tgt := 26) dX9_lend_19 (by decide) (fun c19 => ?_) (fun c19 => ?_)
  · exact absurd c19 (by decide)
  refine G_iconst (v := 1) dX9_lend_22 (by decide) ?_
  refine G_goto (tgt := 27) dX9_lend_23 (by decide) ?_
  refine G_iconst (v := 1) dX9_lend_27 (by decide) ?_
  refine cv_X9_158 (cs' := 0) (ss' := 0) dX9_lend_28  (Nat.le_of_ble_eq_true rfl) (Nat.le_of_ble_eq_true rfl) (Nat.le_of_ble_eq_true rfl) rfl rfl (Nat.le_of_ble_eq_true rfl) (Nat.le_of_ble_eq_true rfl) rfl ?_
  rw [if_pos ⟨q00, q01⟩] at h
  refine s_X9_holds1 hT (hGo_i ?_)
  refine G_if_eq (tgt := 67) dX9_lend_31 (by decide) (fun c31 => ?_) (fun c31 => ?_)
  · exact absurd c31 (by decide)
  refine G_aload_n dX9_lend_34 rfl ?_
  refine G_iload_n dX9_lend_35 rfl ?_
  refine G_iconst (v := 0) dX9_lend_36 (by decide) ?_
  refine G_iconst (v := 1) dX9_lend_37 (by decide) ?_
  refine cv_X9_162 (cs' := 0) (ss' := 0) dX9_lend_38  (Nat.le_of_ble_eq_true rfl) (Nat.le_of_ble_eq_true rfl) (Nat.le_of_ble_eq_true rfl) rfl rfl (Nat.le_of_ble_eq_true rfl) (Nat.le_of_ble_eq_true rfl) rfl ?_
  refine s_X9_in (hGo_i ?_)
  by_cases q10 : inR n' 0 1
  rotate_left
  · rw [if_neg q10]
    refine G_if_eq (tgt := 59) dX9_lend_41 (by decide) (fun c41 => ?_) (fun c41 => ?_)
    rotate_left
    · exact absurd rfl c41
    refine G_iconst (v := 0) dX9_lend_59 (by decide) ?_
    refine G_iconst (v := 2) dX9_lend_60 (by decide) ?_
    refine cv_X9_158 (cs' := 0) (ss' := 0) dX9_lend_61  (Nat.le_of_ble_eq_true rfl) (Nat.le_of_ble_eq_true rfl) (Nat.le_of_ble_eq_true rfl) rfl rfl (Nat.le_of_ble_eq_true rfl) (Nat.le_of_ble_eq_true rfl) rfl ?_
    refine s_X9_holds0 hT (by decide) (hGo_i ?_)
    refine G_if_ne (tgt := 69) dX9_lend_64 (by decide) (fun c64 => ?_) (fun c64 => ?_)
    · exact absurd rfl c64
    · refine G_iconst (v := 0) dX9_lend_67 (by decide) ?_
      refine G_iret dX9_lend_68 rfl rfl (Nat.le_of_ble_eq_true rfl) (Nat.le_of_ble_eq_true rfl) ?_
      rw [if_neg (fun z => q10 z.1)] at h
      exact h _ _ hG1.thr (hF.up ⟨by decide, by decide⟩) up_at (fun z => absurd z (Nat.succ_ne_zero _))
  rw [if_pos q10]
  refine G_if_eq (tgt := 59) dX9_lend_41 (by decide) (fun c41 => ?_) (fun c41 => ?_)
  · exact absurd c41 (by decide)
  refine G_iload dX9_lend_44 rfl ?_
  refine G_iconst (v := 1) dX9_lend_46 (by decide) ?_
  refine G_bipush (v := 20) dX9_lend_47 (by decide) ?_
  refine cv_X9_162 (cs' := 0) (ss' := 0) dX9_lend_49  (Nat.le_of_ble_eq_true rfl) (Nat.le_of_ble_eq_true rfl) (Nat.le_of_ble_eq_true rfl) rfl rfl (Nat.le_of_ble_eq_true rfl) (Nat.le_of_ble_eq_true rfl) rfl ?_
  refine s_X9_in (hGo_i ?_)
  by_cases q11 : inR m' 1 20
  rotate_left
  · rw [if_neg q11]
    refine G_if_eq (tgt := 59) dX9_lend_52 (by decide) (fun c52 => ?_) (fun c52 => ?_)
    rotate_left
    · exact absurd rfl c52
    refine G_iconst (v := 0) dX9_lend_59 (by decide) ?_
    refine G_iconst (v := 2) dX9_lend_60 (by decide) ?_
    refine cv_X9_158 (cs' := 0) (ss' := 0) dX9_lend_61  (Nat.le_of_ble_eq_true rfl) (Nat.le_of_ble_eq_true rfl) (Nat.le_of_ble_eq_true rfl) rfl rfl (Nat.le_of_ble_eq_true rfl) (Nat.le_of_ble_eq_true rfl) rfl ?_
    refine s_X9_holds0 hT (by decide) (hGo_i ?_)
    refine G_if_ne (tgt := 69) dX9_lend_64 (by decide) (fun c64 => ?_) (fun c64 => ?_)
    · exact absurd rfl c64
    · refine G_iconst (v := 0) dX9_lend_67 (by decide) ?_
      refine G_iret dX9_lend_68 rfl rfl (Nat.le_of_ble_eq_true rfl) (Nat.le_of_ble_eq_true rfl) ?_
      rw [if_neg (fun z => q11 z.2)] at h
      exact h _ _ hG1.thr (hF.up ⟨by decide, by decide⟩) up_at (fun z => absurd z (Nat.succ_ne_zero _))
  rw [if_pos q11]
  refine G_if_eq (tgt := 59) dX9_lend_52 (by decide) (fun c52 => ?_) (fun c52 => ?_)
  · exact absurd c52 (by decide)
  refine G_iconst (v := 1) dX9_lend_55 (by decide) ?_
  refine G_goto (tgt := 60) dX9_lend_56 (by decide) ?_
  refine G_iconst (v := 2) dX9_lend_60 (by decide) ?_
  refine cv_X9_158 (cs' := 0) (ss' := 0) dX9_lend_61  (Nat.le_of_ble_eq_true rfl) (Nat.le_of_ble_eq_true rfl) (Nat.le_of_ble_eq_true rfl) rfl rfl (Nat.le_of_ble_eq_true rfl) (Nat.le_of_ble_eq_true rfl) rfl ?_
  rw [if_pos ⟨q10, q11⟩] at h
  refine s_X9_holds1 hT (hGo_i ?_)
  refine G_if_ne (tgt := 69) dX9_lend_64 (by decide) (fun c64 => ?_) (fun c64 => ?_)
  rotate_left
  · exact absurd c64 (by decide)
  obtain ⟨p, hp, rfl, ep⟩ := in_ix q00 (by omega)
  rw [ep] at h
  obtain ⟨p2, hp2, rfl, ep2⟩ := in_ix q01 (by omega)
  rw [ep2] at h
  obtain ⟨s, ls, hs, rfl, es⟩ := inR_ix (i := 0) (k := 1) (by decide) (by decide) q10
  rw [es] at h
  obtain ⟨n, ln, hn, rfl, en⟩ := inR_ix (i := 1) (k := 20) (by decide) (by decide) q11
  rw [en] at h
  unfold sLend at h
  have hs2 : s < 2 := by omega
  have h30 := hA.d30
  have e1 : (1 : Int32) - nI s = nI (1 - s) := nI_subN (a := s) (b := 1) (by omega)
  refine G_aload_n dX9_lend_69 rfl ?_
  refine G_iload_n dX9_lend_70 rfl ?_
  refine G_iload_n dX9_lend_71 rfl ?_
  refine G_iload_n dX9_lend_72 rfl ?_
  refine G_iload dX9_lend_73 rfl ?_
  refine cv_X9_327 (cs' := 0) (ss' := 0) dX9_lend_75  (Nat.le_of_ble_eq_true rfl) (Nat.le_of_ble_eq_true rfl) (Nat.le_of_ble_eq_true rfl) rfl rfl (Nat.le_of_ble_eq_true rfl) (Nat.le_of_ble_eq_true rfl) rfl ?_
  refine s_X9_barsLending hR hA hp hp2 hs2 hn (hGo_i ?_)
  by_cases r0 : rLend g.A p p2 s n = 0
  rotate_left
  · rw [if_neg r0] at h
    refine G_istore dX9_lend_78 (Nat.le_of_ble_eq_true rfl) ?_
    refine G_iload dX9_lend_80 rfl ?_
    refine G_if_le (tgt := 92) dX9_lend_82 (by decide) (fun c82 => ?_) (fun c82 => ?_)
    · rcases rLend_c0 (A := g.A) (x := p) (y := p2) (s := s) (n := n) with z | ⟨k, k1, k2, ek⟩
      · exact absurd z r0
      · rw [ek] at c82
        exact absurd c82 (nI_nle (by omega) (by omega))
    · refine G_aload_n dX9_lend_85 rfl ?_
      refine G_iload dX9_lend_86 rfl ?_
      refine cv_X9_345 (cs' := 0) (ss' := 0) dX9_lend_88  (Nat.le_of_ble_eq_true rfl) (Nat.le_of_ble_eq_true rfl) (Nat.le_of_ble_eq_true rfl) rfl rfl (Nat.le_of_ble_eq_true rfl) (Nat.le_of_ble_eq_true rfl) rfl ?_
      refine s_X9_refuses hG1 (rLend_c0 (A := g.A) (x := p) (y := p2) (s := s) (n := n).resolve_left r0) (fun M2 hG2 f2 t2 => hGo_i ?_)
      refine G_iret dX9_lend_91 rfl rfl (Nat.le_of_ble_eq_true rfl) (Nat.le_of_ble_eq_true rfl) ?_
      exact h M2 _ hG2 (hF.trans f2) (t2.trans hT) (fun _ => rfl)
  rw [if_pos r0] at h
  rw [r0]
  refine G_istore dX9_lend_78 (Nat.le_of_ble_eq_true rfl) ?_
  refine G_iload dX9_lend_80 rfl ?_
  refine G_if_le (tgt := 92) dX9_lend_82 (by decide) (fun c82 => ?_) (fun c82 => ?_)
  rotate_left
  · exact absurd (Int32.le_refl 0) c82
  obtain ⟨ne, ⟨l1, l2⟩, lc⟩ := rLend_0 (hO.1.l20 (by omega)) (hO.1.l20 (by omega)) hn r0
  refine G_aload_n dX9_lend_92 rfl ?_
  refine cv_X9_348 (cs' := 0) (ss' := 0) dX9_lend_93  (Nat.le_of_ble_eq_true rfl) (Nat.le_of_ble_eq_true rfl) (Nat.le_of_ble_eq_true rfl) rfl rfl (Nat.le_of_ble_eq_true rfl) (Nat.le_of_ble_eq_true rfl) rfl ?_
  refine s_X9_keeps hG1 (fun M2 hG2 f2 t2 => hGo_v ?_)
  have hF2 := hF.trans f2
  have hT2 := t2.trans hT
  have hR2 := hG2.1
  have hA2 : MR M2 0 g.A := hG2.2.1
  refine G_aload_n dX9_lend_96 rfl ?_
  refine G_iload_n dX9_lend_97 rfl ?_
  refine G_iload_n dX9_lend_98 rfl ?_
  refine G_iload_n dX9_lend_99 rfl ?_
  refine G_iload dX9_lend_100 rfl ?_
  refine cv_X9_357 (cs' := 0) (ss' := 0) dX9_lend_102  (Nat.le_of_ble_eq_true rfl) (Nat.le_of_ble_eq_true rfl) (Nat.le_of_ble_eq_true rfl) rfl rfl (Nat.le_of_ble_eq_true rfl) (Nat.le_of_ble_eq_true rfl) rfl ?_
  refine s_X9_gives hR2 hA2 hp hp2 ne hs2 l1 l2 (fun M3 a3 f3 => hGo_v ?_)
  refine G_aload_n dX9_lend_105 rfl ?_
  refine G_iload_n dX9_lend_106 rfl ?_
  refine G_iload_n dX9_lend_107 rfl ?_
  refine G_iconst (v := 1) dX9_lend_108 (by decide) ?_
  refine G_iload_n dX9_lend_109 rfl ?_
  refine G_isub dX9_lend_110 ?_
  rw [e1]
  refine G_iload dX9_lend_111 rfl ?_
  refine cv_X9_364 (cs' := 0) (ss' := 0) dX9_lend_113  (Nat.le_of_ble_eq_true rfl) (Nat.le_of_ble_eq_true rfl) (Nat.le_of_ble_eq_true rfl) rfl rfl (Nat.le_of_ble_eq_true rfl) (Nat.le_of_ble_eq_true rfl) rfl ?_
  refine s_X9_owesMore (hR2.fo f3) a3 lc (fun M4 a4 f4 => hGo_v ?_)
  have f4 := f3.trans f4
  have a4 : MR M4 0 ((giveA g.A p p2 s n).sD (lendD g.A.d (nI p2) (nI p) (nI (1 - s)) (nI n))) := a4
  refine G_aload_n dX9_lend_116 rfl ?_
  refine G_iconst (v := 3) dX9_lend_117 (by decide) ?_
  refine G_iconst (v := 1) dX9_lend_118 (by decide) ?_
  refine cv_X9_117 (cs' := 0) (ss' := 0) dX9_lend_119  (Nat.le_of_ble_eq_true rfl) (Nat.le_of_ble_eq_true rfl) (Nat.le_of_ble_eq_true rfl) rfl rfl (Nat.le_of_ble_eq_true rfl) (Nat.le_of_ble_eq_true rfl) rfl ?_
  refine s_X9_tallies (t := 3) (hR2.fo f4) (by decide) (a4.tl (by decide)) (hGo_v ?_)
  have a5 := a4.wG (t := 7 + 3) (v := ((giveA g.A p p2 s n).sD (lendD g.A.d (nI p2) (nI p) (nI (1 - s)) (nI n))).g (7 + 3) + 1) (by omega)
  have f5 := f4.w (w := 7 + 3) (v := ((giveA g.A p p2 s n).sD (lendD g.A.d (nI p2) (nI p) (nI (1 - s)) (nI n))).g (7 + 3) + 1) (by decide)
  generalize M4.w 0 (7 + 3) (((giveA g.A p p2 s n).sD (lendD g.A.d (nI p2) (nI p) (nI (1 - s)) (nI n))).g (7 + 3) + 1) = M5 at a5 f5 ⊢
  refine G_aload_n dX9_lend_122 rfl ?_
  refine G_iload_n dX9_lend_123 rfl ?_
  refine G_iload_n dX9_lend_124 rfl ?_
  refine cv_X9_361 (cs' := 0) (ss' := 0) dX9_lend_125  (Nat.le_of_ble_eq_true rfl) (Nat.le_of_ble_eq_true rfl) (Nat.le_of_ble_eq_true rfl) rfl rfl (Nat.le_of_ble_eq_true rfl) (Nat.le_of_ble_eq_true rfl) rfl ?_
  refine s_X9_seen (hR2.fo f5) a5 hO.1.2.2.1 hp hp2 ne (fun M6 a6 f6 => hGo_i ?_)
  have f6 := f5.trans f6
  have a6 : MR M6 0 (lendA g.A p p2 s n) := a6
  refine G_istore dX9_lend_128 (Nat.le_of_ble_eq_true rfl) ?_
  refine G_aload_n dX9_lend_130 rfl ?_
  refine G_iload_n dX9_lend_131 rfl ?_
  refine G_iload_n dX9_lend_132 rfl ?_
  refine G_iconst (v := 1) dX9_lend_133 (by decide) ?_
  refine G_iload_n dX9_lend_134 rfl ?_
  refine G_isub dX9_lend_135 ?_
  rw [e1]
  refine cv_X9_306 (cs' := 0) (ss' := 0) dX9_lend_136  (Nat.le_of_ble_eq_true rfl) (Nat.le_of_ble_eq_true rfl) (Nat.le_of_ble_eq_true rfl) rfl rfl (Nat.le_of_ble_eq_true rfl) (Nat.le_of_ble_eq_true rfl) rfl ?_
  refine s_X9_owed (hR2.fo f6) a6 (hGo_i ?_)
  refine G_iret dX9_lend_139 rfl rfl (Nat.le_of_ble_eq_true rfl) (Nat.le_of_ble_eq_true rfl) ?_
  exact h M6 _ (hG2.row f6 a6) (Fo.mo f6 hF2) ((f6.k (by decide) 0 0 5).trans hT2) (fun _ => owed_lend h30)
theorem m_payBack {x y n' m' : Int32} (hG : MG M g) (hO : Okg g) (h : ∀ M' v, MG M' (qPay g x y n' m').1 → Fm M M' → M'.1 20 0 0 5 = nI (qPay g x y n' m').2.1 → ((qPay g x y n' m').2.1 = 0 → v = (qPay g x y n' m').2.2) → P (.inl (some (.int v))) M') : Sp E yX9_payBack cX9_payBack zX9_payBack [.ref (ad E 20 0 0), .int x, .int y, .int n', .int m'] M P := by
  unfold qPay at h
  refine Sp_of (own := RX9) (by decide) rfl rfl (Nat.le_of_ble_eq_true rfl) (fun C => ?_)
  refine G_aload_n dX9_payBack_0 rfl ?_
  refine G_iconst (v := 0) dX9_payBack_1 (by decide) ?_
  refine pf_X9_41 dX9_payBack_2  ?_
  have hG1 : MG (M.up 20 0 0 5 0) g := hG.thr
  have hT : (M.up 20 0 0 5 0).1 20 0 0 5 = 0 := up_at
  have hF : Fm M (M.up 20 0 0 5 0) := Fm.rfl.up ⟨by decide, by decide⟩
  generalize M.up 20 0 0 5 0 = M1 at hG1 hT hF ⊢
  have hR := hG1.1
  have hA := hG1.2.1
  have h12 := hA.n12
  refine G_aload_n dX9_payBack_5 rfl ?_
  refine G_aload_n dX9_payBack_6 rfl ?_
  refine G_iload_n dX9_payBack_7 rfl ?_
  refine cv_X9_297 (cs' := 0) (ss' := 0) dX9_payBack_8  (Nat.le_of_ble_eq_true rfl) (Nat.le_of_ble_eq_true rfl) (Nat.le_of_ble_eq_true rfl) rfl rfl (Nat.le_of_ble_eq_true rfl) (Nat.le_of_ble_eq_true rfl) rfl ?_
  refine s_X9_isPupil hR hA (hGo_i ?_)
  by_cases q00 : inP g.A x
  rotate_left
  · rw [if_neg q00]
    refine G_if_eq (tgt := 26) dX9_payBack_11 (by decide) (fun c11 => ?_) (fun c11 => ?_)
    rotate_left
    · exact absurd rfl c11
    refine G_iconst (v := 0) dX9_payBack_26 (by decide) ?_
    refine G_iconst (v := 1) dX9_payBack_27 (by decide) ?_
    refine cv_X9_158 (cs' := 0) (ss' := 0) dX9_payBack_28  (Nat.le_of_ble_eq_true rfl) (Nat.le_of_ble_eq_true rfl) (Nat.le_of_ble_eq_true rfl) rfl rfl (Nat.le_of_ble_eq_true rfl) (Nat.le_of_ble_eq_true rfl) rfl ?_
    refine s_X9_holds0 hT (by decide) (hGo_i ?_)
    refine G_if_eq (tgt := 67) dX9_payBack_31 (by decide) (fun c31 => ?_) (fun c31 => ?_)
    · refine G_iconst (v := 0) dX9_payBack_67 (by decide) ?_
      refine G_iret dX9_payBack_68 rfl rfl (Nat.le_of_ble_eq_true rfl) (Nat.le_of_ble_eq_true rfl) ?_
      rw [if_neg (fun z => q00 z.1)] at h
      exact h _ _ hG1.thr (hF.up ⟨by decide, by decide⟩) up_at (fun z => absurd z (Nat.succ_ne_zero _))
    · exact absurd rfl c31
  rw [if_pos q00]
  refine G_if_eq (tgt := 26) dX9_payBack_11 (by decide) (fun c11 => ?_) (fun c11 => ?_)
  · exact absurd c11 (by decide)
  refine G_aload_n dX9_payBack_14 rfl ?_
  refine G_iload_n dX9_payBack_15 rfl ?_
  refine cv_X9_297 (cs' := 0) (ss' := 0) dX9_payBack_16  (Nat.le_of_ble_eq_true rfl) (Nat.le_of_ble_eq_true rfl) (Nat.le_of_ble_eq_true rfl) rfl rfl (Nat.le_of_ble_eq_true rfl) (Nat.le_of_ble_eq_true rfl) rfl ?_
  refine s_X9_isPupil hR hA (hGo_i ?_)
  by_cases q01 : inP g.A y
  rotate_left
  · rw [if_neg q01]
    refine G_if_eq (tgt := 26) dX9_payBack_19 (by decide) (fun c19 => ?_) (fun c19 => ?_)
    rotate_left
    · exact absurd rfl c19
    refine G_iconst (v := 0) dX9_payBack_26 (by decide) ?_
    refine G_iconst (v := 1) dX9_payBack_27 (by decide) ?_
    refine cv_X9_158 (cs' := 0) (ss' := 0) dX9_payBack_28  (Nat.le_of_ble_eq_true rfl) (Nat.le_of_ble_eq_true rfl) (Nat.le_of_ble_eq_true rfl) rfl rfl (Nat.le_of_ble_eq_true rfl) (Nat.le_of_ble_eq_true rfl) rfl ?_
    refine s_X9_holds0 hT (by decide) (hGo_i ?_)
    refine G_if_eq (tgt := 67) dX9_payBack_31 (by decide) (fun c31 => ?_) (fun c31 => ?_)
    · refine G_iconst (v := 0) dX9_payBack_67 (by decide) ?_
      refine G_iret dX9_payBack_68 rfl rfl (Nat.le_of_ble_eq_true rfl) (Nat.le_of_ble_eq_true rfl) ?_
      rw [if_neg (fun z => q01 z.2)] at h
      exact h _ _ hG1.thr (hF.up ⟨by decide, by decide⟩) up_at (fun z => absurd z (Nat.succ_ne_zero _))
    · exact absurd rfl c31
  rw [if_pos q01]
  refine G_if_eq (tgt := 26) dX9_payBack_19 (by decide) (fun c19 => ?_) (fun c19 => ?_)
  · exact absurd c19 (by decide)
  refine G_iconst (v := 1) dX9_payBack_22 (by decide) ?_
  refine G_goto (tgt := 27) dX9_payBack_23 (by decide) ?_
  refine G_iconst (v := 1) dX9_payBack_27 (by decide) ?_
  refine cv_X9_158 (cs' := 0) (ss' := 0) dX9_payBack_28  (Nat.le_of_ble_eq_true rfl) (Nat.le_of_ble_eq_true rfl) (Nat.le_of_ble_eq_true rfl) rfl rfl (Nat.le_of_ble_eq_true rfl) (Nat.le_of_ble_eq_true rfl) rfl ?_
  rw [if_pos ⟨q00, q01⟩] at h
  refine s_X9_holds1 hT (hGo_i ?_)
  refine G_if_eq (tgt := 67) dX9_payBack_31 (by decide) (fun c31 => ?_) (fun c31 => ?_)
  · exact absurd c31 (by decide)
  refine G_aload_n dX9_payBack_34 rfl ?_
  refine G_iload_n dX9_payBack_35 rfl ?_
  refine G_iconst (v := 0) dX9_payBack_36 (by decide) ?_
  refine G_iconst (v := 1) dX9_payBack_37 (by decide) ?_
  refine cv_X9_162 (cs' := 0) (ss' := 0) dX9_payBack_38  (Nat.le_of_ble_eq_true rfl) (Nat.le_of_ble_eq_true rfl) (Nat.le_of_ble_eq_true rfl) rfl rfl (Nat.le_of_ble_eq_true rfl) (Nat.le_of_ble_eq_true rfl) rfl ?_
  refine s_X9_in (hGo_i ?_)
  by_cases q10 : inR n' 0 1
  rotate_left
  · rw [if_neg q10]
    refine G_if_eq (tgt := 59) dX9_payBack_41 (by decide) (fun c41 => ?_) (fun c41 => ?_)
    rotate_left
    · exact absurd rfl c41
    refine G_iconst (v := 0) dX9_payBack_59 (by decide) ?_
    refine G_iconst (v := 2) dX9_payBack_60 (by decide) ?_
    refine cv_X9_158 (cs' := 0) (ss' := 0) dX9_payBack_61  (Nat.le_of_ble_eq_true rfl) (Nat.le_of_ble_eq_true rfl) (Nat.le_of_ble_eq_true rfl) rfl rfl (Nat.le_of_ble_eq_true rfl) (Nat.le_of_ble_eq_true rfl) rfl ?_
    refine s_X9_holds0 hT (by decide) (hGo_i ?_)
    refine G_if_ne (tgt := 69) dX9_payBack_64 (by decide) (fun c64 => ?_) (fun c64 => ?_)
    · exact absurd rfl c64
    · refine G_iconst (v := 0) dX9_payBack_67 (by decide) ?_
      refine G_iret dX9_payBack_68 rfl rfl (Nat.le_of_ble_eq_true rfl) (Nat.le_of_ble_eq_true rfl) ?_
      rw [if_neg (fun z => q10 z.1)] at h
      exact h _ _ hG1.thr (hF.up ⟨by decide, by decide⟩) up_at (fun z => absurd z (Nat.succ_ne_zero _))
  rw [if_pos q10]
  refine G_if_eq (tgt := 59) dX9_payBack_41 (by decide) (fun c41 => ?_) (fun c41 => ?_)
  · exact absurd c41 (by decide)
  refine G_iload dX9_payBack_44 rfl ?_
  refine G_iconst (v := 1) dX9_payBack_46 (by decide) ?_
  refine G_bipush (v := 20) dX9_payBack_47 (by decide) ?_
  refine cv_X9_162 (cs' := 0) (ss' := 0) dX9_payBack_49  (Nat.le_of_ble_eq_true rfl) (Nat.le_of_ble_eq_true rfl) (Nat.le_of_ble_eq_true rfl) rfl rfl (Nat.le_of_ble_eq_true rfl) (Nat.le_of_ble_eq_true rfl) rfl ?_
  refine s_X9_in (hGo_i ?_)
  by_cases q11 : inR m' 1 20
  rotate_left
  · rw [if_neg q11]
    refine G_if_eq (tgt := 59) dX9_payBack_52 (by decide) (fun c52 => ?_) (fun c52 => ?_)
    rotate_left
    · exact absurd rfl c52
    refine G_iconst (v := 0) dX9_payBack_59 (by decide) ?_
    refine G_iconst (v := 2) dX9_payBack_60 (by decide) ?_
    refine cv_X9_158 (cs' := 0) (ss' := 0) dX9_payBack_61  (Nat.le_of_ble_eq_true rfl) (Nat.le_of_ble_eq_true rfl) (Nat.le_of_ble_eq_true rfl) rfl rfl (Nat.le_of_ble_eq_true rfl) (Nat.le_of_ble_eq_true rfl) rfl ?_
    refine s_X9_holds0 hT (by decide) (hGo_i ?_)
    refine G_if_ne (tgt := 69) dX9_payBack_64 (by decide) (fun c64 => ?_) (fun c64 => ?_)
    · exact absurd rfl c64
    · refine G_iconst (v := 0) dX9_payBack_67 (by decide) ?_
      refine G_iret dX9_payBack_68 rfl rfl (Nat.le_of_ble_eq_true rfl) (Nat.le_of_ble_eq_true rfl) ?_
      rw [if_neg (fun z => q11 z.2)] at h
      exact h _ _ hG1.thr (hF.up ⟨by decide, by decide⟩) up_at (fun z => absurd z (Nat.succ_ne_zero _))
  rw [if_pos q11]
  refine G_if_eq (tgt := 59) dX9_payBack_52 (by decide) (fun c52 => ?_) (fun c52 => ?_)
  · exact absurd c52 (by decide)
  refine G_iconst (v := 1) dX9_payBack_55 (by decide) ?_
  refine G_goto (tgt := 60) dX9_payBack_56 (by decide) ?_
  refine G_iconst (v := 2) dX9_payBack_60 (by decide) ?_
  refine cv_X9_158 (cs' := 0) (ss' := 0) dX9_payBack_61  (Nat.le_of_ble_eq_true rfl) (Nat.le_of_ble_eq_true rfl) (Nat.le_of_ble_eq_true rfl) rfl rfl (Nat.le_of_ble_eq_true rfl) (Nat.le_of_ble_eq_true rfl) rfl ?_
  rw [if_pos ⟨q10, q11⟩] at h
  refine s_X9_holds1 hT (hGo_i ?_)
  refine G_if_ne (tgt := 69) dX9_payBack_64 (by decide) (fun c64 => ?_) (fun c64 => ?_)
  rotate_left
  · exact absurd c64 (by decide)
  obtain ⟨p, hp, rfl, ep⟩ := in_ix q00 (by omega)
  rw [ep] at h
  obtain ⟨p2, hp2, rfl, ep2⟩ := in_ix q01 (by omega)
  rw [ep2] at h
  obtain ⟨s, ls, hs, rfl, es⟩ := inR_ix (i := 0) (k := 1) (by decide) (by decide) q10
  rw [es] at h
  obtain ⟨n, ln, hn, rfl, en⟩ := inR_ix (i := 1) (k := 20) (by decide) (by decide) q11
  rw [en] at h
  unfold sPay at h
  have hs2 : s < 2 := by omega
  have h30 := hA.d30
  refine G_aload_n dX9_payBack_69 rfl ?_
  refine G_iload_n dX9_payBack_70 rfl ?_
  refine G_iload_n dX9_payBack_71 rfl ?_
  refine G_iload_n dX9_payBack_72 rfl ?_
  refine G_iload dX9_payBack_73 rfl ?_
  refine cv_X9_321 (cs' := 0) (ss' := 0) dX9_payBack_75  (Nat.le_of_ble_eq_true rfl) (Nat.le_of_ble_eq_true rfl) (Nat.le_of_ble_eq_true rfl) rfl rfl (Nat.le_of_ble_eq_true rfl) (Nat.le_of_ble_eq_true rfl) rfl ?_
  refine s_X9_barsPaying hR hA hp hp2 hs2 hn (hGo_i ?_)
  by_cases r0 : rPay g.A p p2 s n = 0
  rotate_left
  · rw [if_neg r0] at h
    refine G_istore dX9_payBack_78 (Nat.le_of_ble_eq_true rfl) ?_
    refine G_iload dX9_payBack_80 rfl ?_
    refine G_if_le (tgt := 92) dX9_payBack_82 (by decide) (fun c82 => ?_) (fun c82 => ?_)
    · rcases rPay_c0 (A := g.A) (x := p) (y := p2) (s := s) (n := n) with z | ⟨k, k1, k2, ek⟩
      · exact absurd z r0
      · rw [ek] at c82
        exact absurd c82 (nI_nle (by omega) (by omega))
    · refine G_aload_n dX9_payBack_85 rfl ?_
      refine G_iload dX9_payBack_86 rfl ?_
      refine cv_X9_345 (cs' := 0) (ss' := 0) dX9_payBack_88  (Nat.le_of_ble_eq_true rfl) (Nat.le_of_ble_eq_true rfl) (Nat.le_of_ble_eq_true rfl) rfl rfl (Nat.le_of_ble_eq_true rfl) (Nat.le_of_ble_eq_true rfl) rfl ?_
      refine s_X9_refuses hG1 (rPay_c0 (A := g.A) (x := p) (y := p2) (s := s) (n := n).resolve_left r0) (fun M2 hG2 f2 t2 => hGo_i ?_)
      refine G_iret dX9_payBack_91 rfl rfl (Nat.le_of_ble_eq_true rfl) (Nat.le_of_ble_eq_true rfl) ?_
      exact h M2 _ hG2 (hF.trans f2) (t2.trans hT) (fun _ => rfl)
  rw [if_pos r0] at h
  rw [r0]
  refine G_istore dX9_payBack_78 (Nat.le_of_ble_eq_true rfl) ?_
  refine G_iload dX9_payBack_80 rfl ?_
  refine G_if_le (tgt := 92) dX9_payBack_82 (by decide) (fun c82 => ?_) (fun c82 => ?_)
  rotate_left
  · exact absurd (Int32.le_refl 0) c82
  obtain ⟨ne, ⟨l1, l2⟩, lf, lo⟩ := rPay_0 (hO.1.l20 (by omega)) (hO.1.l20 (by omega)) ln hn r0
  rcases fnd_cases g.A.d (nI p) (nI p2) (nI s) with ⟨z, -⟩ | ⟨i, hi, ei, -, -⟩
  · exact absurd z lf
  refine G_aload_n dX9_payBack_92 rfl ?_
  refine cv_X9_348 (cs' := 0) (ss' := 0) dX9_payBack_93  (Nat.le_of_ble_eq_true rfl) (Nat.le_of_ble_eq_true rfl) (Nat.le_of_ble_eq_true rfl) rfl rfl (Nat.le_of_ble_eq_true rfl) (Nat.le_of_ble_eq_true rfl) rfl ?_
  refine s_X9_keeps hG1 (fun M2 hG2 f2 t2 => hGo_v ?_)
  have hF2 := hF.trans f2
  have hT2 := t2.trans hT
  have hR2 := hG2.1
  have hA2 : MR M2 0 g.A := hG2.2.1
  refine G_aload_n dX9_payBack_96 rfl ?_
  refine G_iload_n dX9_payBack_97 rfl ?_
  refine G_iload_n dX9_payBack_98 rfl ?_
  refine G_iload_n dX9_payBack_99 rfl ?_
  refine G_iload dX9_payBack_100 rfl ?_
  refine cv_X9_357 (cs' := 0) (ss' := 0) dX9_payBack_102  (Nat.le_of_ble_eq_true rfl) (Nat.le_of_ble_eq_true rfl) (Nat.le_of_ble_eq_true rfl) rfl rfl (Nat.le_of_ble_eq_true rfl) (Nat.le_of_ble_eq_true rfl) rfl ?_
  refine s_X9_gives hR2 hA2 hp hp2 ne hs2 l1 l2 (fun M3 a3 f3 => hGo_v ?_)
  refine G_aload_n dX9_payBack_105 rfl ?_
  refine G_aload_n dX9_payBack_106 rfl ?_
  refine G_iload_n dX9_payBack_107 rfl ?_
  refine G_iload_n dX9_payBack_108 rfl ?_
  refine G_iload_n dX9_payBack_109 rfl ?_
  refine cv_X9_87 (cs' := 0) (ss' := 0) dX9_payBack_110  (Nat.le_of_ble_eq_true rfl) (Nat.le_of_ble_eq_true rfl) (Nat.le_of_ble_eq_true rfl) rfl rfl (Nat.le_of_ble_eq_true rfl) (Nat.le_of_ble_eq_true rfl) rfl ?_
  refine s_X9_findDebt (hR2.fo f3) a3 (hGo_i ?_)
  rw [show fnd (giveA g.A p p2 s n).d (nI p) (nI p2) (nI s) = nI i from ei]
  refine G_iload dX9_payBack_113 rfl ?_
  refine cv_X9_367 (cs' := 0) (ss' := 0) dX9_payBack_115  (Nat.le_of_ble_eq_true rfl) (Nat.le_of_ble_eq_true rfl) (Nat.le_of_ble_eq_true rfl) rfl rfl (Nat.le_of_ble_eq_true rfl) (Nat.le_of_ble_eq_true rfl) rfl ?_
  refine s_X9_owesLess (x := nI p) (y := nI p2) (s := nI s) (hR2.fo f3) a3 hi ei (fun M4 a4 f4 => hGo_v ?_)
  have f4 := f3.trans f4
  have a4 : MR M4 0 ((giveA g.A p p2 s n).sD (payD g.A.d (nI p) (nI p2) (nI s) (nI n))) := a4
  refine G_aload_n dX9_payBack_118 rfl ?_
  refine G_iconst (v := 4) dX9_payBack_119 (by decide) ?_
  refine G_iload dX9_payBack_120 rfl ?_
  refine cv_X9_117 (cs' := 0) (ss' := 0) dX9_payBack_122  (Nat.le_of_ble_eq_true rfl) (Nat.le_of_ble_eq_true rfl) (Nat.le_of_ble_eq_true rfl) rfl rfl (Nat.le_of_ble_eq_true rfl) (Nat.le_of_ble_eq_true rfl) rfl ?_
  refine s_X9_tallies (t := 4) (hR2.fo f4) (by decide) (a4.tl (by decide)) (hGo_v ?_)
  have a5 := a4.wG (t := 7 + 4) (v := ((giveA g.A p p2 s n).sD (payD g.A.d (nI p) (nI p2) (nI s) (nI n))).g (7 + 4) + nI n) (by omega)
  have f5 := f4.w (w := 7 + 4) (v := ((giveA g.A p p2 s n).sD (payD g.A.d (nI p) (nI p2) (nI s) (nI n))).g (7 + 4) + nI n) (by decide)
  generalize M4.w 0 (7 + 4) (((giveA g.A p p2 s n).sD (payD g.A.d (nI p) (nI p2) (nI s) (nI n))).g (7 + 4) + nI n) = M5 at a5 f5 ⊢
  refine G_aload_n dX9_payBack_125 rfl ?_
  refine G_iload_n dX9_payBack_126 rfl ?_
  refine G_iload_n dX9_payBack_127 rfl ?_
  refine cv_X9_361 (cs' := 0) (ss' := 0) dX9_payBack_128  (Nat.le_of_ble_eq_true rfl) (Nat.le_of_ble_eq_true rfl) (Nat.le_of_ble_eq_true rfl) rfl rfl (Nat.le_of_ble_eq_true rfl) (Nat.le_of_ble_eq_true rfl) rfl ?_
  refine s_X9_seen (hR2.fo f5) a5 hO.1.2.2.1 hp hp2 ne (fun M6 a6 f6 => hGo_i ?_)
  have f6 := f5.trans f6
  have a6 : MR M6 0 (payA g.A p p2 s n) := a6
  refine G_istore dX9_payBack_131 (Nat.le_of_ble_eq_true rfl) ?_
  refine G_aload_n dX9_payBack_133 rfl ?_
  refine G_iload_n dX9_payBack_134 rfl ?_
  refine G_iload_n dX9_payBack_135 rfl ?_
  refine G_iload_n dX9_payBack_136 rfl ?_
  refine cv_X9_306 (cs' := 0) (ss' := 0) dX9_payBack_137  (Nat.le_of_ble_eq_true rfl) (Nat.le_of_ble_eq_true rfl) (Nat.le_of_ble_eq_true rfl) rfl rfl (Nat.le_of_ble_eq_true rfl) (Nat.le_of_ble_eq_true rfl) rfl ?_
  refine s_X9_owed (hR2.fo f6) a6 (hGo_i ?_)
  refine G_iret dX9_payBack_140 rfl rfl (Nat.le_of_ble_eq_true rfl) (Nat.le_of_ble_eq_true rfl) ?_
  exact h M6 _ (hG2.row f6 a6) (Fo.mo f6 hF2) ((f6.k (by decide) 0 0 5).trans hT2) (fun _ => owed_pay hO.1.2.2.2.2 hi ei hn lo)
theorem m_move {x y z' : Int32} (hG : MG M g) (hO : Okg g) (h : ∀ M' v, MG M' (qMove g x y z').1 → Fm M M' → M'.1 20 0 0 5 = nI (qMove g x y z').2.1 → ((qMove g x y z').2.1 = 0 → v = (qMove g x y z').2.2) → P (.inl (some (.int v))) M') : Sp E yX9_move cX9_move zX9_move [.ref (ad E 20 0 0), .int x, .int y, .int z'] M P := by
  unfold qMove at h
  refine Sp_of (own := RX9) (by decide) rfl rfl (Nat.le_of_ble_eq_true rfl) (fun C => ?_)
  refine G_aload_n dX9_move_0 rfl ?_
  refine G_iconst (v := 0) dX9_move_1 (by decide) ?_
  refine pf_X9_41 dX9_move_2  ?_
  have hG1 : MG (M.up 20 0 0 5 0) g := hG.thr
  have hT : (M.up 20 0 0 5 0).1 20 0 0 5 = 0 := up_at
  have hF : Fm M (M.up 20 0 0 5 0) := Fm.rfl.up ⟨by decide, by decide⟩
  generalize M.up 20 0 0 5 0 = M1 at hG1 hT hF ⊢
  have hR := hG1.1
  have hA := hG1.2.1
  have h12 := hA.n12
  refine G_aload_n dX9_move_5 rfl ?_
  refine G_aload_n dX9_move_6 rfl ?_
  refine G_iload_n dX9_move_7 rfl ?_
  refine cv_X9_297 (cs' := 0) (ss' := 0) dX9_move_8  (Nat.le_of_ble_eq_true rfl) (Nat.le_of_ble_eq_true rfl) (Nat.le_of_ble_eq_true rfl) rfl rfl (Nat.le_of_ble_eq_true rfl) (Nat.le_of_ble_eq_true rfl) rfl ?_
  refine s_X9_isPupil hR hA (hGo_i ?_)
  by_cases q00 : inP g.A x
  rotate_left
  · rw [if_neg q00]
    refine G_iconst (v := 1) dX9_move_11 (by decide) ?_
    refine cv_X9_158 (cs' := 0) (ss' := 0) dX9_move_12  (Nat.le_of_ble_eq_true rfl) (Nat.le_of_ble_eq_true rfl) (Nat.le_of_ble_eq_true rfl) rfl rfl (Nat.le_of_ble_eq_true rfl) (Nat.le_of_ble_eq_true rfl) rfl ?_
    refine s_X9_holds0 hT (by decide) (hGo_i ?_)
    refine G_if_eq (tgt := 49) dX9_move_15 (by decide) (fun c15 => ?_) (fun c15 => ?_)
    · refine G_iconst (v := 0) dX9_move_49 (by decide) ?_
      refine G_iret dX9_move_50 rfl rfl (Nat.le_of_ble_eq_true rfl) (Nat.le_of_ble_eq_true rfl) ?_
      rw [if_neg q00] at h
      exact h _ _ hG1.thr (hF.up ⟨by decide, by decide⟩) up_at (fun z => absurd z (Nat.succ_ne_zero _))
    · exact absurd rfl c15
  rw [if_pos q00]
  refine G_iconst (v := 1) dX9_move_11 (by decide) ?_
  refine cv_X9_158 (cs' := 0) (ss' := 0) dX9_move_12  (Nat.le_of_ble_eq_true rfl) (Nat.le_of_ble_eq_true rfl) (Nat.le_of_ble_eq_true rfl) rfl rfl (Nat.le_of_ble_eq_true rfl) (Nat.le_of_ble_eq_true rfl) rfl ?_
  rw [if_pos q00] at h
  refine s_X9_holds1 hT (hGo_i ?_)
  refine G_if_eq (tgt := 49) dX9_move_15 (by decide) (fun c15 => ?_) (fun c15 => ?_)
  · exact absurd c15 (by decide)
  refine G_aload_n dX9_move_18 rfl ?_
  refine G_iload_n dX9_move_19 rfl ?_
  refine G_iconst (v := 0) dX9_move_20 (by decide) ?_
  refine G_iconst (v := 5) dX9_move_21 (by decide) ?_
  refine cv_X9_162 (cs' := 0) (ss' := 0) dX9_move_22  (Nat.le_of_ble_eq_true rfl) (Nat.le_of_ble_eq_true rfl) (Nat.le_of_ble_eq_true rfl) rfl rfl (Nat.le_of_ble_eq_true rfl) (Nat.le_of_ble_eq_true rfl) rfl ?_
  refine s_X9_in (hGo_i ?_)
  by_cases q10 : inR y 0 5
  rotate_left
  · rw [if_neg q10]
    refine G_if_eq (tgt := 41) dX9_move_25 (by decide) (fun c25 => ?_) (fun c25 => ?_)
    rotate_left
    · exact absurd rfl c25
    refine G_iconst (v := 0) dX9_move_41 (by decide) ?_
    refine G_iconst (v := 2) dX9_move_42 (by decide) ?_
    refine cv_X9_158 (cs' := 0) (ss' := 0) dX9_move_43  (Nat.le_of_ble_eq_true rfl) (Nat.le_of_ble_eq_true rfl) (Nat.le_of_ble_eq_true rfl) rfl rfl (Nat.le_of_ble_eq_true rfl) (Nat.le_of_ble_eq_true rfl) rfl ?_
    refine s_X9_holds0 hT (by decide) (hGo_i ?_)
    refine G_if_ne (tgt := 51) dX9_move_46 (by decide) (fun c46 => ?_) (fun c46 => ?_)
    · exact absurd rfl c46
    · refine G_iconst (v := 0) dX9_move_49 (by decide) ?_
      refine G_iret dX9_move_50 rfl rfl (Nat.le_of_ble_eq_true rfl) (Nat.le_of_ble_eq_true rfl) ?_
      rw [if_neg (fun z => q10 z.1)] at h
      exact h _ _ hG1.thr (hF.up ⟨by decide, by decide⟩) up_at (fun z => absurd z (Nat.succ_ne_zero _))
  rw [if_pos q10]
  refine G_if_eq (tgt := 41) dX9_move_25 (by decide) (fun c25 => ?_) (fun c25 => ?_)
  · exact absurd c25 (by decide)
  refine G_iload_n dX9_move_28 rfl ?_
  refine G_iconst (v := 0) dX9_move_29 (by decide) ?_
  refine G_iconst (v := 5) dX9_move_30 (by decide) ?_
  refine cv_X9_162 (cs' := 0) (ss' := 0) dX9_move_31  (Nat.le_of_ble_eq_true rfl) (Nat.le_of_ble_eq_true rfl) (Nat.le_of_ble_eq_true rfl) rfl rfl (Nat.le_of_ble_eq_true rfl) (Nat.le_of_ble_eq_true rfl) rfl ?_
  refine s_X9_in (hGo_i ?_)
  by_cases q11 : inR z' 0 5
  rotate_left
  · rw [if_neg q11]
    refine G_if_eq (tgt := 41) dX9_move_34 (by decide) (fun c34 => ?_) (fun c34 => ?_)
    rotate_left
    · exact absurd rfl c34
    refine G_iconst (v := 0) dX9_move_41 (by decide) ?_
    refine G_iconst (v := 2) dX9_move_42 (by decide) ?_
    refine cv_X9_158 (cs' := 0) (ss' := 0) dX9_move_43  (Nat.le_of_ble_eq_true rfl) (Nat.le_of_ble_eq_true rfl) (Nat.le_of_ble_eq_true rfl) rfl rfl (Nat.le_of_ble_eq_true rfl) (Nat.le_of_ble_eq_true rfl) rfl ?_
    refine s_X9_holds0 hT (by decide) (hGo_i ?_)
    refine G_if_ne (tgt := 51) dX9_move_46 (by decide) (fun c46 => ?_) (fun c46 => ?_)
    · exact absurd rfl c46
    · refine G_iconst (v := 0) dX9_move_49 (by decide) ?_
      refine G_iret dX9_move_50 rfl rfl (Nat.le_of_ble_eq_true rfl) (Nat.le_of_ble_eq_true rfl) ?_
      rw [if_neg (fun z => q11 z.2)] at h
      exact h _ _ hG1.thr (hF.up ⟨by decide, by decide⟩) up_at (fun z => absurd z (Nat.succ_ne_zero _))
  rw [if_pos q11]
  refine G_if_eq (tgt := 41) dX9_move_34 (by decide) (fun c34 => ?_) (fun c34 => ?_)
  · exact absurd c34 (by decide)
  refine G_iconst (v := 1) dX9_move_37 (by decide) ?_
  refine G_goto (tgt := 42) dX9_move_38 (by decide) ?_
  refine G_iconst (v := 2) dX9_move_42 (by decide) ?_
  refine cv_X9_158 (cs' := 0) (ss' := 0) dX9_move_43  (Nat.le_of_ble_eq_true rfl) (Nat.le_of_ble_eq_true rfl) (Nat.le_of_ble_eq_true rfl) rfl rfl (Nat.le_of_ble_eq_true rfl) (Nat.le_of_ble_eq_true rfl) rfl ?_
  rw [if_pos ⟨q10, q11⟩] at h
  refine s_X9_holds1 hT (hGo_i ?_)
  refine G_if_ne (tgt := 51) dX9_move_46 (by decide) (fun c46 => ?_) (fun c46 => ?_)
  rotate_left
  · exact absurd c46 (by decide)
  obtain ⟨p, hp, rfl, ep⟩ := in_ix q00 (by omega)
  rw [ep] at h
  unfold sMove rMove at h
  refine G_aload_n dX9_move_51 rfl ?_
  refine G_iload_n dX9_move_52 rfl ?_
  refine cv_X9_99 (cs' := 0) (ss' := 0) dX9_move_53  (Nat.le_of_ble_eq_true rfl) (Nat.le_of_ble_eq_true rfl) (Nat.le_of_ble_eq_true rfl) rfl rfl (Nat.le_of_ble_eq_true rfl) (Nat.le_of_ble_eq_true rfl) rfl ?_
  refine s_X9_isDetained hR (by omega) (hA.f hp (by decide)) (hGo_i ?_)
  by_cases c : 0 < g.A.f p 8
  · rw [if_pos c, if_neg (by decide)] at h
    rw [if_pos c]
    refine G_if_eq (tgt := 65) dX9_move_56 (by decide) (fun c56 => ?_) (fun c56 => ?_)
    · exact absurd c56 (by decide)
    · refine G_aload_n dX9_move_59 rfl ?_
      refine G_iconst (v := 1) dX9_move_60 (by decide) ?_
      refine cv_X9_345 (cs' := 0) (ss' := 0) dX9_move_61  (Nat.le_of_ble_eq_true rfl) (Nat.le_of_ble_eq_true rfl) (Nat.le_of_ble_eq_true rfl) rfl rfl (Nat.le_of_ble_eq_true rfl) (Nat.le_of_ble_eq_true rfl) rfl ?_
      refine s_X9_refuses hG1 (isR_of (by decide)) (fun M2 hG2 f2 t2 => hGo_i ?_)
      refine G_iret dX9_move_64 rfl rfl (Nat.le_of_ble_eq_true rfl) (Nat.le_of_ble_eq_true rfl) ?_
      exact h M2 _ hG2 (hF.trans f2) (t2.trans hT) (fun _ => rfl)
  rw [if_neg c] at h
  rw [if_neg c]
  refine G_if_eq (tgt := 65) dX9_move_56 (by decide) (fun c56 => ?_) (fun c56 => ?_)
  rotate_left
  · exact absurd rfl c56
  refine G_aload_n dX9_move_65 rfl ?_
  refine G_iload_n dX9_move_66 rfl ?_
  refine G_iload_n dX9_move_67 rfl ?_
  refine cv_X9_214 (cs' := 0) (ss' := 0) dX9_move_68  (Nat.le_of_ble_eq_true rfl) (Nat.le_of_ble_eq_true rfl) (Nat.le_of_ble_eq_true rfl) rfl rfl (Nat.le_of_ble_eq_true rfl) (Nat.le_of_ble_eq_true rfl) rfl ?_
  refine s_X9_pupilOn hR hA (hGo_i ?_)
  refine G_iconst (v := (-1)) dX9_move_71 (by decide) ?_
  refine G_icmp_eq (tgt := 82) dX9_move_72 (by decide) (fun c72 => ?_) (fun c72 => ?_)
  rotate_left
  · rw [if_neg c72, if_neg (by decide)] at h
    refine G_aload_n dX9_move_75 rfl ?_
    refine G_bipush (v := 7) dX9_move_76 (by decide) ?_
    refine cv_X9_345 (cs' := 0) (ss' := 0) dX9_move_78  (Nat.le_of_ble_eq_true rfl) (Nat.le_of_ble_eq_true rfl) (Nat.le_of_ble_eq_true rfl) rfl rfl (Nat.le_of_ble_eq_true rfl) (Nat.le_of_ble_eq_true rfl) rfl ?_
    refine s_X9_refuses hG1 (isR_of (by decide)) (fun M2 hG2 f2 t2 => hGo_i ?_)
    refine G_iret dX9_move_81 rfl rfl (Nat.le_of_ble_eq_true rfl) (Nat.le_of_ble_eq_true rfl) ?_
    exact h M2 _ hG2 (hF.trans f2) (t2.trans hT) (fun _ => rfl)
  rw [if_pos c72, if_pos rfl] at h
  refine G_aload_n dX9_move_82 rfl ?_
  refine cv_X9_348 (cs' := 0) (ss' := 0) dX9_move_83  (Nat.le_of_ble_eq_true rfl) (Nat.le_of_ble_eq_true rfl) (Nat.le_of_ble_eq_true rfl) rfl rfl (Nat.le_of_ble_eq_true rfl) (Nat.le_of_ble_eq_true rfl) rfl ?_
  refine s_X9_keeps hG1 (fun M2 hG2 f2 t2 => hGo_v ?_)
  have hF2 := hF.trans f2
  have hT2 := t2.trans hT
  have hR2 := hG2.1
  have hA2 : MR M2 0 g.A := hG2.2.1
  refine G_aload_n dX9_move_86 rfl ?_
  refine G_iload_n dX9_move_87 rfl ?_
  refine G_iconst (v := 0) dX9_move_88 (by decide) ?_
  refine G_iload_n dX9_move_89 rfl ?_
  refine cv_X9_58 (cs' := 0) (ss' := 0) dX9_move_90  (Nat.le_of_ble_eq_true rfl) (Nat.le_of_ble_eq_true rfl) (Nat.le_of_ble_eq_true rfl) rfl rfl (Nat.le_of_ble_eq_true rfl) (Nat.le_of_ble_eq_true rfl) rfl ?_
  refine s_X9_layPupil (t := 0) hR2 (by omega) (by decide) (hGo_v ?_)
  refine G_aload_n dX9_move_93 rfl ?_
  refine G_iload_n dX9_move_94 rfl ?_
  refine G_iconst (v := 1) dX9_move_95 (by decide) ?_
  refine G_iload_n dX9_move_96 rfl ?_
  refine cv_X9_58 (cs' := 0) (ss' := 0) dX9_move_97  (Nat.le_of_ble_eq_true rfl) (Nat.le_of_ble_eq_true rfl) (Nat.le_of_ble_eq_true rfl) rfl rfl (Nat.le_of_ble_eq_true rfl) (Nat.le_of_ble_eq_true rfl) rfl ?_
  refine s_X9_layPupil (t := 1) hR2.w (by omega) (by decide) (hGo_v ?_)
  have a3 : MR _ 0 (seatA g.A p y z') := (hA2.wF (p := p) (t := 0) (v := y) (by omega) (by decide)).wF (p := p) (t := 1) (v := z') (by omega) (by decide)
  have f3 : Fo 0 M2 ((M2.w 0 (17 + 12 * p + 0) y).w 0 (17 + 12 * p + 1) z') := (Fo.rfl.w (by omega)).w (by omega)
  generalize (M2.w 0 (17 + 12 * p + 0) y).w 0 (17 + 12 * p + 1) z' = M3 at a3 f3 ⊢
  have r3 := hR2.fo f3
  rw [show nearsV (seatA g.A p y z') p = bs (fun i => decide (i ≠ p) && nr (seatA g.A p y z') i p) g.A.n from rfl, bc_bs _ h12] at h
  generalize hB : seatA g.A p y z' = B at a3 h
  have eBn : B.n = g.A.n := by rw [← hB]; rfl
  generalize hW : (fun i => decide (i ≠ p) && nr B i p) = W
  have eW : ∀ i, W i = (decide (i ≠ p) && nr B i p) := fun i => by rw [← hW]
  refine G_iconst (v := 0) dX9_move_100 (by decide) ?_
  refine G_istore dX9_move_101 (Nat.le_of_ble_eq_true rfl) ?_
  refine G_iconst (v := 0) dX9_move_103 (by decide) ?_
  refine G_istore dX9_move_104 (Nat.le_of_ble_eq_true rfl) ?_
  refine G_lv (lv' := [(0, .ref (ad E 20 0 0)), (1, .int (nI p)), (4, .int (sm 0 (fun i => if W i = true then 1 else 0))), (5, .int (nI 0))]) ⟨rfl, rfl, rfl, rfl, trivial⟩ ?_
  refine up0 (c := g.A.n) (H := fun i => G E C RX9 cX9_move zX9_move P 0 0 M3 106 [(0, .ref (ad E 20 0 0)), (1, .int (nI p)), (4, .int (sm i (fun i => if W i = true then 1 else 0))), (5, .int (nI i))] []) ?_ (fun i hi ih => ?_)
  · refine G_iload dX9_move_106 rfl ?_
    refine G_aload_n dX9_move_108 rfl ?_
    refine G_iconst (v := 0) dX9_move_109 (by decide) ?_
    refine cv_X9_50 (cs' := 0) (ss' := 0) dX9_move_110  (Nat.le_of_ble_eq_true rfl) (Nat.le_of_ble_eq_true rfl) (Nat.le_of_ble_eq_true rfl) rfl rfl (Nat.le_of_ble_eq_true rfl) (Nat.le_of_ble_eq_true rfl) rfl ?_
    refine s_X9_get (w := 0) r3 (by decide) a3.n (hGo_i ?_)
    rw [eBn]
    refine G_icmp_ge (tgt := 151) dX9_move_113 (by decide) (fun c113 => ?_) (fun c113 => ?_)
    · refine G_iload dX9_move_151 rfl ?_
      refine G_iret dX9_move_153 rfl rfl (Nat.le_of_ble_eq_true rfl) (Nat.le_of_ble_eq_true rfl) ?_
      have es : sm g.A.n (fun i => if W i = true then (1 : Int32) else 0) = sm g.A.n (fun k => if (decide (k ≠ p) && nr B k p) = true then (1 : Int32) else 0) := sm_cong (fun k _ => by rw [eW])
      exact h M3 _ (hG2.row f3 a3) (Fo.mo f3 hF2) ((f3.k (by decide) 0 0 5).trans hT2) (fun _ => es)
    · exact absurd (Int32.le_refl _) c113
  · have g139 : ∀ v : Int32, (v = if W i = true then 1 else 0) → G E C RX9 cX9_move zX9_move P 0 0 M3 139 [(0, .ref (ad E 20 0 0)), (1, .int (nI p)), (4, .int (sm i (fun i => if W i = true then 1 else 0))), (5, .int (nI i))] [.int v, .int (sm i (fun i => if W i = true then 1 else 0))] := fun v hv => by
      refine cv_X9_110 (cs' := 0) (ss' := 0) dX9_move_139  (Nat.le_of_ble_eq_true rfl) (Nat.le_of_ble_eq_true rfl) (Nat.le_of_ble_eq_true rfl) rfl rfl (Nat.le_of_ble_eq_true rfl) (Nat.le_of_ble_eq_true rfl) rfl ?_
      refine s_X9_one (by rw [hv]; split <;> simp) (hGo_i ?_)
      refine G_iadd dX9_move_142 ?_
      refine G_istore dX9_move_143 (Nat.le_of_ble_eq_true rfl) ?_
      refine G_iinc (v := 1) dX9_move_145 rfl (Nat.le_of_ble_eq_true rfl) (by decide) ?_
      refine G_goto (tgt := 106) dX9_move_148 (by decide) ?_
      exact G_lv2 ih ⟨rfl, rfl, lvi (by rw [hv]; rfl), lvi (nI_1 i), trivial⟩
    refine G_iload dX9_move_106 rfl ?_
    refine G_aload_n dX9_move_108 rfl ?_
    refine G_iconst (v := 0) dX9_move_109 (by decide) ?_
    refine cv_X9_50 (cs' := 0) (ss' := 0) dX9_move_110  (Nat.le_of_ble_eq_true rfl) (Nat.le_of_ble_eq_true rfl) (Nat.le_of_ble_eq_true rfl) rfl rfl (Nat.le_of_ble_eq_true rfl) (Nat.le_of_ble_eq_true rfl) rfl ?_
    refine s_X9_get (w := 0) r3 (by decide) a3.n (hGo_i ?_)
    rw [eBn]
    refine G_icmp_ge (tgt := 151) dX9_move_113 (by decide) (fun c113 => ?_) (fun c113 => ?_)
    · exact absurd c113 (nI_ge hi (by omega))
    · refine G_iload dX9_move_116 rfl ?_
      refine G_iload dX9_move_118 rfl ?_
      refine G_iload_n dX9_move_120 rfl ?_
      refine G_icmp_eq (tgt := 138) dX9_move_121 (by decide) (fun c121 => ?_) (fun c121 => ?_)
      · have e : i = p := (nI_eq (by omega) (by omega)).mp c121
        refine G_iconst (v := 0) dX9_move_138 (by decide) ?_
        exact G_lv2 (g139 0 (by rw [if_neg]; rw [eW, decide_eq_false (fun q => q e), Bool.false_and]; decide)) ⟨rfl, rfl, rfl, rfl, trivial⟩
      · have e : i ≠ p := fun q => c121 (by rw [q])
        refine G_aload_n dX9_move_124 rfl ?_
        refine G_iload dX9_move_125 rfl ?_
        refine G_iload_n dX9_move_127 rfl ?_
        refine cv_X9_103 (cs' := 0) (ss' := 0) dX9_move_128  (Nat.le_of_ble_eq_true rfl) (Nat.le_of_ble_eq_true rfl) (Nat.le_of_ble_eq_true rfl) rfl rfl (Nat.le_of_ble_eq_true rfl) (Nat.le_of_ble_eq_true rfl) rfl ?_
        refine s_X9_areNear r3 a3 (by omega) (by omega) (hGo_i ?_)
        by_cases q : nr B i p = true
        · rw [if_pos q]
          refine G_if_eq (tgt := 138) dX9_move_131 (by decide) (fun c131 => ?_) (fun c131 => ?_)
          · exact absurd c131 (by decide)
          · refine G_iconst (v := 1) dX9_move_134 (by decide) ?_
            refine G_goto (tgt := 139) dX9_move_135 (by decide) ?_
            exact G_lv2 (g139 1 (by rw [if_pos]; rw [eW, decide_eq_true e, q]; rfl)) ⟨rfl, rfl, rfl, rfl, trivial⟩
        · rw [if_neg q]
          refine G_if_eq (tgt := 138) dX9_move_131 (by decide) (fun c131 => ?_) (fun c131 => ?_)
          · refine G_iconst (v := 0) dX9_move_138 (by decide) ?_
            exact G_lv2 (g139 0 (by rw [if_neg (fun z => by rw [eW, Bool.and_eq_true] at z; exact q z.2)])) ⟨rfl, rfl, rfl, rfl, trivial⟩
          · exact absurd rfl c131
theorem m_confess {x : Int32} (hG : MG M g) (hO : Okg g) (h : ∀ M' v, MG M' (qConfess g x).1 → Fm M M' → M'.1 20 0 0 5 = nI (qConfess g x).2.1 → ((qConfess g x).2.1 = 0 → v = (qConfess g x).2.2) → P (.inl (some (.int v))) M') : Sp E yX9_confess cX9_confess zX9_confess [.ref (ad E 20 0 0), .int x] M P := by
  unfold qConfess at h
  refine Sp_of (own := RX9) (by decide) rfl rfl (Nat.le_of_ble_eq_true rfl) (fun C => ?_)
  refine G_aload_n dX9_confess_0 rfl ?_
  refine G_iconst (v := 0) dX9_confess_1 (by decide) ?_
  refine pf_X9_41 dX9_confess_2  ?_
  have hG1 : MG (M.up 20 0 0 5 0) g := hG.thr
  have hT : (M.up 20 0 0 5 0).1 20 0 0 5 = 0 := up_at
  have hF : Fm M (M.up 20 0 0 5 0) := Fm.rfl.up ⟨by decide, by decide⟩
  generalize M.up 20 0 0 5 0 = M1 at hG1 hT hF ⊢
  have hR := hG1.1
  have hA := hG1.2.1
  have h12 := hA.n12
  refine G_aload_n dX9_confess_5 rfl ?_
  refine G_aload_n dX9_confess_6 rfl ?_
  refine G_iload_n dX9_confess_7 rfl ?_
  refine cv_X9_297 (cs' := 0) (ss' := 0) dX9_confess_8  (Nat.le_of_ble_eq_true rfl) (Nat.le_of_ble_eq_true rfl) (Nat.le_of_ble_eq_true rfl) rfl rfl (Nat.le_of_ble_eq_true rfl) (Nat.le_of_ble_eq_true rfl) rfl ?_
  refine s_X9_isPupil hR hA (hGo_i ?_)
  by_cases q00 : inP g.A x
  rotate_left
  · rw [if_neg q00]
    refine G_iconst (v := 1) dX9_confess_11 (by decide) ?_
    refine cv_X9_158 (cs' := 0) (ss' := 0) dX9_confess_12  (Nat.le_of_ble_eq_true rfl) (Nat.le_of_ble_eq_true rfl) (Nat.le_of_ble_eq_true rfl) rfl rfl (Nat.le_of_ble_eq_true rfl) (Nat.le_of_ble_eq_true rfl) rfl ?_
    refine s_X9_holds0 hT (by decide) (hGo_i ?_)
    refine G_if_ne (tgt := 20) dX9_confess_15 (by decide) (fun c15 => ?_) (fun c15 => ?_)
    · exact absurd rfl c15
    · refine G_iconst (v := 0) dX9_confess_18 (by decide) ?_
      refine G_iret dX9_confess_19 rfl rfl (Nat.le_of_ble_eq_true rfl) (Nat.le_of_ble_eq_true rfl) ?_
      rw [if_neg q00] at h
      exact h _ _ hG1.thr (hF.up ⟨by decide, by decide⟩) up_at (fun z => absurd z (Nat.succ_ne_zero _))
  rw [if_pos q00]
  refine G_iconst (v := 1) dX9_confess_11 (by decide) ?_
  refine cv_X9_158 (cs' := 0) (ss' := 0) dX9_confess_12  (Nat.le_of_ble_eq_true rfl) (Nat.le_of_ble_eq_true rfl) (Nat.le_of_ble_eq_true rfl) rfl rfl (Nat.le_of_ble_eq_true rfl) (Nat.le_of_ble_eq_true rfl) rfl ?_
  rw [if_pos q00] at h
  refine s_X9_holds1 hT (hGo_i ?_)
  refine G_if_ne (tgt := 20) dX9_confess_15 (by decide) (fun c15 => ?_) (fun c15 => ?_)
  rotate_left
  · exact absurd c15 (by decide)
  obtain ⟨p, hp, rfl, ep⟩ := in_ix q00 (by omega)
  rw [ep] at h
  unfold sConfess at h
  refine G_aload_n dX9_confess_20 rfl ?_
  refine G_iload_n dX9_confess_21 rfl ?_
  refine G_bipush (v := 6) dX9_confess_22 (by decide) ?_
  refine cv_X9_54 (cs' := 0) (ss' := 0) dX9_confess_24  (Nat.le_of_ble_eq_true rfl) (Nat.le_of_ble_eq_true rfl) (Nat.le_of_ble_eq_true rfl) rfl rfl (Nat.le_of_ble_eq_true rfl) (Nat.le_of_ble_eq_true rfl) rfl ?_
  refine s_X9_pu (t := 6) hR (by omega) (by decide) (hA.f hp (by decide)) (hGo_i ?_)
  refine G_if_ne (tgt := 37) dX9_confess_27 (by decide) (fun c27 => ?_) (fun c27 => ?_)
  rotate_left
  · rw [if_pos c27] at h
    refine G_aload_n dX9_confess_30 rfl ?_
    refine G_bipush (v := 8) dX9_confess_31 (by decide) ?_
    refine cv_X9_345 (cs' := 0) (ss' := 0) dX9_confess_33  (Nat.le_of_ble_eq_true rfl) (Nat.le_of_ble_eq_true rfl) (Nat.le_of_ble_eq_true rfl) rfl rfl (Nat.le_of_ble_eq_true rfl) (Nat.le_of_ble_eq_true rfl) rfl ?_
    refine s_X9_refuses hG1 (isR_of (by decide)) (fun M2 hG2 f2 t2 => hGo_i ?_)
    refine G_iret dX9_confess_36 rfl rfl (Nat.le_of_ble_eq_true rfl) (Nat.le_of_ble_eq_true rfl) ?_
    exact h M2 _ hG2 (hF.trans f2) (t2.trans hT) (fun _ => rfl)
  rw [if_neg c27] at h
  refine G_aload_n dX9_confess_37 rfl ?_
  refine cv_X9_348 (cs' := 0) (ss' := 0) dX9_confess_38  (Nat.le_of_ble_eq_true rfl) (Nat.le_of_ble_eq_true rfl) (Nat.le_of_ble_eq_true rfl) rfl rfl (Nat.le_of_ble_eq_true rfl) (Nat.le_of_ble_eq_true rfl) rfl ?_
  refine s_X9_keeps hG1 (fun M2 hG2 f2 t2 => hGo_v ?_)
  have hF2 := hF.trans f2
  have hT2 := t2.trans hT
  have hR2 := hG2.1
  have hA2 : MR M2 0 g.A := hG2.2.1
  refine G_aload_n dX9_confess_41 rfl ?_
  refine G_iload_n dX9_confess_42 rfl ?_
  refine G_bipush (v := 6) dX9_confess_43 (by decide) ?_
  refine G_aload_n dX9_confess_45 rfl ?_
  refine G_iload_n dX9_confess_46 rfl ?_
  refine G_bipush (v := 6) dX9_confess_47 (by decide) ?_
  refine cv_X9_54 (cs' := 0) (ss' := 0) dX9_confess_49  (Nat.le_of_ble_eq_true rfl) (Nat.le_of_ble_eq_true rfl) (Nat.le_of_ble_eq_true rfl) rfl rfl (Nat.le_of_ble_eq_true rfl) (Nat.le_of_ble_eq_true rfl) rfl ?_
  refine s_X9_pu (t := 6) hR2 (by omega) (by decide) (hA2.f hp (by decide)) (hGo_i ?_)
  refine G_iconst (v := 2) dX9_confess_52 (by decide) ?_
  refine G_idiv dX9_confess_53 (by decide) ?_
  refine cv_X9_58 (cs' := 0) (ss' := 0) dX9_confess_54  (Nat.le_of_ble_eq_true rfl) (Nat.le_of_ble_eq_true rfl) (Nat.le_of_ble_eq_true rfl) rfl rfl (Nat.le_of_ble_eq_true rfl) (Nat.le_of_ble_eq_true rfl) rfl ?_
  refine s_X9_layPupil (t := 6) hR2 (by omega) (by decide) (hGo_v ?_)
  refine G_aload_n dX9_confess_57 rfl ?_
  refine G_iload_n dX9_confess_58 rfl ?_
  refine G_bipush (v := 9) dX9_confess_59 (by decide) ?_
  refine G_iconst (v := 0) dX9_confess_61 (by decide) ?_
  refine cv_X9_58 (cs' := 0) (ss' := 0) dX9_confess_62  (Nat.le_of_ble_eq_true rfl) (Nat.le_of_ble_eq_true rfl) (Nat.le_of_ble_eq_true rfl) rfl rfl (Nat.le_of_ble_eq_true rfl) (Nat.le_of_ble_eq_true rfl) rfl ?_
  refine s_X9_layPupil (t := 9) hR2.w (by omega) (by decide) (hGo_v ?_)
  have a3 := (hA2.wF (p := p) (t := 6) (v := g.A.f p 6 / 2) (by omega) (by decide)).wF (p := p) (t := 9) (v := 0) (by omega) (by decide)
  refine G_aload_n dX9_confess_65 rfl ?_
  refine G_iload_n dX9_confess_66 rfl ?_
  refine G_bipush (v := 7) dX9_confess_67 (by decide) ?_
  refine G_iconst (v := 1) dX9_confess_69 (by decide) ?_
  refine cv_X9_68 (cs' := 0) (ss' := 0) dX9_confess_70  (Nat.le_of_ble_eq_true rfl) (Nat.le_of_ble_eq_true rfl) (Nat.le_of_ble_eq_true rfl) rfl rfl (Nat.le_of_ble_eq_true rfl) (Nat.le_of_ble_eq_true rfl) rfl ?_
  refine s_X9_addsPupil (t := 7) (x := g.A.f p 7) hR2.w.w (by omega) (by decide) ((a3.f (t := 7) hp (by decide)).trans (by
    show (if p = p ∧ 7 = 9 then _ else if p = p ∧ 7 = 6 then _ else g.A.f p 7) = g.A.f p 7
    rw [if_neg (fun q => absurd q.2 (by decide)), if_neg (fun q => absurd q.2 (by decide))])) (hGo_v ?_)
  have a4 : MR _ 0 (admitA g.A p) := a3.wF (p := p) (t := 7) (v := g.A.f p 7 + 1) (by omega) (by decide)
  have f4 : Fo 0 M2 (((M2.w 0 (17 + 12 * p + 6) (g.A.f p 6 / 2)).w 0 (17 + 12 * p + 9) 0).w 0 (17 + 12 * p + 7) (g.A.f p 7 + 1)) := ((Fo.rfl.w (by omega)).w (by omega)).w (by omega)
  generalize ((M2.w 0 (17 + 12 * p + 6) (g.A.f p 6 / 2)).w 0 (17 + 12 * p + 9) 0).w 0 (17 + 12 * p + 7) (g.A.f p 7 + 1) = M4 at a4 f4 ⊢
  refine G_aload_n dX9_confess_73 rfl ?_
  refine G_iload_n dX9_confess_74 rfl ?_
  refine G_bipush (v := 6) dX9_confess_75 (by decide) ?_
  refine cv_X9_54 (cs' := 0) (ss' := 0) dX9_confess_77  (Nat.le_of_ble_eq_true rfl) (Nat.le_of_ble_eq_true rfl) (Nat.le_of_ble_eq_true rfl) rfl rfl (Nat.le_of_ble_eq_true rfl) (Nat.le_of_ble_eq_true rfl) rfl ?_
  refine s_X9_pu (t := 6) (hR2.fo f4) (by omega) (by decide) (a4.f hp (by decide)) (hGo_i ?_)
  refine G_iret dX9_confess_80 rfl rfl (Nat.le_of_ble_eq_true rfl) (Nat.le_of_ble_eq_true rfl) ?_
  refine h M4 _ (hG2.row f4 a4) (Fo.mo f4 hF2) ((f4.k (by decide) 0 0 5).trans hT2) (fun _ => ?_)
  show (if p = p ∧ 6 = 7 then _ else if p = p ∧ 6 = 9 then _ else if p = p ∧ 6 = 6 then g.A.f p 6 / 2 else _) = g.A.f p 6 / 2
  rw [if_neg (fun q => absurd q.2 (by decide)), if_neg (fun q => absurd q.2 (by decide)), if_pos ⟨rfl, rfl⟩]
theorem m_pass {x : Int32} (hG : MG M g) (hO : Okg g) (h : ∀ M' v, MG M' (qPass g x).1 → Fm M M' → M'.1 20 0 0 5 = nI (qPass g x).2.1 → ((qPass g x).2.1 = 0 → v = (qPass g x).2.2) → P (.inl (some (.int v))) M') : Sp E yX9_pass cX9_pass zX9_pass [.ref (ad E 20 0 0), .int x] M P := by
  unfold qPass at h
  refine Sp_of (own := RX9) (by decide) rfl rfl (Nat.le_of_ble_eq_true rfl) (fun C => ?_)
  refine G_aload_n dX9_pass_0 rfl ?_
  refine G_iconst (v := 0) dX9_pass_1 (by decide) ?_
  refine pf_X9_41 dX9_pass_2  ?_
  have hG1 : MG (M.up 20 0 0 5 0) g := hG.thr
  have hT : (M.up 20 0 0 5 0).1 20 0 0 5 = 0 := up_at
  have hF : Fm M (M.up 20 0 0 5 0) := Fm.rfl.up ⟨by decide, by decide⟩
  generalize M.up 20 0 0 5 0 = M1 at hG1 hT hF ⊢
  have hR := hG1.1
  have hA := hG1.2.1
  have h12 := hA.n12
  refine G_aload_n dX9_pass_5 rfl ?_
  refine G_iload_n dX9_pass_6 rfl ?_
  refine G_iconst (v := 1) dX9_pass_7 (by decide) ?_
  refine G_bipush (v := 10) dX9_pass_8 (by decide) ?_
  refine cv_X9_162 (cs' := 0) (ss' := 0) dX9_pass_10  (Nat.le_of_ble_eq_true rfl) (Nat.le_of_ble_eq_true rfl) (Nat.le_of_ble_eq_true rfl) rfl rfl (Nat.le_of_ble_eq_true rfl) (Nat.le_of_ble_eq_true rfl) rfl ?_
  refine s_X9_in (hGo_i ?_)
  by_cases q00 : inR x 1 10
  rotate_left
  · rw [if_neg q00]
    refine G_iconst (v := 1) dX9_pass_13 (by decide) ?_
    refine cv_X9_158 (cs' := 0) (ss' := 0) dX9_pass_14  (Nat.le_of_ble_eq_true rfl) (Nat.le_of_ble_eq_true rfl) (Nat.le_of_ble_eq_true rfl) rfl rfl (Nat.le_of_ble_eq_true rfl) (Nat.le_of_ble_eq_true rfl) rfl ?_
    refine s_X9_holds0 hT (by decide) (hGo_i ?_)
    refine G_if_ne (tgt := 22) dX9_pass_17 (by decide) (fun c17 => ?_) (fun c17 => ?_)
    · exact absurd rfl c17
    · refine G_iconst (v := 0) dX9_pass_20 (by decide) ?_
      refine G_iret dX9_pass_21 rfl rfl (Nat.le_of_ble_eq_true rfl) (Nat.le_of_ble_eq_true rfl) ?_
      rw [if_neg q00] at h
      exact h _ _ hG1.thr (hF.up ⟨by decide, by decide⟩) up_at (fun z => absurd z (Nat.succ_ne_zero _))
  rw [if_pos q00]
  refine G_iconst (v := 1) dX9_pass_13 (by decide) ?_
  refine cv_X9_158 (cs' := 0) (ss' := 0) dX9_pass_14  (Nat.le_of_ble_eq_true rfl) (Nat.le_of_ble_eq_true rfl) (Nat.le_of_ble_eq_true rfl) rfl rfl (Nat.le_of_ble_eq_true rfl) (Nat.le_of_ble_eq_true rfl) rfl ?_
  rw [if_pos q00] at h
  refine s_X9_holds1 hT (hGo_i ?_)
  refine G_if_ne (tgt := 22) dX9_pass_17 (by decide) (fun c17 => ?_) (fun c17 => ?_)
  rotate_left
  · exact absurd c17 (by decide)
  obtain ⟨n, ln, hn, rfl, en⟩ := inR_ix (i := 1) (k := 10) (by decide) (by decide) q00
  rw [en] at h
  unfold sPass at h
  refine G_aload_n dX9_pass_22 rfl ?_
  refine G_iconst (v := 1) dX9_pass_23 (by decide) ?_
  refine cv_X9_50 (cs' := 0) (ss' := 0) dX9_pass_24  (Nat.le_of_ble_eq_true rfl) (Nat.le_of_ble_eq_true rfl) (Nat.le_of_ble_eq_true rfl) rfl rfl (Nat.le_of_ble_eq_true rfl) (Nat.le_of_ble_eq_true rfl) rfl ?_
  refine s_X9_get (w := 1) hR (by decide) (hA.g (t := 0) (by decide)) (hGo_i ?_)
  refine G_iload_n dX9_pass_27 rfl ?_
  refine G_iadd dX9_pass_28 ?_
  refine G_sipush (v := 999) dX9_pass_29 (by decide) ?_
  refine G_icmp_le (tgt := 42) dX9_pass_32 (by decide) (fun c32 => ?_) (fun c32 => ?_)
  rotate_left
  · rw [if_pos (Int32.not_le.mp c32)] at h
    refine G_aload_n dX9_pass_35 rfl ?_
    refine G_bipush (v := 10) dX9_pass_36 (by decide) ?_
    refine cv_X9_345 (cs' := 0) (ss' := 0) dX9_pass_38  (Nat.le_of_ble_eq_true rfl) (Nat.le_of_ble_eq_true rfl) (Nat.le_of_ble_eq_true rfl) rfl rfl (Nat.le_of_ble_eq_true rfl) (Nat.le_of_ble_eq_true rfl) rfl ?_
    refine s_X9_refuses hG1 (isR_of (by decide)) (fun M2 hG2 f2 t2 => hGo_i ?_)
    refine G_iret dX9_pass_41 rfl rfl (Nat.le_of_ble_eq_true rfl) (Nat.le_of_ble_eq_true rfl) ?_
    exact h M2 _ hG2 (hF.trans f2) (t2.trans hT) (fun _ => rfl)
  rw [if_neg (Int32.not_lt.mpr c32)] at h
  refine G_aload_n dX9_pass_42 rfl ?_
  refine cv_X9_348 (cs' := 0) (ss' := 0) dX9_pass_43  (Nat.le_of_ble_eq_true rfl) (Nat.le_of_ble_eq_true rfl) (Nat.le_of_ble_eq_true rfl) rfl rfl (Nat.le_of_ble_eq_true rfl) (Nat.le_of_ble_eq_true rfl) rfl ?_
  refine s_X9_keeps hG1 (fun M2 hG2 f2 t2 => hGo_v ?_)
  have hF2 := hF.trans f2
  have hT2 := t2.trans hT
  have hR2 := hG2.1
  have hA2 : MR M2 0 g.A := hG2.2.1
  refine G_aload_n dX9_pass_46 rfl ?_
  refine G_iload_n dX9_pass_47 rfl ?_
  refine cv_X9_336 (cs' := 0) (ss' := 0) dX9_pass_48  (Nat.le_of_ble_eq_true rfl) (Nat.le_of_ble_eq_true rfl) (Nat.le_of_ble_eq_true rfl) rfl rfl (Nat.le_of_ble_eq_true rfl) (Nat.le_of_ble_eq_true rfl) rfl ?_
  refine s_X9_passes hR2 hA2 hO.1 (by omega) (fun M3 a3 f3 => hGo_i ?_)
  refine G_iret dX9_pass_51 rfl rfl (Nat.le_of_ble_eq_true rfl) (Nat.le_of_ble_eq_true rfl) ?_
  exact h M3 _ (hG2.row f3 a3) (Fo.mo f3 hF2) ((f3.k (by decide) 0 0 5).trans hT2) (fun _ => rfl)
end MDO
