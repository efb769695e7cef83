/-! ===== HomeworkBarterModel: load ===== -/
section MLOAD
variable {E : Ed} {M M' M1 : Mm} {P : Res → Mm → Prop} {L : List Int32} {T : Tks} {A B : Ab} {g : Gs}
/-- changed: the reader's fields, row 10 -/
def Fl (M M' : Mm) : Prop := M'.2 = M.2 ∧ (∀ k j p t, k ≠ 21 → ¬ (k = 20 ∧ 8 ≤ t ∧ t ≤ 13) → M'.1 k j p t = M.1 k j p t) ∧ ∀ t, t < 7610 → M'.1 21 0 0 t = M.1 21 0 0 t
theorem Fl.rfl : Fl M M := ⟨Eq.refl _, fun _ _ _ _ _ _ => Eq.refl _, fun _ _ => Eq.refl _⟩
theorem Fl.trans {M'' : Mm} (h : Fl M M') (h2 : Fl M' M'') : Fl M M'' := ⟨h2.1.trans h.1, fun k j p t q r => (h2.2.1 k j p t q r).trans (h.2.1 k j p t q r), fun t ht => (h2.2.2 t ht).trans (h.2.2 t ht)⟩
theorem Fx.fl (h : Fx M M') : Fl M M' := ⟨h.1, fun k j p t _ q => h.2 k j p t q, fun t _ => h.2 21 0 0 t (fun q => absurd q.1 (by decide))⟩
theorem Fo.fl (h : Fo 10 M M') : Fl M M' := ⟨h.1, fun k j p t q _ => h.2.1 k j p q t, fun t ht => h.2.2 t (Or.inl (by omega))⟩
theorem MT.fo {o : Nat} (h : MT M L) (f : Fo o M M') : MT M' L := ⟨(f.k (by decide) 0 0 7).trans h.1, h.2.1, fun k hk => (f.k (by decide) 0 0 k).trans (h.2.2 k hk)⟩
theorem TX.fo {o : Nat} (h : TX M L T) (f : Fo o M M') : TX M' L T := by
  obtain ⟨a, b, c, d, e⟩ := h
  have k : ∀ t, M'.1 20 0 0 t = M.1 20 0 0 t := fun t => f.k (by decide) 0 0 t
  refine ⟨(k 8).trans a, (k 9).trans b, c, d, fun z => ?_⟩
  obtain ⟨e1, e2, e3, e4⟩ := e z
  refine ⟨(k 12).trans e1, (k 11).trans e2, (k 10).trans e3, fun y => ?_⟩
  obtain ⟨n, n1, n2, n3⟩ := e4 y
  exact ⟨n, n1, (k 13).trans n2, n3⟩
theorem MR.fx {o : Nat} (h : MR M o A) (f : Fx M M') : MR M' o A := h.keep (fun t => f.2 21 0 0 t (fun q => absurd q.1 (by decide)))
theorem Ro.fx {o : Nat} (h : Ro M o) (f : Fx M M') : Ro M' o := ⟨(f.2 20 0 0 3 (fun q => absurd q.2.1 (by decide))).trans h.1, h.2⟩
theorem Zb.fx {o n : Nat} (h : Zb M o n) (f : Fx M M') : Zb M' o n := fun p a b t ht => (f.2 21 0 0 _ (fun q => absurd q.1 (by decide))).trans (h p a b t ht)
theorem s_X9_readsPupil (hX : MT M L) (hT : TX M L T) (c0 : T.code = 0) (hR : Ro M 10) (hA : MR M 10 A) (hz : Zb M 10 A.n) (h : ∀ M', TX M' L (rdPt L T A) → MR M' 10 (rdPa L T A) → ((rdPt L T A).code = 0 → Zb M' 10 (A.n + 1)) → MT M' L → Ro M' 10 → Fl M M' → P (.inl none) M') : Sp E yX9_readsPupil cX9_readsPupil zX9_readsPupil [.ref (ad E 20 0 0)] M P := by
  have h12 := hA.n12
  have ew : hSb2 22 = hSb2 1 := by decide
  have ew2 : hSb2 23 = hSb2 2 := by decide
  have hbad : ∀ M', (p2 L T A).code ≠ 0 → TX M' L (p2 L T A) → Fx M M' → P (.inl none) M' := fun M' z x f => by
    have e1 : rdPt L T A = p2 L T A := p_bad z
    have e2 : rdPa L T A = A := if_neg (by rw [e1]; exact z)
    exact h M' (by rw [e1]; exact x) (by rw [e2]; exact hA.fx f) (fun y => absurd (e1 ▸ y) z) (hX.fx f) (hR.fx f) f.fl
  refine Sp_of (own := RX9) (by decide) rfl rfl (Nat.le_of_ble_eq_true rfl) (fun C => ?_)
  have g42 : ∀ M2, TX M2 L (p2 L T A) → Fx M M2 → G E C RX9 cX9_readsPupil zX9_readsPupil P 0 0 M2 42 [(0, .ref (ad E 20 0 0))] [] := fun M2 x2 f2 => by
    refine G_aload_n dX9_readsPupil_42 rfl ?_
    refine G_iconst (v := 0) dX9_readsPupil_43 (by decide) ?_
    refine G_iconst (v := 5) dX9_readsPupil_44 (by decide) ?_
    refine cv_X9_211 (cs' := 0) (ss' := 0) dX9_readsPupil_45  (Nat.le_of_ble_eq_true rfl) (Nat.le_of_ble_eq_true rfl) (Nat.le_of_ble_eq_true rfl) rfl rfl (Nat.le_of_ble_eq_true rfl) (Nat.le_of_ble_eq_true rfl) rfl ?_
    refine s_X9_reads (α := 0) (β := 5) (by decide) (by decide) (hX.fx f2) x2 (fun M3 r1 x3 f3 v1 => hGo_i ?_)
    have x3 : TX M3 L (p3 L T A) := x3
    have v1 : (p3 L T A).code = 0 → r1 = (p2 L T A).val := v1
    have f3 := f2.trans f3
    refine G_istore_n dX9_readsPupil_48 (Nat.le_of_ble_eq_true rfl) ?_
    refine G_aload_n dX9_readsPupil_49 rfl ?_
    refine G_iconst (v := 0) dX9_readsPupil_50 (by decide) ?_
    refine G_iconst (v := 5) dX9_readsPupil_51 (by decide) ?_
    refine cv_X9_206 (cs' := 0) (ss' := 0) dX9_readsPupil_52  (Nat.le_of_ble_eq_true rfl) (Nat.le_of_ble_eq_true rfl) (Nat.le_of_ble_eq_true rfl) rfl rfl (Nat.le_of_ble_eq_true rfl) (Nat.le_of_ble_eq_true rfl) rfl ?_
    refine s_X9_looks (α := 0) (β := 5) (by decide) (by decide) x3 (fun M4 r2 x4 f4 v2 => hGo_i ?_)
    have x4 : TX M4 L (p4 L T A) := x4
    have v2 : (p4 L T A).code = 0 → r2 = (p3 L T A).val := v2
    have f4 := f3.trans f4
    have c43 : (p4 L T A).code = 0 → (p3 L T A).code = 0 := fun z => (lkN_good (L := L) z).1
    have g79 : ∀ b' : Int32, (b' = 0 ∨ b' = 1) → ((if b' = 0 then fai 3 (p4 L T A) else p4 L T A) = p5 L T A) → ∀ lv, lvAll lv [(0, .ref (ad E 20 0 0)), (1, .int r1), (2, .int r2)] → G E C RX9 cX9_readsPupil zX9_readsPupil P 0 0 M4 79 lv [.int b', .ref (ad E 20 0 0)] := fun b' hb e lv hlv => by
      refine G_lv hlv ?_
      refine G_iconst (v := 3) dX9_readsPupil_79 (by decide) ?_
      refine cv_X9_200 (cs' := 0) (ss' := 0) dX9_readsPupil_80  (Nat.le_of_ble_eq_true rfl) (Nat.le_of_ble_eq_true rfl) (Nat.le_of_ble_eq_true rfl) rfl rfl (Nat.le_of_ble_eq_true rfl) (Nat.le_of_ble_eq_true rfl) rfl ?_
      refine s_X9_must x4 (by decide) hb (fun M5 x5 f5 => hGo_i ?_)
      rw [e] at x5
      have f5 := f4.trans f5
      refine G_pop dX9_readsPupil_83 rfl ?_
      refine G_aload_n dX9_readsPupil_84 rfl ?_
      refine cv_X9_203 (cs' := 0) (ss' := 0) dX9_readsPupil_85  (Nat.le_of_ble_eq_true rfl) (Nat.le_of_ble_eq_true rfl) (Nat.le_of_ble_eq_true rfl) rfl rfl (Nat.le_of_ble_eq_true rfl) (Nat.le_of_ble_eq_true rfl) rfl ?_
      refine s_X9_goesOn (hX.fx f5) x5 (fun M6 x6 f6 => hGo_v ?_)
      have x6 : TX M6 L (p6 L T A) := x6
      have f6 := f5.trans f6
      refine G_aload_n dX9_readsPupil_88 rfl ?_
      refine G_iconst (v := 1) dX9_readsPupil_89 (by decide) ?_
      refine G_bipush (v := 9) dX9_readsPupil_90 (by decide) ?_
      refine cv_X9_211 (cs' := 0) (ss' := 0) dX9_readsPupil_92  (Nat.le_of_ble_eq_true rfl) (Nat.le_of_ble_eq_true rfl) (Nat.le_of_ble_eq_true rfl) rfl rfl (Nat.le_of_ble_eq_true rfl) (Nat.le_of_ble_eq_true rfl) rfl ?_
      refine s_X9_reads (α := 1) (β := 9) (by decide) (by decide) (hX.fx f6) x6 (fun M7 r3 x7 f7 v3 => hGo_i ?_)
      have x7 : TX M7 L (p7 L T A) := x7
      have v3 : (p7 L T A).code = 0 → r3 = (p6 L T A).val := v3
      have f7 := f6.trans f7
      refine G_istore_n dX9_readsPupil_95 (Nat.le_of_ble_eq_true rfl) ?_
      refine G_aload_n dX9_readsPupil_96 rfl ?_
      refine G_iconst (v := 1) dX9_readsPupil_97 (by decide) ?_
      refine G_bipush (v := 9) dX9_readsPupil_98 (by decide) ?_
      refine cv_X9_211 (cs' := 0) (ss' := 0) dX9_readsPupil_100  (Nat.le_of_ble_eq_true rfl) (Nat.le_of_ble_eq_true rfl) (Nat.le_of_ble_eq_true rfl) rfl rfl (Nat.le_of_ble_eq_true rfl) (Nat.le_of_ble_eq_true rfl) rfl ?_
      refine s_X9_reads (α := 1) (β := 9) (by decide) (by decide) (hX.fx f7) x7 (fun M8 r4 x8 f8 v4 => hGo_i ?_)
      have x8 : TX M8 L (p8 L T A) := x8
      have v4 : (p8 L T A).code = 0 → r4 = (p7 L T A).val := v4
      have f8 := f7.trans f8
      have g126 : ∀ M9, TX M9 L (p9 L T A) → Fx M M9 → G E C RX9 cX9_readsPupil zX9_readsPupil P 0 0 M9 126 [(0, .ref (ad E 20 0 0)), (1, .int r1), (2, .int r2), (3, .int r3), (4, .int r4), (5, .int (pSpy L T A))] [] := fun M9 x9 f9 => by
        refine G_aload_n dX9_readsPupil_126 rfl ?_
        refine cv_X9_219 (cs' := 0) (ss' := 0) dX9_readsPupil_127  (Nat.le_of_ble_eq_true rfl) (Nat.le_of_ble_eq_true rfl) (Nat.le_of_ble_eq_true rfl) rfl rfl (Nat.le_of_ble_eq_true rfl) (Nat.le_of_ble_eq_true rfl) rfl ?_
        refine s_X9_endsLine (hX.fx f9) x9 (fun Ma xa fa => hGo_v ?_)
        have xa : TX Ma L (rdPt L T A) := xa
        have fa := f9.trans fa
        refine G_aload_n dX9_readsPupil_130 rfl ?_
        refine gf_X9_181 dX9_readsPupil_131  ?_
        rw [xa.1]
        refine G_if_ne (tgt := 148) dX9_readsPupil_134 (by decide) (fun c134 => ?_) (fun c134 => ?_)
        · refine G_vret dX9_readsPupil_148 rfl (Nat.le_of_ble_eq_true rfl) (Nat.le_of_ble_eq_true rfl) ?_
          have e2 : rdPa L T A = A := if_neg c134
          exact h Ma xa (by rw [e2]; exact hA.fx fa) (fun y => absurd y c134) (hX.fx fa) (hR.fx fa) fa.fl
        · obtain ⟨q0, q1, -⟩ := rdPt_good c134
          have s5 : (p9 L T A).code = 0 := (tkS_good c134).1
          have s4 : (p8 L T A).code = 0 := by
            have z := s5
            unfold p9 at z
            split at z
            · exact adv_code ▸ z
            · exact z
          have s3 : (p7 L T A).code = 0 := (tkN_good s4).1
          have s2 : (p6 L T A).code = 0 := (tkN_good s3).1
          have s1 : (p4 L T A).code = 0 := by
            have z : (p5 L T A).code = 0 := by rw [show p6 L T A = adv L (p5 L T A) from rfl, adv_code] at s2; exact s2
            unfold p5 at z
            split at z
            · exact z
            · exact absurd z (fai_is (by decide))
          have e2 : rdPa L T A = enrolA A r1 r2 r3 r4 (pSpy L T A) := by
            rw [v1 (c43 s1), v2 s1, v3 s3, v4 s4]
            exact if_pos c134
          refine G_aload_n dX9_readsPupil_137 rfl ?_
          refine G_iload_n dX9_readsPupil_138 rfl ?_
          refine G_iload_n dX9_readsPupil_139 rfl ?_
          refine G_iload_n dX9_readsPupil_140 rfl ?_
          refine G_iload dX9_readsPupil_141 rfl ?_
          refine G_iload dX9_readsPupil_143 rfl ?_
          refine cv_X9_37 (cs' := 0) (ss' := 0) dX9_readsPupil_145  (Nat.le_of_ble_eq_true rfl) (Nat.le_of_ble_eq_true rfl) (Nat.le_of_ble_eq_true rfl) rfl rfl (Nat.le_of_ble_eq_true rfl) (Nat.le_of_ble_eq_true rfl) rfl ?_
          refine s_X9_newPupil (hR.fx fa) (hA.fx fa) q1 (hz.fx fa) (fun Mb ab zb fb => hGo_v ?_)
          refine G_vret dX9_readsPupil_148 rfl (Nat.le_of_ble_eq_true rfl) (Nat.le_of_ble_eq_true rfl) ?_
          exact h Mb (xa.fo fb) (by rw [e2]; exact ab) (fun _ => zb) ((hX.fx fa).fo fb) ((hR.fx fa).fo fb) (fa.fl.trans fb.fl)
      refine G_istore dX9_readsPupil_103 (Nat.le_of_ble_eq_true rfl) ?_
      refine G_aload_n dX9_readsPupil_105 rfl ?_
      refine G_ldcS 23 dX9_readsPupil_106 (by decide) rfl rfl ?_
      refine cv_X9_196 (cs' := 0) (ss' := 0) dX9_readsPupil_108  (Nat.le_of_ble_eq_true rfl) (Nat.le_of_ble_eq_true rfl) (Nat.le_of_ble_eq_true rfl) rfl rfl (Nat.le_of_ble_eq_true rfl) (Nat.le_of_ble_eq_true rfl) rfl ?_
      refine s_X9_isWord (by decide) (hX.fx f8) x8 (hGo_i ?_)
      rw [ew2]
      refine cv_X9_110 (cs' := 0) (ss' := 0) dX9_readsPupil_111  (Nat.le_of_ble_eq_true rfl) (Nat.le_of_ble_eq_true rfl) (Nat.le_of_ble_eq_true rfl) rfl rfl (Nat.le_of_ble_eq_true rfl) (Nat.le_of_ble_eq_true rfl) rfl ?_
      refine s_X9_one (by split <;> simp) (hGo_i ?_)
      by_cases q : isW L (p8 L T A) (hSb2 2)
      · have eS : pSpy L T A = 1 := if_pos q
        have e9 : p9 L T A = adv L (p8 L T A) := if_pos q
        rw [if_pos q]
        refine G_istore dX9_readsPupil_114 (Nat.le_of_ble_eq_true rfl) ?_
        refine G_iload dX9_readsPupil_116 rfl ?_
        refine G_iconst (v := 1) dX9_readsPupil_118 (by decide) ?_
        refine G_icmp_ne (tgt := 126) dX9_readsPupil_119 (by decide) (fun c119 => ?_) (fun c119 => ?_)
        · exact absurd rfl c119
        · refine G_aload_n dX9_readsPupil_122 rfl ?_
          refine cv_X9_203 (cs' := 0) (ss' := 0) dX9_readsPupil_123  (Nat.le_of_ble_eq_true rfl) (Nat.le_of_ble_eq_true rfl) (Nat.le_of_ble_eq_true rfl) rfl rfl (Nat.le_of_ble_eq_true rfl) (Nat.le_of_ble_eq_true rfl) rfl ?_
          refine s_X9_goesOn (hX.fx f8) x8 (fun M9 x9 f9 => hGo_v ?_)
          rw [← e9] at x9
          exact G_lv2 (g126 M9 x9 (f8.trans f9)) ⟨rfl, rfl, rfl, rfl, rfl, lvi eS.symm, trivial⟩
      · have eS : pSpy L T A = 0 := if_neg q
        have e9 : p9 L T A = p8 L T A := if_neg q
        rw [if_neg q]
        rw [← e9] at x8
        refine G_istore dX9_readsPupil_114 (Nat.le_of_ble_eq_true rfl) ?_
        refine G_iload dX9_readsPupil_116 rfl ?_
        refine G_iconst (v := 1) dX9_readsPupil_118 (by decide) ?_
        refine G_icmp_ne (tgt := 126) dX9_readsPupil_119 (by decide) (fun c119 => ?_) (fun c119 => ?_)
        · exact G_lv2 (g126 M8 x8 f8) ⟨rfl, rfl, rfl, rfl, rfl, lvi eS.symm, trivial⟩
        · exact absurd c119 (by decide)
    refine G_istore_n dX9_readsPupil_55 (Nat.le_of_ble_eq_true rfl) ?_
    refine G_aload_n dX9_readsPupil_56 rfl ?_
    refine G_aload_n dX9_readsPupil_57 rfl ?_
    refine gf_X9_181 dX9_readsPupil_58  ?_
    rw [x4.1]
    refine G_if_ne (tgt := 74) dX9_readsPupil_61 (by decide) (fun c61 => ?_) (fun c61 => ?_)
    · refine G_iconst (v := 1) dX9_readsPupil_74 (by decide) ?_
      refine G_goto (tgt := 79) dX9_readsPupil_75 (by decide) ?_
      exact g79 1 (Or.inr rfl) (by rw [if_neg (by decide)]; unfold p5; rw [fai_bad c61, ite_self]) _ ⟨rfl, rfl, rfl, trivial⟩
    · refine G_aload_n dX9_readsPupil_64 rfl ?_
      refine G_iload_n dX9_readsPupil_65 rfl ?_
      refine G_iload_n dX9_readsPupil_66 rfl ?_
      refine cv_X9_214 (cs' := 0) (ss' := 0) dX9_readsPupil_67  (Nat.le_of_ble_eq_true rfl) (Nat.le_of_ble_eq_true rfl) (Nat.le_of_ble_eq_true rfl) rfl rfl (Nat.le_of_ble_eq_true rfl) (Nat.le_of_ble_eq_true rfl) rfl ?_
      refine s_X9_pupilOn (hR.fx f4) (hA.fx f4) (hGo_i ?_)
      rw [v1 (c43 c61), v2 c61]
      refine G_iconst (v := (-1)) dX9_readsPupil_70 (by decide) ?_
      refine G_icmp_ne (tgt := 78) dX9_readsPupil_71 (by decide) (fun c71 => ?_) (fun c71 => ?_)
      · refine G_iconst (v := 0) dX9_readsPupil_78 (by decide) ?_
        exact g79 0 (Or.inl rfl) (by rw [if_pos rfl]; unfold p5; rw [if_neg c71]) _ ⟨rfl, lvi (v1 (c43 c61)).symm, lvi (v2 c61).symm, trivial⟩
      · refine G_iconst (v := 1) dX9_readsPupil_74 (by decide) ?_
        refine G_goto (tgt := 79) dX9_readsPupil_75 (by decide) ?_
        exact g79 1 (Or.inr rfl) (by rw [if_neg (by decide)]; unfold p5; rw [if_pos c71]) _ ⟨rfl, lvi (v1 (c43 c61)).symm, lvi (v2 c61).symm, trivial⟩
  refine G_aload_n dX9_readsPupil_0 rfl ?_
  refine G_aload_n dX9_readsPupil_1 rfl ?_
  refine G_ldcS 22 dX9_readsPupil_2 (by decide) rfl rfl ?_
  refine cv_X9_196 (cs' := 0) (ss' := 0) dX9_readsPupil_4  (Nat.le_of_ble_eq_true rfl) (Nat.le_of_ble_eq_true rfl) (Nat.le_of_ble_eq_true rfl) rfl rfl (Nat.le_of_ble_eq_true rfl) (Nat.le_of_ble_eq_true rfl) rfl ?_
  refine s_X9_isWord (by decide) hX hT (hGo_i ?_)
  rw [ew]
  refine G_iconst (v := 1) dX9_readsPupil_7 (by decide) ?_
  refine cv_X9_200 (cs' := 0) (ss' := 0) dX9_readsPupil_8  (Nat.le_of_ble_eq_true rfl) (Nat.le_of_ble_eq_true rfl) (Nat.le_of_ble_eq_true rfl) rfl rfl (Nat.le_of_ble_eq_true rfl) (Nat.le_of_ble_eq_true rfl) rfl ?_
  refine s_X9_must hT (by decide) (by split <;> simp) (fun M1 x1 f1 => hGo_i ?_)
  by_cases q : isW L T (hSb2 1)
  rotate_left
  · rw [if_neg q, if_pos rfl] at x1 ⊢
    have z : (fai 1 T).code ≠ 0 := fai_is (by decide)
    rw [if_neg z]
    have e2 : p2 L T A = fai 1 T := by
      have e1 : p1 L T A = T := by
        unfold p1
        rw [if_neg q, ite_self]
      unfold p2 tkW
      rw [e1, if_neg q, adv_bad z]
    refine G_if_eq (tgt := 37) dX9_readsPupil_11 (by decide) (fun c11 => ?_) (fun c11 => ?_)
    · refine G_vret dX9_readsPupil_37 rfl (Nat.le_of_ble_eq_true rfl) (Nat.le_of_ble_eq_true rfl) ?_
      exact hbad M1 (by rw [e2]; exact z) (by rw [e2]; exact x1) f1
    · exact absurd rfl c11
  rw [if_pos q, if_neg (show ¬ (1 : Int32) = 0 by decide)] at x1 ⊢
  rw [if_pos c0]
  refine G_if_eq (tgt := 37) dX9_readsPupil_11 (by decide) (fun c11 => ?_) (fun c11 => ?_)
  · exact absurd c11 (by decide)
  refine G_aload_n dX9_readsPupil_14 rfl ?_
  refine G_aload_n dX9_readsPupil_15 rfl ?_
  refine G_iconst (v := 0) dX9_readsPupil_16 (by decide) ?_
  refine cv_X9_50 (cs' := 0) (ss' := 0) dX9_readsPupil_17  (Nat.le_of_ble_eq_true rfl) (Nat.le_of_ble_eq_true rfl) (Nat.le_of_ble_eq_true rfl) rfl rfl (Nat.le_of_ble_eq_true rfl) (Nat.le_of_ble_eq_true rfl) rfl ?_
  refine s_X9_get (w := 0) (hR.fx f1) (by decide) (hA.fx f1).n (hGo_i ?_)
  refine G_bipush (v := 12) dX9_readsPupil_20 (by decide) ?_
  refine G_icmp_ge (tgt := 29) dX9_readsPupil_22 (by decide) (fun c22 => ?_) (fun c22 => ?_)
  · have hn : ¬ A.n < 12 := fun z => absurd (show nI 12 ≤ nI A.n from c22) (nI_ge z (by decide))
    have z : (fai 4 T).code ≠ 0 := fai_is (by decide)
    have e2 : p2 L T A = fai 4 T := by
      have e1 : p1 L T A = fai 4 T := by
        unfold p1
        rw [if_neg hn, if_pos q]
      unfold p2 tkW
      rw [e1, fai_bad z, ite_self, adv_bad z]
    refine G_iconst (v := 0) dX9_readsPupil_29 (by decide) ?_
    refine G_iconst (v := 4) dX9_readsPupil_30 (by decide) ?_
    refine cv_X9_200 (cs' := 0) (ss' := 0) dX9_readsPupil_31  (Nat.le_of_ble_eq_true rfl) (Nat.le_of_ble_eq_true rfl) (Nat.le_of_ble_eq_true rfl) rfl rfl (Nat.le_of_ble_eq_true rfl) (Nat.le_of_ble_eq_true rfl) rfl ?_
    refine s_X9_must x1 (by decide) (Or.inl rfl) (fun M2 x2 f2 => hGo_i ?_)
    rw [if_pos rfl] at x2 ⊢
    rw [if_neg z]
    refine G_if_ne (tgt := 38) dX9_readsPupil_34 (by decide) (fun c34 => ?_) (fun c34 => ?_)
    · exact absurd rfl c34
    · refine G_vret dX9_readsPupil_37 rfl (Nat.le_of_ble_eq_true rfl) (Nat.le_of_ble_eq_true rfl) ?_
      exact hbad M2 (by rw [e2]; exact z) (by rw [e2]; exact x2) (f1.trans f2)
  · have hn : A.n < 12 := by
      rcases Nat.lt_or_ge A.n 12 with z | z
      · exact z
      · exact absurd (nI_le z (by omega)) c22
    have e2 : p2 L T A = adv L T := by
      have e1 : p1 L T A = T := if_pos hn
      unfold p2 tkW
      rw [e1, if_pos q]
    refine G_iconst (v := 1) dX9_readsPupil_25 (by decide) ?_
    refine G_goto (tgt := 30) dX9_readsPupil_26 (by decide) ?_
    refine G_iconst (v := 4) dX9_readsPupil_30 (by decide) ?_
    refine cv_X9_200 (cs' := 0) (ss' := 0) dX9_readsPupil_31  (Nat.le_of_ble_eq_true rfl) (Nat.le_of_ble_eq_true rfl) (Nat.le_of_ble_eq_true rfl) rfl rfl (Nat.le_of_ble_eq_true rfl) (Nat.le_of_ble_eq_true rfl) rfl ?_
    refine s_X9_must x1 (by decide) (Or.inr rfl) (fun M2 x2 f2 => hGo_i ?_)
    rw [if_neg (show ¬ (1 : Int32) = 0 by decide)] at x2 ⊢
    rw [if_pos c0]
    have f2 := f1.trans f2
    refine G_if_ne (tgt := 38) dX9_readsPupil_34 (by decide) (fun c34 => ?_) (fun c34 => ?_)
    rotate_left
    · exact absurd c34 (by decide)
    refine G_aload_n dX9_readsPupil_38 rfl ?_
    refine cv_X9_203 (cs' := 0) (ss' := 0) dX9_readsPupil_39  (Nat.le_of_ble_eq_true rfl) (Nat.le_of_ble_eq_true rfl) (Nat.le_of_ble_eq_true rfl) rfl rfl (Nat.le_of_ble_eq_true rfl) (Nat.le_of_ble_eq_true rfl) rfl ?_
    refine s_X9_goesOn (hX.fx f2) x2 (fun M3 x3 f3 => hGo_v ?_)
    rw [← e2] at x3
    exact G_lv2 (g42 M3 x3 (f2.trans f3)) ⟨rfl, trivial⟩
end MLOAD
