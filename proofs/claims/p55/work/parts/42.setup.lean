/-! ===== HomeworkBarter$School: setups ===== -/
section CSET
variable {E : Ed} {M : Mm} {P : Res → Mm → Prop} {L : List Int32} {T : Tks} {A : Ab} {j : Nat}
theorem fai_bad {c : Int32} (h : T.code ≠ 0) : fai c T = T := if_neg h
theorem adv_bad (h : T.code ≠ 0) : adv L T = T := if_neg h
theorem tkW_bad {w : List Int32} (h : T.code ≠ 0) : tkW L w T = T := by
  unfold tkW
  rw [fai_bad h, ite_self, adv_bad h]
theorem tkS_bad (h : T.code ≠ 0) : tkS L T = T := by
  unfold tkS
  rw [fai_bad h, ite_self, adv_bad h]
theorem lkN_bad {a b : Int32} (h : T.code ≠ 0) : lkN a b T = T := by
  unfold lkN
  rw [fai_bad h, ite_self, fai_bad h, ite_self]
theorem tkN_bad {a b : Int32} (h : T.code ≠ 0) : tkN L a b T = T := by
  unfold tkN
  rw [lkN_bad h, adv_bad h]
theorem fai_is {c : Int32} (hc : c ≠ 0) : (fai c T).code ≠ 0 := by
  unfold fai
  split
  · exact hc
  · assumption
theorem nxt_code : (nxt L T).code = T.code := by
  unfold nxt
  split
  · split
    · rfl
    · split <;> rfl
  · rfl
theorem adv_code : (adv L T).code = T.code := by
  unfold adv
  split
  · exact nxt_code
  · rfl
theorem tkW_is {w : List Int32} (h : ¬ isW L T w) : (tkW L w T).code ≠ 0 := by
  unfold tkW
  rw [if_neg h, adv_code]
  exact fai_is (by decide)
theorem TkM.keep {M' : Mm} (h : TkM M L T) (e : ∀ k, k = 1 ∨ k = 2 ∨ k = 3 → ∀ t, M'.1 k 0 0 t = M.1 k 0 0 t) : TkM M' L T := by
  obtain ⟨t1, t2, t3, t4, t5, t6, t7, t8⟩ := h
  exact ⟨t1.keep (fun k hk t => e k (Or.inr hk) t), (e 1 (Or.inl rfl) 1).trans t2, (e 1 (Or.inl rfl) 2).trans t3, (e 1 (Or.inl rfl) 3).trans t4, (e 1 (Or.inl rfl) 4).trans t5, (e 1 (Or.inl rfl) 5).trans t6, (e 1 (Or.inl rfl) 6).trans t7, t8⟩
theorem CR.frT {M' : Mm} (h : CR M j A) (hf : Fr dT M M') : CR M' j A := h.keep (fun k h7 _ p t => hf.at (fun q => by have : k = 1 := q; omega) t)
def dTS (j : Nat) : Nat → Nat → Nat → Prop := fun k j' p => k = 1 ∨ dC j k j' p
theorem dTS_T : ∀ k j' p, dT k j' p → dTS j k j' p := fun _ _ _ q => Or.inl q
theorem dTS_C : ∀ k j' p, dC j k j' p → dTS j k j' p := fun _ _ _ q => Or.inr q
theorem TkM.frC {M' : Mm} (h : TkM M L T) (hf : Fr (dC j) M M') : TkM M' L T := h.keep (fun k hk t => hf.at (fun q => by have := q.1; omega) t)
def p1 (L : List Int32) (T : Tks) (A : Ab) : Tks := if A.n < 12 then T else if isW L T (hSb2 1) then fai 4 T else T
def p2 (L : List Int32) (T : Tks) (A : Ab) : Tks := tkW L (hSb2 1) (p1 L T A)
def p3 (L : List Int32) (T : Tks) (A : Ab) : Tks := tkN L 0 5 (p2 L T A)
def p4 (L : List Int32) (T : Tks) (A : Ab) : Tks := lkN 0 5 (p3 L T A)
def p5 (L : List Int32) (T : Tks) (A : Ab) : Tks := if onV A (p2 L T A).val (p3 L T A).val = -1 then p4 L T A else fai 3 (p4 L T A)
def p6 (L : List Int32) (T : Tks) (A : Ab) : Tks := adv L (p5 L T A)
def p7 (L : List Int32) (T : Tks) (A : Ab) : Tks := tkN L 1 9 (p6 L T A)
def p8 (L : List Int32) (T : Tks) (A : Ab) : Tks := tkN L 1 9 (p7 L T A)
def p9 (L : List Int32) (T : Tks) (A : Ab) : Tks := if isW L (p8 L T A) (hSb2 2) then adv L (p8 L T A) else p8 L T A
def pSpy (L : List Int32) (T : Tks) (A : Ab) : Int32 := if isW L (p8 L T A) (hSb2 2) then 1 else 0
def rdPt (L : List Int32) (T : Tks) (A : Ab) : Tks := tkS L (p9 L T A)
def rdPa (L : List Int32) (T : Tks) (A : Ab) : Ab := if (rdPt L T A).code = 0 then enrolA A (p2 L T A).val (p3 L T A).val (p6 L T A).val (p7 L T A).val (pSpy L T A) else A
theorem p_bad (h : (p2 L T A).code ≠ 0) : rdPt L T A = p2 L T A := by
  have h3 : p3 L T A = p2 L T A := tkN_bad h
  have h4 : p4 L T A = p2 L T A := by unfold p4; rw [h3, lkN_bad h]
  have h5 : p5 L T A = p2 L T A := by unfold p5; rw [h4, fai_bad h, ite_self]
  have h6 : p6 L T A = p2 L T A := by unfold p6; rw [h5, adv_bad h]
  have h7 : p7 L T A = p2 L T A := by unfold p7; rw [h6, tkN_bad h]
  have h8 : p8 L T A = p2 L T A := by unfold p8; rw [h7, tkN_bad h]
  have h9 : p9 L T A = p2 L T A := by unfold p9; rw [h8, adv_bad h, ite_self]
  unfold rdPt
  rw [h9, tkS_bad h]
theorem p2_full (h : ¬ A.n < 12) : (p2 L T A).code ≠ 0 := by
  unfold p2 p1
  rw [if_neg h]
  by_cases hw : isW L T (hSb2 1)
  · rw [if_pos hw, tkW_bad (fai_is (by decide))]
    exact fai_is (by decide)
  · rw [if_neg hw]
    exact tkW_is hw
theorem rdPt_full (h : ¬ A.n < 12) : (rdPt L T A).code ≠ 0 := by
  rw [p_bad (p2_full h)]
  exact p2_full h
theorem s_X3_readPupil (hj : j < 10) (hT : TkM M L T) (hA : CR M j A) (h : ∀ M', TkM M' L (rdPt L T A) → CR M' j (rdPa L T A) → Fr (dTS j) M M' → P (.inl none) M') : Sp E yX3_readPupil cX3_readPupil zX3_readPupil [.ref (ad E 7 j 0), .ref (ad E 1 0 0)] M P := by
  refine Sp_of (own := RX3) (by decide) rfl rfl (Nat.le_of_ble_eq_true rfl) (fun C => ?_)
  have h12 := hA.n12
  have g97 : ∀ M9, TkM M9 L (p9 L T A) → CR M9 j A → Fr (dTS j) M M9 → G E C RX3 cX3_readPupil zX3_readPupil P 0 0 M9 97 [(0, .ref (ad E 7 j 0)), (1, .ref (ad E 1 0 0)), (2, .int (p2 L T A).val), (3, .int (p3 L T A).val), (4, .int (p6 L T A).val), (5, .int (p7 L T A).val), (6, .int (pSpy L T A))] [] := fun M9 t9 a9 f9 => by
    refine G_aload_n dX3_readPupil_97 rfl ?_
    refine cv_X3_78 (cs' := 0) (ss' := 0) dX3_readPupil_98  (Nat.le_of_ble_eq_true rfl) (Nat.le_of_ble_eq_true rfl) (Nat.le_of_ble_eq_true rfl) rfl rfl (Nat.le_of_ble_eq_true rfl) (Nat.le_of_ble_eq_true rfl) rfl ?_
    refine s_X6_takeSemicolon t9 (fun M10 t10 hf10 => hGo_v ?_)
    have a10 := a9.frT hf10
    have t10 : TkM M10 L (rdPt L T A) := t10
    have f10 := f9.trans (hf10.mono (dTS_T (j := j)))
    refine G_aload_n dX3_readPupil_101 rfl ?_
    refine cv_X3_85 (cs' := 0) (ss' := 0) dX3_readPupil_102  (Nat.le_of_ble_eq_true rfl) (Nat.le_of_ble_eq_true rfl) (Nat.le_of_ble_eq_true rfl) rfl rfl (Nat.le_of_ble_eq_true rfl) (Nat.le_of_ble_eq_true rfl) rfl ?_
    refine s_X6_failed t10 (hGo_i ?_)
    unfold rdPa at h
    by_cases hc : (rdPt L T A).code = 0
    · rw [if_pos hc]
      rw [if_pos hc] at h
      refine G_if_ne (tgt := 120) dX3_readPupil_105 (by decide) (fun c105 => ?_) (fun c105 => ?_)
      · exact absurd rfl c105
      · refine G_aload_n dX3_readPupil_108 rfl ?_
        refine G_iload_n dX3_readPupil_109 rfl ?_
        refine G_iload_n dX3_readPupil_110 rfl ?_
        refine G_iload dX3_readPupil_111 rfl ?_
        refine G_iload dX3_readPupil_113 rfl ?_
        refine G_iload dX3_readPupil_115 rfl ?_
        refine cv_X3_117 (cs' := 0) (ss' := 0) dX3_readPupil_117 hj (Nat.le_of_ble_eq_true rfl) (Nat.le_of_ble_eq_true rfl) (Nat.le_of_ble_eq_true rfl) rfl rfl (Nat.le_of_ble_eq_true rfl) (Nat.le_of_ble_eq_true rfl) rfl ?_
        have hn : A.n < 12 := Nat.not_le.mp (fun q => rdPt_full (L := L) (T := T) (A := A) (Nat.not_lt.mpr q) hc)
        refine s_X3_enrol hj a10 hn (by unfold pSpy; split <;> simp) (fun M11 a11 hf11 => hGo_v ?_)
        refine G_vret dX3_readPupil_120 rfl (Nat.le_of_ble_eq_true rfl) (Nat.le_of_ble_eq_true rfl) ?_
        exact h M11 (t10.frC hf11) a11 (f10.trans (hf11.mono dTS_C))
    · rw [if_neg hc]
      rw [if_neg hc] at h
      refine G_if_ne (tgt := 120) dX3_readPupil_105 (by decide) (fun c105 => ?_) (fun c105 => ?_)
      · refine G_vret dX3_readPupil_120 rfl (Nat.le_of_ble_eq_true rfl) (Nat.le_of_ble_eq_true rfl) ?_
        exact h M10 t10 a10 f10
      · exact absurd c105 (by decide)
  have g58 : ∀ M5, TkM M5 L (p5 L T A) → CR M5 j A → Fr (dTS j) M M5 → G E C RX3 cX3_readPupil zX3_readPupil P 0 0 M5 58 [(0, .ref (ad E 7 j 0)), (1, .ref (ad E 1 0 0)), (2, .int (p2 L T A).val), (3, .int (p3 L T A).val)] [] := fun M5 t5 a5 f5 => by
    refine G_aload_n dX3_readPupil_58 rfl ?_
    refine cv_X3_112 (cs' := 0) (ss' := 0) dX3_readPupil_59  (Nat.le_of_ble_eq_true rfl) (Nat.le_of_ble_eq_true rfl) (Nat.le_of_ble_eq_true rfl) rfl rfl (Nat.le_of_ble_eq_true rfl) (Nat.le_of_ble_eq_true rfl) rfl ?_
    refine s_X6_advance t5 (fun M6 t6 hf6 => hGo_v ?_)
    have a6 := a5.frT hf6
    have t6 : TkM M6 L (p6 L T A) := t6
    have f6 := f5.trans (hf6.mono (dTS_T (j := j)))
    refine G_aload_n dX3_readPupil_62 rfl ?_
    refine G_iconst (v := 1) dX3_readPupil_63 (by decide) ?_
    refine G_bipush (v := 9) dX3_readPupil_64 (by decide) ?_
    refine cv_X3_74 (cs' := 0) (ss' := 0) dX3_readPupil_66  (Nat.le_of_ble_eq_true rfl) (Nat.le_of_ble_eq_true rfl) (Nat.le_of_ble_eq_true rfl) rfl rfl (Nat.le_of_ble_eq_true rfl) (Nat.le_of_ble_eq_true rfl) rfl ?_
    refine s_X6_takeNumber t6 (fun M7 t7 hf7 => hGo_i ?_)
    have a7 := a6.frT hf7
    have t7 : TkM M7 L (p7 L T A) := t7
    have f7 := f6.trans (hf7.mono (dTS_T (j := j)))
    refine G_istore dX3_readPupil_69 (Nat.le_of_ble_eq_true rfl) ?_
    refine G_aload_n dX3_readPupil_71 rfl ?_
    refine G_iconst (v := 1) dX3_readPupil_72 (by decide) ?_
    refine G_bipush (v := 9) dX3_readPupil_73 (by decide) ?_
    refine cv_X3_74 (cs' := 0) (ss' := 0) dX3_readPupil_75  (Nat.le_of_ble_eq_true rfl) (Nat.le_of_ble_eq_true rfl) (Nat.le_of_ble_eq_true rfl) rfl rfl (Nat.le_of_ble_eq_true rfl) (Nat.le_of_ble_eq_true rfl) rfl ?_
    refine s_X6_takeNumber t7 (fun M8 t8 hf8 => hGo_i ?_)
    have a8 := a7.frT hf8
    have t8 : TkM M8 L (p8 L T A) := t8
    have f8 := f7.trans (hf8.mono (dTS_T (j := j)))
    refine G_istore dX3_readPupil_78 (Nat.le_of_ble_eq_true rfl) ?_
    refine G_aload_n dX3_readPupil_80 rfl ?_
    refine G_ldcS 2 dX3_readPupil_81 (by decide) rfl rfl ?_
    refine cv_X3_99 (cs' := 0) (ss' := 0) dX3_readPupil_83  (Nat.le_of_ble_eq_true rfl) (Nat.le_of_ble_eq_true rfl) (Nat.le_of_ble_eq_true rfl) rfl rfl (Nat.le_of_ble_eq_true rfl) (Nat.le_of_ble_eq_true rfl) rfl ?_
    refine s_X6_isWord (by decide) t8 (fun hw => hGo_i ?_) (fun hw => hGo_i ?_)
    · refine G_istore dX3_readPupil_86 (Nat.le_of_ble_eq_true rfl) ?_
      refine G_iload dX3_readPupil_88 rfl ?_
      refine G_if_eq (tgt := 97) dX3_readPupil_90 (by decide) (fun c90 => ?_) (fun c90 => ?_)
      · exact absurd c90 (by decide)
      · refine G_aload_n dX3_readPupil_93 rfl ?_
        refine cv_X3_112 (cs' := 0) (ss' := 0) dX3_readPupil_94  (Nat.le_of_ble_eq_true rfl) (Nat.le_of_ble_eq_true rfl) (Nat.le_of_ble_eq_true rfl) rfl rfl (Nat.le_of_ble_eq_true rfl) (Nat.le_of_ble_eq_true rfl) rfl ?_
        refine s_X6_advance t8 (fun M9 t9 hf9 => hGo_v ?_)
        refine G_lv2 (g97 M9 ?_ (a8.frT hf9) (f8.trans (hf9.mono dTS_T))) ⟨rfl, rfl, rfl, rfl, rfl, rfl, lvi ?_, trivial⟩
        · unfold p9
          rw [if_pos (show isW L (p8 L T A) (hSb2 2) from hw)]
          exact t9
        · unfold pSpy
          rw [if_pos (show isW L (p8 L T A) (hSb2 2) from hw)]
    · refine G_istore dX3_readPupil_86 (Nat.le_of_ble_eq_true rfl) ?_
      refine G_iload dX3_readPupil_88 rfl ?_
      refine G_if_eq (tgt := 97) dX3_readPupil_90 (by decide) (fun c90 => ?_) (fun c90 => ?_)
      · refine G_lv2 (g97 M8 ?_ a8 f8) ⟨rfl, rfl, rfl, rfl, rfl, rfl, lvi ?_, trivial⟩
        · unfold p9
          rw [if_neg (show ¬ isW L (p8 L T A) (hSb2 2) from hw)]
          exact t8
        · unfold pSpy
          rw [if_neg (show ¬ isW L (p8 L T A) (hSb2 2) from hw)]
      · exact absurd rfl c90
  have g23 : ∀ M1, TkM M1 L (p1 L T A) → CR M1 j A → Fr (dTS j) M M1 → G E C RX3 cX3_readPupil zX3_readPupil P 0 0 M1 23 [(0, .ref (ad E 7 j 0)), (1, .ref (ad E 1 0 0))] [] := fun M1 t1 a1 f1 => by
    refine G_aload_n dX3_readPupil_23 rfl ?_
    refine G_ldcS 1 dX3_readPupil_24 (by decide) rfl rfl ?_
    refine cv_X3_70 (cs' := 0) (ss' := 0) dX3_readPupil_26  (Nat.le_of_ble_eq_true rfl) (Nat.le_of_ble_eq_true rfl) (Nat.le_of_ble_eq_true rfl) rfl rfl (Nat.le_of_ble_eq_true rfl) (Nat.le_of_ble_eq_true rfl) rfl ?_
    refine s_X6_takeWord (by decide) t1 (fun M2 t2 hf2 => hGo_v ?_)
    have a2 := a1.frT hf2
    have t2 : TkM M2 L (p2 L T A) := t2
    have f2 := f1.trans (hf2.mono (dTS_T (j := j)))
    refine G_aload_n dX3_readPupil_29 rfl ?_
    refine G_iconst (v := 0) dX3_readPupil_30 (by decide) ?_
    refine G_iconst (v := 5) dX3_readPupil_31 (by decide) ?_
    refine cv_X3_74 (cs' := 0) (ss' := 0) dX3_readPupil_32  (Nat.le_of_ble_eq_true rfl) (Nat.le_of_ble_eq_true rfl) (Nat.le_of_ble_eq_true rfl) rfl rfl (Nat.le_of_ble_eq_true rfl) (Nat.le_of_ble_eq_true rfl) rfl ?_
    refine s_X6_takeNumber t2 (fun M3 t3 hf3 => hGo_i ?_)
    have a3 := a2.frT hf3
    have t3 : TkM M3 L (p3 L T A) := t3
    have f3 := f2.trans (hf3.mono (dTS_T (j := j)))
    refine G_istore_n dX3_readPupil_35 (Nat.le_of_ble_eq_true rfl) ?_
    refine G_aload_n dX3_readPupil_36 rfl ?_
    refine G_iconst (v := 0) dX3_readPupil_37 (by decide) ?_
    refine G_iconst (v := 5) dX3_readPupil_38 (by decide) ?_
    refine cv_X3_106 (cs' := 0) (ss' := 0) dX3_readPupil_39  (Nat.le_of_ble_eq_true rfl) (Nat.le_of_ble_eq_true rfl) (Nat.le_of_ble_eq_true rfl) rfl rfl (Nat.le_of_ble_eq_true rfl) (Nat.le_of_ble_eq_true rfl) rfl ?_
    refine s_X6_lookAtNumber t3 (fun M4 t4 hf4 => hGo_i ?_)
    have a4 := a3.frT hf4
    have t4 : TkM M4 L (p4 L T A) := t4
    have f4 := f3.trans (hf4.mono (dTS_T (j := j)))
    refine G_istore_n dX3_readPupil_42 (Nat.le_of_ble_eq_true rfl) ?_
    refine G_aload_n dX3_readPupil_43 rfl ?_
    refine G_iload_n dX3_readPupil_44 rfl ?_
    refine G_iload_n dX3_readPupil_45 rfl ?_
    refine cv_X3_109 (cs' := 0) (ss' := 0) dX3_readPupil_46 hj (Nat.le_of_ble_eq_true rfl) (Nat.le_of_ble_eq_true rfl) (Nat.le_of_ble_eq_true rfl) rfl rfl (Nat.le_of_ble_eq_true rfl) (Nat.le_of_ble_eq_true rfl) rfl ?_
    refine s_X3_pupilOn hj a4 (hGo_i ?_)
    refine G_iconst (v := (-1)) dX3_readPupil_49 (by decide) ?_
    refine G_icmp_eq (tgt := 58) dX3_readPupil_50 (by decide) (fun c50 => ?_) (fun c50 => ?_)
    · refine G_lv2 (g58 M4 ?_ a4 f4) ⟨rfl, rfl, rfl, rfl, trivial⟩
      unfold p5
      rw [if_pos (show onV A (p2 L T A).val (p3 L T A).val = -1 from c50)]
      exact t4
    · refine G_aload_n dX3_readPupil_53 rfl ?_
      refine G_iconst (v := 3) dX3_readPupil_54 (by decide) ?_
      refine cv_X3_103 (cs' := 0) (ss' := 0) dX3_readPupil_55  (Nat.le_of_ble_eq_true rfl) (Nat.le_of_ble_eq_true rfl) (Nat.le_of_ble_eq_true rfl) rfl rfl (Nat.le_of_ble_eq_true rfl) (Nat.le_of_ble_eq_true rfl) rfl ?_
      refine s_X6_fail t4 (fun M5 t5 hf5 => hGo_v ?_)
      refine G_lv2 (g58 M5 ?_ (a4.frT hf5) (f4.trans (hf5.mono dTS_T))) ⟨rfl, rfl, rfl, rfl, trivial⟩
      unfold p5
      rw [if_neg (show ¬ onV A (p2 L T A).val (p3 L T A).val = -1 from c50)]
      exact t5
  refine G_aload_n dX3_readPupil_0 rfl ?_
  refine gf_X3_31 dX3_readPupil_1 hj ?_
  rw [hA.n]
  refine G_bipush (v := 12) dX3_readPupil_4 (by decide) ?_
  refine G_icmp_lt (tgt := 23) dX3_readPupil_6 (by decide) (fun c6 => ?_) (fun c6 => ?_)
  · have hn : A.n < 12 := (nI_ltI (b := 12) (by omega) (by decide)).mp c6
    exact g23 M (by unfold p1; rw [if_pos hn]; exact hT) hA Fr.rfl
  · have hn : ¬ A.n < 12 := fun q => c6 (nI_lt (b := 12) q (by decide))
    refine G_aload_n dX3_readPupil_9 rfl ?_
    refine G_ldcS 1 dX3_readPupil_10 (by decide) rfl rfl ?_
    refine cv_X3_99 (cs' := 0) (ss' := 0) dX3_readPupil_12  (Nat.le_of_ble_eq_true rfl) (Nat.le_of_ble_eq_true rfl) (Nat.le_of_ble_eq_true rfl) rfl rfl (Nat.le_of_ble_eq_true rfl) (Nat.le_of_ble_eq_true rfl) rfl ?_
    refine s_X6_isWord (by decide) hT (fun hw => hGo_i ?_) (fun hw => hGo_i ?_)
    · refine G_if_eq (tgt := 23) dX3_readPupil_15 (by decide) (fun c15 => ?_) (fun c15 => ?_)
      · exact absurd c15 (by decide)
      · refine G_aload_n dX3_readPupil_18 rfl ?_
        refine G_iconst (v := 4) dX3_readPupil_19 (by decide) ?_
        refine cv_X3_103 (cs' := 0) (ss' := 0) dX3_readPupil_20  (Nat.le_of_ble_eq_true rfl) (Nat.le_of_ble_eq_true rfl) (Nat.le_of_ble_eq_true rfl) rfl rfl (Nat.le_of_ble_eq_true rfl) (Nat.le_of_ble_eq_true rfl) rfl ?_
        refine s_X6_fail hT (fun M1 t1 hf1 => hGo_v ?_)
        exact g23 M1 (by unfold p1; rw [if_neg hn, if_pos hw]; exact t1) (hA.frT hf1) (hf1.mono dTS_T)
    · refine G_if_eq (tgt := 23) dX3_readPupil_15 (by decide) (fun c15 => ?_) (fun c15 => ?_)
      · exact g23 M (by unfold p1; rw [if_neg hn, if_neg hw]; exact hT) hA Fr.rfl
      · exact absurd rfl c15
/-- pupils read, at most k of them -/
def rdL (L : List Int32) : Nat → Tks → Ab → Tks × Ab
  | 0, T, A => (T, A)
  | k + 1, T, A => if T.code = 0 then (if 2 ≤ A.n ∧ T.kind = 0 then (T, A) else rdL L k (rdPt L T A) (rdPa L T A)) else (T, A)
theorem rdL_bad {k : Nat} (h : T.code ≠ 0) : rdL L k T A = (T, A) := by
  cases k with
  | zero => rfl
  | succ k => exact if_neg h
theorem rdPa_n (h : (rdPt L T A).code = 0) : (rdPa L T A).n = A.n + 1 := by
  unfold rdPa
  rw [if_pos h]
  rfl
def sT0 (L : List Int32) (v : Int32) : Tks := nxt L (0, -1, 0, 0, 0, v)
def sT1 (L : List Int32) (v : Int32) : Tks := tkW L (hSb2 0) (sT0 L v)
def sT2 (L : List Int32) (v : Int32) : Tks := tkN L 10 60 (sT1 L v)
def sT3 (L : List Int32) (v : Int32) : Tks := tkN L 1 20 (sT2 L v)
def sT4 (L : List Int32) (v : Int32) : Tks := tkN L 0 9 (sT3 L v)
def sT5 (L : List Int32) (v : Int32) : Tks := tkN L 0 9 (sT4 L v)
def sT6 (L : List Int32) (v : Int32) : Tks := tkS L (sT5 L v)
def sA6 (L : List Int32) (v : Int32) (A : Ab) : Ab := openA (sT1 L v).val (sT2 L v).val (sT3 L v).val (sT4 L v).val A
def setupV (L : List Int32) (v : Int32) (A : Ab) : Tks × Ab := rdL L 13 (sT6 L v) (sA6 L v A)
theorem s_X3_readSetup {A0 : Ab} (hj : j < 10) (hX : Txt M 0 L) (h0 : ∀ p, p < 12 → M.1 12 j p 0 = nI p) (h : ∀ M', TkM M' L (setupV L (M.1 1 0 0 4) A0).1 → CR M' j (setupV L (M.1 1 0 0 4) A0).2 → Fr (dTS j) M M' → P (.inl none) M') : Sp E yX3_readSetup cX3_readSetup zX3_readSetup [.ref (ad E 7 j 0), .ref (ad E 1 0 0)] M P := by
  refine Sp_of (own := RX3) (by decide) rfl rfl (Nat.le_of_ble_eq_true rfl) (fun C => ?_)
  generalize hv : M.1 1 0 0 4 = v at h
  refine G_aload_n dX3_readSetup_0 rfl ?_
  refine cv_X3_63 (cs' := 0) (ss' := 0) dX3_readSetup_1  (Nat.le_of_ble_eq_true rfl) (Nat.le_of_ble_eq_true rfl) (Nat.le_of_ble_eq_true rfl) rfl rfl (Nat.le_of_ble_eq_true rfl) (Nat.le_of_ble_eq_true rfl) rfl ?_
  refine s_X6_begin hX (fun M0 t0 hf0 => hGo_v ?_)
  rw [hv] at t0
  have t0 : TkM M0 L (sT0 L v) := t0
  refine G_aload_n dX3_readSetup_4 rfl ?_
  refine G_ldcS 0 dX3_readSetup_5 (by decide) rfl rfl ?_
  refine cv_X3_70 (cs' := 0) (ss' := 0) dX3_readSetup_7  (Nat.le_of_ble_eq_true rfl) (Nat.le_of_ble_eq_true rfl) (Nat.le_of_ble_eq_true rfl) rfl rfl (Nat.le_of_ble_eq_true rfl) (Nat.le_of_ble_eq_true rfl) rfl ?_
  refine s_X6_takeWord (by decide) t0 (fun M1 t1 hf1 => hGo_v ?_)
  have f1 := hf0.trans hf1
  have t1 : TkM M1 L (sT1 L v) := t1
  refine G_aload_n dX3_readSetup_10 rfl ?_
  refine G_bipush (v := 10) dX3_readSetup_11 (by decide) ?_
  refine G_bipush (v := 60) dX3_readSetup_13 (by decide) ?_
  refine cv_X3_74 (cs' := 0) (ss' := 0) dX3_readSetup_15  (Nat.le_of_ble_eq_true rfl) (Nat.le_of_ble_eq_true rfl) (Nat.le_of_ble_eq_true rfl) rfl rfl (Nat.le_of_ble_eq_true rfl) (Nat.le_of_ble_eq_true rfl) rfl ?_
  refine s_X6_takeNumber t1 (fun M2 t2 hf2 => hGo_i ?_)
  have f2 := f1.trans hf2
  have t2 : TkM M2 L (sT2 L v) := t2
  refine G_istore_n dX3_readSetup_18 (Nat.le_of_ble_eq_true rfl) ?_
  refine G_aload_n dX3_readSetup_19 rfl ?_
  refine G_iconst (v := 1) dX3_readSetup_20 (by decide) ?_
  refine G_bipush (v := 20) dX3_readSetup_21 (by decide) ?_
  refine cv_X3_74 (cs' := 0) (ss' := 0) dX3_readSetup_23  (Nat.le_of_ble_eq_true rfl) (Nat.le_of_ble_eq_true rfl) (Nat.le_of_ble_eq_true rfl) rfl rfl (Nat.le_of_ble_eq_true rfl) (Nat.le_of_ble_eq_true rfl) rfl ?_
  refine s_X6_takeNumber t2 (fun M3 t3 hf3 => hGo_i ?_)
  have f3 := f2.trans hf3
  have t3 : TkM M3 L (sT3 L v) := t3
  refine G_istore_n dX3_readSetup_26 (Nat.le_of_ble_eq_true rfl) ?_
  refine G_aload_n dX3_readSetup_27 rfl ?_
  refine G_iconst (v := 0) dX3_readSetup_28 (by decide) ?_
  refine G_bipush (v := 9) dX3_readSetup_29 (by decide) ?_
  refine cv_X3_74 (cs' := 0) (ss' := 0) dX3_readSetup_31  (Nat.le_of_ble_eq_true rfl) (Nat.le_of_ble_eq_true rfl) (Nat.le_of_ble_eq_true rfl) rfl rfl (Nat.le_of_ble_eq_true rfl) (Nat.le_of_ble_eq_true rfl) rfl ?_
  refine s_X6_takeNumber t3 (fun M4 t4 hf4 => hGo_i ?_)
  have f4 := f3.trans hf4
  have t4 : TkM M4 L (sT4 L v) := t4
  refine G_istore dX3_readSetup_34 (Nat.le_of_ble_eq_true rfl) ?_
  refine G_aload_n dX3_readSetup_36 rfl ?_
  refine G_iconst (v := 0) dX3_readSetup_37 (by decide) ?_
  refine G_bipush (v := 9) dX3_readSetup_38 (by decide) ?_
  refine cv_X3_74 (cs' := 0) (ss' := 0) dX3_readSetup_40  (Nat.le_of_ble_eq_true rfl) (Nat.le_of_ble_eq_true rfl) (Nat.le_of_ble_eq_true rfl) rfl rfl (Nat.le_of_ble_eq_true rfl) (Nat.le_of_ble_eq_true rfl) rfl ?_
  refine s_X6_takeNumber t4 (fun M5 t5 hf5 => hGo_i ?_)
  have f5 := f4.trans hf5
  have t5 : TkM M5 L (sT5 L v) := t5
  refine G_istore dX3_readSetup_43 (Nat.le_of_ble_eq_true rfl) ?_
  refine G_aload_n dX3_readSetup_45 rfl ?_
  refine cv_X3_78 (cs' := 0) (ss' := 0) dX3_readSetup_46  (Nat.le_of_ble_eq_true rfl) (Nat.le_of_ble_eq_true rfl) (Nat.le_of_ble_eq_true rfl) rfl rfl (Nat.le_of_ble_eq_true rfl) (Nat.le_of_ble_eq_true rfl) rfl ?_
  refine s_X6_takeSemicolon t5 (fun M6 t6 hf6 => hGo_v ?_)
  have f6 := f5.trans hf6
  have t6 : TkM M6 L (sT6 L v) := t6
  refine G_aload_n dX3_readSetup_49 rfl ?_
  refine G_iload_n dX3_readSetup_50 rfl ?_
  refine G_iload_n dX3_readSetup_51 rfl ?_
  refine G_iload dX3_readSetup_52 rfl ?_
  refine G_iload dX3_readSetup_54 rfl ?_
  refine cv_X3_81 (cs' := 0) (ss' := 0) dX3_readSetup_56 hj (Nat.le_of_ble_eq_true rfl) (Nat.le_of_ble_eq_true rfl) (Nat.le_of_ble_eq_true rfl) rfl rfl (Nat.le_of_ble_eq_true rfl) (Nat.le_of_ble_eq_true rfl) rfl ?_
  refine s_X3_open (A := A0) hj (fun p hp => (f6.at (fun q => by have : 12 = 1 := q; omega) 0).trans (h0 p hp)) (fun M7 a7 hf7 => hGo_v ?_)
  have hf7' : Fr (dC j) M6 M7 := hf7.mono (fun k j' p q => ⟨by omega, by omega, q.2⟩)
  have t7 := t6.frC hf7'
  have f7 : Fr (dTS j) M M7 := (f6.mono dTS_T).trans (hf7'.mono dTS_C)
  have a7' : CR M7 j (sA6 L v A0) := a7
  have t7' : TkM M7 L (sT6 L v) := t7
  refine G_iconst (v := 0) dX3_readSetup_59 (by decide) ?_
  refine G_istore dX3_readSetup_60 (Nat.le_of_ble_eq_true rfl) ?_
  have g103 : ∀ M8 lv, TkM M8 L (setupV L v A0).1 → CR M8 j (setupV L v A0).2 → Fr (dTS j) M M8 → G E C RX3 cX3_readSetup zX3_readSetup P 0 0 M8 103 lv [] := fun M8 lv t8 a8 f8 => by
    refine G_vret dX3_readSetup_103 rfl (Nat.le_of_ble_eq_true rfl) (Nat.le_of_ble_eq_true rfl) ?_
    exact h M8 t8 a8 f8
  have key : ∀ k i M8 T8 A8, k + i = 13 → rdL L k T8 A8 = setupV L v A0 → (T8.code = 0 → A8.n = i) → TkM M8 L T8 → CR M8 j A8 → Fr (dTS j) M M8 → G E C RX3 cX3_readSetup zX3_readSetup P 0 0 M8 62 [(0, .ref (ad E 7 j 0)), (1, .ref (ad E 1 0 0)), (6, .int (nI i))] [] := by
    intro k
    induction k with
    | zero =>
      intro i M8 T8 A8 hi hr hn t8 a8 f8
      have e : setupV L v A0 = (T8, A8) := hr.symm
      refine G_iload dX3_readSetup_62 rfl ?_
      refine G_bipush (v := 12) dX3_readSetup_64 (by decide) ?_
      refine G_icmp_gt (tgt := 103) dX3_readSetup_66 (by decide) (fun c66 => ?_) (fun c66 => ?_)
      · exact g103 M8 _ (by rw [e]; exact t8) (by rw [e]; exact a8) f8
      · exact absurd (nI_lt (a := 12) (b := i) (by omega) (by omega)) c66
    | succ k ih =>
      intro i M8 T8 A8 hi hr hn t8 a8 f8
      have h12 := a8.n12
      refine G_iload dX3_readSetup_62 rfl ?_
      refine G_bipush (v := 12) dX3_readSetup_64 (by decide) ?_
      refine G_icmp_gt (tgt := 103) dX3_readSetup_66 (by decide) (fun c66 => ?_) (fun c66 => ?_)
      · exact absurd (show nI 12 < nI i from c66) (nI_nlt (by omega) (by decide))
      · refine G_aload_n dX3_readSetup_69 rfl ?_
        refine cv_X3_85 (cs' := 0) (ss' := 0) dX3_readSetup_70  (Nat.le_of_ble_eq_true rfl) (Nat.le_of_ble_eq_true rfl) (Nat.le_of_ble_eq_true rfl) rfl rfl (Nat.le_of_ble_eq_true rfl) (Nat.le_of_ble_eq_true rfl) rfl ?_
        refine s_X6_failed t8 (hGo_i ?_)
        by_cases hc : T8.code = 0
        · rw [if_pos hc]
          have hr2 : (if 2 ≤ A8.n ∧ T8.kind = 0 then (T8, A8) else rdL L k (rdPt L T8 A8) (rdPa L T8 A8)) = setupV L v A0 := by
            rw [← hr]
            exact (if_pos hc).symm
          have g92 : ¬ (2 ≤ A8.n ∧ T8.kind = 0) → G E C RX3 cX3_readSetup zX3_readSetup P 0 0 M8 92 [(0, .ref (ad E 7 j 0)), (1, .ref (ad E 1 0 0)), (6, .int (nI i))] [] := fun q => by
            rw [if_neg q] at hr2
            refine G_aload_n dX3_readSetup_92 rfl ?_
            refine G_aload_n dX3_readSetup_93 rfl ?_
            refine cv_X3_92 (cs' := 0) (ss' := 0) dX3_readSetup_94 hj (Nat.le_of_ble_eq_true rfl) (Nat.le_of_ble_eq_true rfl) (Nat.le_of_ble_eq_true rfl) rfl rfl (Nat.le_of_ble_eq_true rfl) (Nat.le_of_ble_eq_true rfl) rfl ?_
            refine s_X3_readPupil hj t8 a8 (fun M9 t9 a9 hf9 => hGo_v ?_)
            refine G_iinc (v := 1) dX3_readSetup_97 rfl (Nat.le_of_ble_eq_true rfl) (by decide) ?_
            refine G_goto (tgt := 62) dX3_readSetup_100 (by decide) ?_
            exact G_lv2 (ih (i + 1) M9 _ _ (by omega) hr2 (fun q2 => by rw [rdPa_n q2, hn hc]) t9 a9 (f8.trans hf9)) ⟨rfl, rfl, lvi (nI_1 i), trivial⟩
          refine G_if_ne (tgt := 103) dX3_readSetup_73 (by decide) (fun c73 => ?_) (fun c73 => ?_)
          · exact absurd rfl c73
          · refine G_aload_n dX3_readSetup_76 rfl ?_
            refine gf_X3_31 dX3_readSetup_77 hj ?_
            rw [a8.n]
            refine G_iconst (v := 2) dX3_readSetup_80 (by decide) ?_
            refine G_icmp_lt (tgt := 92) dX3_readSetup_81 (by decide) (fun c81 => ?_) (fun c81 => ?_)
            · exact g92 (fun q => absurd c81 (nI_nlt (b := 2) q.1 (by omega)))
            · refine G_aload_n dX3_readSetup_84 rfl ?_
              refine cv_X3_89 (cs' := 0) (ss' := 0) dX3_readSetup_85  (Nat.le_of_ble_eq_true rfl) (Nat.le_of_ble_eq_true rfl) (Nat.le_of_ble_eq_true rfl) rfl rfl (Nat.le_of_ble_eq_true rfl) (Nat.le_of_ble_eq_true rfl) rfl ?_
              refine s_X6_isAtEnd t8 (hGo_i ?_)
              by_cases hk : T8.kind = 0
              · rw [if_pos hk]
                have hn2 : 2 ≤ A8.n := by
                  rcases Nat.lt_or_ge A8.n 2 with q | q
                  · exact absurd (nI_lt (b := 2) q (by decide)) c81
                  · exact q
                rw [if_pos ⟨hn2, hk⟩] at hr2
                refine G_if_eq (tgt := 92) dX3_readSetup_88 (by decide) (fun c88 => ?_) (fun c88 => ?_)
                · exact absurd c88 (by decide)
                · refine G_vret dX3_readSetup_91 rfl (Nat.le_of_ble_eq_true rfl) (Nat.le_of_ble_eq_true rfl) ?_
                  rw [← hr2] at h
                  exact h M8 t8 a8 f8
              · rw [if_neg hk]
                refine G_if_eq (tgt := 92) dX3_readSetup_88 (by decide) (fun c88 => ?_) (fun c88 => ?_)
                · exact g92 (fun q => hk q.2)
                · exact absurd rfl c88
        · rw [if_neg hc]
          refine G_if_ne (tgt := 103) dX3_readSetup_73 (by decide) (fun c73 => ?_) (fun c73 => ?_)
          · have e : setupV L v A0 = (T8, A8) := by rw [← hr]; exact if_neg hc
            exact g103 M8 _ (by rw [e]; exact t8) (by rw [e]; exact a8) f8
          · exact absurd c73 (by decide)
  refine G_lv2 (key 13 0 M7 (sT6 L v) (sA6 L v A0) rfl rfl (fun _ => rfl) t7' a7' f7) ⟨rfl, rfl, rfl, trivial⟩
end CSET
