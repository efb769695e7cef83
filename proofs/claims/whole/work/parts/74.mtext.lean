/-! ===== HomeworkBarterModel: the text, undo, saved states ===== -/
section MTXT
variable {E : Ed} {M M' : Mm} {P : Res → Mm → Prop} {A B : Ab} {o : Nat} {g : Gs} {L W : List Int32}
theorem bv255 (i : Nat) (h : ¬ i < 8) : (255#32).getLsbD i = false := by
  rw [BitVec.getLsbD_ofNat, show (255 : Nat) = 2 ^ 8 - 1 by decide, Nat.testBit_two_pow_sub_one]
  simp [h]
theorem bvs (b : BitVec 32) (s : Nat) (hs : s ≤ 24) : b.sshiftRight s &&& 255#32 = b >>> s &&& 255#32 := by
  apply BitVec.eq_of_getLsbD_eq
  intro i hi
  rw [BitVec.getLsbD_and, BitVec.getLsbD_and]
  by_cases h : i < 8
  · rw [BitVec.getLsbD_sshiftRight, BitVec.getLsbD_ushiftRight, if_pos (by omega)]
    simp [show ¬ 32 ≤ i by omega]
  · rw [bv255 i h, Bool.and_false, Bool.and_false]
theorem shE (x s : Int32) (n : Nat) (hn : n ≤ 24) (e1 : (s &&& 31).toBitVec.smod 32 = BitVec.ofNat 32 n) (e2 : (s.toUInt32 &&& Int32.toUInt32 31).toBitVec % 32 = BitVec.ofNat 32 n) : (x >>> (s &&& 31)) &&& 255 = (x.toUInt32 >>> (s.toUInt32 &&& Int32.toUInt32 31)).toInt32 &&& 255 := by
  apply Int32.toBitVec_inj.mp
  rw [Int32.toBitVec_and, Int32.toBitVec_and, Int32.toBitVec_shiftRight, e1]
  have : (x.toUInt32 >>> (s.toUInt32 &&& Int32.toUInt32 31)).toInt32.toBitVec = x.toBitVec >>> BitVec.ofNat 32 n := by
    show (x.toUInt32 >>> (s.toUInt32 &&& Int32.toUInt32 31)).toBitVec = _
    rw [UInt32.toBitVec_shiftRight, e2]
    rfl
  rw [this]
  have en : (BitVec.ofNat 32 n).toNat = n := by rw [BitVec.toNat_ofNat]; omega
  show x.toBitVec.sshiftRight (BitVec.ofNat 32 n).toNat &&& 255#32 = x.toBitVec >>> (BitVec.ofNat 32 n).toNat &&& 255#32
  rw [en]
  exact bvs _ _ hn
theorem m_appendText {x : Int32} (hG : MG M g) (hO : Okg g) (h : ∀ M' v, MG M' (qAppend g x).1 → Fm M M' → M'.1 20 0 0 5 = nI (qAppend g x).2.1 → ((qAppend g x).2.1 = 0 → v = (qAppend g x).2.2) → P (.inl (some (.int v))) M') : Sp E yX9_appendText cX9_appendText zX9_appendText [.ref (ad E 20 0 0), .int x] M P := by
  unfold qAppend at h
  refine Sp_of (own := RX9) (by decide) rfl rfl (Nat.le_of_ble_eq_true rfl) (fun C => ?_)
  refine G_aload_n dX9_appendText_0 rfl ?_
  refine G_iconst (v := 0) dX9_appendText_1 (by decide) ?_
  refine pf_X9_41 dX9_appendText_2  ?_
  have hG1 : MG (M.up 20 0 0 5 0) g := hG.thr
  have hT : (M.up 20 0 0 5 0).1 20 0 0 5 = 0 := up_at
  have hF : Fm M (M.up 20 0 0 5 0) := Fm.rfl.up ⟨by decide, by decide⟩
  generalize M.up 20 0 0 5 0 = M1 at hG1 hT hF ⊢
  have hR := hG1.1
  have hA := hG1.2.1
  have h12 := hA.n12
  obtain ⟨t1, t2, t3⟩ := hG1.2.2.2.2.2.1
  refine G_aload_n dX9_appendText_5 rfl ?_
  refine G_aload_n dX9_appendText_6 rfl ?_
  refine gf_X9_155 dX9_appendText_7  ?_
  rw [t1]
  refine G_iconst (v := 4) dX9_appendText_10 (by decide) ?_
  refine G_iadd dX9_appendText_11 ?_
  rw [show nI g.L.length + (4 : Int32) = nI (g.L.length + 4) from nI_add _ 4]
  refine G_sipush (v := 500) dX9_appendText_12 (by decide) ?_
  refine G_icmp_gt (tgt := 22) dX9_appendText_15 (by decide) (fun c15 => ?_) (fun c15 => ?_)
  · have c : 496 < g.L.length := by
      rcases Nat.lt_or_ge 496 g.L.length with q | q
      · exact q
      · exact absurd c15 (show ¬ nI 500 < nI (g.L.length + 4) from nI_nlt (by omega) (by decide))
    rw [if_pos c] at h
    refine G_iconst (v := 0) dX9_appendText_22 (by decide) ?_
    refine G_iconst (v := 1) dX9_appendText_23 (by decide) ?_
    refine cv_X9_158 (cs' := 0) (ss' := 0) dX9_appendText_24  (Nat.le_of_ble_eq_true rfl) (Nat.le_of_ble_eq_true rfl) (Nat.le_of_ble_eq_true rfl) rfl rfl (Nat.le_of_ble_eq_true rfl) (Nat.le_of_ble_eq_true rfl) rfl ?_
    refine s_X9_holds0 hT (by decide) (hGo_i ?_)
    refine G_if_ne (tgt := 32) dX9_appendText_27 (by decide) (fun c27 => ?_) (fun c27 => ?_)
    · exact absurd rfl c27
    · refine G_iconst (v := 0) dX9_appendText_30 (by decide) ?_
      refine G_iret dX9_appendText_31 rfl rfl (Nat.le_of_ble_eq_true rfl) (Nat.le_of_ble_eq_true rfl) ?_
      exact h _ _ hG1.thr (hF.up ⟨by decide, by decide⟩) up_at (fun z => absurd z (Nat.succ_ne_zero _))
  have c : ¬ 496 < g.L.length := fun q => c15 (nI_lt (a := 500) (by omega) (by omega))
  rw [if_neg c] at h
  refine G_iconst (v := 1) dX9_appendText_18 (by decide) ?_
  refine G_goto (tgt := 23) dX9_appendText_19 (by decide) ?_
  refine G_iconst (v := 1) dX9_appendText_23 (by decide) ?_
  refine cv_X9_158 (cs' := 0) (ss' := 0) dX9_appendText_24  (Nat.le_of_ble_eq_true rfl) (Nat.le_of_ble_eq_true rfl) (Nat.le_of_ble_eq_true rfl) rfl rfl (Nat.le_of_ble_eq_true rfl) (Nat.le_of_ble_eq_true rfl) rfl ?_
  refine s_X9_holds1 hT (hGo_i ?_)
  refine G_if_ne (tgt := 32) dX9_appendText_27 (by decide) (fun c27 => ?_) (fun c27 => ?_)
  rotate_left
  · exact absurd c27 (by decide)
  have key : ∀ (M2 : Mm) (L1 : List Int32), L1.length < 500 → MT M2 L1 → Fq 7 24 M1 M2 → ∀ (sh : Int32), ¬ sh < 0 → (∀ M3, MT M3 (L1 ++ [(x >>> (sh &&& 31)) &&& 255]) → Fq 7 24 M1 M3 → G E C RX9 cX9_appendText zX9_appendText P 0 0 M3 35 [(0, .ref (ad E 20 0 0)), (1, .int x), (2, .int (sh + (-8)))] []) → G E C RX9 cX9_appendText zX9_appendText P 0 0 M2 35 [(0, .ref (ad E 20 0 0)), (1, .int x), (2, .int sh)] [] := by
    intro M2 L1 hl1 u1 f1 sh hsh hk
    obtain ⟨v1, v2, v3⟩ := u1
    refine G_iload_n dX9_appendText_35 rfl ?_
    refine G_if_lt (tgt := 71) dX9_appendText_36 (by decide) (fun c36 => ?_) (fun c36 => ?_)
    · exact absurd c36 hsh
    · refine G_aload_n dX9_appendText_39 rfl ?_
      refine gf_X9_20 dX9_appendText_40  ?_
      refine G_aload_n dX9_appendText_43 rfl ?_
      refine gf_X9_155 dX9_appendText_44  ?_
      refine G_iload_n dX9_appendText_47 rfl ?_
      refine G_iload_n dX9_appendText_48 rfl ?_
      refine G_ishr dX9_appendText_49 ?_
      refine G_sipush (v := 255) dX9_appendText_50 (by decide) ?_
      refine G_iand dX9_appendText_53 ?_
      refine G_iast dX9_appendText_54 ⟨by decide, rfl, rfl⟩ (fun _ => rfl) v1 (show L1.length < 500 by omega) (by decide) ?_
      generalize (x >>> (sh &&& 31)) &&& 255 = y at hk ⊢
      refine G_aload_n dX9_appendText_55 rfl ?_
      refine G_dup dX9_appendText_56 rfl ?_
      refine gf_X9_155 dX9_appendText_57  ?_
      rw [show (M2.up 24 0 0 L1.length y).1 20 0 0 7 = nI L1.length from (up_nk (by decide)).trans v1]
      refine G_iconst (v := 1) dX9_appendText_60 (by decide) ?_
      refine G_iadd dX9_appendText_61 ?_
      rw [show nI L1.length + (1 : Int32) = nI (L1.length + 1) from nI_add _ 1]
      refine pf_X9_155 dX9_appendText_62  ?_
      refine G_iinc (v := (-8)) dX9_appendText_65 rfl (Nat.le_of_ble_eq_true rfl) (by decide) ?_
      refine G_goto (tgt := 35) dX9_appendText_68 (by decide) ?_
      refine G_lv2 (hk _ ⟨?_, by rw [List.length_append]; show L1.length + 1 ≤ 500; omega, fun k hk => ?_⟩ (f1.upB.upA)) ⟨rfl, rfl, rfl, trivial⟩
      · rw [List.length_append]
        exact up_at
      · rw [List.length_append] at hk
        have hk : k < L1.length + 1 := hk
        rw [getD_app, up_nk (by decide)]
        by_cases q : k = L1.length
        · rw [if_pos q, q]
          exact up_at
        · rw [if_neg q, up_nt q]
          exact v3 k (by omega)
  refine G_bipush (v := 24) dX9_appendText_32 (by decide) ?_
  refine G_istore_n dX9_appendText_34 (Nat.le_of_ble_eq_true rfl) ?_
  refine G_lv2 (key M1 g.L (by omega) ⟨t1, t2, t3⟩ Fq.rfl 24 (by decide) (fun M2 u2 f2 => ?_)) ⟨rfl, rfl, rfl, trivial⟩
  refine key M2 _ (by simp; omega) u2 f2 16 (by decide) (fun M3 u3 f3 => ?_)
  refine key M3 _ (by simp; omega) u3 f3 8 (by decide) (fun M4 u4 f4 => ?_)
  refine key M4 _ (by simp; omega) u4 f4 0 (by decide) (fun M5 u5 f5 => ?_)
  rw [List.append_assoc, List.append_assoc, List.append_assoc, shE x 24 24 (by decide) (by decide) (by decide), shE x 16 16 (by decide) (by decide) (by decide), shE x 8 8 (by decide) (by decide) (by decide), shE x 0 0 (by decide) (by decide) (by decide)] at u5
  have u5' : MT M5 (g.L ++ by4 x) := u5
  refine G_iload_n dX9_appendText_35 rfl ?_
  refine G_if_lt (tgt := 71) dX9_appendText_36 (by decide) (fun c36 => ?_) (fun c36 => ?_)
  · refine G_aload_n dX9_appendText_71 rfl ?_
    refine gf_X9_155 dX9_appendText_72  ?_
    rw [u5'.1]
    refine G_iret dX9_appendText_75 rfl rfl (Nat.le_of_ble_eq_true rfl) (Nat.le_of_ble_eq_true rfl) ?_
    refine h M5 _ (hG1.tx f5 u5') (hF.trans (f5.mo (by decide))) ((f5.2 20 0 0 5 (fun q => absurd q.2 (by decide)) (by decide)).trans hT) (fun _ => ?_)
    rw [List.length_append]
    rfl
  · exact absurd (show (0 : Int32) + (-8) < 0 by decide) c36
theorem m_truncateText {x : Int32} (hG : MG M g) (hO : Okg g) (h : ∀ M' v, MG M' (qTrunc g x).1 → Fm M M' → M'.1 20 0 0 5 = nI (qTrunc g x).2.1 → ((qTrunc g x).2.1 = 0 → v = (qTrunc g x).2.2) → P (.inl (some (.int v))) M') : Sp E yX9_truncateText cX9_truncateText zX9_truncateText [.ref (ad E 20 0 0), .int x] M P := by
  unfold qTrunc at h
  refine Sp_of (own := RX9) (by decide) rfl rfl (Nat.le_of_ble_eq_true rfl) (fun C => ?_)
  refine G_aload_n dX9_truncateText_0 rfl ?_
  refine G_iconst (v := 0) dX9_truncateText_1 (by decide) ?_
  refine pf_X9_41 dX9_truncateText_2  ?_
  have hG1 : MG (M.up 20 0 0 5 0) g := hG.thr
  have hT : (M.up 20 0 0 5 0).1 20 0 0 5 = 0 := up_at
  have hF : Fm M (M.up 20 0 0 5 0) := Fm.rfl.up ⟨by decide, by decide⟩
  generalize M.up 20 0 0 5 0 = M1 at hG1 hT hF ⊢
  have hR := hG1.1
  have hA := hG1.2.1
  have h12 := hA.n12
  obtain ⟨t1, t2, t3⟩ := hG1.2.2.2.2.2.1
  refine G_aload_n dX9_truncateText_5 rfl ?_
  refine G_iload_n dX9_truncateText_6 rfl ?_
  refine G_iconst (v := 0) dX9_truncateText_7 (by decide) ?_
  refine G_aload_n dX9_truncateText_8 rfl ?_
  refine gf_X9_155 dX9_truncateText_9  ?_
  rw [t1]
  refine cv_X9_162 (cs' := 0) (ss' := 0) dX9_truncateText_12  (Nat.le_of_ble_eq_true rfl) (Nat.le_of_ble_eq_true rfl) (Nat.le_of_ble_eq_true rfl) rfl rfl (Nat.le_of_ble_eq_true rfl) (Nat.le_of_ble_eq_true rfl) rfl ?_
  refine s_X9_in (hGo_i ?_)
  by_cases q00 : inR x 0 (nI g.L.length)
  rotate_left
  · rw [if_neg q00] at h ⊢
    refine G_iconst (v := 1) dX9_truncateText_15 (by decide) ?_
    refine cv_X9_158 (cs' := 0) (ss' := 0) dX9_truncateText_16  (Nat.le_of_ble_eq_true rfl) (Nat.le_of_ble_eq_true rfl) (Nat.le_of_ble_eq_true rfl) rfl rfl (Nat.le_of_ble_eq_true rfl) (Nat.le_of_ble_eq_true rfl) rfl ?_
    refine s_X9_holds0 hT (by decide) (hGo_i ?_)
    refine G_if_ne (tgt := 24) dX9_truncateText_19 (by decide) (fun c19 => ?_) (fun c19 => ?_)
    · exact absurd rfl c19
    · refine G_iconst (v := 0) dX9_truncateText_22 (by decide) ?_
      refine G_iret dX9_truncateText_23 rfl rfl (Nat.le_of_ble_eq_true rfl) (Nat.le_of_ble_eq_true rfl) ?_
      exact h _ _ hG1.thr (hF.up ⟨by decide, by decide⟩) up_at (fun z => absurd z (Nat.succ_ne_zero _))
  rw [if_pos q00] at h ⊢
  obtain ⟨n, -, hn, rfl, en⟩ := inR_ix (i := 0) (k := g.L.length) (by omega) (by omega) q00
  rw [en] at h
  refine G_iconst (v := 1) dX9_truncateText_15 (by decide) ?_
  refine cv_X9_158 (cs' := 0) (ss' := 0) dX9_truncateText_16  (Nat.le_of_ble_eq_true rfl) (Nat.le_of_ble_eq_true rfl) (Nat.le_of_ble_eq_true rfl) rfl rfl (Nat.le_of_ble_eq_true rfl) (Nat.le_of_ble_eq_true rfl) rfl ?_
  refine s_X9_holds1 hT (hGo_i ?_)
  refine G_if_ne (tgt := 24) dX9_truncateText_19 (by decide) (fun c19 => ?_) (fun c19 => ?_)
  rotate_left
  · exact absurd c19 (by decide)
  refine G_aload_n dX9_truncateText_24 rfl ?_
  refine G_iload_n dX9_truncateText_25 rfl ?_
  refine pf_X9_155 dX9_truncateText_26  ?_
  refine G_iload_n dX9_truncateText_29 rfl ?_
  refine G_iret dX9_truncateText_30 rfl rfl (Nat.le_of_ble_eq_true rfl) (Nat.le_of_ble_eq_true rfl) ?_
  have f1 : Fq 7 24 M1 (M1.up 20 0 0 7 (nI n)) := Fq.rfl.upA
  refine h _ _ (hG1.tx f1 ⟨?_, by rw [List.length_take]; omega, fun k hk => ?_⟩) (hF.trans (f1.mo (by decide))) ((f1.2 20 0 0 5 (fun q => absurd q.2 (by decide)) (by decide)).trans hT) (fun _ => rfl)
  · rw [List.length_take, Nat.min_eq_left hn]
    exact up_at
  · rw [List.length_take] at hk
    rw [up_nk (by decide), t3 k (by omega), List.getD_eq_getElem?_getD, List.getD_eq_getElem?_getD, List.getElem?_take, if_pos (by omega)]
theorem m_undo (hG : MG M g) (hO : Okg g) (h : ∀ M', MG M' (sUndo g).1 → Fm M M' → M'.1 20 0 0 5 = 0 → P (.inl (some (.int (sUndo g).2))) M') : Sp E yX9_undo cX9_undo zX9_undo [.ref (ad E 20 0 0)] M P := by
  unfold sUndo at h
  refine Sp_of (own := RX9) (by decide) rfl rfl (Nat.le_of_ble_eq_true rfl) (fun C => ?_)
  refine G_aload_n dX9_undo_0 rfl ?_
  refine G_iconst (v := 0) dX9_undo_1 (by decide) ?_
  refine pf_X9_41 dX9_undo_2  ?_
  have hG1 : MG (M.up 20 0 0 5 0) g := hG.thr
  have hT : (M.up 20 0 0 5 0).1 20 0 0 5 = 0 := up_at
  have hF : Fm M (M.up 20 0 0 5 0) := Fm.rfl.up ⟨by decide, by decide⟩
  generalize M.up 20 0 0 5 0 = M1 at hG1 hT hF ⊢
  have hR := hG1.1
  have hA := hG1.2.1
  have h12 := hA.n12
  have eU : M1.1 20 0 0 4 = nI g.U.length := hG1.2.2.1.2.1
  have lU := hG1.2.2.1.1
  refine G_aload_n dX9_undo_5 rfl ?_
  refine gf_X9_234 dX9_undo_6  ?_
  rw [eU]
  refine G_if_ne (tgt := 14) dX9_undo_9 (by decide) (fun c9 => ?_) (fun c9 => ?_)
  rotate_left
  · rw [if_pos ((nI_eq (b := 0) (by omega) (by decide)).mp c9)] at h
    refine G_iconst (v := (-1)) dX9_undo_12 (by decide) ?_
    refine G_iret dX9_undo_13 rfl rfl (Nat.le_of_ble_eq_true rfl) (Nat.le_of_ble_eq_true rfl) ?_
    exact h M1 hG1 hF hT
  have q : ¬ g.U.length = 0 := fun z => c9 (by rw [z]; rfl)
  rw [if_neg q] at h
  refine G_aload_n dX9_undo_14 rfl ?_
  refine G_dup dX9_undo_15 rfl ?_
  refine gf_X9_234 dX9_undo_16  ?_
  rw [eU]
  refine G_iconst (v := 1) dX9_undo_19 (by decide) ?_
  refine G_isub dX9_undo_20 ?_
  rw [show nI g.U.length - (1 : Int32) = nI (g.U.length - 1) from nI_subN (a := 1) (by omega)]
  refine pf_X9_234 dX9_undo_21  ?_
  refine G_aload_n dX9_undo_24 rfl ?_
  refine G_iconst (v := 1) dX9_undo_25 (by decide) ?_
  refine G_aload_n dX9_undo_26 rfl ?_
  refine gf_X9_234 dX9_undo_27  ?_
  rw [show (M1.up 20 0 0 4 (nI (g.U.length - 1))).1 20 0 0 4 = nI (g.U.length - 1) from up_at]
  refine G_iadd dX9_undo_30 ?_
  rw [show (1 : Int32) + nI (g.U.length - 1) = nI (1 + (g.U.length - 1)) from nI_add 1 _]
  refine G_iconst (v := 0) dX9_undo_31 (by decide) ?_
  refine cv_X9_152 (cs' := 0) (ss' := 0) dX9_undo_32  (Nat.le_of_ble_eq_true rfl) (Nat.le_of_ble_eq_true rfl) (Nat.le_of_ble_eq_true rfl) rfl rfl (Nat.le_of_ble_eq_true rfl) (Nat.le_of_ble_eq_true rfl) rfl ?_
  refine s_X9_copies (a := 1 + (g.U.length - 1)) (b' := 0) (by omega) (by decide) (by omega) (fun M2 e2 f2 => hGo_v ?_)
  refine G_aload_n dX9_undo_35 rfl ?_
  refine gf_X9_234 dX9_undo_36  ?_
  rw [show M2.1 20 0 0 4 = nI (g.U.length - 1) from (f2.k (by decide) 0 0 4).trans up_at]
  refine G_iret dX9_undo_39 rfl rfl (Nat.le_of_ble_eq_true rfl) (Nat.le_of_ble_eq_true rfl) ?_
  obtain ⟨a, b, ⟨c1, c2, c3⟩, d, r, ⟨i1, i2, i3⟩, ⟨j1, j2⟩, k1, k2, k3⟩ := hG1
  have e : ∀ k t, k ≠ 21 → k ≠ 20 → M2.1 k 0 0 t = M1.1 k 0 0 t := fun k t hk h2 => (f2.k hk 0 0 t).trans (up_nk h2)
  have e20 : ∀ t, t ≠ 4 → M2.1 20 0 0 t = M1.1 20 0 0 t := fun t ht => (f2.k (by decide) 0 0 t).trans (up_nt ht)
  have k21 : ∀ {r : Nat} {X : Ab}, r ≠ 0 → MR M1 r X → MR M2 r X := fun hr z => (z.keep (fun t => up_nk (by decide)) : MR (M1.up 20 0 0 4 (nI (g.U.length - 1))) _ _).fo f2 hr
  refine h M2 ⟨⟨(e20 3 (by decide)).trans a.1, a.2⟩, ?_, ⟨by show g.U.dropLast.length ≤ 6; rw [List.length_dropLast]; omega, ?_, fun i hi => ?_⟩, fun s hs => ?_, fun q r1 r2 => (e 23 q (by decide) (by decide)).trans (r q r1 r2), ⟨(e20 7 (by decide)).trans i1, i2, fun k hk => (e 24 k (by decide) (by decide)).trans (i3 k hk)⟩, ⟨(e20 8 (by decide)).trans j1, (e20 9 (by decide)).trans j2⟩, (e20 17 (by decide)).trans k1, k2, fun k hk => (e 26 k (by decide) (by decide)).trans (k3 k hk)⟩ ((Fo.mo f2 (hF.up ⟨by decide, by decide⟩))) ((e20 5 (by decide)).trans hT)
  · exact ((c3 (g.U.length - 1) (by omega)).keep (fun t => up_nk (by decide)) : MR (M1.up 20 0 0 4 (nI (g.U.length - 1))) _ _).ext e2
  · show _ = nI g.U.dropLast.length
    rw [List.length_dropLast]
    exact (f2.k (by decide) 0 0 4).trans up_at
  · have hi : i < g.U.dropLast.length := hi
    rw [List.length_dropLast] at hi
    show MR _ (1 + i) (ug g.U.dropLast i)
    rw [ug_dl hi]
    exact k21 (by omega) (c3 i (by omega))
  · rcases d s hs with ⟨x, y⟩ | ⟨B, x, y, z⟩
    · exact Or.inl ⟨x, (e 22 s (by decide) (by decide)).trans y⟩
    · exact Or.inr ⟨B, x, (e 22 s (by decide) (by decide)).trans y, k21 (by omega) z⟩
theorem m_save {x : Int32} (hG : MG M g) (hO : Okg g) (h : ∀ M', MG M' (qSave g x).1 → Fm M M' → M'.1 20 0 0 5 = nI (qSave g x).2.1 → P (.inl none) M') : Sp E yX9_save cX9_save zX9_save [.ref (ad E 20 0 0), .int x] M P := by
  unfold qSave at h
  refine Sp_of (own := RX9) (by decide) rfl rfl (Nat.le_of_ble_eq_true rfl) (fun C => ?_)
  refine G_aload_n dX9_save_0 rfl ?_
  refine G_iconst (v := 0) dX9_save_1 (by decide) ?_
  refine pf_X9_41 dX9_save_2  ?_
  have hG1 : MG (M.up 20 0 0 5 0) g := hG.thr
  have hT : (M.up 20 0 0 5 0).1 20 0 0 5 = 0 := up_at
  have hF : Fm M (M.up 20 0 0 5 0) := Fm.rfl.up ⟨by decide, by decide⟩
  generalize M.up 20 0 0 5 0 = M1 at hG1 hT hF ⊢
  have hR := hG1.1
  have hA := hG1.2.1
  have h12 := hA.n12
  refine G_aload_n dX9_save_5 rfl ?_
  refine G_iload_n dX9_save_6 rfl ?_
  refine G_iconst (v := 0) dX9_save_7 (by decide) ?_
  refine G_iconst (v := 1) dX9_save_8 (by decide) ?_
  refine cv_X9_162 (cs' := 0) (ss' := 0) dX9_save_9  (Nat.le_of_ble_eq_true rfl) (Nat.le_of_ble_eq_true rfl) (Nat.le_of_ble_eq_true rfl) rfl rfl (Nat.le_of_ble_eq_true rfl) (Nat.le_of_ble_eq_true rfl) rfl ?_
  refine s_X9_in (hGo_i ?_)
  by_cases q00 : inR x 0 1
  rotate_left
  · rw [if_neg q00] at h ⊢
    refine G_iconst (v := 1) dX9_save_12 (by decide) ?_
    refine cv_X9_158 (cs' := 0) (ss' := 0) dX9_save_13  (Nat.le_of_ble_eq_true rfl) (Nat.le_of_ble_eq_true rfl) (Nat.le_of_ble_eq_true rfl) rfl rfl (Nat.le_of_ble_eq_true rfl) (Nat.le_of_ble_eq_true rfl) rfl ?_
    refine s_X9_holds0 hT (by decide) (hGo_i ?_)
    refine G_if_ne (tgt := 20) dX9_save_16 (by decide) (fun c16 => ?_) (fun c16 => ?_)
    · exact absurd rfl c16
    · refine G_vret dX9_save_19 rfl (Nat.le_of_ble_eq_true rfl) (Nat.le_of_ble_eq_true rfl) ?_
      exact h _ hG1.thr (hF.up ⟨by decide, by decide⟩) up_at
  rw [if_pos q00] at h ⊢
  obtain ⟨s, -, hs, rfl, es⟩ := inR_ix (i := 0) (k := 1) (by decide) (by decide) q00
  rw [es] at h
  refine G_iconst (v := 1) dX9_save_12 (by decide) ?_
  refine cv_X9_158 (cs' := 0) (ss' := 0) dX9_save_13  (Nat.le_of_ble_eq_true rfl) (Nat.le_of_ble_eq_true rfl) (Nat.le_of_ble_eq_true rfl) rfl rfl (Nat.le_of_ble_eq_true rfl) (Nat.le_of_ble_eq_true rfl) rfl ?_
  refine s_X9_holds1 hT (hGo_i ?_)
  refine G_if_ne (tgt := 20) dX9_save_16 (by decide) (fun c16 => ?_) (fun c16 => ?_)
  rotate_left
  · exact absurd c16 (by decide)
  refine G_aload_n dX9_save_20 rfl ?_
  refine G_iconst (v := 0) dX9_save_21 (by decide) ?_
  refine G_bipush (v := 7) dX9_save_22 (by decide) ?_
  refine G_iload_n dX9_save_24 rfl ?_
  refine G_iadd dX9_save_25 ?_
  rw [show (7 : Int32) + nI s = nI (7 + s) from nI_add 7 s]
  refine cv_X9_152 (cs' := 0) (ss' := 0) dX9_save_26  (Nat.le_of_ble_eq_true rfl) (Nat.le_of_ble_eq_true rfl) (Nat.le_of_ble_eq_true rfl) rfl rfl (Nat.le_of_ble_eq_true rfl) (Nat.le_of_ble_eq_true rfl) rfl ?_
  refine s_X9_copies (a := 0) (b' := 7 + s) (by decide) (by omega) (by omega) (fun M2 e2 f2 => hGo_v ?_)
  refine G_aload_n dX9_save_29 rfl ?_
  refine gf_X9_13 dX9_save_30  ?_
  refine G_iload_n dX9_save_33 rfl ?_
  refine G_iconst (v := 1) dX9_save_34 (by decide) ?_
  refine G_zast dX9_save_35 ⟨by decide, rfl, rfl⟩ (fun _ => rfl) rfl (show s < 2 by omega) (by decide) ?_
  refine G_vret dX9_save_36 rfl (Nat.le_of_ble_eq_true rfl) (Nat.le_of_ble_eq_true rfl) ?_
  obtain ⟨a, b, ⟨c1, c2, c3⟩, d, r, ⟨i1, i2, i3⟩, ⟨j1, j2⟩, k1, k2, k3⟩ := hG1
  have e : ∀ k t, k ≠ 21 → k ≠ 22 → (M2.up 22 0 0 s (vp_nar .boolean 1)).1 k 0 0 t = M1.1 k 0 0 t := fun k t hk h2 => (up_nk h2).trans (f2.k hk 0 0 t)
  have kk : ∀ {r : Nat} {X : Ab}, MR M2 r X → MR (M2.up 22 0 0 s (vp_nar .boolean 1)) r X := fun z => z.keep (fun t => up_nk (by decide))
  refine h _ ⟨⟨(e 20 3 (by decide) (by decide)).trans a.1, a.2⟩, kk (b.fo f2 (by omega)), ⟨c1, (e 20 4 (by decide) (by decide)).trans c2, fun i hi => kk ((c3 i hi).fo f2 (by have hi : i < g.U.length := hi; omega))⟩, fun t ht => ?_, fun q r1 r2 => (e 23 q (by decide) (by decide)).trans (r q r1 r2), ⟨(e 20 7 (by decide) (by decide)).trans i1, i2, fun k hk => (e 24 k (by decide) (by decide)).trans (i3 k hk)⟩, ⟨(e 20 8 (by decide) (by decide)).trans j1, (e 20 9 (by decide) (by decide)).trans j2⟩, (e 20 17 (by decide) (by decide)).trans k1, k2, fun k hk => (e 26 k (by decide) (by decide)).trans (k3 k hk)⟩ ((Fo.mo f2 hF).up ⟨by decide, by decide, by decide, fun z => absurd z (by decide)⟩) ((e 20 5 (by decide) (by decide)).trans hT)
  by_cases q : t = s
  · subst q
    exact Or.inr ⟨g.A, if_pos rfl, up_at, kk (b.ext e2)⟩
  · have e22 : (M2.up 22 0 0 s (vp_nar .boolean 1)).1 22 0 0 t = M1.1 22 0 0 t := (up_nt q).trans (f2.k (by decide) 0 0 t)
    have eS : (setS g s).S t = g.S t := if_neg q
    rcases d t ht with ⟨x, y⟩ | ⟨B, x, y, z⟩
    · exact Or.inl ⟨eS.trans x, e22.trans y⟩
    · exact Or.inr ⟨B, eS.trans x, e22.trans y, kk (z.fo f2 (by omega))⟩
theorem m_restore {x : Int32} (hG : MG M g) (hO : Okg g) (h : ∀ M', MG M' (qRestore g x).1 → Fm M M' → M'.1 20 0 0 5 = nI (qRestore g x).2.1 → P (.inl none) M') : Sp E yX9_restore cX9_restore zX9_restore [.ref (ad E 20 0 0), .int x] M P := by
  unfold qRestore at h
  refine Sp_of (own := RX9) (by decide) rfl rfl (Nat.le_of_ble_eq_true rfl) (fun C => ?_)
  refine G_aload_n dX9_restore_0 rfl ?_
  refine G_iconst (v := 0) dX9_restore_1 (by decide) ?_
  refine pf_X9_41 dX9_restore_2  ?_
  have hG1 : MG (M.up 20 0 0 5 0) g := hG.thr
  have hT : (M.up 20 0 0 5 0).1 20 0 0 5 = 0 := up_at
  have hF : Fm M (M.up 20 0 0 5 0) := Fm.rfl.up ⟨by decide, by decide⟩
  generalize M.up 20 0 0 5 0 = M1 at hG1 hT hF ⊢
  have hR := hG1.1
  have hA := hG1.2.1
  have h12 := hA.n12
  refine G_iload_n dX9_restore_5 rfl ?_
  refine G_iconst (v := 0) dX9_restore_6 (by decide) ?_
  refine G_iconst (v := 1) dX9_restore_7 (by decide) ?_
  refine cv_X9_162 (cs' := 0) (ss' := 0) dX9_restore_8  (Nat.le_of_ble_eq_true rfl) (Nat.le_of_ble_eq_true rfl) (Nat.le_of_ble_eq_true rfl) rfl rfl (Nat.le_of_ble_eq_true rfl) (Nat.le_of_ble_eq_true rfl) rfl ?_
  refine s_X9_in (hGo_i ?_)
  by_cases q00 : inR x 0 1
  rotate_left
  · rw [if_neg q00] at h ⊢
    refine G_istore_n dX9_restore_11 (Nat.le_of_ble_eq_true rfl) ?_
    refine G_aload_n dX9_restore_12 rfl ?_
    refine G_iload_n dX9_restore_13 rfl ?_
    refine G_iconst (v := 1) dX9_restore_14 (by decide) ?_
    refine cv_X9_158 (cs' := 0) (ss' := 0) dX9_restore_15  (Nat.le_of_ble_eq_true rfl) (Nat.le_of_ble_eq_true rfl) (Nat.le_of_ble_eq_true rfl) rfl rfl (Nat.le_of_ble_eq_true rfl) (Nat.le_of_ble_eq_true rfl) rfl ?_
    refine s_X9_holds0 hT (by decide) (hGo_i ?_)
    refine G_if_eq (tgt := 35) dX9_restore_18 (by decide) (fun c18 => ?_) (fun c18 => ?_)
    · refine G_vret dX9_restore_35 rfl (Nat.le_of_ble_eq_true rfl) (Nat.le_of_ble_eq_true rfl) ?_
      exact h _ hG1.thr (hF.up ⟨by decide, by decide⟩) up_at
    · exact absurd rfl c18
  rw [if_pos q00] at h ⊢
  obtain ⟨s, -, hs, rfl, es⟩ := inR_ix (i := 0) (k := 1) (by decide) (by decide) q00
  rw [es] at h
  refine G_istore_n dX9_restore_11 (Nat.le_of_ble_eq_true rfl) ?_
  refine G_aload_n dX9_restore_12 rfl ?_
  refine G_iload_n dX9_restore_13 rfl ?_
  refine G_iconst (v := 1) dX9_restore_14 (by decide) ?_
  refine cv_X9_158 (cs' := 0) (ss' := 0) dX9_restore_15  (Nat.le_of_ble_eq_true rfl) (Nat.le_of_ble_eq_true rfl) (Nat.le_of_ble_eq_true rfl) rfl rfl (Nat.le_of_ble_eq_true rfl) (Nat.le_of_ble_eq_true rfl) rfl ?_
  refine s_X9_holds1 hT (hGo_i ?_)
  refine G_if_eq (tgt := 35) dX9_restore_18 (by decide) (fun c18 => ?_) (fun c18 => ?_)
  · exact absurd c18 (by decide)
  refine G_aload_n dX9_restore_21 rfl ?_
  refine G_aload_n dX9_restore_22 rfl ?_
  refine gf_X9_13 dX9_restore_23  ?_
  refine G_iload_n dX9_restore_26 rfl ?_
  refine G_zald dX9_restore_27 ⟨by decide, rfl, rfl⟩ rfl rfl (show s < 2 by omega) (by decide) ?_
  rcases hG1.2.2.2.1 s (by omega) with ⟨x1, x2⟩ | ⟨B, x1, x2, x3⟩
  · rw [x1] at h
    rw [x2]
    refine G_iconst (v := 2) dX9_restore_28 (by decide) ?_
    refine cv_X9_158 (cs' := 0) (ss' := 0) dX9_restore_29  (Nat.le_of_ble_eq_true rfl) (Nat.le_of_ble_eq_true rfl) (Nat.le_of_ble_eq_true rfl) rfl rfl (Nat.le_of_ble_eq_true rfl) (Nat.le_of_ble_eq_true rfl) rfl ?_
    refine s_X9_holds0 hT (by decide) (hGo_i ?_)
    refine G_if_ne (tgt := 36) dX9_restore_32 (by decide) (fun c32 => ?_) (fun c32 => ?_)
    · exact absurd rfl c32
    · refine G_vret dX9_restore_35 rfl (Nat.le_of_ble_eq_true rfl) (Nat.le_of_ble_eq_true rfl) ?_
      exact h _ hG1.thr (hF.up ⟨by decide, by decide⟩) up_at
  · rw [x1] at h
    rw [x2]
    refine G_iconst (v := 2) dX9_restore_28 (by decide) ?_
    refine cv_X9_158 (cs' := 0) (ss' := 0) dX9_restore_29  (Nat.le_of_ble_eq_true rfl) (Nat.le_of_ble_eq_true rfl) (Nat.le_of_ble_eq_true rfl) rfl rfl (Nat.le_of_ble_eq_true rfl) (Nat.le_of_ble_eq_true rfl) rfl ?_
    refine s_X9_holds1 hT (hGo_i ?_)
    refine G_if_ne (tgt := 36) dX9_restore_32 (by decide) (fun c32 => ?_) (fun c32 => ?_)
    rotate_left
    · exact absurd c32 (by decide)
    refine G_aload_n dX9_restore_36 rfl ?_
    refine G_bipush (v := 7) dX9_restore_37 (by decide) ?_
    refine G_iload_n dX9_restore_39 rfl ?_
    refine G_iadd dX9_restore_40 ?_
    rw [show (7 : Int32) + nI s = nI (7 + s) from nI_add 7 s]
    refine G_iconst (v := 0) dX9_restore_41 (by decide) ?_
    refine cv_X9_152 (cs' := 0) (ss' := 0) dX9_restore_42  (Nat.le_of_ble_eq_true rfl) (Nat.le_of_ble_eq_true rfl) (Nat.le_of_ble_eq_true rfl) rfl rfl (Nat.le_of_ble_eq_true rfl) (Nat.le_of_ble_eq_true rfl) rfl ?_
    refine s_X9_copies (a := 7 + s) (b' := 0) (by omega) (by decide) (by omega) (fun M2 e2 f2 => hGo_v ?_)
    refine G_aload_n dX9_restore_45 rfl ?_
    refine G_iconst (v := 0) dX9_restore_46 (by decide) ?_
    refine pf_X9_234 dX9_restore_47  ?_
    refine G_vret dX9_restore_50 rfl (Nat.le_of_ble_eq_true rfl) (Nat.le_of_ble_eq_true rfl) ?_
    obtain ⟨a, b, ⟨c1, c2, c3⟩, d, r, ⟨i1, i2, i3⟩, ⟨j1, j2⟩, k1, k2, k3⟩ := hG1
    have e : ∀ k t, k ≠ 21 → k ≠ 20 → (M2.up 20 0 0 4 0).1 k 0 0 t = M1.1 k 0 0 t := fun k t hk h2 => (up_nk h2).trans (f2.k hk 0 0 t)
    have e20 : ∀ t, t ≠ 4 → (M2.up 20 0 0 4 0).1 20 0 0 t = M1.1 20 0 0 t := fun t ht => (up_nt ht).trans (f2.k (by decide) 0 0 t)
    have kk : ∀ {r : Nat} {X : Ab}, MR M2 r X → MR (M2.up 20 0 0 4 0) r X := fun z => z.keep (fun t => up_nk (by decide))
    refine h _ ⟨⟨(e20 3 (by decide)).trans a.1, a.2⟩, kk (x3.ext e2), ⟨Nat.zero_le _, up_at, fun i hi => absurd hi (Nat.not_lt_zero i)⟩, fun t ht => ?_, fun q r1 r2 => (e 23 q (by decide) (by decide)).trans (r q r1 r2), ⟨(e20 7 (by decide)).trans i1, i2, fun k hk => (e 24 k (by decide) (by decide)).trans (i3 k hk)⟩, ⟨(e20 8 (by decide)).trans j1, (e20 9 (by decide)).trans j2⟩, (e20 17 (by decide)).trans k1, k2, fun k hk => (e 26 k (by decide) (by decide)).trans (k3 k hk)⟩ ((Fo.mo f2 hF).up ⟨by decide, by decide⟩) ((e20 5 (by decide)).trans hT)
    rcases d t ht with ⟨x, y⟩ | ⟨B, x, y, z⟩
    · exact Or.inl ⟨x, (e 22 t (by decide) (by decide)).trans y⟩
    · exact Or.inr ⟨B, x, (e 22 t (by decide) (by decide)).trans y, kk (z.fo f2 (by omega))⟩
theorem m_errorCode (hG : MG M g) (h : ∀ M', MG M' g → Fm M M' → M'.1 20 0 0 5 = 0 → P (.inl (some (.int g.e.1))) M') : Sp E yX9_errorCode cX9_errorCode zX9_errorCode [.ref (ad E 20 0 0)] M P := by
  refine Sp_of (own := RX9) (by decide) rfl rfl (Nat.le_of_ble_eq_true rfl) (fun C => ?_)
  refine G_aload_n dX9_errorCode_0 rfl ?_
  refine G_iconst (v := 0) dX9_errorCode_1 (by decide) ?_
  refine pf_X9_41 dX9_errorCode_2  ?_
  have hG1 : MG (M.up 20 0 0 5 0) g := hG.thr
  have hT : (M.up 20 0 0 5 0).1 20 0 0 5 = 0 := up_at
  have hF : Fm M (M.up 20 0 0 5 0) := Fm.rfl.up ⟨by decide, by decide⟩
  generalize M.up 20 0 0 5 0 = M1 at hG1 hT hF ⊢
  have hR := hG1.1
  have hA := hG1.2.1
  have h12 := hA.n12
  refine G_aload_n dX9_errorCode_5 rfl ?_
  refine gf_X9_181 dX9_errorCode_6  ?_
  rw [hG1.2.2.2.2.2.2.1.1]
  refine G_iret dX9_errorCode_9 rfl rfl (Nat.le_of_ble_eq_true rfl) (Nat.le_of_ble_eq_true rfl) ?_
  exact h M1 hG1 hF hT
theorem m_errorPosition (hG : MG M g) (h : ∀ M', MG M' g → Fm M M' → M'.1 20 0 0 5 = 0 → P (.inl (some (.int g.e.2))) M') : Sp E yX9_errorPosition cX9_errorPosition zX9_errorPosition [.ref (ad E 20 0 0)] M P := by
  refine Sp_of (own := RX9) (by decide) rfl rfl (Nat.le_of_ble_eq_true rfl) (fun C => ?_)
  refine G_aload_n dX9_errorPosition_0 rfl ?_
  refine G_iconst (v := 0) dX9_errorPosition_1 (by decide) ?_
  refine pf_X9_41 dX9_errorPosition_2  ?_
  have hG1 : MG (M.up 20 0 0 5 0) g := hG.thr
  have hT : (M.up 20 0 0 5 0).1 20 0 0 5 = 0 := up_at
  have hF : Fm M (M.up 20 0 0 5 0) := Fm.rfl.up ⟨by decide, by decide⟩
  generalize M.up 20 0 0 5 0 = M1 at hG1 hT hF ⊢
  have hR := hG1.1
  have hA := hG1.2.1
  have h12 := hA.n12
  refine G_aload_n dX9_errorPosition_5 rfl ?_
  refine gf_X9_23 dX9_errorPosition_6  ?_
  rw [hG1.2.2.2.2.2.2.1.2]
  refine G_iret dX9_errorPosition_9 rfl rfl (Nat.le_of_ble_eq_true rfl) (Nat.le_of_ble_eq_true rfl) ?_
  exact h M1 hG1 hF hT
theorem m_thrown (h : P (.inl (some (.int (M.1 20 0 0 5)))) M) : Sp E yX9_thrown cX9_thrown zX9_thrown [.ref (ad E 20 0 0)] M P := by
  refine Sp_of (own := RX9) (by decide) rfl rfl (Nat.le_of_ble_eq_true rfl) (fun C => ?_)
  refine G_aload_n dX9_thrown_0 rfl ?_
  refine gf_X9_41 dX9_thrown_1  ?_
  refine G_iret dX9_thrown_4 rfl rfl (Nat.le_of_ble_eq_true rfl) (Nat.le_of_ble_eq_true rfl) ?_
  exact h
end MTXT
