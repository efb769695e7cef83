/-! ===== HomeworkBarterModel: words and numbers ===== -/
section MWRD
variable {E : Ed} {M M' M1 : Mm} {P : Res → Mm → Prop} {L : List Int32} {T : Tks} {c : Int32} {i : Nat}
theorem s_X9_must {b' c : Int32} (hT : TX M L T) (hc : c ≠ 0) (hb : b' = 0 ∨ b' = 1) (h : ∀ M', TX M' L (if b' = 0 then fai c T else T) → Fx M M' → P (.inl (some (.int (if (if b' = 0 then fai c T else T).code = 0 then 1 else 0)))) M') : Sp E yX9_must cX9_must zX9_must [.ref (ad E 20 0 0), .int b', .int c] M P := by
  obtain ⟨t1, t2, t3, t4, t5⟩ := id hT
  refine Sp_of (own := RX9) (by decide) rfl rfl (Nat.le_of_ble_eq_true rfl) (fun C => ?_)
  have g24 : ∀ M1, TX M1 L (if b' = 0 then fai c T else T) → Fx M M1 → ∀ lv, lvAll lv [(0, .ref (ad E 20 0 0))] → G E C RX9 cX9_must zX9_must P 0 0 M1 24 lv [] := fun M1 x1 f1 lv hlv => by
    refine G_lv hlv ?_
    have h := h M1 x1 f1
    refine G_aload_n dX9_must_24 rfl ?_
    refine gf_X9_181 dX9_must_25  ?_
    rw [x1.1]
    generalize (if b' = 0 then fai c T else T).code = k at h ⊢
    refine G_if_ne (tgt := 35) dX9_must_28 (by decide) (fun c28 => ?_) (fun c28 => ?_)
    · rw [if_neg c28] at h
      refine G_iconst (v := 0) dX9_must_35 (by decide) ?_
      refine G_iret dX9_must_36 rfl rfl (Nat.le_of_ble_eq_true rfl) (Nat.le_of_ble_eq_true rfl) ?_
      exact h
    · rw [if_pos c28] at h
      refine G_iconst (v := 1) dX9_must_31 (by decide) ?_
      refine G_goto (tgt := 36) dX9_must_32 (by decide) ?_
      refine G_iret dX9_must_36 rfl rfl (Nat.le_of_ble_eq_true rfl) (Nat.le_of_ble_eq_true rfl) ?_
      exact h
  refine G_aload_n dX9_must_0 rfl ?_
  refine gf_X9_181 dX9_must_1  ?_
  rw [t1]
  refine G_if_ne (tgt := 24) dX9_must_4 (by decide) (fun c4 => ?_) (fun c4 => ?_)
  · have e : (if b' = 0 then fai c T else T) = T := by
      split
      · exact fai_bad c4
      · rfl
    exact g24 M (by rw [e]; exact hT) Fx.rfl _ ⟨rfl, trivial⟩
  · refine G_iload_n dX9_must_7 rfl ?_
    refine G_if_ne (tgt := 24) dX9_must_8 (by decide) (fun c8 => ?_) (fun c8 => ?_)
    · exact g24 M (by rw [if_neg c8]; exact hT) Fx.rfl _ ⟨rfl, trivial⟩
    · refine G_aload_n dX9_must_11 rfl ?_
      refine G_iload_n dX9_must_12 rfl ?_
      refine pf_X9_181 dX9_must_13  ?_
      refine G_aload_n dX9_must_16 rfl ?_
      refine G_aload_n dX9_must_17 rfl ?_
      refine gf_X9_171 dX9_must_18  ?_
      rw [show (M.up 20 0 0 8 c).1 20 0 0 11 = nI T.start from (up_nt (by decide)).trans (t5 c4).2.1]
      refine pf_X9_23 dX9_must_21  ?_
      refine g24 _ ?_ ((Fx.rfl.up (by decide)).up (by decide)) _ ⟨rfl, trivial⟩
      have e : fai c T = (c, nI T.start, 4, T.start, T.stop, T.val) := if_pos c4
      rw [if_pos c8, e]
      exact ⟨(up_nt (by decide)).trans up_at, up_at, ⟨t3.1, t3.2.1, (show (4 : Nat) < 5 by decide)⟩, fun _ => rfl, fun z => absurd z hc⟩
theorem s_X9_isWord (hi : i < 33) (hX : MT M L) (hT : TX M L T) (h : P (.inl (some (.int (if isW L T (hSb2 i) then 1 else 0)))) M) : Sp E yX9_isWord cX9_isWord zX9_isWord [.ref (ad E 20 0 0), .ref (sK E i)] M P := by
  obtain ⟨t1, t2, t3, t4, t5⟩ := id hT
  have hl := (sch_all i hi).1
  have l5 := hX.2.1
  have h0 : ¬ isW L T (hSb2 i) → P (.inl (some (.int 0))) M := fun q => by rw [if_neg q] at h; exact h
  refine Sp_of (own := RX9) (by decide) rfl rfl (Nat.le_of_ble_eq_true rfl) (fun C => ?_)
  refine G_aload_n dX9_isWord_0 rfl ?_
  refine gf_X9_181 dX9_isWord_1  ?_
  rw [t1]
  refine G_if_ne (tgt := 31) dX9_isWord_4 (by decide) (fun c4 => ?_) (fun c4 => ?_)
  · refine G_iconst (v := 0) dX9_isWord_31 (by decide) ?_
    refine G_iret dX9_isWord_32 rfl rfl (Nat.le_of_ble_eq_true rfl) (Nat.le_of_ble_eq_true rfl) ?_
    exact h0 (fun q => absurd ((isW_iff.mp q).1.symm.trans (t4 c4)) (by decide))
  · obtain ⟨u1, u2, u3, -⟩ := t5 c4
    refine G_aload_n dX9_isWord_7 rfl ?_
    refine gf_X9_174 dX9_isWord_8  ?_
    rw [u1]
    refine G_iconst (v := 1) dX9_isWord_11 (by decide) ?_
    refine G_icmp_ne (tgt := 31) dX9_isWord_12 (by decide) (fun c12 => ?_) (fun c12 => ?_)
    · refine G_iconst (v := 0) dX9_isWord_31 (by decide) ?_
      refine G_iret dX9_isWord_32 rfl rfl (Nat.le_of_ble_eq_true rfl) (Nat.le_of_ble_eq_true rfl) ?_
      exact h0 (fun q => c12 (by rw [(isW_iff.mp q).1]; rfl))
    · have hk : T.kind = 1 := (nI_eq (b := 1) (by omega) (by decide)).mp c12
      refine G_aload_n dX9_isWord_15 rfl ?_
      refine gf_X9_165 dX9_isWord_16  ?_
      rw [u3]
      refine G_aload_n dX9_isWord_19 rfl ?_
      refine gf_X9_171 dX9_isWord_20  ?_
      rw [u2]
      refine G_isub dX9_isWord_23 ?_
      rw [nI_subN t3.1]
      refine G_aload_n dX9_isWord_24 rfl ?_
      refine cv_X9_184 dX9_isWord_25 hi (Nat.le_of_ble_eq_true rfl) (Nat.le_of_ble_eq_true rfl) (Nat.le_of_ble_eq_true rfl) (Nat.le_of_ble_eq_true rfl) (Nat.le_of_ble_eq_true rfl) rfl ?_
      refine G_icmp_eq (tgt := 33) dX9_isWord_28 (by decide) (fun c28 => ?_) (fun c28 => ?_)
      · have hst : T.stop = T.start + (hSb2 i).length := by
          have := (nI_eq (by omega) (by omega)).mp c28
          omega
        refine G_iconst (v := 0) dX9_isWord_33 (by decide) ?_
        refine G_istore_n dX9_isWord_34 (Nat.le_of_ble_eq_true rfl) ?_
        refine G_lv (lv' := [(0, .ref (ad E 20 0 0)), (1, .ref (sK E i)), (2, .int (nI 0))]) ⟨rfl, rfl, rfl, trivial⟩ ?_
        refine up0 (c := (hSb2 i).length) (H := fun a => (∀ k, k < a → L.getD (T.start + k) 0 = (hSb2 i).getD k 0) → G E C RX9 cX9_isWord zX9_isWord P 0 0 M 35 [(0, .ref (ad E 20 0 0)), (1, .ref (sK E i)), (2, .int (nI a))] []) (fun hall => ?_) (fun a ha ih hall => ?_) (fun k hk => absurd hk (Nat.not_lt_zero k))
        · rw [if_pos (isW_iff.mpr ⟨hk, hst, hall⟩)] at h
          refine G_iload_n dX9_isWord_35 rfl ?_
          refine G_aload_n dX9_isWord_36 rfl ?_
          refine cv_X9_184 dX9_isWord_37 hi (Nat.le_of_ble_eq_true rfl) (Nat.le_of_ble_eq_true rfl) (Nat.le_of_ble_eq_true rfl) (Nat.le_of_ble_eq_true rfl) (Nat.le_of_ble_eq_true rfl) rfl ?_
          refine G_icmp_ge (tgt := 70) dX9_isWord_40 (by decide) (fun c40 => ?_) (fun c40 => ?_)
          · refine G_iconst (v := 1) dX9_isWord_70 (by decide) ?_
            refine G_iret dX9_isWord_71 rfl rfl (Nat.le_of_ble_eq_true rfl) (Nat.le_of_ble_eq_true rfl) ?_
            exact h
          · exact absurd (Int32.le_refl _) c40
        · refine G_iload_n dX9_isWord_35 rfl ?_
          refine G_aload_n dX9_isWord_36 rfl ?_
          refine cv_X9_184 dX9_isWord_37 hi (Nat.le_of_ble_eq_true rfl) (Nat.le_of_ble_eq_true rfl) (Nat.le_of_ble_eq_true rfl) (Nat.le_of_ble_eq_true rfl) (Nat.le_of_ble_eq_true rfl) rfl ?_
          refine G_icmp_ge (tgt := 70) dX9_isWord_40 (by decide) (fun c40 => ?_) (fun c40 => ?_)
          · exact absurd c40 (nI_ge ha (by omega))
          · refine G_aload_n dX9_isWord_43 rfl ?_
            refine gf_X9_20 dX9_isWord_44  ?_
            refine G_aload_n dX9_isWord_47 rfl ?_
            refine gf_X9_171 dX9_isWord_48  ?_
            rw [u2]
            refine G_iload_n dX9_isWord_51 rfl ?_
            refine G_iadd dX9_isWord_52 ?_
            rw [nI_add]
            refine G_iald dX9_isWord_53 ⟨by decide, rfl, rfl⟩ rfl rfl (show T.start + a < 500 by omega) (by decide) ?_
            rw [hX.2.2 (T.start + a) (by omega)]
            refine G_aload_n dX9_isWord_54 rfl ?_
            refine G_iload_n dX9_isWord_55 rfl ?_
            refine cv_X9_189 dX9_isWord_56 hi ha rfl (Nat.le_of_ble_eq_true rfl) (Nat.le_of_ble_eq_true rfl) (Nat.le_of_ble_eq_true rfl) (Nat.le_of_ble_eq_true rfl) (Nat.le_of_ble_eq_true rfl) rfl ?_
            refine G_icmp_eq (tgt := 64) dX9_isWord_59 (by decide) (fun c59 => ?_) (fun c59 => ?_)
            · refine G_iinc (v := 1) dX9_isWord_64 rfl (Nat.le_of_ble_eq_true rfl) (by decide) ?_
              refine G_goto (tgt := 35) dX9_isWord_67 (by decide) ?_
              refine G_lv2 (ih (fun k hk2 => ?_)) ⟨rfl, rfl, lvi (nI_1 a), trivial⟩
              by_cases e : k = a
              · subst e
                exact c59
              · exact hall k (by omega)
            · refine G_iconst (v := 0) dX9_isWord_62 (by decide) ?_
              refine G_iret dX9_isWord_63 rfl rfl (Nat.le_of_ble_eq_true rfl) (Nat.le_of_ble_eq_true rfl) ?_
              exact h0 (fun q => c59 ((isW_iff.mp q).2.2 a ha))
      · refine G_iconst (v := 0) dX9_isWord_31 (by decide) ?_
        refine G_iret dX9_isWord_32 rfl rfl (Nat.le_of_ble_eq_true rfl) (Nat.le_of_ble_eq_true rfl) ?_
        exact h0 (fun q => c28 (by rw [(isW_iff.mp q).2.1]; exact congrArg nI (by omega)))
theorem s_X9_goesOn (hX : MT M L) (hT : TX M L T) (h : ∀ M', TX M' L (adv L T) → Fx M M' → P (.inl none) M') : Sp E yX9_goesOn cX9_goesOn zX9_goesOn [.ref (ad E 20 0 0)] M P := by
  obtain ⟨t1, t2, t3, t4, t5⟩ := id hT
  unfold adv at h
  refine Sp_of (own := RX9) (by decide) rfl rfl (Nat.le_of_ble_eq_true rfl) (fun C => ?_)
  refine G_aload_n dX9_goesOn_0 rfl ?_
  refine gf_X9_181 dX9_goesOn_1  ?_
  rw [t1]
  refine G_if_ne (tgt := 11) dX9_goesOn_4 (by decide) (fun c4 => ?_) (fun c4 => ?_)
  · rw [if_neg c4] at h
    refine G_vret dX9_goesOn_11 rfl (Nat.le_of_ble_eq_true rfl) (Nat.le_of_ble_eq_true rfl) ?_
    exact h M hT Fx.rfl
  · rw [if_pos c4] at h
    refine G_aload_n dX9_goesOn_7 rfl ?_
    refine cv_X9_193 (cs' := 0) (ss' := 0) dX9_goesOn_8  (Nat.le_of_ble_eq_true rfl) (Nat.le_of_ble_eq_true rfl) (Nat.le_of_ble_eq_true rfl) rfl rfl (Nat.le_of_ble_eq_true rfl) (Nat.le_of_ble_eq_true rfl) rfl ?_
    refine s_X9_next0 hX t1 t2 c4 (t5 c4).2.2.1 t3.2.1 (fun M1 x1 f1 => hGo_v ?_)
    refine G_vret dX9_goesOn_11 rfl (Nat.le_of_ble_eq_true rfl) (Nat.le_of_ble_eq_true rfl) ?_
    exact h M1 x1 f1
theorem s_X9_mustWord (hi : i < 33) (hX : MT M L) (hT : TX M L T) (h : ∀ M', TX M' L (tkW L (hSb2 i) T) → Fx M M' → P (.inl none) M') : Sp E yX9_mustWord cX9_mustWord zX9_mustWord [.ref (ad E 20 0 0), .ref (sK E i)] M P := by
  unfold tkW at h
  refine Sp_of (own := RX9) (by decide) rfl rfl (Nat.le_of_ble_eq_true rfl) (fun C => ?_)
  refine G_aload_n dX9_mustWord_0 rfl ?_
  refine G_aload_n dX9_mustWord_1 rfl ?_
  refine G_aload_n dX9_mustWord_2 rfl ?_
  refine cv_X9_196 (cs' := 0) (ss' := 0) dX9_mustWord_3  (Nat.le_of_ble_eq_true rfl) (Nat.le_of_ble_eq_true rfl) (Nat.le_of_ble_eq_true rfl) rfl rfl (Nat.le_of_ble_eq_true rfl) (Nat.le_of_ble_eq_true rfl) rfl ?_
  refine s_X9_isWord hi hX hT (hGo_i ?_)
  refine G_iconst (v := 1) dX9_mustWord_6 (by decide) ?_
  refine cv_X9_200 (cs' := 0) (ss' := 0) dX9_mustWord_7  (Nat.le_of_ble_eq_true rfl) (Nat.le_of_ble_eq_true rfl) (Nat.le_of_ble_eq_true rfl) rfl rfl (Nat.le_of_ble_eq_true rfl) (Nat.le_of_ble_eq_true rfl) rfl ?_
  refine s_X9_must hT (by decide) (by split <;> simp) (fun M1 x1 f1 => hGo_i ?_)
  have x1 : TX M1 L (if isW L T (hSb2 i) then T else fai 1 T) := by
    by_cases q : isW L T (hSb2 i)
    · rw [if_pos q] at x1 ⊢
      exact x1
    · rw [if_neg q] at x1 ⊢
      exact x1
  refine G_pop dX9_mustWord_10 rfl ?_
  refine G_aload_n dX9_mustWord_11 rfl ?_
  refine cv_X9_203 (cs' := 0) (ss' := 0) dX9_mustWord_12  (Nat.le_of_ble_eq_true rfl) (Nat.le_of_ble_eq_true rfl) (Nat.le_of_ble_eq_true rfl) rfl rfl (Nat.le_of_ble_eq_true rfl) (Nat.le_of_ble_eq_true rfl) rfl ?_
  refine s_X9_goesOn (hX.fx f1) x1 (fun M2 x2 f2 => hGo_v ?_)
  refine G_vret dX9_mustWord_15 rfl (Nat.le_of_ble_eq_true rfl) (Nat.le_of_ble_eq_true rfl) ?_
  exact h M2 x2 (f1.trans f2)
theorem s_X9_endsLine (hX : MT M L) (hT : TX M L T) (h : ∀ M', TX M' L (tkS L T) → Fx M M' → P (.inl none) M') : Sp E yX9_endsLine cX9_endsLine zX9_endsLine [.ref (ad E 20 0 0)] M P := by
  unfold tkS at h
  refine Sp_of (own := RX9) (by decide) rfl rfl (Nat.le_of_ble_eq_true rfl) (fun C => ?_)
  have g14 : ∀ b' : Int32, (b' = 0 ∨ b' = 1) → ((if b' = 0 then fai 1 T else T) = if T.kind = 3 then T else fai 1 T) → G E C RX9 cX9_endsLine zX9_endsLine P 0 0 M 14 [(0, .ref (ad E 20 0 0))] [.int b', .ref (ad E 20 0 0)] := fun b' hb e => by
    refine G_iconst (v := 1) dX9_endsLine_14 (by decide) ?_
    refine cv_X9_200 (cs' := 0) (ss' := 0) dX9_endsLine_15  (Nat.le_of_ble_eq_true rfl) (Nat.le_of_ble_eq_true rfl) (Nat.le_of_ble_eq_true rfl) rfl rfl (Nat.le_of_ble_eq_true rfl) (Nat.le_of_ble_eq_true rfl) rfl ?_
    refine s_X9_must hT (by decide) hb (fun M1 x1 f1 => hGo_i ?_)
    rw [e] at x1
    refine G_pop dX9_endsLine_18 rfl ?_
    refine G_aload_n dX9_endsLine_19 rfl ?_
    refine cv_X9_203 (cs' := 0) (ss' := 0) dX9_endsLine_20  (Nat.le_of_ble_eq_true rfl) (Nat.le_of_ble_eq_true rfl) (Nat.le_of_ble_eq_true rfl) rfl rfl (Nat.le_of_ble_eq_true rfl) (Nat.le_of_ble_eq_true rfl) rfl ?_
    refine s_X9_goesOn (hX.fx f1) x1 (fun M2 x2 f2 => hGo_v ?_)
    refine G_vret dX9_endsLine_23 rfl (Nat.le_of_ble_eq_true rfl) (Nat.le_of_ble_eq_true rfl) ?_
    exact h M2 x2 (f1.trans f2)
  refine G_aload_n dX9_endsLine_0 rfl ?_
  refine G_aload_n dX9_endsLine_1 rfl ?_
  refine gf_X9_174 dX9_endsLine_2  ?_
  refine G_iconst (v := 3) dX9_endsLine_5 (by decide) ?_
  refine G_icmp_ne (tgt := 13) dX9_endsLine_6 (by decide) (fun c6 => ?_) (fun c6 => ?_)
  · refine G_iconst (v := 0) dX9_endsLine_13 (by decide) ?_
    refine G_lv2 (g14 0 (Or.inl rfl) ?_) ⟨rfl, trivial⟩
    rw [if_pos rfl]
    by_cases c0 : T.code = 0
    · rw [if_neg (fun q => c6 (by rw [(hT.2.2.2.2 c0).1, q]; rfl))]
    · rw [fai_bad c0, ite_self]
  · refine G_iconst (v := 1) dX9_endsLine_9 (by decide) ?_
    refine G_goto (tgt := 14) dX9_endsLine_10 (by decide) ?_
    refine G_lv2 (g14 1 (Or.inr rfl) ?_) ⟨rfl, trivial⟩
    rw [if_neg (by decide)]
    by_cases c0 : T.code = 0
    · rw [if_pos ((nI_eq (b := 3) (by have := hT.2.2.1.2.2; omega) (by decide)).mp ((hT.2.2.2.2 c0).1.symm.trans c6))]
    · rw [fai_bad c0, ite_self]
theorem fai_val2 {k : Int32} : (fai k T).val = T.val := by
  unfold fai
  split <;> rfl
theorem s_X9_looks {α β : Nat} (hβ : β < 1000) (hα : α < 1000) (hT : TX M L T) (h : ∀ M' r, TX M' L (lkN (nI α) (nI β) T) → Fx M M' → ((lkN (nI α) (nI β) T).code = 0 → r = T.val) → P (.inl (some (.int r))) M') : Sp E yX9_looks cX9_looks zX9_looks [.ref (ad E 20 0 0), .int (nI α), .int (nI β)] M P := by
  refine Sp_of (own := RX9) (by decide) rfl rfl (Nat.le_of_ble_eq_true rfl) (fun C => ?_)
  have g36 : ∀ M1 T1, TX M1 L T1 → Fx M M1 → T1 = lkN (nI α) (nI β) T → (T1.code = 0 → M1.1 20 0 0 13 = T.val) → G E C RX9 cX9_looks zX9_looks P 0 0 M1 36 [(0, .ref (ad E 20 0 0)), (1, .int (nI α)), (2, .int (nI β))] [] := fun M1 T1 x1 f1 e hv => by
    subst e
    refine G_aload_n dX9_looks_36 rfl ?_
    refine gf_X9_181 dX9_looks_37  ?_
    rw [x1.1]
    refine G_if_ne (tgt := 50) dX9_looks_40 (by decide) (fun c40 => ?_) (fun c40 => ?_)
    · refine G_iload_n dX9_looks_50 rfl ?_
      refine G_iret dX9_looks_51 rfl rfl (Nat.le_of_ble_eq_true rfl) (Nat.le_of_ble_eq_true rfl) ?_
      exact h M1 _ x1 f1 (fun z => absurd z c40)
    · refine G_aload_n dX9_looks_43 rfl ?_
      refine gf_X9_177 dX9_looks_44  ?_
      refine G_goto (tgt := 51) dX9_looks_47 (by decide) ?_
      refine G_iret dX9_looks_51 rfl rfl (Nat.le_of_ble_eq_true rfl) (Nat.le_of_ble_eq_true rfl) ?_
      exact h M1 _ x1 f1 (fun z => hv z)
  have g14 : ∀ b' : Int32, (b' = 0 ∨ b' = 1) → ((if b' = 0 then fai 1 T else T) = if T.kind = 2 then T else fai 1 T) → G E C RX9 cX9_looks zX9_looks P 0 0 M 14 [(0, .ref (ad E 20 0 0)), (1, .int (nI α)), (2, .int (nI β))] [.int b', .ref (ad E 20 0 0)] := fun b' hb e => by
    refine G_iconst (v := 1) dX9_looks_14 (by decide) ?_
    refine cv_X9_200 (cs' := 0) (ss' := 0) dX9_looks_15  (Nat.le_of_ble_eq_true rfl) (Nat.le_of_ble_eq_true rfl) (Nat.le_of_ble_eq_true rfl) rfl rfl (Nat.le_of_ble_eq_true rfl) (Nat.le_of_ble_eq_true rfl) rfl ?_
    refine s_X9_must hT (by decide) hb (fun M1 x1 f1 => hGo_i ?_)
    rw [e] at x1 ⊢
    by_cases c0 : (if T.kind = 2 then T else fai 1 T).code = 0
    · have hk : T.kind = 2 := by
        by_cases q : T.kind = 2
        · exact q
        · rw [if_neg q] at c0
          exact absurd c0 (fai_is (by decide))
      rw [if_pos c0]
      rw [if_pos hk] at x1 c0
      obtain ⟨n, n1, n2, n3⟩ := (x1.2.2.2.2 c0).2.2.2 hk
      have ein : inR (nI n) (nI α) (nI β) ↔ ¬ (T.val < nI α ∨ nI β < T.val) := by
        rw [n3]
        have i1 := nI_ltI (a := min n 1000) (b := α) (by omega) (by omega)
        have i2 := nI_ltI (a := β) (b := min n 1000) (by omega) (by omega)
        have i3 := nI_leI (a := α) (b := n) (by omega) (by omega)
        have i4 := nI_leI (a := n) (b := β) (by omega) (by omega)
        unfold inR
        rw [i1, i2, i3, i4]
        omega
      refine G_if_eq (tgt := 36) dX9_looks_18 (by decide) (fun c18 => ?_) (fun c18 => ?_)
      · exact absurd c18 (by decide)
      refine G_aload_n dX9_looks_21 rfl ?_
      refine G_aload_n dX9_looks_22 rfl ?_
      refine gf_X9_177 dX9_looks_23  ?_
      rw [n2]
      refine G_iload_n dX9_looks_26 rfl ?_
      refine G_iload_n dX9_looks_27 rfl ?_
      refine cv_X9_162 (cs' := 0) (ss' := 0) dX9_looks_28  (Nat.le_of_ble_eq_true rfl) (Nat.le_of_ble_eq_true rfl) (Nat.le_of_ble_eq_true rfl) rfl rfl (Nat.le_of_ble_eq_true rfl) (Nat.le_of_ble_eq_true rfl) rfl ?_
      refine s_X9_in (hGo_i ?_)
      refine G_iconst (v := 2) dX9_looks_31 (by decide) ?_
      refine cv_X9_200 (cs' := 0) (ss' := 0) dX9_looks_32  (Nat.le_of_ble_eq_true rfl) (Nat.le_of_ble_eq_true rfl) (Nat.le_of_ble_eq_true rfl) rfl rfl (Nat.le_of_ble_eq_true rfl) (Nat.le_of_ble_eq_true rfl) rfl ?_
      refine s_X9_must x1 (by decide) (by split <;> simp) (fun M2 x2 f2 => hGo_i ?_)
      refine G_pop dX9_looks_35 rfl ?_
      by_cases q : inR (nI n) (nI α) (nI β)
      · have eL : T = lkN (nI α) (nI β) T := by
          unfold lkN
          rw [if_neg (ein.mp q), if_pos hk]
        rw [if_pos q, if_neg (by decide)] at x2
        refine G_lv2 (g36 M2 T x2 (f1.trans f2) eL (fun _ => ?_)) ⟨rfl, rfl, rfl, trivial⟩
        obtain ⟨m, m1, m2, m3⟩ := (x2.2.2.2.2 c0).2.2.2 hk
        have em : min m 1000 = min n 1000 := (nI_eq (by omega) (by omega)).mp (m3.symm.trans n3)
        have hn : n ≤ β := (nI_leI (by omega) (by omega)).mp q.2
        rw [m2, n3]
        exact congrArg nI (by omega)
      · have eL : fai 2 T = lkN (nI α) (nI β) T := by
          unfold lkN
          rw [if_pos (Decidable.not_not.mp (fun z => q (ein.mpr z))), if_pos hk]
        rw [if_neg q, if_pos rfl] at x2
        exact G_lv2 (g36 M2 _ x2 (f1.trans f2) eL (fun z => absurd z (fai_is (by decide)))) ⟨rfl, rfl, rfl, trivial⟩
    · rw [if_neg c0]
      refine G_if_eq (tgt := 36) dX9_looks_18 (by decide) (fun c18 => ?_) (fun c18 => ?_)
      rotate_left
      · exact absurd rfl c18
      refine G_lv2 (g36 M1 _ x1 f1 ?_ (fun z => absurd z c0)) ⟨rfl, rfl, rfl, trivial⟩
      unfold lkN
      rw [fai_bad c0, ite_self]
  refine G_aload_n dX9_looks_0 rfl ?_
  refine G_aload_n dX9_looks_1 rfl ?_
  refine gf_X9_174 dX9_looks_2  ?_
  refine G_iconst (v := 2) dX9_looks_5 (by decide) ?_
  refine G_icmp_ne (tgt := 13) dX9_looks_6 (by decide) (fun c6 => ?_) (fun c6 => ?_)
  · refine G_iconst (v := 0) dX9_looks_13 (by decide) ?_
    refine G_lv2 (g14 0 (Or.inl rfl) ?_) ⟨rfl, rfl, rfl, trivial⟩
    rw [if_pos rfl]
    by_cases c0 : T.code = 0
    · rw [if_neg (fun q => c6 (by rw [(hT.2.2.2.2 c0).1, q]; rfl))]
    · rw [fai_bad c0, ite_self]
  · refine G_iconst (v := 1) dX9_looks_9 (by decide) ?_
    refine G_goto (tgt := 14) dX9_looks_10 (by decide) ?_
    refine G_lv2 (g14 1 (Or.inr rfl) ?_) ⟨rfl, rfl, rfl, trivial⟩
    rw [if_neg (by decide)]
    by_cases c0 : T.code = 0
    · rw [if_pos ((nI_eq (b := 2) (by have := hT.2.2.1.2.2; omega) (by decide)).mp ((hT.2.2.2.2 c0).1.symm.trans c6))]
    · rw [fai_bad c0, ite_self]
theorem s_X9_reads {α β : Nat} (hβ : β < 1000) (hα : α < 1000) (hX : MT M L) (hT : TX M L T) (h : ∀ M' r, TX M' L (tkN L (nI α) (nI β) T) → Fx M M' → ((tkN L (nI α) (nI β) T).code = 0 → r = T.val) → P (.inl (some (.int r))) M') : Sp E yX9_reads cX9_reads zX9_reads [.ref (ad E 20 0 0), .int (nI α), .int (nI β)] M P := by
  unfold tkN at h
  refine Sp_of (own := RX9) (by decide) rfl rfl (Nat.le_of_ble_eq_true rfl) (fun C => ?_)
  refine G_aload_n dX9_reads_0 rfl ?_
  refine G_iload_n dX9_reads_1 rfl ?_
  refine G_iload_n dX9_reads_2 rfl ?_
  refine cv_X9_206 (cs' := 0) (ss' := 0) dX9_reads_3  (Nat.le_of_ble_eq_true rfl) (Nat.le_of_ble_eq_true rfl) (Nat.le_of_ble_eq_true rfl) rfl rfl (Nat.le_of_ble_eq_true rfl) (Nat.le_of_ble_eq_true rfl) rfl ?_
  refine s_X9_looks hβ hα hT (fun M1 r x1 f1 hr => hGo_i ?_)
  refine G_istore_n dX9_reads_6 (Nat.le_of_ble_eq_true rfl) ?_
  refine G_aload_n dX9_reads_7 rfl ?_
  refine cv_X9_203 (cs' := 0) (ss' := 0) dX9_reads_8  (Nat.le_of_ble_eq_true rfl) (Nat.le_of_ble_eq_true rfl) (Nat.le_of_ble_eq_true rfl) rfl rfl (Nat.le_of_ble_eq_true rfl) (Nat.le_of_ble_eq_true rfl) rfl ?_
  refine s_X9_goesOn (hX.fx f1) x1 (fun M2 x2 f2 => hGo_v ?_)
  refine G_iload_n dX9_reads_11 rfl ?_
  refine G_iret dX9_reads_12 rfl rfl (Nat.le_of_ble_eq_true rfl) (Nat.le_of_ble_eq_true rfl) ?_
  exact h M2 r x2 (f1.trans f2) (fun z => hr (adv_code ▸ z))
theorem s_X9_starts (v : Int32) (hX : MT M L) (h : ∀ M', TX M' L (sT0 L v) → Fx M M' → P (.inl none) M') : Sp E yX9_starts cX9_starts zX9_starts [.ref (ad E 20 0 0)] M P := by
  refine Sp_of (own := RX9) (by decide) rfl rfl (Nat.le_of_ble_eq_true rfl) (fun C => ?_)
  refine G_aload_n dX9_starts_0 rfl ?_
  refine G_iconst (v := 0) dX9_starts_1 (by decide) ?_
  refine pf_X9_181 dX9_starts_2  ?_
  refine G_aload_n dX9_starts_5 rfl ?_
  refine G_iconst (v := (-1)) dX9_starts_6 (by decide) ?_
  refine pf_X9_23 dX9_starts_7  ?_
  refine G_aload_n dX9_starts_10 rfl ?_
  refine G_iconst (v := 0) dX9_starts_11 (by decide) ?_
  refine pf_X9_165 dX9_starts_12  ?_
  refine G_aload_n dX9_starts_15 rfl ?_
  refine cv_X9_193 (cs' := 0) (ss' := 0) dX9_starts_16  (Nat.le_of_ble_eq_true rfl) (Nat.le_of_ble_eq_true rfl) (Nat.le_of_ble_eq_true rfl) rfl rfl (Nat.le_of_ble_eq_true rfl) (Nat.le_of_ble_eq_true rfl) rfl ?_
  have f1 : Fx M (((M.up 20 0 0 8 0).up 20 0 0 9 (-1)).up 20 0 0 10 0) := ((Fx.rfl.up (by decide)).up (by decide)).up (by decide)
  refine s_X9_next0 (T := (0, -1, 0, 0, 0, v)) (hX.fx f1) ((up_nt (by decide)).trans ((up_nt (by decide)).trans up_at)) ((up_nt (by decide)).trans up_at) rfl up_at (Nat.zero_le _) (fun M2 x2 f2 => hGo_v ?_)
  refine G_vret dX9_starts_19 rfl (Nat.le_of_ble_eq_true rfl) (Nat.le_of_ble_eq_true rfl) ?_
  exact h M2 x2 (f1.trans f2)
end MWRD
