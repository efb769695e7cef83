/-! ===== HomeworkBarterModel: commands read ===== -/
section MCMD
variable {E : Ed} {M M' M0 M1 : Mm} {P : Res → Mm → Prop} {L : List Int32} {T T' : Tks}
theorem s_X9_commandHere (hX : MT M L) (hT : TX M L T) (h : P (.inl (some (.int (if vb L T = 7 then -1 else nI (vb L T))))) M) : Sp E yX9_commandHere cX9_commandHere zX9_commandHere [.ref (ad E 20 0 0)] M P := by
  unfold vb at h
  refine Sp_of (own := RX9) (by decide) rfl rfl (Nat.le_of_ble_eq_true rfl) (fun C => ?_)
  refine G_aload_n dX9_commandHere_0 rfl ?_
  refine G_ldcS 24 dX9_commandHere_1 (by decide) rfl rfl ?_
  refine cv_X9_196 (cs' := 0) (ss' := 0) dX9_commandHere_3  (Nat.le_of_ble_eq_true rfl) (Nat.le_of_ble_eq_true rfl) (Nat.le_of_ble_eq_true rfl) rfl rfl (Nat.le_of_ble_eq_true rfl) (Nat.le_of_ble_eq_true rfl) rfl ?_
  refine s_X9_isWord (by decide) hX hT (hGo_i ?_)
  rw [show hSb2 24 = hSb2 3 by decide]
  by_cases w0 : isW L T (hSb2 3)
  · rw [if_pos w0]
    rw [if_pos w0, if_neg (by decide)] at h
    refine G_if_eq (tgt := 11) dX9_commandHere_6 (by decide) (fun c6 => ?_) (fun c6 => ?_)
    · exact absurd c6 (by decide)
    · refine G_iconst (v := 0) dX9_commandHere_9 (by decide) ?_
      refine G_iret dX9_commandHere_10 rfl rfl (Nat.le_of_ble_eq_true rfl) (Nat.le_of_ble_eq_true rfl) ?_
      exact h
  rw [if_neg w0]
  rw [if_neg w0] at h
  refine G_if_eq (tgt := 11) dX9_commandHere_6 (by decide) (fun c6 => ?_) (fun c6 => ?_)
  rotate_left
  · exact absurd rfl c6
  refine G_aload_n dX9_commandHere_11 rfl ?_
  refine G_ldcS 25 dX9_commandHere_12 (by decide) rfl rfl ?_
  refine cv_X9_196 (cs' := 0) (ss' := 0) dX9_commandHere_14  (Nat.le_of_ble_eq_true rfl) (Nat.le_of_ble_eq_true rfl) (Nat.le_of_ble_eq_true rfl) rfl rfl (Nat.le_of_ble_eq_true rfl) (Nat.le_of_ble_eq_true rfl) rfl ?_
  refine s_X9_isWord (by decide) hX hT (hGo_i ?_)
  rw [show hSb2 25 = hSb2 4 by decide]
  by_cases w1 : isW L T (hSb2 4)
  · rw [if_pos w1]
    rw [if_pos w1, if_neg (by decide)] at h
    refine G_if_eq (tgt := 22) dX9_commandHere_17 (by decide) (fun c17 => ?_) (fun c17 => ?_)
    · exact absurd c17 (by decide)
    · refine G_iconst (v := 1) dX9_commandHere_20 (by decide) ?_
      refine G_iret dX9_commandHere_21 rfl rfl (Nat.le_of_ble_eq_true rfl) (Nat.le_of_ble_eq_true rfl) ?_
      exact h
  rw [if_neg w1]
  rw [if_neg w1] at h
  refine G_if_eq (tgt := 22) dX9_commandHere_17 (by decide) (fun c17 => ?_) (fun c17 => ?_)
  rotate_left
  · exact absurd rfl c17
  refine G_aload_n dX9_commandHere_22 rfl ?_
  refine G_ldcS 26 dX9_commandHere_23 (by decide) rfl rfl ?_
  refine cv_X9_196 (cs' := 0) (ss' := 0) dX9_commandHere_25  (Nat.le_of_ble_eq_true rfl) (Nat.le_of_ble_eq_true rfl) (Nat.le_of_ble_eq_true rfl) rfl rfl (Nat.le_of_ble_eq_true rfl) (Nat.le_of_ble_eq_true rfl) rfl ?_
  refine s_X9_isWord (by decide) hX hT (hGo_i ?_)
  rw [show hSb2 26 = hSb2 5 by decide]
  by_cases w2 : isW L T (hSb2 5)
  · rw [if_pos w2]
    rw [if_pos w2, if_neg (by decide)] at h
    refine G_if_eq (tgt := 33) dX9_commandHere_28 (by decide) (fun c28 => ?_) (fun c28 => ?_)
    · exact absurd c28 (by decide)
    · refine G_iconst (v := 2) dX9_commandHere_31 (by decide) ?_
      refine G_iret dX9_commandHere_32 rfl rfl (Nat.le_of_ble_eq_true rfl) (Nat.le_of_ble_eq_true rfl) ?_
      exact h
  rw [if_neg w2]
  rw [if_neg w2] at h
  refine G_if_eq (tgt := 33) dX9_commandHere_28 (by decide) (fun c28 => ?_) (fun c28 => ?_)
  rotate_left
  · exact absurd rfl c28
  refine G_aload_n dX9_commandHere_33 rfl ?_
  refine G_ldcS 27 dX9_commandHere_34 (by decide) rfl rfl ?_
  refine cv_X9_196 (cs' := 0) (ss' := 0) dX9_commandHere_36  (Nat.le_of_ble_eq_true rfl) (Nat.le_of_ble_eq_true rfl) (Nat.le_of_ble_eq_true rfl) rfl rfl (Nat.le_of_ble_eq_true rfl) (Nat.le_of_ble_eq_true rfl) rfl ?_
  refine s_X9_isWord (by decide) hX hT (hGo_i ?_)
  rw [show hSb2 27 = hSb2 6 by decide]
  by_cases w3 : isW L T (hSb2 6)
  · rw [if_pos w3]
    rw [if_pos w3, if_neg (by decide)] at h
    refine G_if_eq (tgt := 44) dX9_commandHere_39 (by decide) (fun c39 => ?_) (fun c39 => ?_)
    · exact absurd c39 (by decide)
    · refine G_iconst (v := 3) dX9_commandHere_42 (by decide) ?_
      refine G_iret dX9_commandHere_43 rfl rfl (Nat.le_of_ble_eq_true rfl) (Nat.le_of_ble_eq_true rfl) ?_
      exact h
  rw [if_neg w3]
  rw [if_neg w3] at h
  refine G_if_eq (tgt := 44) dX9_commandHere_39 (by decide) (fun c39 => ?_) (fun c39 => ?_)
  rotate_left
  · exact absurd rfl c39
  refine G_aload_n dX9_commandHere_44 rfl ?_
  refine G_ldcS 28 dX9_commandHere_45 (by decide) rfl rfl ?_
  refine cv_X9_196 (cs' := 0) (ss' := 0) dX9_commandHere_47  (Nat.le_of_ble_eq_true rfl) (Nat.le_of_ble_eq_true rfl) (Nat.le_of_ble_eq_true rfl) rfl rfl (Nat.le_of_ble_eq_true rfl) (Nat.le_of_ble_eq_true rfl) rfl ?_
  refine s_X9_isWord (by decide) hX hT (hGo_i ?_)
  rw [show hSb2 28 = hSb2 7 by decide]
  by_cases w4 : isW L T (hSb2 7)
  · rw [if_pos w4]
    rw [if_pos w4, if_neg (by decide)] at h
    refine G_if_eq (tgt := 55) dX9_commandHere_50 (by decide) (fun c50 => ?_) (fun c50 => ?_)
    · exact absurd c50 (by decide)
    · refine G_iconst (v := 4) dX9_commandHere_53 (by decide) ?_
      refine G_iret dX9_commandHere_54 rfl rfl (Nat.le_of_ble_eq_true rfl) (Nat.le_of_ble_eq_true rfl) ?_
      exact h
  rw [if_neg w4]
  rw [if_neg w4] at h
  refine G_if_eq (tgt := 55) dX9_commandHere_50 (by decide) (fun c50 => ?_) (fun c50 => ?_)
  rotate_left
  · exact absurd rfl c50
  refine G_aload_n dX9_commandHere_55 rfl ?_
  refine G_ldcS 29 dX9_commandHere_56 (by decide) rfl rfl ?_
  refine cv_X9_196 (cs' := 0) (ss' := 0) dX9_commandHere_58  (Nat.le_of_ble_eq_true rfl) (Nat.le_of_ble_eq_true rfl) (Nat.le_of_ble_eq_true rfl) rfl rfl (Nat.le_of_ble_eq_true rfl) (Nat.le_of_ble_eq_true rfl) rfl ?_
  refine s_X9_isWord (by decide) hX hT (hGo_i ?_)
  rw [show hSb2 29 = hSb2 8 by decide]
  by_cases w5 : isW L T (hSb2 8)
  · rw [if_pos w5]
    rw [if_pos w5, if_neg (by decide)] at h
    refine G_if_eq (tgt := 66) dX9_commandHere_61 (by decide) (fun c61 => ?_) (fun c61 => ?_)
    · exact absurd c61 (by decide)
    · refine G_iconst (v := 5) dX9_commandHere_64 (by decide) ?_
      refine G_iret dX9_commandHere_65 rfl rfl (Nat.le_of_ble_eq_true rfl) (Nat.le_of_ble_eq_true rfl) ?_
      exact h
  rw [if_neg w5]
  rw [if_neg w5] at h
  refine G_if_eq (tgt := 66) dX9_commandHere_61 (by decide) (fun c61 => ?_) (fun c61 => ?_)
  rotate_left
  · exact absurd rfl c61
  refine G_aload_n dX9_commandHere_66 rfl ?_
  refine G_ldcS 30 dX9_commandHere_67 (by decide) rfl rfl ?_
  refine cv_X9_196 (cs' := 0) (ss' := 0) dX9_commandHere_69  (Nat.le_of_ble_eq_true rfl) (Nat.le_of_ble_eq_true rfl) (Nat.le_of_ble_eq_true rfl) rfl rfl (Nat.le_of_ble_eq_true rfl) (Nat.le_of_ble_eq_true rfl) rfl ?_
  refine s_X9_isWord (by decide) hX hT (hGo_i ?_)
  rw [show hSb2 30 = hSb2 9 by decide]
  by_cases w6 : isW L T (hSb2 9)
  · rw [if_pos w6]
    rw [if_pos w6, if_neg (by decide)] at h
    refine G_if_eq (tgt := 80) dX9_commandHere_72 (by decide) (fun c72 => ?_) (fun c72 => ?_)
    · exact absurd c72 (by decide)
    · refine G_bipush (v := 6) dX9_commandHere_75 (by decide) ?_
      refine G_goto (tgt := 81) dX9_commandHere_77 (by decide) ?_
      refine G_iret dX9_commandHere_81 rfl rfl (Nat.le_of_ble_eq_true rfl) (Nat.le_of_ble_eq_true rfl) ?_
      exact h
  rw [if_neg w6]
  rw [if_neg w6] at h
  refine G_if_eq (tgt := 80) dX9_commandHere_72 (by decide) (fun c72 => ?_) (fun c72 => ?_)
  rotate_left
  · exact absurd rfl c72
  rw [if_pos rfl] at h
  refine G_iconst (v := (-1)) dX9_commandHere_80 (by decide) ?_
  refine G_iret dX9_commandHere_81 rfl rfl (Nat.le_of_ble_eq_true rfl) (Nat.le_of_ble_eq_true rfl) ?_
  exact h
theorem s_X9_readsKind (hX : MT M L) (hT : TX M L T) (h : ∀ M', TX M' L (tkB L T) → Fx M M' → P (.inl (some (.int (sbV L T)))) M') : Sp E yX9_readsKind cX9_readsKind zX9_readsKind [.ref (ad E 20 0 0)] M P := by
  have e10 : hSb2 31 = hSb2 10 := by decide
  have e11 : hSb2 32 = hSb2 11 := by decide
  unfold tkB at h
  refine Sp_of (own := RX9) (by decide) rfl rfl (Nat.le_of_ble_eq_true rfl) (fun C => ?_)
  have g34 : ∀ b' : Int32, (b' = 0 ∨ b' = 1) → ((if b' = 0 then fai 1 T else T) = if isW L T (hSb2 10) ∨ isW L T (hSb2 11) then T else fai 1 T) → ∀ lv, lvf lv 0 = some (.ref (ad E 20 0 0)) → lvf lv 1 = some (.int (sbV L T)) → G E C RX9 cX9_readsKind zX9_readsKind P 0 0 M 34 lv [.int b', .ref (ad E 20 0 0)] := fun b' hb e lv a0 a1 => by
    refine G_lv (lv' := [(0, .ref (ad E 20 0 0)), (1, .int (sbV L T))]) ⟨a0, a1, trivial⟩ ?_
    refine G_iconst (v := 1) dX9_readsKind_34 (by decide) ?_
    refine cv_X9_200 (cs' := 0) (ss' := 0) dX9_readsKind_35  (Nat.le_of_ble_eq_true rfl) (Nat.le_of_ble_eq_true rfl) (Nat.le_of_ble_eq_true rfl) rfl rfl (Nat.le_of_ble_eq_true rfl) (Nat.le_of_ble_eq_true rfl) rfl ?_
    refine s_X9_must hT (by decide) hb (fun M1 x1 f1 => hGo_i ?_)
    rw [e] at x1
    refine G_pop dX9_readsKind_38 rfl ?_
    refine G_aload_n dX9_readsKind_39 rfl ?_
    refine cv_X9_203 (cs' := 0) (ss' := 0) dX9_readsKind_40  (Nat.le_of_ble_eq_true rfl) (Nat.le_of_ble_eq_true rfl) (Nat.le_of_ble_eq_true rfl) rfl rfl (Nat.le_of_ble_eq_true rfl) (Nat.le_of_ble_eq_true rfl) rfl ?_
    refine s_X9_goesOn (hX.fx f1) x1 (fun M2 x2 f2 => hGo_v ?_)
    refine G_iload_n dX9_readsKind_43 rfl ?_
    refine G_iret dX9_readsKind_44 rfl rfl (Nat.le_of_ble_eq_true rfl) (Nat.le_of_ble_eq_true rfl) ?_
    exact h M2 x2 (f1.trans f2)
  refine G_aload_n dX9_readsKind_0 rfl ?_
  refine G_ldcS 31 dX9_readsKind_1 (by decide) rfl rfl ?_
  refine cv_X9_196 (cs' := 0) (ss' := 0) dX9_readsKind_3  (Nat.le_of_ble_eq_true rfl) (Nat.le_of_ble_eq_true rfl) (Nat.le_of_ble_eq_true rfl) rfl rfl (Nat.le_of_ble_eq_true rfl) (Nat.le_of_ble_eq_true rfl) rfl ?_
  refine s_X9_isWord (by decide) hX hT (hGo_i ?_)
  rw [e10]
  refine cv_X9_110 (cs' := 0) (ss' := 0) dX9_readsKind_6  (Nat.le_of_ble_eq_true rfl) (Nat.le_of_ble_eq_true rfl) (Nat.le_of_ble_eq_true rfl) rfl rfl (Nat.le_of_ble_eq_true rfl) (Nat.le_of_ble_eq_true rfl) rfl ?_
  refine s_X9_one (by split <;> simp) (hGo_i ?_)
  refine G_istore_n dX9_readsKind_9 (Nat.le_of_ble_eq_true rfl) ?_
  refine G_aload_n dX9_readsKind_10 rfl ?_
  refine G_aload_n dX9_readsKind_11 rfl ?_
  refine G_ldcS 32 dX9_readsKind_12 (by decide) rfl rfl ?_
  refine cv_X9_196 (cs' := 0) (ss' := 0) dX9_readsKind_14  (Nat.le_of_ble_eq_true rfl) (Nat.le_of_ble_eq_true rfl) (Nat.le_of_ble_eq_true rfl) rfl rfl (Nat.le_of_ble_eq_true rfl) (Nat.le_of_ble_eq_true rfl) rfl ?_
  refine s_X9_isWord (by decide) hX hT (hGo_i ?_)
  rw [e11]
  by_cases q11 : isW L T (hSb2 11)
  · rw [if_pos q11]
    refine G_if_ne (tgt := 29) dX9_readsKind_17 (by decide) (fun c17 => ?_) (fun c17 => ?_)
    · refine G_iconst (v := 1) dX9_readsKind_29 (by decide) ?_
      refine G_goto (tgt := 34) dX9_readsKind_30 (by decide) ?_
      exact g34 1 (Or.inr rfl) (by rw [if_neg (by decide), if_pos (Or.inr q11)]) _ rfl rfl
    · exact absurd c17 (by decide)
  · rw [if_neg q11]
    refine G_if_ne (tgt := 29) dX9_readsKind_17 (by decide) (fun c17 => ?_) (fun c17 => ?_)
    · exact absurd rfl c17
    refine G_aload_n dX9_readsKind_20 rfl ?_
    refine G_ldcS 31 dX9_readsKind_21 (by decide) rfl rfl ?_
    refine cv_X9_196 (cs' := 0) (ss' := 0) dX9_readsKind_23  (Nat.le_of_ble_eq_true rfl) (Nat.le_of_ble_eq_true rfl) (Nat.le_of_ble_eq_true rfl) rfl rfl (Nat.le_of_ble_eq_true rfl) (Nat.le_of_ble_eq_true rfl) rfl ?_
    refine s_X9_isWord (by decide) hX hT (hGo_i ?_)
    rw [e10]
    by_cases q10 : isW L T (hSb2 10)
    · rw [if_pos q10]
      refine G_if_eq (tgt := 33) dX9_readsKind_26 (by decide) (fun c26 => ?_) (fun c26 => ?_)
      · exact absurd c26 (by decide)
      · refine G_iconst (v := 1) dX9_readsKind_29 (by decide) ?_
        refine G_goto (tgt := 34) dX9_readsKind_30 (by decide) ?_
        exact g34 1 (Or.inr rfl) (by rw [if_neg (by decide), if_pos (Or.inl q10)]) _ rfl (congrArg (fun x => some (Value.int x)) (if_pos q10 : sbV L T = 1).symm)
    · rw [if_neg q10]
      refine G_if_eq (tgt := 33) dX9_readsKind_26 (by decide) (fun c26 => ?_) (fun c26 => ?_)
      · refine G_iconst (v := 0) dX9_readsKind_33 (by decide) ?_
        exact g34 0 (Or.inl rfl) (by rw [if_pos rfl, if_neg (fun z => z.elim q10 q11)]) _ rfl (congrArg (fun x => some (Value.int x)) (if_neg q10 : sbV L T = 0).symm)
      · exact absurd rfl c26
/-- changed: the reader's fields, the commands from place n on -/
def Fn (n : Nat) (M M' : Mm) : Prop := M'.2 = M.2 ∧ ∀ k j p t, ¬ (k = 20 ∧ 8 ≤ t ∧ t ≤ 13) → ¬ (k = 25 ∧ n ≤ t) → M'.1 k j p t = M.1 k j p t
theorem Fn.rfl {n : Nat} : Fn n M M := ⟨Eq.refl _, fun _ _ _ _ _ _ => Eq.refl _⟩
theorem Fn.trans {n : Nat} {M'' : Mm} (h : Fn n M M') (h2 : Fn n M' M'') : Fn n M M'' := ⟨h2.1.trans h.1, fun k j p t q r => (h2.2 k j p t q r).trans (h.2 k j p t q r)⟩
theorem Fx.fn {n : Nat} (h : Fx M M') : Fn n M M' := ⟨h.1, fun k j p t q _ => h.2 k j p t q⟩
theorem Fn.up {n t : Nat} {v : Int32} (ht : n ≤ t) : Fn n M (M.up 25 0 0 t v) := ⟨Eq.refl _, fun k j p u q r => by
  by_cases e : k = 25
  · subst e
    exact up_ft (fun z => r ⟨Eq.refl _, by omega⟩)
  · exact up_nk e⟩
theorem MT.fn {n : Nat} (h : MT M L) (f : Fn n M M') : MT M' L := ⟨(f.2 20 0 0 7 (fun q => absurd q.2.1 (by decide)) (fun q => absurd q.1 (by decide))).trans h.1, h.2.1, fun k hk => (f.2 24 0 0 k (fun q => absurd q.1 (by decide)) (fun q => absurd q.1 (by decide))).trans (h.2.2 k hk)⟩
theorem TX.k25 {t : Nat} {v : Int32} (h : TX M L T) : TX (M.up 25 0 0 t v) L T := by
  obtain ⟨a, b, c, d, e⟩ := h
  have k : ∀ u, (M.up 25 0 0 t v).1 20 0 0 u = M.1 20 0 0 u := fun u => up_nk (by decide)
  refine ⟨(k 8).trans a, (k 9).trans b, c, d, fun z => ?_⟩
  obtain ⟨e1, e2, e3, e4⟩ := e z
  refine ⟨(k 12).trans e1, (k 11).trans e2, (k 10).trans e3, fun y => ?_⟩
  obtain ⟨n, n1, n2, n3⟩ := e4 y
  exact ⟨n, n1, (k 13).trans n2, n3⟩
/-- how far a command is read: the reader, the arguments so far, what is left -/
def RS (L : List Int32) (n : Nat) (M0 M : Mm) (R : Tks × List Int32) (T : Tks) (xs : List Int32) (ks : List (Option (Int32 × Int32))) : Prop := MT M L ∧ TX M L T ∧ Fn n M0 M ∧ R.1 = (rA L ks T).1 ∧ (R.1.code = 0 → R.2 = xs ++ (rA L ks T).2 ∧ ∀ t, t < xs.length → M.1 25 0 0 (n + t) = xs.getD t 0)
theorem RS.num {n : Nat} {R : Tks × List Int32} {xs : List Int32} {a b r : Int32} {ks : List (Option (Int32 × Int32))} (h : RS L n M0 M R T xs (some (a, b) :: ks)) (x : TX M1 L (tkN L a b T)) (f : Fx M M1) (hr : (tkN L a b T).code = 0 → r = T.val) : RS L n M0 (M1.up 25 0 0 (n + xs.length) r) R (tkN L a b T) (xs ++ [T.val]) ks := by
  obtain ⟨h1, h2, h3, h4, h5⟩ := h
  have f2 : Fn n M (M1.up 25 0 0 (n + xs.length) r) := f.fn.trans (Fn.up (by omega))
  refine ⟨h1.fn f2, x.k25, h3.trans f2, h4, fun z => ?_⟩
  obtain ⟨e, k⟩ := h5 z
  have hc : (tkN L a b T).code = 0 := (rA_good (ks := ks) (T := tkN L a b T) (L := L) (by rw [h4] at z; exact z)).1
  refine ⟨by rw [e, List.append_assoc]; rfl, fun t ht => ?_⟩
  rw [List.length_append] at ht
  have ht : t < xs.length + 1 := ht
  rw [getD_app]
  by_cases q : t = xs.length
  · rw [if_pos q, q, up_at, hr hc]
  · rw [if_neg q, up_nt (by omega)]
    exact (f.2 25 0 0 _ (fun y => absurd y.1 (by decide))).trans (k t (by omega))
theorem RS.sub {n : Nat} {R : Tks × List Int32} {xs : List Int32} {ks : List (Option (Int32 × Int32))} (h : RS L n M0 M R T xs (none :: ks)) (x : TX M1 L (tkB L T)) (f : Fx M M1) : RS L n M0 (M1.up 25 0 0 (n + xs.length) (sbV L T)) R (tkB L T) (xs ++ [sbV L T]) ks := by
  obtain ⟨h1, h2, h3, h4, h5⟩ := h
  have f2 : Fn n M (M1.up 25 0 0 (n + xs.length) (sbV L T)) := f.fn.trans (Fn.up (by omega))
  refine ⟨h1.fn f2, x.k25, h3.trans f2, h4, fun z => ?_⟩
  obtain ⟨e, k⟩ := h5 z
  refine ⟨by rw [e, List.append_assoc]; rfl, fun t ht => ?_⟩
  rw [List.length_append] at ht
  have ht : t < xs.length + 1 := ht
  rw [getD_app]
  by_cases q : t = xs.length
  · rw [if_pos q, q, up_at]
  · rw [if_neg q, up_nt (by omega)]
    exact (f.2 25 0 0 _ (fun y => absurd y.1 (by decide))).trans (k t (by omega))
end MCMD
