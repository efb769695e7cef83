/-! ===== the law's isDoneAgain ===== -/
section LAGAIN
variable {E : Ed} {M : Mm} {P : Res → Mm → Prop} {g : Gs} {C : Cx} {own : String} {b : ByteArray} {z : Zd} {cs ss pc : Nat} {lv : List (Nat × Value)} {st : List Value}
theorem G_null (d : decode b pc = .ok (.aconst_null, 1)) (k : G E C own b z P cs ss M (pc + 1) lv (.null :: st)) : G E C own b z P cs ss M pc lv st := by
  obtain ⟨p', l, e, s, m, args, below, meth, c, Q⟩ := C
  intro K H locs ls hP hS hl
  exact lv_null K.1 K.2.1 d (k K H locs ls hP hS hl)
theorem G_astoreN {i : Nat} (d : decode b pc = .ok (.astore i, 2)) (hn : i < z.1) (k : G E C own b z P cs ss M (pc + 2) (lvS lv i .null) st) : G E C own b z P cs ss M pc lv (.null :: st) := by
  obtain ⟨p', l, e, s, m, args, below, meth, c, Q⟩ := C
  intro K H locs ls hP hS hl
  exact lv_astoreN K.1 K.2.1 d hl hn rfl (fun ls hl => k K H locs ls hP hS hl)
/-- what the last state was before an act that was done -/
theorem push_last {g : Gs} {B : Ab} : (sUndo (actG g B)).1.A = g.A ∧ 0 ≤ (sUndo (actG g B)).2 ∧ (sUndo (actG g B)).1.S = g.S ∨ 6 < g.U.length := by
  rcases Nat.lt_or_ge 6 g.U.length with q | q
  · exact Or.inr q
  · left
    have hl : (pushU g.U g.A).length = (if g.U.length < 6 then g.U else g.U.tail).length + 1 := by
      unfold pushU
      rw [List.length_append]
      rfl
    have hl6 : (if g.U.length < 6 then g.U else g.U.tail).length ≤ 6 := by
      split
      · omega
      · rw [List.length_tail]; omega
    have e0 : ¬ (actG g B).U.length = 0 := by
      show ¬ (pushU g.U g.A).length = 0
      omega
    unfold sUndo
    rw [if_neg e0]
    refine ⟨?_, ?_, rfl⟩
    · show ug (pushU g.U g.A) ((pushU g.U g.A).length - 1) = g.A
      rw [hl, Nat.add_sub_cancel]
      exact ug_end
    · show 0 ≤ nI ((pushU g.U g.A).length - 1)
      exact nI_pos' (by omega)
theorem pre_xI {T X : va_W} {a n : Nat} {f : Nat → Int32} (h : ∃ Y, X = T ++ Y) : ∃ Y, xI E X a n f = T ++ Y := by
  obtain ⟨Y, rfl⟩ := h
  exact ⟨Y ++ [_], List.append_assoc _ _ _⟩
theorem xI_old {X : va_W} {a n i : Nat} {f : Nat → Int32} {c : Nat × va_E} (h : X[i]? = some c) : (xI E X a n f)[i]? = some c := by
  unfold xI
  rw [List.getElem?_append_left (List.getElem?_eq_some_iff.mp h).1]
  exact h
theorem rowF_eq {L L' : List Int32} (hl : L.length ≤ 900) (hl' : L'.length ≤ 900) (h : ∀ k, k < 900 → rowF L k = rowF L' k) : rowF L = rowF L' := by
  funext k
  by_cases q : k < 900
  · exact h k q
  · unfold rowF
    rw [List.getD_eq_getElem?_getD, List.getD_eq_getElem?_getD, List.getElem?_eq_none (by omega), List.getElem?_eq_none (by omega)]
theorem l_isDoneAgain {Z : va_W} {at' k : Nat} (hC : CG M g) (hO : Okg g) (hX : xOk E M.2) (hM : M.2 = (tC E at' :: Z)) (hat : at' < 1000000) (hl : E.2.2.2.2 18 ≤ 260) (hG : Gd g.A) (hB : Bd k g.A) (hk : k ≤ 100) (h : ∀ M' g', CG M' g' → Okg g' → Gd g'.A → Bd (k + 1) g'.A → g'.S = g.S → M'.2 = (tC E (at' + 4) :: Z) → xOk E M'.2 → P (.inl (some (.int 1))) M') : Sp E yL_isDoneAgain cL_isDoneAgain zL_isDoneAgain [.ref (ad E 0 0 0), .ref (E.1 - 1)] M P := by
  have hU6 : g.U.length ≤ 6 := hC.2.1.1
  refine Sp_of (own := RL) (by decide) rfl rfl (Nat.le_of_ble_eq_true rfl) (fun C => ?_)
  refine G_aload_n dL_isDoneAgain_0 rfl ?_
  refine G_bipush (v := 14) dL_isDoneAgain_1 (by decide) ?_
  refine G_next (at' := at') (Y := Z) hX hM (by omega) hl (m := 14) (by decide) (by decide) rfl dL_isDoneAgain_3 (Nat.le_of_ble_eq_true rfl) (Nat.le_of_ble_eq_true rfl) (Nat.le_of_ble_eq_true rfl) (Nat.le_of_ble_eq_true rfl) (Nat.le_of_ble_eq_true rfl) rfl (fun hX1 w hw => ?_)
  refine G_istore_n dL_isDoneAgain_6 (Nat.le_of_ble_eq_true rfl) ?_
  refine G_aload_n dL_isDoneAgain_7 rfl ?_
  refine G_ldc (v := 100000) dL_isDoneAgain_8 (hqx 1194 (by decide +kernel) rfl) ?_
  refine G_next (M := M.x (tC E (at' + 1) :: Z)) (at' := at' + 1) (Y := Z) hX1 rfl (by omega) hl (m := 100000) (by decide) (by decide) rfl dL_isDoneAgain_10 (Nat.le_of_ble_eq_true rfl) (Nat.le_of_ble_eq_true rfl) (Nat.le_of_ble_eq_true rfl) (Nat.le_of_ble_eq_true rfl) (Nat.le_of_ble_eq_true rfl) rfl (fun hX2 a ha => ?_)
  refine G_istore_n dL_isDoneAgain_13 (Nat.le_of_ble_eq_true rfl) ?_
  refine G_aload_n dL_isDoneAgain_14 rfl ?_
  refine G_ldc (v := 100000) dL_isDoneAgain_15 (hqx 1194 (by decide +kernel) rfl) ?_
  refine G_next (M := M.x (tC E (at' + 1 + 1) :: Z)) (at' := at' + 1 + 1) (Y := Z) hX2 rfl (by omega) hl (m := 100000) (by decide) (by decide) rfl dL_isDoneAgain_17 (Nat.le_of_ble_eq_true rfl) (Nat.le_of_ble_eq_true rfl) (Nat.le_of_ble_eq_true rfl) (Nat.le_of_ble_eq_true rfl) (Nat.le_of_ble_eq_true rfl) rfl (fun hX3 b hb => ?_)
  refine G_istore dL_isDoneAgain_20 (Nat.le_of_ble_eq_true rfl) ?_
  refine G_aload_n dL_isDoneAgain_22 rfl ?_
  refine G_iconst (v := 4) dL_isDoneAgain_23 (by decide) ?_
  refine G_next (M := M.x (tC E (at' + 1 + 1 + 1) :: Z)) (at' := at' + 1 + 1 + 1) (Y := Z) hX3 rfl (by omega) hl (m := 4) (by decide) (by decide) rfl dL_isDoneAgain_24 (Nat.le_of_ble_eq_true rfl) (Nat.le_of_ble_eq_true rfl) (Nat.le_of_ble_eq_true rfl) (Nat.le_of_ble_eq_true rfl) (Nat.le_of_ble_eq_true rfl) rfl (fun hX4 v hv => ?_)
  generalize eT : M.x (tC E (at' + 1 + 1 + 1 + 1) :: Z) = M0
  have hT2 : M0.2 = (tC E (at' + 4) :: Z) := by rw [← eT]
  have hC0 : CG M0 g := by rw [← eT]; exact CG.x hC
  have hX0 : xOk E M0.2 := by rw [hT2]; exact hX4
  refine G_st (M' := M0) rfl rfl (by rw [← eT]) ?_
  have hwk := hB.wk (by omega)
  -- an act and the look at all behind it
  have inv : ∀ g', Aft g w a b g' → Gd g'.A ∧ Bd (k + 1) g'.A ∧ g'.S = g.S := fun g' hA => by
    obtain ⟨r, er⟩ := hA
    rw [er, stp_A, stp_S]
    cases e : acR g.A w a b with
    | none => exact ⟨hG, hB.up, rfl⟩
    | some B =>
      obtain ⟨h1, h2⟩ := acR_inv hO.1 hG hB e
      exact ⟨h1, h2, rfl⟩
  have kN : G E C RL cL_isDoneAgain zL_isDoneAgain P 0 0 M0 49 [(0, .ref (ad E 0 0 0)), (2, .int (nI w)), (3, .int (nI a)), (4, .int (nI b)), (5, .int 0)] [] := by
    refine G_null dL_isDoneAgain_49 ?_
    refine G_astoreN dL_isDoneAgain_50 (Nat.le_of_ble_eq_true rfl) ?_
    refine G_aload_n dL_isDoneAgain_52 rfl ?_
    refine G_iload_n dL_isDoneAgain_53 rfl ?_
    refine G_iload_n dL_isDoneAgain_54 rfl ?_
    refine G_iload dL_isDoneAgain_55 rfl ?_
    refine cv_L_233 (cs' := 0 + 26) (ss' := 0 + 312) dL_isDoneAgain_57  (Nat.le_of_ble_eq_true rfl) (Nat.le_of_ble_eq_true rfl) (Nat.le_of_ble_eq_true rfl) rfl rfl (by show 0 + 26 ≤ 70; omega) (by show 0 + 312 ≤ 4500; omega) rfl ?_
    refine l_act hw ha hb hC0 hO hX0 hG hwk (fun M1 g1 hA c1 o1 f1 => hGo_i ?_)
    obtain ⟨i1, i2, i3⟩ := inv g1 hA
    have hM1 : M1.2 = (tC E (at' + 4) :: Z) := f1.1.trans hT2
    have hx1 : xOk E M1.2 := by rw [f1.1]; exact hX0
    refine G_if_eq (tgt := 70) dL_isDoneAgain_60 (by decide) (fun c60 => ?_) (fun c60 => ?_)
    · exact absurd c60 (by decide)
    · refine G_aload_n dL_isDoneAgain_63 rfl ?_
      refine cv_L_236 (cs' := 0 + 26 + 8) (ss' := 0 + 312 + 96) dL_isDoneAgain_64  (Nat.le_of_ble_eq_true rfl) (Nat.le_of_ble_eq_true rfl) (Nat.le_of_ble_eq_true rfl) rfl rfl (by show 0 + 26 + 8 ≤ 70; omega) (by show 0 + 312 + 96 ≤ 4500; omega) rfl ?_
      refine l_isWhole c1 o1 hx1 i1 (i2.ps (by omega)) (hGo_i ?_)
      refine G_if_ne (tgt := 72) dL_isDoneAgain_67 (by decide) (fun c67 => ?_) (fun c67 => ?_)
      · refine G_iload dL_isDoneAgain_72 rfl ?_
        refine G_if_ne (tgt := 79) dL_isDoneAgain_74 (by decide) (fun c74 => ?_) (fun c74 => ?_)
        · exact absurd rfl c74
        · refine G_iconst (v := 1) dL_isDoneAgain_77 (by decide) ?_
          refine G_iret dL_isDoneAgain_78 rfl rfl (Nat.le_of_ble_eq_true rfl) (Nat.le_of_ble_eq_true rfl) ?_
          exact h M1 g1 c1 o1 i1 i2 i3 hM1 hx1
      · exact absurd c67 (by decide)
  have kY : G E C RL cL_isDoneAgain zL_isDoneAgain P 0 0 M0 42 [(0, .ref (ad E 0 0 0)), (2, .int (nI w)), (3, .int (nI a)), (4, .int (nI b)), (5, .int 1)] [] := by
    refine G_aload_n dL_isDoneAgain_42 rfl ?_
    refine cv_L_229 (cs' := 0 + 1) (ss' := 0 + 900) dL_isDoneAgain_43  (Nat.le_of_ble_eq_true rfl) (Nat.le_of_ble_eq_true rfl) (Nat.le_of_ble_eq_true rfl) rfl rfl (by show 0 + 1 ≤ 70; omega) (by show 0 + 900 ≤ 4500; omega) rfl ?_
    refine l_digest hC0 hO hX0 (fun r1 hx1 => hGo_a ?_)
    rw [hT2] at hx1
    generalize e1 : xI E (tC E (at' + 4) :: Z) r1 900 (rowF (digL g.A)) = X1
    rw [e1] at hx1
    refine G_st (M' := M0.x X1) rfl rfl (by rw [hT2, e1]) ?_
    have p1 : ∃ Y, X1 = (tC E (at' + 4) :: Z) ++ Y := by rw [← e1]; exact pre_xI ⟨[], (List.append_nil _).symm⟩
    have r1a : X1[Z.length + 1]? = some (r1, .inl (E.2.2.1 0, 900, .inl (rowF (digL g.A)))) := by rw [← e1]; exact xI_at (X := (tC E (at' + 4) :: Z))
    have l1 : X1.length = Z.length + 2 := by rw [← e1]; unfold xI; rw [List.length_append]; rfl
    refine G_goto (tgt := 50) dL_isDoneAgain_46 (by decide) ?_
    refine G_astore dL_isDoneAgain_50 (Nat.le_of_ble_eq_true rfl) ?_
    refine G_aload_n dL_isDoneAgain_52 rfl ?_
    refine G_iload_n dL_isDoneAgain_53 rfl ?_
    refine G_iload_n dL_isDoneAgain_54 rfl ?_
    refine G_iload dL_isDoneAgain_55 rfl ?_
    refine cv_L_233 (cs' := 0 + 1 + 26) (ss' := 0 + 900 + 312) dL_isDoneAgain_57  (Nat.le_of_ble_eq_true rfl) (Nat.le_of_ble_eq_true rfl) (Nat.le_of_ble_eq_true rfl) rfl rfl (by show 0 + 1 + 26 ≤ 70; omega) (by show 0 + 900 + 312 ≤ 4500; omega) rfl ?_
    refine l_act hw ha hb (CG.x hC0) hO hx1 hG hwk (fun M1 g1 hA c1 o1 f1 => hGo_i ?_)
    obtain ⟨i1, i2, i3⟩ := inv g1 hA
    have hM1 : M1.2 = X1 := f1.1
    have hxM1 : xOk E M1.2 := by rw [hM1]; exact hx1
    refine G_if_eq (tgt := 70) dL_isDoneAgain_60 (by decide) (fun c60 => ?_) (fun c60 => ?_)
    · exact absurd c60 (by decide)
    · refine G_aload_n dL_isDoneAgain_63 rfl ?_
      refine cv_L_236 (cs' := 0 + 1 + 26 + 8) (ss' := 0 + 900 + 312 + 96) dL_isDoneAgain_64  (Nat.le_of_ble_eq_true rfl) (Nat.le_of_ble_eq_true rfl) (Nat.le_of_ble_eq_true rfl) rfl rfl (by show 0 + 1 + 26 + 8 ≤ 70; omega) (by show 0 + 900 + 312 + 96 ≤ 4500; omega) rfl ?_
      refine l_isWhole c1 o1 hxM1 i1 (i2.ps (by omega)) (hGo_i ?_)
      refine G_if_ne (tgt := 72) dL_isDoneAgain_67 (by decide) (fun c67 => ?_) (fun c67 => ?_)
      · refine G_iload dL_isDoneAgain_72 rfl ?_
        refine G_if_ne (tgt := 79) dL_isDoneAgain_74 (by decide) (fun c74 => ?_) (fun c74 => ?_)
        · refine G_aload_n dL_isDoneAgain_79 rfl ?_
          refine cv_L_229 (cs' := 0 + 1 + 26 + 8 + 1) (ss' := 0 + 900 + 312 + 96 + 900) dL_isDoneAgain_80  (Nat.le_of_ble_eq_true rfl) (Nat.le_of_ble_eq_true rfl) (Nat.le_of_ble_eq_true rfl) rfl rfl (by show 0 + 1 + 26 + 8 + 1 ≤ 70; omega) (by show 0 + 900 + 312 + 96 + 900 ≤ 4500; omega) rfl ?_
          refine l_digest c1 o1 hxM1 (fun r2 hx2 => hGo_a ?_)
          rw [hM1] at hx2
          generalize e2 : xI E X1 r2 900 (rowF (digL g1.A)) = X2
          rw [e2] at hx2
          refine G_st (M' := M1.x X2) rfl rfl (by rw [hM1, e2]) ?_
          have p2 : ∃ Y, X2 = (tC E (at' + 4) :: Z) ++ Y := by rw [← e2]; exact pre_xI p1
          have r2a : X2[Z.length + 1]? = some (r1, .inl (E.2.2.1 0, 900, .inl (rowF (digL g.A)))) := by rw [← e2]; exact xI_old r1a
          have r2b : X2[Z.length + 2]? = some (r2, .inl (E.2.2.1 0, 900, .inl (rowF (digL g1.A)))) := by rw [← e2, ← l1]; exact xI_at
          have l2 : X2.length = Z.length + 3 := by rw [← e2]; unfold xI; rw [List.length_append, l1]; rfl
          have drop : ∀ (M' : Mm) (X : va_W) (g' : Gs) (cs ss pc : Nat) (lv : List (Nat × Value)), cs ≤ 70 → ss ≤ 4500 → (∃ Y, X = (tC E (at' + 4) :: Z) ++ Y) → xOk E X → M'.2 = X → CG M' g' → Okg g' → Gd g'.A → Bd (k + 1) g'.A → g'.S = g.S → decode cL_isDoneAgain pc = .ok (.ireturn, 1) → G E C RL cL_isDoneAgain zL_isDoneAgain P cs ss M' pc lv [.int 1] := fun M' X g' cs ss pc lv hcs hss hp hx hM' c' o' d1 d2 d3 hd => by
            obtain ⟨Y, eY⟩ := hp
            refine G_xdrop (X := (tC E (at' + 4) :: Z)) (Y := Y) (by rw [← eY]; exact hx) (by rw [hM', eY]) ?_
            exact G_iret hd rfl rfl hcs hss (h _ g' (CG.x c') o' d1 d2 d3 rfl (by rw [eY] at hx; exact xOk_left hx))
          refine G_astore dL_isDoneAgain_83 (Nat.le_of_ble_eq_true rfl) ?_
          refine G_aload dL_isDoneAgain_85 rfl ?_
          refine G_aload dL_isDoneAgain_87 rfl ?_
          refine cv_L_239 (cs' := 0 + 1 + 26 + 8 + 1) (ss' := 0 + 900 + 312 + 96 + 900) dL_isDoneAgain_89 (Nat.le_of_ble_eq_true rfl) (Nat.le_of_ble_eq_true rfl) (Nat.le_of_ble_eq_true rfl) rfl rfl (Nat.le_of_ble_eq_true rfl) (Nat.le_of_ble_eq_true rfl) rfl ?_
          refine l_isSame (M := M1.x X2) hx2 r2b r2a (by decide) (fun hsame => hGo_i ?_) (fun hdiff => hGo_i ?_)
          · refine G_if_eq (tgt := 97) dL_isDoneAgain_92 (by decide) (fun c92 => ?_) (fun c92 => ?_)
            · exact absurd c92 (by decide)
            · refine G_iconst (v := 1) dL_isDoneAgain_95 (by decide) ?_
              exact drop _ X2 g1 _ _ _ _ (by decide) (by decide) p2 hx2 rfl (CG.x c1) o1 i1 i2 i3 dL_isDoneAgain_96
          · have hB1 : ∃ B r, acR g.A w a b = some B ∧ g1 = actG g B ∧ r = (0 : Int32) := by
              obtain ⟨r, er⟩ := hA
              cases e : acR g.A w a b with
              | none =>
                rw [e] at er
                exfalso
                refine hdiff (fun q hq => ?_)
                rw [er]
                rfl
              | some B =>
                rw [e] at er
                exact ⟨B, 0, rfl, er, rfl⟩
            obtain ⟨B, -, eB, eg, -⟩ := hB1
            subst eg
            obtain ⟨u1, u2, u3⟩ := (push_last (g := g) (B := B)).resolve_right (by omega)
            have ou := sUndo_ok o1
            generalize eu : sUndo (actG g B) = gu at u1 u2 u3 ou
            refine G_if_eq (tgt := 97) dL_isDoneAgain_92 (by decide) (fun c92 => ?_) (fun c92 => ?_)
            · refine G_aload_n dL_isDoneAgain_97 rfl ?_
              refine cv_L_243 (cs' := 0 + 1 + 26 + 8 + 1) (ss' := 0 + 900 + 312 + 96 + 900) dL_isDoneAgain_98  (Nat.le_of_ble_eq_true rfl) (Nat.le_of_ble_eq_true rfl) (Nat.le_of_ble_eq_true rfl) rfl rfl (by show 0 + 1 + 26 + 8 + 1 ≤ 70; omega) (by show 0 + 900 + 312 + 96 + 900 ≤ 4500; omega) rfl ?_
              refine s_X8_undo (CG.x c1) o1 (fun M2 c2 f2 => hGo_i ?_)
              rw [eu] at c2 ⊢
              have hM2 : M2.2 = X2 := f2.1
              have hxM2 : xOk E M2.2 := by rw [hM2]; exact hx2
              refine G_if_lt (tgt := 116) dL_isDoneAgain_101 (by decide) (fun c101 => ?_) (fun c101 => ?_)
              · exact absurd c101 (Int32.not_lt.mpr u2)
              · refine G_aload_n dL_isDoneAgain_104 rfl ?_
                refine cv_L_229 (cs' := 0 + 1 + 26 + 8 + 1 + 1) (ss' := 0 + 900 + 312 + 96 + 900 + 900) dL_isDoneAgain_105  (Nat.le_of_ble_eq_true rfl) (Nat.le_of_ble_eq_true rfl) (Nat.le_of_ble_eq_true rfl) rfl rfl (by show 0 + 1 + 26 + 8 + 1 + 1 ≤ 70; omega) (by show 0 + 900 + 312 + 96 + 900 + 900 ≤ 4500; omega) rfl ?_
                refine l_digest c2 ou hxM2 (fun r3 hx3 => hGo_a ?_)
                rw [hM2, u1] at hx3
                generalize e3 : xI E X2 r3 900 (rowF (digL g.A)) = X3
                rw [e3] at hx3
                refine G_st (M' := M2.x X3) rfl rfl (by rw [hM2, u1, e3]) ?_
                have p3 : ∃ Y, X3 = (tC E (at' + 4) :: Z) ++ Y := by rw [← e3]; exact pre_xI p2
                have r3a : X3[Z.length + 1]? = some (r1, .inl (E.2.2.1 0, 900, .inl (rowF (digL g.A)))) := by rw [← e3]; exact xI_old r2a
                have r3b : X3[Z.length + 2]? = some (r2, .inl (E.2.2.1 0, 900, .inl (rowF (digL B)))) := by rw [← e3]; exact xI_old r2b
                have r3c : X3[Z.length + 3]? = some (r3, .inl (E.2.2.1 0, 900, .inl (rowF (digL g.A)))) := by rw [← e3, ← l2]; exact xI_at
                have l3 : X3.length = Z.length + 4 := by rw [← e3]; unfold xI; rw [List.length_append, l2]; rfl
                refine G_aload dL_isDoneAgain_108 rfl ?_
                refine cv_L_239 (cs' := 0 + 1 + 26 + 8 + 1 + 1) (ss' := 0 + 900 + 312 + 96 + 900 + 900) dL_isDoneAgain_110 (Nat.le_of_ble_eq_true rfl) (Nat.le_of_ble_eq_true rfl) (Nat.le_of_ble_eq_true rfl) rfl rfl (Nat.le_of_ble_eq_true rfl) (Nat.le_of_ble_eq_true rfl) rfl ?_
                refine l_isSame (M := M2.x X3) hx3 r3c r3a (by decide) (fun _ => hGo_i ?_) (fun hd => absurd (fun q _ => rfl) hd)
                have hGu : Gd gu.1.A := by rw [u1]; exact hG
                have hwu : ∃ v, v ≤ 900 ∧ gu.1.A.g 1 = nI v := by rw [u1]; exact hwk
                refine G_if_ne (tgt := 118) dL_isDoneAgain_113 (by decide) (fun c113 => ?_) (fun c113 => ?_)
                · refine G_aload_n dL_isDoneAgain_118 rfl ?_
                  refine G_iload_n dL_isDoneAgain_119 rfl ?_
                  refine G_iload_n dL_isDoneAgain_120 rfl ?_
                  refine G_iload dL_isDoneAgain_121 rfl ?_
                  refine cv_L_233 (cs' := 0 + 1 + 26 + 8 + 1 + 1 + 26) (ss' := 0 + 900 + 312 + 96 + 900 + 900 + 312) dL_isDoneAgain_123  (Nat.le_of_ble_eq_true rfl) (Nat.le_of_ble_eq_true rfl) (Nat.le_of_ble_eq_true rfl) rfl rfl (by show 0 + 1 + 26 + 8 + 1 + 1 + 26 ≤ 70; omega) (by show 0 + 900 + 312 + 96 + 900 + 900 + 312 ≤ 4500; omega) rfl ?_
                  refine l_act hw ha hb (CG.x c2) ou hx3 hGu hwu (fun M3 g3 hA3 c3 o3 f3 => hGo_i ?_)
                  have a3 : g3.A = B := by
                    obtain ⟨r, er⟩ := hA3
                    rw [er, stp_A, u1, eB]
                    rfl
                  have s3 : g3.S = g.S := by
                    obtain ⟨r, er⟩ := hA3
                    rw [er, stp_S, u3]
                  have hM3 : M3.2 = X3 := f3.1
                  have hxM3 : xOk E M3.2 := by rw [hM3]; exact hx3
                  refine G_if_eq (tgt := 145) dL_isDoneAgain_126 (by decide) (fun c126 => ?_) (fun c126 => ?_)
                  · exact absurd c126 (by decide)
                  · refine G_aload_n dL_isDoneAgain_129 rfl ?_
                    refine cv_L_229 (cs' := 0 + 1 + 26 + 8 + 1 + 1 + 26 + 1) (ss' := 0 + 900 + 312 + 96 + 900 + 900 + 312 + 900) dL_isDoneAgain_130  (Nat.le_of_ble_eq_true rfl) (Nat.le_of_ble_eq_true rfl) (Nat.le_of_ble_eq_true rfl) rfl rfl (by show 0 + 1 + 26 + 8 + 1 + 1 + 26 + 1 ≤ 70; omega) (by show 0 + 900 + 312 + 96 + 900 + 900 + 312 + 900 ≤ 4500; omega) rfl ?_
                    refine l_digest c3 o3 hxM3 (fun r4 hx4 => hGo_a ?_)
                    rw [hM3, a3] at hx4
                    generalize e4 : xI E X3 r4 900 (rowF (digL B)) = X4
                    rw [e4] at hx4
                    refine G_st (M' := M3.x X4) rfl rfl (by rw [hM3, a3, e4]) ?_
                    have p4 : ∃ Y, X4 = (tC E (at' + 4) :: Z) ++ Y := by rw [← e4]; exact pre_xI p3
                    have r4b : X4[Z.length + 2]? = some (r2, .inl (E.2.2.1 0, 900, .inl (rowF (digL B)))) := by rw [← e4]; exact xI_old r3b
                    have r4d : X4[Z.length + 4]? = some (r4, .inl (E.2.2.1 0, 900, .inl (rowF (digL B)))) := by rw [← e4, ← l3]; exact xI_at
                    refine G_aload dL_isDoneAgain_133 rfl ?_
                    refine cv_L_239 (cs' := 0 + 1 + 26 + 8 + 1 + 1 + 26 + 1) (ss' := 0 + 900 + 312 + 96 + 900 + 900 + 312 + 900) dL_isDoneAgain_135 (Nat.le_of_ble_eq_true rfl) (Nat.le_of_ble_eq_true rfl) (Nat.le_of_ble_eq_true rfl) rfl rfl (Nat.le_of_ble_eq_true rfl) (Nat.le_of_ble_eq_true rfl) rfl ?_
                    refine l_isSame (M := M3.x X4) hx4 r4d r4b (by decide) (fun _ => hGo_i ?_) (fun hd => absurd (fun q _ => rfl) hd)
                    refine G_if_eq (tgt := 145) dL_isDoneAgain_138 (by decide) (fun c138 => ?_) (fun c138 => ?_)
                    · exact absurd c138 (by decide)
                    · refine G_iconst (v := 1) dL_isDoneAgain_141 (by decide) ?_
                      refine G_goto (tgt := 146) dL_isDoneAgain_142 (by decide) ?_
                      exact drop _ X4 g3 _ _ _ _ (by decide) (by decide) p4 hx4 rfl (CG.x c3) o3 (by rw [a3]; exact i1) (by rw [a3]; exact i2) s3 dL_isDoneAgain_146
                · exact absurd c113 (by decide)
            · exact absurd rfl c92
        · exact absurd c74 (by decide)
      · exact absurd c67 (by decide)
  refine G_if_ne (tgt := 34) dL_isDoneAgain_27 (by decide) (fun c27 => ?_) (fun c27 => ?_)
  · refine G_iconst (v := 0) dL_isDoneAgain_34 (by decide) ?_
    refine G_istore dL_isDoneAgain_35 (Nat.le_of_ble_eq_true rfl) ?_
    refine G_iload dL_isDoneAgain_37 rfl ?_
    refine G_if_eq (tgt := 49) dL_isDoneAgain_39 (by decide) (fun c39 => ?_) (fun c39 => ?_)
    · exact G_lv2 kN ⟨rfl, rfl, rfl, rfl, rfl, trivial⟩
    · exact absurd rfl c39
  · refine G_iconst (v := 1) dL_isDoneAgain_30 (by decide) ?_
    refine G_goto (tgt := 35) dL_isDoneAgain_31 (by decide) ?_
    refine G_istore dL_isDoneAgain_35 (Nat.le_of_ble_eq_true rfl) ?_
    refine G_iload dL_isDoneAgain_37 rfl ?_
    refine G_if_eq (tgt := 49) dL_isDoneAgain_39 (by decide) (fun c39 => ?_) (fun c39 => ?_)
    · exact absurd c39 (by decide)
    · exact G_lv2 kY ⟨rfl, rfl, rfl, rfl, rfl, trivial⟩
end LAGAIN
