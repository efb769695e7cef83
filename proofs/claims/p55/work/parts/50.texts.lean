/-! ===== HomeworkBarter: texts, undo, saved states, output ===== -/
section CTXS
variable {E : Ed} {M M' : Mm} {P : Res → Mm → Prop} {A : Ab} {g : Gs}
abbrev setL (g : Gs) (L : List Int32) : Gs := (g.A, g.U, g.S, g.R, L, g.e, g.W)
abbrev setW (g : Gs) (W : List Int32) : Gs := (g.A, g.U, g.S, g.R, g.L, g.e, W)
theorem CG.txt {L : List Int32} (h : CG M g) (hT : Txt M' 0 L) (hf : Fr (dX 0) M M') : CG M' (setL g L) := by
  obtain ⟨a, b, c, d, e, f, i⟩ := h
  have hd : ∀ k j p, dX 0 k j p → (k = 2 ∨ k = 3) ∧ j = 0 := fun k j p q => q
  exact ⟨a.frD hf (fun k j p q z => by have := hd k j p q; omega), b.fr hf (fun k j p q z => by have := hd k j p q; omega), c.fr hf (fun k j p q z => by have := hd k j p q; omega), d.fr hf (fun k j p q z => by have := hd k j p q; omega), ⟨hT, (hf.at (fun q => by have := hd 1 0 0 q; omega) 5).trans e.2.1, (hf.at (fun q => by have := hd 1 0 0 q; omega) 6).trans e.2.2⟩, f.fr hf (fun k j p q z => by have := hd k j p q; omega), fun p hp => (hf.at (fun q => by have := hd 12 1 p q; omega) 0).trans (i p hp)⟩
theorem dX_Cl {j : Nat} : ∀ k j' p, dX j k j' p → dCl k j' p := fun k j' p q => by have q' : (k = 2 ∨ k = 3) ∧ j' = j := q; show k ≤ 19; omega
/-- the four bytes of x, the highest first -/
def by4 (x : Int32) : List Int32 := [(x.toUInt32 >>> ((24 : Int32).toUInt32 &&& Int32.toUInt32 31)).toInt32 &&& 255, (x.toUInt32 >>> ((16 : Int32).toUInt32 &&& Int32.toUInt32 31)).toInt32 &&& 255, (x.toUInt32 >>> ((8 : Int32).toUInt32 &&& Int32.toUInt32 31)).toInt32 &&& 255, (x.toUInt32 >>> ((0 : Int32).toUInt32 &&& Int32.toUInt32 31)).toInt32 &&& 255]
theorem and255_2 (x : Int32) : x &&& 255 &&& 255 = x &&& 255 := by rw [Int32.and_assoc]; rfl
def qAppend (g : Gs) (x : Int32) : Gs × Qq := if 496 < g.L.length then thr g 1 else (setL g (g.L ++ by4 x), (0, nI (g.L.length + 4)))
theorem s_X8_appendText {x : Int32} (hC : CG M g) (h : ∀ M', CG M' (qAppend g x).1 → Fr dCl M M' → P (rs xS (qAppend g x).2) M') : Sp E yX8_appendText cX8_appendText zX8_appendText [.ref (ad E 0 0 0), .int x] M P := by
  unfold qAppend at h
  obtain ⟨tL, e1, e2⟩ := hC.2.2.2.2.1
  have l5 := tL.l5
  refine Sp_of (own := RX8) (by decide) rfl rfl (Nat.le_of_ble_eq_true rfl) (fun C => ?_)
  refine G_aload_n dX8_appendText_0 rfl ?_
  refine gf_X8_10 dX8_appendText_1  ?_
  refine gf_X8_69 dX8_appendText_4  ?_
  refine G_astore_n dX8_appendText_7 (Nat.le_of_ble_eq_true rfl) ?_
  refine G_aload_n dX8_appendText_8 rfl ?_
  refine gf_X8_72 dX8_appendText_9 (by decide) ?_
  rw [tL.1]
  refine G_sipush (v := 496) dX8_appendText_12 (by decide) ?_
  refine G_icmp_le (tgt := 28) dX8_appendText_15 (by decide) (fun c15 => ?_) (fun c15 => ?_)
  · have hl : ¬ 496 < g.L.length := fun q => absurd c15 (nI_ge (a := 496) q (by omega))
    rw [if_neg hl] at h
    refine G_bipush (v := 24) dX8_appendText_28 (by decide) ?_
    refine G_istore_n dX8_appendText_30 (Nat.le_of_ble_eq_true rfl) ?_
    have key : ∀ (M1 : Mm) (L1 : List Int32), L1.length < 500 → Txt M1 0 L1 → Fr (dX 0) M M1 → ∀ (sh : Int32), ¬ sh < 0 → (∀ M2, Txt M2 0 (L1 ++ [(x.toUInt32 >>> (sh.toUInt32 &&& Int32.toUInt32 31)).toInt32 &&& 255]) → Fr (dX 0) M M2 → G E C RX8 cX8_appendText zX8_appendText P 0 0 M2 31 [(0, .ref (ad E 0 0 0)), (1, .int x), (2, .ref (ad E 2 0 0)), (3, .int (sh + (-8)))] []) → G E C RX8 cX8_appendText zX8_appendText P 0 0 M1 31 [(0, .ref (ad E 0 0 0)), (1, .int x), (2, .ref (ad E 2 0 0)), (3, .int sh)] [] := by
      intro M1 L1 hl1 t1 f1 sh hsh hk
      refine G_iload_n dX8_appendText_31 rfl ?_
      refine G_if_lt (tgt := 52) dX8_appendText_32 (by decide) (fun c32 => ?_) (fun c32 => ?_)
      · exact absurd c32 hsh
      · refine G_aload_n dX8_appendText_35 rfl ?_
        refine G_iload_n dX8_appendText_36 rfl ?_
        refine G_iload_n dX8_appendText_37 rfl ?_
        refine G_iushr dX8_appendText_38 ?_
        refine G_sipush (v := 255) dX8_appendText_39 (by decide) ?_
        refine G_iand dX8_appendText_42 ?_
        refine cv_X8_83 (cs' := 0) (ss' := 0) dX8_appendText_43 (by decide) (Nat.le_of_ble_eq_true rfl) (Nat.le_of_ble_eq_true rfl) (Nat.le_of_ble_eq_true rfl) rfl rfl (Nat.le_of_ble_eq_true rfl) (Nat.le_of_ble_eq_true rfl) rfl ?_
        refine s_X5_append (by decide) t1 hl1 (fun M2 t2 f2 => hGo_v ?_)
        refine G_iinc (v := (-8)) dX8_appendText_46 rfl (Nat.le_of_ble_eq_true rfl) (by decide) ?_
        refine G_goto (tgt := 31) dX8_appendText_49 (by decide) ?_
        rw [and255_2] at t2
        exact G_lv2 (hk M2 t2 (f1.trans f2)) ⟨rfl, rfl, rfl, rfl, trivial⟩
    refine G_lv2 (key M g.L (by omega) tL Fr.rfl 24 (by decide) (fun M2 t2 f2 => ?_)) ⟨rfl, rfl, rfl, rfl, trivial⟩
    refine key M2 _ (by simp; omega) t2 f2 16 (by decide) (fun M3 t3 f3 => ?_)
    refine key M3 _ (by simp; omega) t3 f3 8 (by decide) (fun M4 t4 f4 => ?_)
    refine key M4 _ (by simp; omega) t4 f4 0 (by decide) (fun M5 t5 f5 => ?_)
    rw [List.append_assoc, List.append_assoc, List.append_assoc] at t5
    have t5' : Txt M5 0 (g.L ++ by4 x) := t5
    have h5 := h M5 (hC.txt t5' f5) (f5.mono dX_Cl)
    refine G_iload_n dX8_appendText_31 rfl ?_
    refine G_if_lt (tgt := 52) dX8_appendText_32 (by decide) (fun c32 => ?_) (fun c32 => ?_)
    · refine G_aload_n dX8_appendText_52 rfl ?_
      refine gf_X8_72 dX8_appendText_53 (by decide) ?_
      rw [t5'.1]
      refine G_iret dX8_appendText_56 rfl rfl (Nat.le_of_ble_eq_true rfl) (Nat.le_of_ble_eq_true rfl) ?_
      rw [List.length_append] at *
      exact h5
    · exact absurd (show (0 : Int32) + (-8) < 0 by decide) c32
  · have hl : 496 < g.L.length := by
      rcases Nat.lt_or_ge 496 g.L.length with q | q
      · exact q
      · exact absurd (nI_le (b := 496) q (by decide)) c15
    rw [if_pos hl] at h
    exact G_thrN (h M hC Fr.rfl)
def qTrunc (g : Gs) (x : Int32) : Gs × Qq := if inR x 0 (nI g.L.length) then (setL g (g.L.take (tn x)), (0, x)) else thr g 1
theorem s_X8_truncateText {x : Int32} (hC : CG M g) (h : ∀ M', CG M' (qTrunc g x).1 → Fr dCl M M' → P (rs xA (qTrunc g x).2) M') : Sp E yX8_truncateText cX8_truncateText zX8_truncateText [.ref (ad E 0 0 0), .int x] M P := by
  unfold qTrunc at h
  obtain ⟨tL, e1, e2⟩ := hC.2.2.2.2.1
  have l5 := tL.l5
  refine Sp_of (own := RX8) (by decide) rfl rfl (Nat.le_of_ble_eq_true rfl) (fun C => ?_)
  refine G_iload_n dX8_truncateText_0 rfl ?_
  refine G_iconst (v := 0) dX8_truncateText_1 (by decide) ?_
  refine G_aload_n dX8_truncateText_2 rfl ?_
  refine gf_X8_10 dX8_truncateText_3  ?_
  refine gf_X8_69 dX8_truncateText_6  ?_
  refine gf_X8_72 dX8_truncateText_9 (by decide) ?_
  rw [tL.1]
  refine cv_X8_86 (cs' := 0) (ss' := 0) dX8_truncateText_12  (Nat.le_of_ble_eq_true rfl) (Nat.le_of_ble_eq_true rfl) (Nat.le_of_ble_eq_true rfl) rfl rfl (Nat.le_of_ble_eq_true rfl) (Nat.le_of_ble_eq_true rfl) rfl ?_
  refine s_X8_needRange (fun c1 => hGo_v ?_) (fun c1 => hGo_x (by rw [if_neg c1] at h; exact h M hC Fr.rfl))
  rw [if_pos c1] at h
  obtain ⟨n, -, hn, rfl, en⟩ := inR_ix (i := 0) (k := g.L.length) (by omega) (by omega) c1
  rw [en] at h
  refine G_aload_n dX8_truncateText_15 rfl ?_
  refine gf_X8_10 dX8_truncateText_16  ?_
  refine gf_X8_69 dX8_truncateText_19  ?_
  refine G_iload_n dX8_truncateText_22 rfl ?_
  refine cv_X8_90 (cs' := 0) (ss' := 0) dX8_truncateText_23 (by decide) (Nat.le_of_ble_eq_true rfl) (Nat.le_of_ble_eq_true rfl) (Nat.le_of_ble_eq_true rfl) rfl rfl (Nat.le_of_ble_eq_true rfl) (Nat.le_of_ble_eq_true rfl) rfl ?_
  refine s_X5_cut (by decide) tL hn (fun M1 t1 f1 => hGo_v ?_)
  refine G_iload_n dX8_truncateText_26 rfl ?_
  refine G_iret dX8_truncateText_27 rfl rfl (Nat.le_of_ble_eq_true rfl) (Nat.le_of_ble_eq_true rfl) ?_
  exact h M1 (hC.txt t1 f1) (f1.mono dX_Cl)
end CTXS
