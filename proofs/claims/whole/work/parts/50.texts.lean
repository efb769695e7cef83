/-! ===== HomeworkBarter: texts, undo, saved states, output ===== -/
section CTXS
variable {E : Ed} {M M' : Mm} {P : Res → Mm → Prop} {A : Ab} {g : Gs}
abbrev setL (g : Gs) (L : List Int32) : Gs := (g.A, g.U, g.S, g.R, L, g.e, g.W)
abbrev setW (g : Gs) (W : List Int32) : Gs := (g.A, g.U, g.S, g.R, g.L, g.e, W)
theorem CG.txt {L : List Int32} (h : CG M g) (hT : Txt M' 0 L) (hf : Fr (dX 0) M M') : CG M' (setL g L) := by
  obtain ⟨a, b, c, d, e, f, i⟩ := h
  have hd : ∀ k j p, dX 0 k j p → (k = 2 ∨ k = 3) ∧ j = 0 := fun k j p q => q
  exact ⟨a.frD hf (fun k j p q z => by have := hd k j p q; omega), b.fr hf (fun k j p q z => by have := hd k j p q; omega), c.fr hf (fun k j p q z => by have := hd k j p q; omega), d.fr hf (fun k j p q z => by have := hd k j p q; omega), ⟨hT, (hf.at (fun q => by have := hd 1 0 0 q; omega) 5).trans e.2.1, (hf.at (fun q => by have := hd 1 0 0 q; omega) 6).trans e.2.2⟩, f.fr hf (fun k j p q z => by have := hd k j p q; omega), fun p hp => (hf.at (fun q => by have := hd 12 1 p q; omega) 0).trans (i p hp)⟩
theorem CG.out1 {L : List Int32} (h : CG M g) (hT : Txt M' 1 L) (hf : Fr (dX 1) M M') : CG M' (setW g L) := by
  obtain ⟨a, b, c, d, e, f, i⟩ := h
  have hd : ∀ k j p, dX 1 k j p → (k = 2 ∨ k = 3) ∧ j = 1 := fun k j p q => q
  exact ⟨a.frD hf (fun k j p q z => by have := hd k j p q; omega), b.fr hf (fun k j p q z => by have := hd k j p q; omega), c.fr hf (fun k j p q z => by have := hd k j p q; omega), d.fr hf (fun k j p q z => by have := hd k j p q; omega), e.fr hf (fun k j p q z => by have := hd k j p q; omega), hT, fun p hp => (hf.at (fun q => by have := hd 12 1 p q; omega) 0).trans (i p hp)⟩
theorem dX_Cl {j : Nat} : ∀ k j' p, dX j k j' p → dCl k j' p := fun k j' p q => by have q' : (k = 2 ∨ k = 3) ∧ j' = j := q; show k ≤ 19; omega
/-- the four bytes of x, the highest first -/
def by4 (x : Int32) : List Int32 := [(x.toUInt32 >>> ((24 : Int32).toUInt32 &&& Int32.toUInt32 31)).toInt32 &&& 255, (x.toUInt32 >>> ((16 : Int32).toUInt32 &&& Int32.toUInt32 31)).toInt32 &&& 255, (x.toUInt32 >>> ((8 : Int32).toUInt32 &&& Int32.toUInt32 31)).toInt32 &&& 255, (x.toUInt32 >>> ((0 : Int32).toUInt32 &&& Int32.toUInt32 31)).toInt32 &&& 255]
theorem and255_2 (x : Int32) : x &&& 255 &&& 255 = x &&& 255 := by rw [Int32.and_assoc]; rfl
def qAppend (g : Gs) (x : Int32) : Gs × Qq := if 496 < g.L.length then thr g 1 else (setL g (g.L ++ by4 x), (0, nI (g.L.length + 4)))
theorem s_X8_appendText {x : Int32} (hC : CG M g) (h : ∀ M', CG M' (qAppend g x).1 → Fr dCl M M' → P (rs xS (qAppend g x).2) M') : Sp E yX8_appendText cX8_appendText zX8_appendText [.ref (ad E 0 0 0), .int x] M P := by
  unfold qAppend at h
  obtain ⟨tL, e1, e2⟩ := hC.2.2.2.2.1
  have l5 := tL.l5
  refine Sp_of (own := RX8) (by decide) rfl rfl (Nat.le_of_ble_eq_true rfl) (fun C => ?_)
  refine G_aload_n dX8_appendText_0 rfl ?_
  refine gf_X8_10 dX8_appendText_1  ?_
  refine gf_X8_69 dX8_appendText_4  ?_
  refine G_astore_n dX8_appendText_7 (Nat.le_of_ble_eq_true rfl) ?_
  refine G_aload_n dX8_appendText_8 rfl ?_
  refine gf_X8_72 dX8_appendText_9 (by decide) ?_
  rw [tL.1]
  refine G_sipush (v := 496) dX8_appendText_12 (by decide) ?_
  refine G_icmp_le (tgt := 28) dX8_appendText_15 (by decide) (fun c15 => ?_) (fun c15 => ?_)
  · have hl : ¬ 496 < g.L.length := fun q => absurd c15 (nI_ge (a := 496) q (by omega))
    rw [if_neg hl] at h
    refine G_bipush (v := 24) dX8_appendText_28 (by decide) ?_
    refine G_istore_n dX8_appendText_30 (Nat.le_of_ble_eq_true rfl) ?_
    have key : ∀ (M1 : Mm) (L1 : List Int32), L1.length < 500 → Txt M1 0 L1 → Fr (dX 0) M M1 → ∀ (sh : Int32), ¬ sh < 0 → (∀ M2, Txt M2 0 (L1 ++ [(x.toUInt32 >>> (sh.toUInt32 &&& Int32.toUInt32 31)).toInt32 &&& 255]) → Fr (dX 0) M M2 → G E C RX8 cX8_appendText zX8_appendText P 0 0 M2 31 [(0, .ref (ad E 0 0 0)), (1, .int x), (2, .ref (ad E 2 0 0)), (3, .int (sh + (-8)))] []) → G E C RX8 cX8_appendText zX8_appendText P 0 0 M1 31 [(0, .ref (ad E 0 0 0)), (1, .int x), (2, .ref (ad E 2 0 0)), (3, .int sh)] [] := by
      intro M1 L1 hl1 t1 f1 sh hsh hk
      refine G_iload_n dX8_appendText_31 rfl ?_
      refine G_if_lt (tgt := 52) dX8_appendText_32 (by decide) (fun c32 => ?_) (fun c32 => ?_)
      · exact absurd c32 hsh
      · refine G_aload_n dX8_appendText_35 rfl ?_
        refine G_iload_n dX8_appendText_36 rfl ?_
        refine G_iload_n dX8_appendText_37 rfl ?_
        refine G_iushr dX8_appendText_38 ?_
        refine G_sipush (v := 255) dX8_appendText_39 (by decide) ?_
        refine G_iand dX8_appendText_42 ?_
        refine cv_X8_83 (cs' := 0) (ss' := 0) dX8_appendText_43 (by decide) (Nat.le_of_ble_eq_true rfl) (Nat.le_of_ble_eq_true rfl) (Nat.le_of_ble_eq_true rfl) rfl rfl (Nat.le_of_ble_eq_true rfl) (Nat.le_of_ble_eq_true rfl) rfl ?_
        refine s_X5_append (by decide) t1 hl1 (fun M2 t2 f2 => hGo_v ?_)
        refine G_iinc (v := (-8)) dX8_appendText_46 rfl (Nat.le_of_ble_eq_true rfl) (by decide) ?_
        refine G_goto (tgt := 31) dX8_appendText_49 (by decide) ?_
        rw [and255_2] at t2
        exact G_lv2 (hk M2 t2 (f1.trans f2)) ⟨rfl, rfl, rfl, rfl, trivial⟩
    refine G_lv2 (key M g.L (by omega) tL Fr.rfl 24 (by decide) (fun M2 t2 f2 => ?_)) ⟨rfl, rfl, rfl, rfl, trivial⟩
    refine key M2 _ (by simp; omega) t2 f2 16 (by decide) (fun M3 t3 f3 => ?_)
    refine key M3 _ (by simp; omega) t3 f3 8 (by decide) (fun M4 t4 f4 => ?_)
    refine key M4 _ (by simp; omega) t4 f4 0 (by decide) (fun M5 t5 f5 => ?_)
    rw [List.append_assoc, List.append_assoc, List.append_assoc] at t5
    have t5' : Txt M5 0 (g.L ++ by4 x) := t5
    have h5 := h M5 (hC.txt t5' f5) (f5.mono dX_Cl)
    refine G_iload_n dX8_appendText_31 rfl ?_
    refine G_if_lt (tgt := 52) dX8_appendText_32 (by decide) (fun c32 => ?_) (fun c32 => ?_)
    · refine G_aload_n dX8_appendText_52 rfl ?_
      refine gf_X8_72 dX8_appendText_53 (by decide) ?_
      rw [t5'.1]
      refine G_iret dX8_appendText_56 rfl rfl (Nat.le_of_ble_eq_true rfl) (Nat.le_of_ble_eq_true rfl) ?_
      rw [List.length_append] at *
      exact h5
    · exact absurd (show (0 : Int32) + (-8) < 0 by decide) c32
  · have hl : 496 < g.L.length := by
      rcases Nat.lt_or_ge 496 g.L.length with q | q
      · exact q
      · exact absurd (nI_le (b := 496) q (by decide)) c15
    rw [if_pos hl] at h
    exact G_thr 12 thIS dX8_appendText_18 dX8_appendText_21 dX8_appendText_22 dX8_appendText_24 dX8_appendText_27 (by decide) rfl rfl rfl (Nat.le_of_ble_eq_true rfl) (Nat.le_of_ble_eq_true rfl) (Nat.le_of_ble_eq_true rfl) (Nat.le_of_ble_eq_true rfl) (h M hC Fr.rfl)
def qTrunc (g : Gs) (x : Int32) : Gs × Qq := if inR x 0 (nI g.L.length) then (setL g (g.L.take (tn x)), (0, x)) else thr g 1
theorem s_X8_truncateText {x : Int32} (hC : CG M g) (h : ∀ M', CG M' (qTrunc g x).1 → Fr dCl M M' → P (rs xA (qTrunc g x).2) M') : Sp E yX8_truncateText cX8_truncateText zX8_truncateText [.ref (ad E 0 0 0), .int x] M P := by
  unfold qTrunc at h
  obtain ⟨tL, e1, e2⟩ := hC.2.2.2.2.1
  have l5 := tL.l5
  refine Sp_of (own := RX8) (by decide) rfl rfl (Nat.le_of_ble_eq_true rfl) (fun C => ?_)
  refine G_iload_n dX8_truncateText_0 rfl ?_
  refine G_iconst (v := 0) dX8_truncateText_1 (by decide) ?_
  refine G_aload_n dX8_truncateText_2 rfl ?_
  refine gf_X8_10 dX8_truncateText_3  ?_
  refine gf_X8_69 dX8_truncateText_6  ?_
  refine gf_X8_72 dX8_truncateText_9 (by decide) ?_
  rw [tL.1]
  refine cv_X8_86 (cs' := 1) (ss' := 6) dX8_truncateText_12  (Nat.le_of_ble_eq_true rfl) (Nat.le_of_ble_eq_true rfl) (Nat.le_of_ble_eq_true rfl) rfl rfl (Nat.le_of_ble_eq_true rfl) (Nat.le_of_ble_eq_true rfl) rfl ?_
  refine s_X8_needRange (fun c1 => hGo_v ?_) (fun c1 => hGo_x (by rw [if_neg c1] at h; exact h M hC Fr.rfl))
  rw [if_pos c1] at h
  obtain ⟨n, -, hn, rfl, en⟩ := inR_ix (i := 0) (k := g.L.length) (by omega) (by omega) c1
  rw [en] at h
  refine G_aload_n dX8_truncateText_15 rfl ?_
  refine gf_X8_10 dX8_truncateText_16  ?_
  refine gf_X8_69 dX8_truncateText_19  ?_
  refine G_iload_n dX8_truncateText_22 rfl ?_
  refine cv_X8_90 (cs' := 1) (ss' := 6) dX8_truncateText_23 (by decide) (Nat.le_of_ble_eq_true rfl) (Nat.le_of_ble_eq_true rfl) (Nat.le_of_ble_eq_true rfl) rfl rfl (Nat.le_of_ble_eq_true rfl) (Nat.le_of_ble_eq_true rfl) rfl ?_
  refine s_X5_cut (by decide) tL hn (fun M1 t1 f1 => hGo_v ?_)
  refine G_iload_n dX8_truncateText_26 rfl ?_
  refine G_iret dX8_truncateText_27 rfl rfl (Nat.le_of_ble_eq_true rfl) (Nat.le_of_ble_eq_true rfl) ?_
  exact h M1 (hC.txt t1 f1) (f1.mono dX_Cl)
theorem s_X8_errorCode (hC : CG M g) (h : P (.inl (some (.int g.e.1))) M) : Sp E yX8_errorCode cX8_errorCode zX8_errorCode [.ref (ad E 0 0 0)] M P := by
  refine Sp_of (own := RX8) (by decide) rfl rfl (Nat.le_of_ble_eq_true rfl) (fun C => ?_)
  refine G_aload_n dX8_errorCode_0 rfl ?_
  refine gf_X8_10 dX8_errorCode_1  ?_
  refine gf_X8_119 dX8_errorCode_4  ?_
  rw [hC.2.2.2.2.1.2.1]
  refine G_iret dX8_errorCode_7 rfl rfl (Nat.le_of_ble_eq_true rfl) (Nat.le_of_ble_eq_true rfl) ?_
  exact h
theorem s_X8_errorPosition (hC : CG M g) (h : P (.inl (some (.int g.e.2))) M) : Sp E yX8_errorPosition cX8_errorPosition zX8_errorPosition [.ref (ad E 0 0 0)] M P := by
  refine Sp_of (own := RX8) (by decide) rfl rfl (Nat.le_of_ble_eq_true rfl) (fun C => ?_)
  refine G_aload_n dX8_errorPosition_0 rfl ?_
  refine gf_X8_10 dX8_errorPosition_1  ?_
  refine gf_X8_122 dX8_errorPosition_4  ?_
  rw [hC.2.2.2.2.1.2.2]
  refine G_iret dX8_errorPosition_7 rfl rfl (Nat.le_of_ble_eq_true rfl) (Nat.le_of_ble_eq_true rfl) ?_
  exact h
theorem s_X8_output {x : Int32} (hC : CG M g) (h : P (.inl (some (.int (atL g.W x)))) M) : Sp E yX8_output cX8_output zX8_output [.ref (ad E 0 0 0), .int x] M P := by
  refine Sp_of (own := RX8) (by decide) rfl rfl (Nat.le_of_ble_eq_true rfl) (fun C => ?_)
  refine G_aload_n dX8_output_0 rfl ?_
  refine gf_X8_57 dX8_output_1  ?_
  refine G_iload_n dX8_output_4 rfl ?_
  refine cv_X8_425 (cs' := 0) (ss' := 0) dX8_output_5 (by decide) (Nat.le_of_ble_eq_true rfl) (Nat.le_of_ble_eq_true rfl) (Nat.le_of_ble_eq_true rfl) rfl rfl (Nat.le_of_ble_eq_true rfl) (Nat.le_of_ble_eq_true rfl) rfl ?_
  refine s_X5_at (by decide) hC.2.2.2.2.2.1 (hGo_i ?_)
  refine G_iret dX8_output_8 rfl rfl (Nat.le_of_ble_eq_true rfl) (Nat.le_of_ble_eq_true rfl) ?_
  exact h
def sLoad (g : Gs) (v : Int32) (A0 : Ab) : Gs × Int32 := if (setupV g.L v A0).1.code = 0 then (((setupV g.L v A0).2, [], g.S, g.R, [], ((setupV g.L v A0).1.code, (setupV g.L v A0).1.pos), g.W), nI (setupV g.L v A0).2.n) else ((g.A, g.U, g.S, g.R, [], ((setupV g.L v A0).1.code, (setupV g.L v A0).1.pos), g.W), -1)
theorem lkN_good {L : List Int32} {T : Tks} {a b : Int32} (h : (lkN a b T).code = 0) : T.code = 0 ∧ T.kind = 2 ∧ inR T.val a b := by
  unfold lkN at h
  split at h
  · exact absurd h (fai_is (by decide))
  · rename_i c
    split at h
    · rename_i d
      exact ⟨h, d, Int32.not_lt.mp (fun q => c (Or.inl q)), Int32.not_lt.mp (fun q => c (Or.inr q))⟩
    · exact absurd h (fai_is (by decide))
theorem tkN_good {L : List Int32} {T : Tks} {a b : Int32} (h : (tkN L a b T).code = 0) : T.code = 0 ∧ T.kind = 2 ∧ inR T.val a b := by
  unfold tkN at h
  rw [adv_code] at h
  exact lkN_good (L := L) h
theorem tkB_good {L : List Int32} {T : Tks} (h : (tkB L T).code = 0) : T.code = 0 ∧ (isW L T (hSb2 10) ∨ isW L T (hSb2 11)) := by
  unfold tkB at h
  rw [adv_code] at h
  split at h
  · exact ⟨h, by assumption⟩
  · exact absurd h (fai_is (by decide))
theorem tkS_good {L : List Int32} {T : Tks} (h : (tkS L T).code = 0) : T.code = 0 ∧ T.kind = 3 := by
  unfold tkS at h
  rw [adv_code] at h
  split at h
  · exact ⟨h, by assumption⟩
  · exact absurd h (fai_is (by decide))
theorem tkW_good {L w : List Int32} {T : Tks} (h : (tkW L w T).code = 0) : T.code = 0 ∧ isW L T w := by
  unfold tkW at h
  rw [adv_code] at h
  split at h
  · exact ⟨h, by assumption⟩
  · exact absurd h (fai_is (by decide))
/-- what a pupil that was read is -/
theorem rdPt_good {L : List Int32} {T : Tks} (h : (rdPt L T A).code = 0) : T.code = 0 ∧ A.n < 12 ∧ isW L T (hSb2 1) ∧ inR (p2 L T A).val 0 5 ∧ inR (p3 L T A).val 0 5 ∧ onV A (p2 L T A).val (p3 L T A).val = -1 ∧ inR (p6 L T A).val 1 9 ∧ inR (p7 L T A).val 1 9 := by
  have hn : A.n < 12 := Nat.not_le.mp (fun q => rdPt_full (L := L) (T := T) (A := A) (Nat.not_lt.mpr q) h)
  have h9 := (tkS_good (L := L) (T := p9 L T A) h).1
  have h8 : (p8 L T A).code = 0 := by
    unfold p9 at h9
    split at h9
    · rw [adv_code] at h9
      exact h9
    · exact h9
  obtain ⟨h7, -, k7⟩ := tkN_good (L := L) (T := p7 L T A) h8
  obtain ⟨h6, -, k6⟩ := tkN_good (L := L) (T := p6 L T A) h7
  have h5 : (p5 L T A).code = 0 := by
    unfold p6 at h6
    rw [adv_code] at h6
    exact h6
  have h4 : (p4 L T A).code = 0 ∧ onV A (p2 L T A).val (p3 L T A).val = -1 := by
    unfold p5 at h5
    split at h5
    · exact ⟨h5, by assumption⟩
    · exact absurd h5 (fai_is (by decide))
  obtain ⟨h3, -, k3⟩ := lkN_good (L := L) (T := p3 L T A) h4.1
  obtain ⟨h2, -, k2⟩ := tkN_good (L := L) (T := p2 L T A) h3
  have h1 := tkW_good (L := L) (T := p1 L T A) h2
  have e1 : p1 L T A = T := if_pos hn
  rw [e1] at h1
  exact ⟨h1.1, hn, h1.2, k2, k3, h4.2, k6, k7⟩
def Ok0 (A : Ab) : Prop := A.n ≤ 12 ∧ (0 ≤ A.g 3 ∧ 0 ≤ A.g 4 ∧ 0 ≤ A.g 5) ∧ (∀ p, p < A.n → fOk A.n (A.f p)) ∧ (∀ q, q < 2 * A.n → mOk A.n (A.s q)) ∧ A.d = []
theorem bs_up {p : Nat → Bool} : ∀ {n : Nat}, bs p n = bs (fun i => p i && decide (i < n)) (n + 1) := by
  intro n
  show _ = if (p n && decide (n < n)) = true then _ else _
  rw [if_neg (by simp)]
  have key : ∀ k, k ≤ n → bs p k = bs (fun i => p i && decide (i < n)) k := by
    intro k
    induction k with
    | zero => intro _; rfl
    | succ k ih =>
      intro hk
      show (if p k = true then _ else _) = if (p k && decide (k < n)) = true then _ else _
      rw [ih (by omega), decide_eq_true (show k < n by omega), Bool.and_true]
  exact key n (Nat.le_refl _)
theorem wOk_up {n : Nat} {w : Int32} (h : wOk n w) : wOk (n + 1) w := by
  obtain ⟨p, rfl⟩ := h
  exact ⟨_, bs_up⟩
theorem Ok0.rd {L : List Int32} {T : Tks} (h : Ok0 A) : Ok0 (rdPa L T A) := by
  unfold rdPa
  split
  · rename_i hc
    obtain ⟨-, hn, -, -, -, -, k6, k7⟩ := rdPt_good hc
    obtain ⟨h1, h2, h3, h4, h5⟩ := h
    refine ⟨hn, h2, fun p hp => ?_, fun q hq => ?_, h5⟩
    · have hp' : p < A.n + 1 := hp
      have e : ∀ k, (enrolA A (p2 L T A).val (p3 L T A).val (p6 L T A).val (p7 L T A).val (pSpy L T A)).f p k = if p = A.n then (match k with | 0 => (p2 L T A).val | 1 => (p3 L T A).val | 2 => (p6 L T A).val | 3 => (p7 L T A).val | 4 => pSpy L T A | 5 => A.g 2 | _ => 0) else A.f p k := fun _ => rfl
      unfold fOk
      rw [e 2, e 3, e 4, e 8, e 9]
      by_cases q : p = A.n
      · rw [if_pos q, if_pos q, if_pos q, if_pos q, if_pos q]
        refine ⟨k6, k7, ?_, by decide, wOk_0 _⟩
        show pSpy L T A = 0 ∨ pSpy L T A = 1
        unfold pSpy
        split <;> simp
      · rw [if_neg q, if_neg q, if_neg q, if_neg q, if_neg q]
        obtain ⟨a, b, c, d, f⟩ := h3 p (by omega)
        exact ⟨a, b, c, d, wOk_up f⟩
    · have hq' : q < 2 * (A.n + 1) := hq
      show mOk (A.n + 1) (if q / 2 = A.n then [] else A.s q)
      split
      · exact mOk_0 _
      · have := h4 q (by omega)
        exact ⟨this.1, fun k hk => by
          obtain ⟨m, hm, e⟩ := this.2 k hk
          exact ⟨m, by omega, e⟩⟩
  · exact h
theorem rdL_ok {L : List Int32} : ∀ {k : Nat} {T : Tks} {A : Ab}, (T.code = 0 → Ok0 A) → ((T.code = 0 → A.n + k = 13)) → (rdL L k T A).1.code = 0 → Ok0 (rdL L k T A).2 ∧ 2 ≤ (rdL L k T A).2.n
  | 0, T, A, h, hk, hc => by
    have := (h hc).1
    have := hk hc
    omega
  | k + 1, T, A, h, hk, hc => by
    by_cases c : T.code = 0
    · have e : rdL L (k + 1) T A = if 2 ≤ A.n ∧ T.kind = 0 then (T, A) else rdL L k (rdPt L T A) (rdPa L T A) := if_pos c
      rw [e] at hc ⊢
      by_cases d : 2 ≤ A.n ∧ T.kind = 0
      · rw [if_pos d]
        exact ⟨h c, d.1⟩
      · rw [if_neg d] at hc ⊢
        exact rdL_ok (fun _ => (h c).rd) (fun q => by rw [rdPa_n q]; have := hk c; omega) hc
    · have e : rdL L (k + 1) T A = (T, A) := if_neg c
      rw [e] at hc
      exact absurd hc c
theorem setup_ok {L : List Int32} {v : Int32} {A0 : Ab} (h : (setupV L v A0).1.code = 0) : Ok (setupV L v A0).2 := by
  have key := rdL_ok (L := L) (k := 13) (T := sT6 L v) (A := sA6 L v A0) (fun hc => ?_) (fun _ => rfl) h
  · obtain ⟨⟨a, b, c, d, e⟩, f⟩ := key
    refine ⟨⟨f, a⟩, b, c, d, ?_⟩
    have e' : (setupV L v A0).2.d = [] := e
    rw [e']
    exact ⟨by decide, fun i hi => absurd hi (Nat.not_lt_zero i), fun i k hi => absurd hi (Nat.not_lt_zero i)⟩
  · have h5 := (tkS_good (L := L) (T := sT5 L v) hc).1
    obtain ⟨h4, -, k4⟩ := tkN_good (L := L) (T := sT4 L v) h5
    obtain ⟨h3, -, k3⟩ := tkN_good (L := L) (T := sT3 L v) h4
    obtain ⟨h2, -, k2⟩ := tkN_good (L := L) (T := sT2 L v) h3
    refine ⟨Nat.zero_le _, ⟨Int32.le_trans (by decide) k2.1, k3.1, k4.1⟩, fun p hp => absurd hp (Nat.not_lt_zero p), fun q hq => absurd hq (Nat.not_lt_zero q), rfl⟩
theorem sLoad_ok {v : Int32} {A0 : Ab} (h : Okg g) : Okg (sLoad g v A0).1 := by
  unfold sLoad
  split
  · exact ⟨setup_ok (by assumption), fun i hi => absurd hi (Nat.not_lt_zero i), h.2.2⟩
  · exact h
/-- the tokens and the trial school as a reading left them -/
theorem CG.read {L : List Int32} {T : Tks} {D : Nat → Nat → Nat → Prop} (h : CG M g) (hf : Fr D M M') (hd : ∀ k j p, D k j p → k = 1 ∨ (4 ≤ k ∧ k ≤ 6) ∨ (7 ≤ k ∧ k ≤ 14 ∧ j = 1)) (hT : TkM M' g.L T) (h1 : ∀ p, p < 12 → M'.1 12 1 p 0 = nI p) : CG M' (g.A, g.U, g.S, g.R, g.L, (T.code, T.pos), g.W) := by
  obtain ⟨a, b, c, d, e, f, i⟩ := h
  exact ⟨a.frD hf (fun k j p q z => by have := hd k j p q; omega), b.fr hf (fun k j p q z => by have := hd k j p q; omega), c.fr hf (fun k j p q z => by have := hd k j p q; omega), d.fr hf (fun k j p q z => by have := hd k j p q; omega), ⟨hT.1, hT.2.2.2.2.2.1, hT.2.2.2.2.2.2.1⟩, f.fr hf (fun k j p q z => by have := hd k j p q; omega), h1⟩
theorem s_X6_failed' {c : Int32} (h5 : M.1 1 0 0 5 = c) (h : P (.inl (some (.int (if c = 0 then 0 else 1)))) M) : Sp E yX6_failed cX6_failed zX6_failed [.ref (ad E 1 0 0)] M P := by
  subst h5
  refine Sp_of (own := RX6) (by decide) rfl rfl (Nat.le_of_ble_eq_true rfl) (fun C => ?_)
  refine G_aload_n dX6_failed_0 rfl ?_
  refine gf_X6_24 dX6_failed_1  ?_
  refine G_if_eq (tgt := 11) dX6_failed_4 (by decide) (fun c4 => ?_) (fun c4 => ?_)
  · rw [if_pos c4] at h
    refine G_iconst (v := 0) dX6_failed_11 (by decide) ?_
    refine G_iret dX6_failed_12 rfl rfl (Nat.le_of_ble_eq_true rfl) (Nat.le_of_ble_eq_true rfl) ?_
    exact h
  · rw [if_neg c4] at h
    refine G_iconst (v := 1) dX6_failed_7 (by decide) ?_
    refine G_goto (tgt := 12) dX6_failed_8 (by decide) ?_
    refine G_iret dX6_failed_12 rfl rfl (Nat.le_of_ble_eq_true rfl) (Nat.le_of_ble_eq_true rfl) ?_
    exact h
theorem CG.sch {M' : Mm} {B : Ab} {U : List Ab} (h : CG M g) (hB : CR M' 0 B) (hU : Und M' U) (hf : Fr (fun k j p => k = 15 ∨ dC 0 k j p) M M') : CG M' (B, U, g.2.2) := by
  obtain ⟨a, b, c, d, e, f, i⟩ := h
  have hd : ∀ k j p, (k = 15 ∨ dC 0 k j p) → k = 15 ∨ 7 ≤ k ∧ k ≤ 14 ∧ j = 0 := fun k j p q => q
  exact ⟨hB, hU, c.fr hf (fun k j p q z => by have := hd k j p q; omega), d.fr hf (fun k j p q z => by have := hd k j p q; omega), e.fr hf (fun k j p q z => by have := hd k j p q; omega), f.fr hf (fun k j p q z => by have := hd k j p q; omega), fun p hp => (hf.at (fun q => by have := hd 12 1 p q; omega) 0).trans (i p hp)⟩
theorem s_X8_load (hC : CG M g) (h : ∀ M', CG M' (sLoad g (M.1 1 0 0 4) Ab0).1 → Fr dCl M M' → P (.inl (some (.int (sLoad g (M.1 1 0 0 4) Ab0).2))) M') : Sp E yX8_load cX8_load zX8_load [.ref (ad E 0 0 0)] M P := by
  unfold sLoad at h
  obtain ⟨tL, e1, e2⟩ := id hC.2.2.2.2.1
  refine Sp_of (own := RX8) (by decide) rfl rfl (Nat.le_of_ble_eq_true rfl) (fun C => ?_)
  refine G_aload_n dX8_load_0 rfl ?_
  refine gf_X8_30 dX8_load_1  ?_
  refine G_aload_n dX8_load_4 rfl ?_
  refine gf_X8_10 dX8_load_5  ?_
  refine cv_X8_93 (cs' := 0) (ss' := 0) dX8_load_8 (by decide) (Nat.le_of_ble_eq_true rfl) (Nat.le_of_ble_eq_true rfl) (Nat.le_of_ble_eq_true rfl) rfl rfl (Nat.le_of_ble_eq_true rfl) (Nat.le_of_ble_eq_true rfl) rfl ?_
  refine s_X3_readSetup (A0 := Ab0) (j := 1) (by decide) tL hC.2.2.2.2.2.2 (fun M1 t1 a1 f1 => hGo_v ?_)
  have hok := setup_ok (L := g.L) (v := M.1 1 0 0 4) (A0 := Ab0)
  generalize setupV g.L (M.1 1 0 0 4) Ab0 = S at h t1 a1 hok
  have g1 := hC.read f1 (fun k j p q => by rcases q with q | q; exact Or.inl q; exact Or.inr (Or.inr q)) t1 a1.2.2.2.1 (L := g.L)
  refine G_aload_n dX8_load_11 rfl ?_
  refine gf_X8_10 dX8_load_12  ?_
  refine gf_X8_69 dX8_load_15  ?_
  refine G_iconst (v := 0) dX8_load_18 (by decide) ?_
  refine cv_X8_90 (cs' := 0) (ss' := 0) dX8_load_19 (by decide) (Nat.le_of_ble_eq_true rfl) (Nat.le_of_ble_eq_true rfl) (Nat.le_of_ble_eq_true rfl) rfl rfl (Nat.le_of_ble_eq_true rfl) (Nat.le_of_ble_eq_true rfl) rfl ?_
  refine s_X5_cut (n := 0) (by decide) g1.2.2.2.2.1.1 (Nat.zero_le _) (fun M2 t2 f2 => hGo_v ?_)
  have g2 := g1.txt t2 f2
  have fT : Fr dCl M M2 := (f1.mono (fun k j p q => by rcases q with q | q; (have : k = 1 := q; show k ≤ 19; omega); exact dC_Cl k j p q)).trans (f2.mono dX_Cl)
  have a2 : CR M2 1 S.2 := a1.frD f2 (fun k j p q z => by have q' : (k = 2 ∨ k = 3) ∧ j = 0 := q; omega)
  refine G_aload_n dX8_load_22 rfl ?_
  refine gf_X8_10 dX8_load_23  ?_
  refine cv_X8_97 (cs' := 0) (ss' := 0) dX8_load_26  (Nat.le_of_ble_eq_true rfl) (Nat.le_of_ble_eq_true rfl) (Nat.le_of_ble_eq_true rfl) rfl rfl (Nat.le_of_ble_eq_true rfl) (Nat.le_of_ble_eq_true rfl) rfl ?_
  refine s_X6_failed' g2.2.2.2.2.1.2.1 (hGo_i ?_)
  by_cases c : S.1.code = 0
  · rw [if_pos c] at h ⊢
    rw [if_pos c] at h
    refine G_if_eq (tgt := 34) dX8_load_29 (by decide) (fun c29 => ?_) (fun c29 => ?_)
    · refine G_aload_n dX8_load_34 rfl ?_
      refine gf_X8_26 dX8_load_35  ?_
      refine G_aload_n dX8_load_38 rfl ?_
      refine gf_X8_30 dX8_load_39  ?_
      refine cv_X8_101 (cs' := 0) (ss' := 0) dX8_load_42 (by decide) (Nat.le_of_ble_eq_true rfl) (Nat.le_of_ble_eq_true rfl) (Nat.le_of_ble_eq_true rfl) rfl rfl (Nat.le_of_ble_eq_true rfl) (Nat.le_of_ble_eq_true rfl) rfl ?_
      refine s_X3_copyFrom (j := 0) (j2 := 1) (by decide) (by decide) (by decide) a2 (hok c).spy g2.1.2.2.2.1 (fun M3 a3 f3 => hGo_v ?_)
      have u3 : Und M3 g.U := g2.2.1.fr f3 (fun k j p q z => by have q' : 7 ≤ k ∧ k ≤ 14 ∧ j = 0 := q; omega)
      refine G_aload_n dX8_load_45 rfl ?_
      refine gf_X8_36 dX8_load_46  ?_
      refine cv_X8_105 (cs' := 0) (ss' := 0) dX8_load_49  (Nat.le_of_ble_eq_true rfl) (Nat.le_of_ble_eq_true rfl) (Nat.le_of_ble_eq_true rfl) rfl rfl (Nat.le_of_ble_eq_true rfl) (Nat.le_of_ble_eq_true rfl) rfl ?_
      refine s_X7_forgetAll u3 (fun M4 u4 f4 => hGo_v ?_)
      have a4 : CR M4 0 S.2 := a3.frD f4 (fun k j p q z => by omega)
      have g4 := g2.sch a4 u4 ((f3.mono (fun k j p q => Or.inr q)).trans (f4.mono (fun k j p q => Or.inl q)))
      refine G_aload_n dX8_load_52 rfl ?_
      refine gf_X8_26 dX8_load_53  ?_
      refine gf_X8_108 dX8_load_56 (by decide) ?_
      rw [a4.n]
      refine G_iret dX8_load_59 rfl rfl (Nat.le_of_ble_eq_true rfl) (Nat.le_of_ble_eq_true rfl) ?_
      exact h M4 g4 ((fT.trans (f3.mono dC_Cl)).trans (f4.mono (fun k j p q => by show k ≤ 19; omega)))
    · exact absurd rfl c29
  · rw [if_neg c] at h ⊢
    rw [if_neg c] at h
    refine G_if_eq (tgt := 34) dX8_load_29 (by decide) (fun c29 => ?_) (fun c29 => ?_)
    · exact absurd c29 (by decide)
    · refine G_iconst (v := (-1)) dX8_load_32 (by decide) ?_
      refine G_iret dX8_load_33 rfl rfl (Nat.le_of_ble_eq_true rfl) (Nat.le_of_ble_eq_true rfl) ?_
      exact h M2 g2 fT
-- scripts
def argsOk : List (Option (Int32 × Int32)) → List Int32 → Prop
  | [], [] => True
  | some (a, b) :: r, x :: l => inR x a b ∧ argsOk r l
  | none :: r, x :: l => inR x 0 1 ∧ argsOk r l
  | _, _ => False
def cOk (c : Cmd) : Prop := c.1 < 7 ∧ argsOk (vK c.1) c.2
theorem rA_good {L : List Int32} : ∀ {ks : List (Option (Int32 × Int32))} {T : Tks}, (rA L ks T).1.code = 0 → T.code = 0 ∧ argsOk ks (rA L ks T).2
  | [], T, h => ⟨h, trivial⟩
  | some (a, b) :: r, T, h => by
    obtain ⟨h1, h2⟩ := rA_good (ks := r) (T := tkN L a b T) h
    obtain ⟨h3, -, h4⟩ := tkN_good h1
    exact ⟨h3, h4, h2⟩
  | none :: r, T, h => by
    obtain ⟨h1, h2⟩ := rA_good (ks := r) (T := tkB L T) h
    refine ⟨(tkB_good h1).1, ?_, h2⟩
    unfold sbV
    split
    · exact ⟨by decide, by decide⟩
    · exact ⟨by decide, by decide⟩
theorem rcC_ok {L : List Int32} {T : Tks} {Cs : List Cmd} (h : ∀ c, c ∈ Cs → cOk c) (hc : (rcT L T Cs).code = 0) : ∀ c, c ∈ rcC L T Cs → cOk c := by
  unfold rcC
  unfold rcT at hc
  split
  · rename_i h0
    rw [if_pos h0] at hc
    intro c hm
    rcases List.mem_append.mp hm with q | q
    · exact h c q
    · rw [List.mem_singleton] at q
      rw [q]
      have h1 := (tkS_good hc).1
      exact ⟨vb_lt (c3_good h0).2.1, (rA_good h1).2⟩
  · exact h
theorem rcL_ok {L : List Int32} : ∀ {k : Nat} {T : Tks} {Cs : List Cmd}, (T.code = 0 → ∀ c, c ∈ Cs → cOk c) → (rcL L k T Cs).1.code = 0 → ∀ c, c ∈ (rcL L k T Cs).2 → cOk c
  | 0, T, Cs, h, hc => h hc
  | k + 1, T, Cs, h, hc => by
    by_cases c : T.code = 0
    · have e : rcL L (k + 1) T Cs = if T.kind = 0 then (T, Cs) else rcL L k (rcT L T Cs) (rcC L T Cs) := if_pos c
      rw [e] at hc ⊢
      by_cases d : T.kind = 0
      · rw [if_pos d]
        exact h c
      · rw [if_neg d] at hc ⊢
        exact rcL_ok (fun q => rcC_ok (h c) q) hc
    · have e : rcL L (k + 1) T Cs = (T, Cs) := if_neg c
      rw [e] at hc
      exact absurd hc c
def cA (c : Cmd) (t : Nat) : Int32 := c.2.getD t 0
def sPerfV (g : Gs) : Nat → Int32 → Int32 → Int32 → Int32 → Gs × Int32
  | 0, a, b, c, _ => if inP g.A a then sWork g (tn a) (tn b) (tn c) else (g, -1)
  | 1, a, b, c, d => if inP g.A a ∧ inP g.A b then sSwap g (tn a) (tn b) (tn c) (tn d) else (g, -1)
  | 2, a, b, c, d => if inP g.A a ∧ inP g.A b then sLend g (tn a) (tn b) (tn c) (tn d) else (g, -1)
  | 3, a, b, c, d => if inP g.A a ∧ inP g.A b then sPay g (tn a) (tn b) (tn c) (tn d) else (g, -1)
  | 4, a, b, c, _ => if inP g.A a then sMove g (tn a) b c else (g, -1)
  | 5, a, _, _, _ => if inP g.A a then sConfess g (tn a) else (g, -1)
  | _, a, _, _, _ => sPass g (tn a)
def sPerf (g : Gs) (c : Cmd) : Gs × Int32 := sPerfV g c.1 (cA c 0) (cA c 1) (cA c 2) (cA c 3)
theorem cOk_get {Cs : List Cmd} {i : Nat} (h : ∀ c, c ∈ Cs → cOk c) (hi : i < Cs.length) : cOk (cg Cs i) := by
  unfold cg
  rw [List.getD_eq_getElem?_getD, List.getElem?_eq_getElem hi]
  exact h _ (List.getElem_mem hi)
theorem args1 {k : Option (Int32 × Int32)} {l : List Int32} (h : argsOk [k] l) : ∃ x, l = [x] := by
  cases l with
  | nil => cases k <;> exact h.elim
  | cons x l =>
    cases l with
    | nil => exact ⟨x, rfl⟩
    | cons y l => cases k <;> exact h.2.elim
theorem args_a0 {l : List Int32} (h : argsOk [some (0, 11), none, some (1, 20)] l) : inR (l.getD 0 0) 0 11 ∧ inR (l.getD 1 0) 0 1 ∧ inR (l.getD 2 0) 1 20 ∧ l.length = 3 := by
  cases l with
  | nil => exact h.elim
  | cons x0 l =>
    cases l with
    | nil => exact h.2.elim
    | cons x1 l =>
      cases l with
      | nil => exact h.2.2.elim
      | cons x2 l =>
        cases l with
        | cons y l => exact (h.2.2.2).elim
        | nil => exact ⟨h.1, h.2.1, h.2.2.1, rfl⟩
theorem args_a1 {l : List Int32} (h : argsOk [some (0, 11), some (0, 11), some (0, 20), some (0, 20)] l) : inR (l.getD 0 0) 0 11 ∧ inR (l.getD 1 0) 0 11 ∧ inR (l.getD 2 0) 0 20 ∧ inR (l.getD 3 0) 0 20 ∧ l.length = 4 := by
  cases l with
  | nil => exact h.elim
  | cons x0 l =>
    cases l with
    | nil => exact h.2.elim
    | cons x1 l =>
      cases l with
      | nil => exact h.2.2.elim
      | cons x2 l =>
        cases l with
        | nil => exact h.2.2.2.elim
        | cons x3 l =>
          cases l with
          | cons y l => exact (h.2.2.2.2).elim
          | nil => exact ⟨h.1, h.2.1, h.2.2.1, h.2.2.2.1, rfl⟩
theorem args_a2 {l : List Int32} (h : argsOk [some (0, 11), some (0, 11), none, some (1, 20)] l) : inR (l.getD 0 0) 0 11 ∧ inR (l.getD 1 0) 0 11 ∧ inR (l.getD 2 0) 0 1 ∧ inR (l.getD 3 0) 1 20 ∧ l.length = 4 := by
  cases l with
  | nil => exact h.elim
  | cons x0 l =>
    cases l with
    | nil => exact h.2.elim
    | cons x1 l =>
      cases l with
      | nil => exact h.2.2.elim
      | cons x2 l =>
        cases l with
        | nil => exact h.2.2.2.elim
        | cons x3 l =>
          cases l with
          | cons y l => exact (h.2.2.2.2).elim
          | nil => exact ⟨h.1, h.2.1, h.2.2.1, h.2.2.2.1, rfl⟩
theorem args_a4 {l : List Int32} (h : argsOk [some (0, 11), some (0, 5), some (0, 5)] l) : inR (l.getD 0 0) 0 11 ∧ inR (l.getD 1 0) 0 5 ∧ inR (l.getD 2 0) 0 5 ∧ l.length = 3 := by
  cases l with
  | nil => exact h.elim
  | cons x0 l =>
    cases l with
    | nil => exact h.2.elim
    | cons x1 l =>
      cases l with
      | nil => exact h.2.2.elim
      | cons x2 l =>
        cases l with
        | cons y l => exact (h.2.2.2).elim
        | nil => exact ⟨h.1, h.2.1, h.2.2.1, rfl⟩
theorem args_a5 {l : List Int32} (h : argsOk [some (0, 11)] l) : inR (l.getD 0 0) 0 11 ∧ l.length = 1 := by
  cases l with
  | nil => exact h.elim
  | cons x0 l =>
    cases l with
    | cons y l => exact (h.2).elim
    | nil => exact ⟨h.1, rfl⟩
theorem args_a6 {l : List Int32} (h : argsOk [some (1, 10)] l) : inR (l.getD 0 0) 1 10 ∧ l.length = 1 := by
  cases l with
  | nil => exact h.elim
  | cons x0 l =>
    cases l with
    | cons y l => exact (h.2).elim
    | nil => exact ⟨h.1, rfl⟩
theorem Scr.frA {Cs : List Cmd} (h : Scr M Cs) (hf : Fr dAc M M') : Scr M' Cs := h.keep (fun k _ h6 t => hf.at (fun q => by have q' : 7 ≤ k ∧ k ≤ 19 := q; omega) t)
theorem s_X8_perf0 {Cs : List Cmd} {i : Nat} {l : List Int32} (hC : CG M g) (hO : Okg g) (hS : Scr M Cs) (hi : i < Cs.length) (hcc : cg Cs i = (0, l)) (hl : argsOk (vK 0) l) (h : ∀ M', CG M' (sPerfV g 0 (l.getD 0 0) (l.getD 1 0) (l.getD 2 0) (l.getD 3 0)).1 → Fr dAc M M' → P (.inl (some (.int (sPerfV g 0 (l.getD 0 0) (l.getD 1 0) (l.getD 2 0) (l.getD 3 0)).2))) M') : Sp E yX8_perform cX8_perform zX8_perform [.ref (ad E 0 0 0), .int (nI i)] M P := by
  have hA := hC.1
  have h12 := hA.n12
  have hv := (hS.2.2 i hi).1.2.1
  have hargs := (hS.2.2 i hi).2
  rw [hcc] at hargs
  obtain ⟨r0, r1, r2, hlen⟩ := args_a0 hl
  unfold sPerfV at h
  have e0 : M.1 6 0 0 (4 * i + 0) = l.getD 0 0 := hargs 0 (by show 0 < l.length; omega)
  have e1 : M.1 6 0 0 (4 * i + 1) = l.getD 1 0 := hargs 1 (by show 1 < l.length; omega)
  have e2 : M.1 6 0 0 (4 * i + 2) = l.getD 2 0 := hargs 2 (by show 2 < l.length; omega)
  refine Sp_of (own := RX8) (by decide) rfl rfl (Nat.le_of_ble_eq_true rfl) (fun C => ?_)
  refine G_aload_n dX8_perform_0 rfl ?_
  refine gf_X8_19 dX8_perform_1  ?_
  refine G_iload_n dX8_perform_4 rfl ?_
  refine cv_X8_125 (cs' := 0) (ss' := 0) dX8_perform_5  (Nat.le_of_ble_eq_true rfl) (Nat.le_of_ble_eq_true rfl) (Nat.le_of_ble_eq_true rfl) rfl rfl (Nat.le_of_ble_eq_true rfl) (Nat.le_of_ble_eq_true rfl) rfl ?_
  refine s_X4_verb hS hi (hGo_i ?_)
  rw [hcc]
  refine G_istore_n dX8_perform_8 (Nat.le_of_ble_eq_true rfl) ?_
  refine G_aload_n dX8_perform_9 rfl ?_
  refine gf_X8_19 dX8_perform_10  ?_
  refine G_iload_n dX8_perform_13 rfl ?_
  refine G_iconst (v := 0) dX8_perform_14 (by decide) ?_
  refine cv_X8_128 (cs' := 0) (ss' := 0) dX8_perform_15  (Nat.le_of_ble_eq_true rfl) (Nat.le_of_ble_eq_true rfl) (Nat.le_of_ble_eq_true rfl) rfl rfl (Nat.le_of_ble_eq_true rfl) (Nat.le_of_ble_eq_true rfl) rfl ?_
  refine s_X4_argument (t := 0) hS hi (by decide) (hGo_i ?_)
  rw [e0]
  refine G_istore_n dX8_perform_18 (Nat.le_of_ble_eq_true rfl) ?_
  refine G_aload_n dX8_perform_19 rfl ?_
  refine gf_X8_19 dX8_perform_20  ?_
  refine G_iload_n dX8_perform_23 rfl ?_
  refine G_iconst (v := 1) dX8_perform_24 (by decide) ?_
  refine cv_X8_128 (cs' := 0) (ss' := 0) dX8_perform_25  (Nat.le_of_ble_eq_true rfl) (Nat.le_of_ble_eq_true rfl) (Nat.le_of_ble_eq_true rfl) rfl rfl (Nat.le_of_ble_eq_true rfl) (Nat.le_of_ble_eq_true rfl) rfl ?_
  refine s_X4_argument (t := 1) hS hi (by decide) (hGo_i ?_)
  rw [e1]
  refine G_istore dX8_perform_28 (Nat.le_of_ble_eq_true rfl) ?_
  refine G_aload_n dX8_perform_30 rfl ?_
  refine gf_X8_19 dX8_perform_31  ?_
  refine G_iload_n dX8_perform_34 rfl ?_
  refine G_iconst (v := 2) dX8_perform_35 (by decide) ?_
  refine cv_X8_128 (cs' := 0) (ss' := 0) dX8_perform_36  (Nat.le_of_ble_eq_true rfl) (Nat.le_of_ble_eq_true rfl) (Nat.le_of_ble_eq_true rfl) rfl rfl (Nat.le_of_ble_eq_true rfl) (Nat.le_of_ble_eq_true rfl) rfl ?_
  refine s_X4_argument (t := 2) hS hi (by decide) (hGo_i ?_)
  rw [e2]
  refine G_istore dX8_perform_39 (Nat.le_of_ble_eq_true rfl) ?_
  refine G_aload_n dX8_perform_41 rfl ?_
  refine gf_X8_19 dX8_perform_42  ?_
  refine G_iload_n dX8_perform_45 rfl ?_
  refine G_iconst (v := 3) dX8_perform_46 (by decide) ?_
  refine cv_X8_128 (cs' := 0) (ss' := 0) dX8_perform_47  (Nat.le_of_ble_eq_true rfl) (Nat.le_of_ble_eq_true rfl) (Nat.le_of_ble_eq_true rfl) rfl rfl (Nat.le_of_ble_eq_true rfl) (Nat.le_of_ble_eq_true rfl) rfl ?_
  refine s_X4_argument (t := 3) hS hi (by decide) (hGo_i ?_)
  refine G_istore dX8_perform_50 (Nat.le_of_ble_eq_true rfl) ?_
  refine G_iload_n dX8_perform_52 rfl ?_
  refine G_bipush (v := 6) dX8_perform_53 (by decide) ?_
  refine G_icmp_ne (tgt := 64) dX8_perform_55 (by decide) (fun c55 => ?_) (fun c55 => ?_)
  rotate_left
  · exact absurd c55 (by decide)
  refine G_aload_n dX8_perform_64 rfl ?_
  refine gf_X8_26 dX8_perform_65  ?_
  refine G_iload_n dX8_perform_68 rfl ?_
  refine cv_X8_135 (cs' := 0) (ss' := 0) dX8_perform_69 (by decide) (Nat.le_of_ble_eq_true rfl) (Nat.le_of_ble_eq_true rfl) (Nat.le_of_ble_eq_true rfl) rfl rfl (Nat.le_of_ble_eq_true rfl) (Nat.le_of_ble_eq_true rfl) rfl ?_
  refine s_X3_has (by decide) hA (hGo_i ?_)
  by_cases q0 : inP g.A (l.getD 0 0)
  rotate_left
  · rw [if_neg q0]
    rw [if_neg q0] at h
    refine G_if_ne (tgt := 77) dX8_perform_72 (by decide) (fun c72 => ?_) (fun c72 => ?_)
    · exact absurd rfl c72
    · refine G_iconst (v := (-1)) dX8_perform_75 (by decide) ?_
      refine G_iret dX8_perform_76 rfl rfl (Nat.le_of_ble_eq_true rfl) (Nat.le_of_ble_eq_true rfl) ?_
      exact h M hC Fr.rfl
  rw [if_pos q0]
  refine G_if_ne (tgt := 77) dX8_perform_72 (by decide) (fun c72 => ?_) (fun c72 => ?_)
  rotate_left
  · exact absurd c72 (by decide)
  refine G_iload_n dX8_perform_77 rfl ?_
  refine G_iconst (v := 1) dX8_perform_78 (by decide) ?_
  refine G_icmp_eq (tgt := 92) dX8_perform_79 (by decide) (fun c79 => ?_) (fun c79 => ?_)
  · exact absurd c79 (by decide)
  refine G_iload_n dX8_perform_82 rfl ?_
  refine G_iconst (v := 2) dX8_perform_83 (by decide) ?_
  refine G_icmp_eq (tgt := 92) dX8_perform_84 (by decide) (fun c84 => ?_) (fun c84 => ?_)
  · exact absurd c84 (by decide)
  refine G_iload_n dX8_perform_87 rfl ?_
  refine G_iconst (v := 3) dX8_perform_88 (by decide) ?_
  refine G_icmp_ne (tgt := 106) dX8_perform_89 (by decide) (fun c89 => ?_) (fun c89 => ?_)
  rotate_left
  · exact absurd c89 (by decide)
  rw [if_pos q0] at h
  obtain ⟨a0, hp0, x0, y0⟩ := in_ix q0 (by omega)
  rw [y0] at h
  rw [x0]
  obtain ⟨a1, l1, h1, x1, y1⟩ := inR_ix (i := 0) (k := 1) (by decide) (by decide) r1
  rw [y1] at h
  rw [x1]
  obtain ⟨a2, l2, h2, x2, y2⟩ := inR_ix (i := 1) (k := 20) (by decide) (by decide) r2
  rw [y2] at h
  rw [x2]
  refine G_iload_n dX8_perform_106 rfl ?_
  refine G_tIn (off := 37) (tgt := 144) dX8_perform_107 (by decide) (by decide) rfl (by decide) ?_
  refine G_aload_n dX8_perform_144 rfl ?_
  refine G_iload_n dX8_perform_145 rfl ?_
  refine G_iload dX8_perform_146 rfl ?_
  refine G_iload dX8_perform_148 rfl ?_
  refine cv_X8_139 (cs' := 0) (ss' := 0) dX8_perform_150  (Nat.le_of_ble_eq_true rfl) (Nat.le_of_ble_eq_true rfl) (Nat.le_of_ble_eq_true rfl) rfl rfl (Nat.le_of_ble_eq_true rfl) (Nat.le_of_ble_eq_true rfl) rfl ?_
  refine s_X8_doWork hC hO hp0 (by omega) h2 (fun M1 g1 f1 => hGo_i ?_)
  refine G_iret dX8_perform_153 rfl rfl (Nat.le_of_ble_eq_true rfl) (Nat.le_of_ble_eq_true rfl) ?_
  exact h M1 g1 f1
theorem s_X8_perf1 {Cs : List Cmd} {i : Nat} {l : List Int32} (hC : CG M g) (hO : Okg g) (hS : Scr M Cs) (hi : i < Cs.length) (hcc : cg Cs i = (1, l)) (hl : argsOk (vK 1) l) (h : ∀ M', CG M' (sPerfV g 1 (l.getD 0 0) (l.getD 1 0) (l.getD 2 0) (l.getD 3 0)).1 → Fr dAc M M' → P (.inl (some (.int (sPerfV g 1 (l.getD 0 0) (l.getD 1 0) (l.getD 2 0) (l.getD 3 0)).2))) M') : Sp E yX8_perform cX8_perform zX8_perform [.ref (ad E 0 0 0), .int (nI i)] M P := by
  have hA := hC.1
  have h12 := hA.n12
  have hv := (hS.2.2 i hi).1.2.1
  have hargs := (hS.2.2 i hi).2
  rw [hcc] at hargs
  obtain ⟨r0, r1, r2, r3, hlen⟩ := args_a1 hl
  unfold sPerfV at h
  have e0 : M.1 6 0 0 (4 * i + 0) = l.getD 0 0 := hargs 0 (by show 0 < l.length; omega)
  have e1 : M.1 6 0 0 (4 * i + 1) = l.getD 1 0 := hargs 1 (by show 1 < l.length; omega)
  have e2 : M.1 6 0 0 (4 * i + 2) = l.getD 2 0 := hargs 2 (by show 2 < l.length; omega)
  have e3 : M.1 6 0 0 (4 * i + 3) = l.getD 3 0 := hargs 3 (by show 3 < l.length; omega)
  refine Sp_of (own := RX8) (by decide) rfl rfl (Nat.le_of_ble_eq_true rfl) (fun C => ?_)
  refine G_aload_n dX8_perform_0 rfl ?_
  refine gf_X8_19 dX8_perform_1  ?_
  refine G_iload_n dX8_perform_4 rfl ?_
  refine cv_X8_125 (cs' := 0) (ss' := 0) dX8_perform_5  (Nat.le_of_ble_eq_true rfl) (Nat.le_of_ble_eq_true rfl) (Nat.le_of_ble_eq_true rfl) rfl rfl (Nat.le_of_ble_eq_true rfl) (Nat.le_of_ble_eq_true rfl) rfl ?_
  refine s_X4_verb hS hi (hGo_i ?_)
  rw [hcc]
  refine G_istore_n dX8_perform_8 (Nat.le_of_ble_eq_true rfl) ?_
  refine G_aload_n dX8_perform_9 rfl ?_
  refine gf_X8_19 dX8_perform_10  ?_
  refine G_iload_n dX8_perform_13 rfl ?_
  refine G_iconst (v := 0) dX8_perform_14 (by decide) ?_
  refine cv_X8_128 (cs' := 0) (ss' := 0) dX8_perform_15  (Nat.le_of_ble_eq_true rfl) (Nat.le_of_ble_eq_true rfl) (Nat.le_of_ble_eq_true rfl) rfl rfl (Nat.le_of_ble_eq_true rfl) (Nat.le_of_ble_eq_true rfl) rfl ?_
  refine s_X4_argument (t := 0) hS hi (by decide) (hGo_i ?_)
  rw [e0]
  refine G_istore_n dX8_perform_18 (Nat.le_of_ble_eq_true rfl) ?_
  refine G_aload_n dX8_perform_19 rfl ?_
  refine gf_X8_19 dX8_perform_20  ?_
  refine G_iload_n dX8_perform_23 rfl ?_
  refine G_iconst (v := 1) dX8_perform_24 (by decide) ?_
  refine cv_X8_128 (cs' := 0) (ss' := 0) dX8_perform_25  (Nat.le_of_ble_eq_true rfl) (Nat.le_of_ble_eq_true rfl) (Nat.le_of_ble_eq_true rfl) rfl rfl (Nat.le_of_ble_eq_true rfl) (Nat.le_of_ble_eq_true rfl) rfl ?_
  refine s_X4_argument (t := 1) hS hi (by decide) (hGo_i ?_)
  rw [e1]
  refine G_istore dX8_perform_28 (Nat.le_of_ble_eq_true rfl) ?_
  refine G_aload_n dX8_perform_30 rfl ?_
  refine gf_X8_19 dX8_perform_31  ?_
  refine G_iload_n dX8_perform_34 rfl ?_
  refine G_iconst (v := 2) dX8_perform_35 (by decide) ?_
  refine cv_X8_128 (cs' := 0) (ss' := 0) dX8_perform_36  (Nat.le_of_ble_eq_true rfl) (Nat.le_of_ble_eq_true rfl) (Nat.le_of_ble_eq_true rfl) rfl rfl (Nat.le_of_ble_eq_true rfl) (Nat.le_of_ble_eq_true rfl) rfl ?_
  refine s_X4_argument (t := 2) hS hi (by decide) (hGo_i ?_)
  rw [e2]
  refine G_istore dX8_perform_39 (Nat.le_of_ble_eq_true rfl) ?_
  refine G_aload_n dX8_perform_41 rfl ?_
  refine gf_X8_19 dX8_perform_42  ?_
  refine G_iload_n dX8_perform_45 rfl ?_
  refine G_iconst (v := 3) dX8_perform_46 (by decide) ?_
  refine cv_X8_128 (cs' := 0) (ss' := 0) dX8_perform_47  (Nat.le_of_ble_eq_true rfl) (Nat.le_of_ble_eq_true rfl) (Nat.le_of_ble_eq_true rfl) rfl rfl (Nat.le_of_ble_eq_true rfl) (Nat.le_of_ble_eq_true rfl) rfl ?_
  refine s_X4_argument (t := 3) hS hi (by decide) (hGo_i ?_)
  rw [e3]
  refine G_istore dX8_perform_50 (Nat.le_of_ble_eq_true rfl) ?_
  refine G_iload_n dX8_perform_52 rfl ?_
  refine G_bipush (v := 6) dX8_perform_53 (by decide) ?_
  refine G_icmp_ne (tgt := 64) dX8_perform_55 (by decide) (fun c55 => ?_) (fun c55 => ?_)
  rotate_left
  · exact absurd c55 (by decide)
  refine G_aload_n dX8_perform_64 rfl ?_
  refine gf_X8_26 dX8_perform_65  ?_
  refine G_iload_n dX8_perform_68 rfl ?_
  refine cv_X8_135 (cs' := 0) (ss' := 0) dX8_perform_69 (by decide) (Nat.le_of_ble_eq_true rfl) (Nat.le_of_ble_eq_true rfl) (Nat.le_of_ble_eq_true rfl) rfl rfl (Nat.le_of_ble_eq_true rfl) (Nat.le_of_ble_eq_true rfl) rfl ?_
  refine s_X3_has (by decide) hA (hGo_i ?_)
  by_cases q0 : inP g.A (l.getD 0 0)
  rotate_left
  · rw [if_neg q0]
    rw [if_neg (fun q => q0 q.1)] at h
    refine G_if_ne (tgt := 77) dX8_perform_72 (by decide) (fun c72 => ?_) (fun c72 => ?_)
    · exact absurd rfl c72
    · refine G_iconst (v := (-1)) dX8_perform_75 (by decide) ?_
      refine G_iret dX8_perform_76 rfl rfl (Nat.le_of_ble_eq_true rfl) (Nat.le_of_ble_eq_true rfl) ?_
      exact h M hC Fr.rfl
  rw [if_pos q0]
  refine G_if_ne (tgt := 77) dX8_perform_72 (by decide) (fun c72 => ?_) (fun c72 => ?_)
  rotate_left
  · exact absurd c72 (by decide)
  refine G_iload_n dX8_perform_77 rfl ?_
  refine G_iconst (v := 1) dX8_perform_78 (by decide) ?_
  refine G_icmp_eq (tgt := 92) dX8_perform_79 (by decide) (fun c79 => ?_) (fun c79 => ?_)
  rotate_left
  · exact absurd rfl c79
  refine G_aload_n dX8_perform_92 rfl ?_
  refine gf_X8_26 dX8_perform_93  ?_
  refine G_iload dX8_perform_96 rfl ?_
  refine cv_X8_135 (cs' := 0) (ss' := 0) dX8_perform_98 (by decide) (Nat.le_of_ble_eq_true rfl) (Nat.le_of_ble_eq_true rfl) (Nat.le_of_ble_eq_true rfl) rfl rfl (Nat.le_of_ble_eq_true rfl) (Nat.le_of_ble_eq_true rfl) rfl ?_
  refine s_X3_has (by decide) hA (hGo_i ?_)
  by_cases q1 : inP g.A (l.getD 1 0)
  rotate_left
  · rw [if_neg q1]
    rw [if_neg (fun q => q1 q.2)] at h
    refine G_if_ne (tgt := 106) dX8_perform_101 (by decide) (fun c101 => ?_) (fun c101 => ?_)
    · exact absurd rfl c101
    · refine G_iconst (v := (-1)) dX8_perform_104 (by decide) ?_
      refine G_iret dX8_perform_105 rfl rfl (Nat.le_of_ble_eq_true rfl) (Nat.le_of_ble_eq_true rfl) ?_
      exact h M hC Fr.rfl
  rw [if_pos q1]
  refine G_if_ne (tgt := 106) dX8_perform_101 (by decide) (fun c101 => ?_) (fun c101 => ?_)
  rotate_left
  · exact absurd c101 (by decide)
  rw [if_pos ⟨q0, q1⟩] at h
  obtain ⟨a0, hp0, x0, y0⟩ := in_ix q0 (by omega)
  rw [y0] at h
  rw [x0]
  obtain ⟨a1, hp1, x1, y1⟩ := in_ix q1 (by omega)
  rw [y1] at h
  rw [x1]
  obtain ⟨a2, l2, h2, x2, y2⟩ := inR_ix (i := 0) (k := 20) (by decide) (by decide) r2
  rw [y2] at h
  rw [x2]
  obtain ⟨a3, l3, h3, x3, y3⟩ := inR_ix (i := 0) (k := 20) (by decide) (by decide) r3
  rw [y3] at h
  rw [x3]
  refine G_iload_n dX8_perform_106 rfl ?_
  refine G_tIn (off := 47) (tgt := 154) dX8_perform_107 (by decide) (by decide) rfl (by decide) ?_
  refine G_aload_n dX8_perform_154 rfl ?_
  refine G_iload_n dX8_perform_155 rfl ?_
  refine G_iload dX8_perform_156 rfl ?_
  refine G_iload dX8_perform_158 rfl ?_
  refine G_iload dX8_perform_160 rfl ?_
  refine cv_X8_143 (cs' := 0) (ss' := 0) dX8_perform_162  (Nat.le_of_ble_eq_true rfl) (Nat.le_of_ble_eq_true rfl) (Nat.le_of_ble_eq_true rfl) rfl rfl (Nat.le_of_ble_eq_true rfl) (Nat.le_of_ble_eq_true rfl) rfl ?_
  refine s_X8_doSwap hC hO hp0 hp1 h2 h3 (fun M1 g1 f1 => hGo_i ?_)
  refine G_iret dX8_perform_165 rfl rfl (Nat.le_of_ble_eq_true rfl) (Nat.le_of_ble_eq_true rfl) ?_
  exact h M1 g1 f1
theorem s_X8_perf2 {Cs : List Cmd} {i : Nat} {l : List Int32} (hC : CG M g) (hO : Okg g) (hS : Scr M Cs) (hi : i < Cs.length) (hcc : cg Cs i = (2, l)) (hl : argsOk (vK 2) l) (h : ∀ M', CG M' (sPerfV g 2 (l.getD 0 0) (l.getD 1 0) (l.getD 2 0) (l.getD 3 0)).1 → Fr dAc M M' → P (.inl (some (.int (sPerfV g 2 (l.getD 0 0) (l.getD 1 0) (l.getD 2 0) (l.getD 3 0)).2))) M') : Sp E yX8_perform cX8_perform zX8_perform [.ref (ad E 0 0 0), .int (nI i)] M P := by
  have hA := hC.1
  have h12 := hA.n12
  have hv := (hS.2.2 i hi).1.2.1
  have hargs := (hS.2.2 i hi).2
  rw [hcc] at hargs
  obtain ⟨r0, r1, r2, r3, hlen⟩ := args_a2 hl
  unfold sPerfV at h
  have e0 : M.1 6 0 0 (4 * i + 0) = l.getD 0 0 := hargs 0 (by show 0 < l.length; omega)
  have e1 : M.1 6 0 0 (4 * i + 1) = l.getD 1 0 := hargs 1 (by show 1 < l.length; omega)
  have e2 : M.1 6 0 0 (4 * i + 2) = l.getD 2 0 := hargs 2 (by show 2 < l.length; omega)
  have e3 : M.1 6 0 0 (4 * i + 3) = l.getD 3 0 := hargs 3 (by show 3 < l.length; omega)
  refine Sp_of (own := RX8) (by decide) rfl rfl (Nat.le_of_ble_eq_true rfl) (fun C => ?_)
  refine G_aload_n dX8_perform_0 rfl ?_
  refine gf_X8_19 dX8_perform_1  ?_
  refine G_iload_n dX8_perform_4 rfl ?_
  refine cv_X8_125 (cs' := 0) (ss' := 0) dX8_perform_5  (Nat.le_of_ble_eq_true rfl) (Nat.le_of_ble_eq_true rfl) (Nat.le_of_ble_eq_true rfl) rfl rfl (Nat.le_of_ble_eq_true rfl) (Nat.le_of_ble_eq_true rfl) rfl ?_
  refine s_X4_verb hS hi (hGo_i ?_)
  rw [hcc]
  refine G_istore_n dX8_perform_8 (Nat.le_of_ble_eq_true rfl) ?_
  refine G_aload_n dX8_perform_9 rfl ?_
  refine gf_X8_19 dX8_perform_10  ?_
  refine G_iload_n dX8_perform_13 rfl ?_
  refine G_iconst (v := 0) dX8_perform_14 (by decide) ?_
  refine cv_X8_128 (cs' := 0) (ss' := 0) dX8_perform_15  (Nat.le_of_ble_eq_true rfl) (Nat.le_of_ble_eq_true rfl) (Nat.le_of_ble_eq_true rfl) rfl rfl (Nat.le_of_ble_eq_true rfl) (Nat.le_of_ble_eq_true rfl) rfl ?_
  refine s_X4_argument (t := 0) hS hi (by decide) (hGo_i ?_)
  rw [e0]
  refine G_istore_n dX8_perform_18 (Nat.le_of_ble_eq_true rfl) ?_
  refine G_aload_n dX8_perform_19 rfl ?_
  refine gf_X8_19 dX8_perform_20  ?_
  refine G_iload_n dX8_perform_23 rfl ?_
  refine G_iconst (v := 1) dX8_perform_24 (by decide) ?_
  refine cv_X8_128 (cs' := 0) (ss' := 0) dX8_perform_25  (Nat.le_of_ble_eq_true rfl) (Nat.le_of_ble_eq_true rfl) (Nat.le_of_ble_eq_true rfl) rfl rfl (Nat.le_of_ble_eq_true rfl) (Nat.le_of_ble_eq_true rfl) rfl ?_
  refine s_X4_argument (t := 1) hS hi (by decide) (hGo_i ?_)
  rw [e1]
  refine G_istore dX8_perform_28 (Nat.le_of_ble_eq_true rfl) ?_
  refine G_aload_n dX8_perform_30 rfl ?_
  refine gf_X8_19 dX8_perform_31  ?_
  refine G_iload_n dX8_perform_34 rfl ?_
  refine G_iconst (v := 2) dX8_perform_35 (by decide) ?_
  refine cv_X8_128 (cs' := 0) (ss' := 0) dX8_perform_36  (Nat.le_of_ble_eq_true rfl) (Nat.le_of_ble_eq_true rfl) (Nat.le_of_ble_eq_true rfl) rfl rfl (Nat.le_of_ble_eq_true rfl) (Nat.le_of_ble_eq_true rfl) rfl ?_
  refine s_X4_argument (t := 2) hS hi (by decide) (hGo_i ?_)
  rw [e2]
  refine G_istore dX8_perform_39 (Nat.le_of_ble_eq_true rfl) ?_
  refine G_aload_n dX8_perform_41 rfl ?_
  refine gf_X8_19 dX8_perform_42  ?_
  refine G_iload_n dX8_perform_45 rfl ?_
  refine G_iconst (v := 3) dX8_perform_46 (by decide) ?_
  refine cv_X8_128 (cs' := 0) (ss' := 0) dX8_perform_47  (Nat.le_of_ble_eq_true rfl) (Nat.le_of_ble_eq_true rfl) (Nat.le_of_ble_eq_true rfl) rfl rfl (Nat.le_of_ble_eq_true rfl) (Nat.le_of_ble_eq_true rfl) rfl ?_
  refine s_X4_argument (t := 3) hS hi (by decide) (hGo_i ?_)
  rw [e3]
  refine G_istore dX8_perform_50 (Nat.le_of_ble_eq_true rfl) ?_
  refine G_iload_n dX8_perform_52 rfl ?_
  refine G_bipush (v := 6) dX8_perform_53 (by decide) ?_
  refine G_icmp_ne (tgt := 64) dX8_perform_55 (by decide) (fun c55 => ?_) (fun c55 => ?_)
  rotate_left
  · exact absurd c55 (by decide)
  refine G_aload_n dX8_perform_64 rfl ?_
  refine gf_X8_26 dX8_perform_65  ?_
  refine G_iload_n dX8_perform_68 rfl ?_
  refine cv_X8_135 (cs' := 0) (ss' := 0) dX8_perform_69 (by decide) (Nat.le_of_ble_eq_true rfl) (Nat.le_of_ble_eq_true rfl) (Nat.le_of_ble_eq_true rfl) rfl rfl (Nat.le_of_ble_eq_true rfl) (Nat.le_of_ble_eq_true rfl) rfl ?_
  refine s_X3_has (by decide) hA (hGo_i ?_)
  by_cases q0 : inP g.A (l.getD 0 0)
  rotate_left
  · rw [if_neg q0]
    rw [if_neg (fun q => q0 q.1)] at h
    refine G_if_ne (tgt := 77) dX8_perform_72 (by decide) (fun c72 => ?_) (fun c72 => ?_)
    · exact absurd rfl c72
    · refine G_iconst (v := (-1)) dX8_perform_75 (by decide) ?_
      refine G_iret dX8_perform_76 rfl rfl (Nat.le_of_ble_eq_true rfl) (Nat.le_of_ble_eq_true rfl) ?_
      exact h M hC Fr.rfl
  rw [if_pos q0]
  refine G_if_ne (tgt := 77) dX8_perform_72 (by decide) (fun c72 => ?_) (fun c72 => ?_)
  rotate_left
  · exact absurd c72 (by decide)
  refine G_iload_n dX8_perform_77 rfl ?_
  refine G_iconst (v := 1) dX8_perform_78 (by decide) ?_
  refine G_icmp_eq (tgt := 92) dX8_perform_79 (by decide) (fun c79 => ?_) (fun c79 => ?_)
  · exact absurd c79 (by decide)
  refine G_iload_n dX8_perform_82 rfl ?_
  refine G_iconst (v := 2) dX8_perform_83 (by decide) ?_
  refine G_icmp_eq (tgt := 92) dX8_perform_84 (by decide) (fun c84 => ?_) (fun c84 => ?_)
  rotate_left
  · exact absurd rfl c84
  refine G_aload_n dX8_perform_92 rfl ?_
  refine gf_X8_26 dX8_perform_93  ?_
  refine G_iload dX8_perform_96 rfl ?_
  refine cv_X8_135 (cs' := 0) (ss' := 0) dX8_perform_98 (by decide) (Nat.le_of_ble_eq_true rfl) (Nat.le_of_ble_eq_true rfl) (Nat.le_of_ble_eq_true rfl) rfl rfl (Nat.le_of_ble_eq_true rfl) (Nat.le_of_ble_eq_true rfl) rfl ?_
  refine s_X3_has (by decide) hA (hGo_i ?_)
  by_cases q1 : inP g.A (l.getD 1 0)
  rotate_left
  · rw [if_neg q1]
    rw [if_neg (fun q => q1 q.2)] at h
    refine G_if_ne (tgt := 106) dX8_perform_101 (by decide) (fun c101 => ?_) (fun c101 => ?_)
    · exact absurd rfl c101
    · refine G_iconst (v := (-1)) dX8_perform_104 (by decide) ?_
      refine G_iret dX8_perform_105 rfl rfl (Nat.le_of_ble_eq_true rfl) (Nat.le_of_ble_eq_true rfl) ?_
      exact h M hC Fr.rfl
  rw [if_pos q1]
  refine G_if_ne (tgt := 106) dX8_perform_101 (by decide) (fun c101 => ?_) (fun c101 => ?_)
  rotate_left
  · exact absurd c101 (by decide)
  rw [if_pos ⟨q0, q1⟩] at h
  obtain ⟨a0, hp0, x0, y0⟩ := in_ix q0 (by omega)
  rw [y0] at h
  rw [x0]
  obtain ⟨a1, hp1, x1, y1⟩ := in_ix q1 (by omega)
  rw [y1] at h
  rw [x1]
  obtain ⟨a2, l2, h2, x2, y2⟩ := inR_ix (i := 0) (k := 1) (by decide) (by decide) r2
  rw [y2] at h
  rw [x2]
  obtain ⟨a3, l3, h3, x3, y3⟩ := inR_ix (i := 1) (k := 20) (by decide) (by decide) r3
  rw [y3] at h
  rw [x3]
  refine G_iload_n dX8_perform_106 rfl ?_
  refine G_tIn (off := 59) (tgt := 166) dX8_perform_107 (by decide) (by decide) rfl (by decide) ?_
  refine G_aload_n dX8_perform_166 rfl ?_
  refine G_iload_n dX8_perform_167 rfl ?_
  refine G_iload dX8_perform_168 rfl ?_
  refine G_iload dX8_perform_170 rfl ?_
  refine G_iload dX8_perform_172 rfl ?_
  refine cv_X8_147 (cs' := 0) (ss' := 0) dX8_perform_174  (Nat.le_of_ble_eq_true rfl) (Nat.le_of_ble_eq_true rfl) (Nat.le_of_ble_eq_true rfl) rfl rfl (Nat.le_of_ble_eq_true rfl) (Nat.le_of_ble_eq_true rfl) rfl ?_
  refine s_X8_doLend hC hO hp0 hp1 (by omega) h3 (fun M1 g1 f1 => hGo_i ?_)
  refine G_iret dX8_perform_177 rfl rfl (Nat.le_of_ble_eq_true rfl) (Nat.le_of_ble_eq_true rfl) ?_
  exact h M1 g1 f1
theorem s_X8_perf3 {Cs : List Cmd} {i : Nat} {l : List Int32} (hC : CG M g) (hO : Okg g) (hS : Scr M Cs) (hi : i < Cs.length) (hcc : cg Cs i = (3, l)) (hl : argsOk (vK 3) l) (h : ∀ M', CG M' (sPerfV g 3 (l.getD 0 0) (l.getD 1 0) (l.getD 2 0) (l.getD 3 0)).1 → Fr dAc M M' → P (.inl (some (.int (sPerfV g 3 (l.getD 0 0) (l.getD 1 0) (l.getD 2 0) (l.getD 3 0)).2))) M') : Sp E yX8_perform cX8_perform zX8_perform [.ref (ad E 0 0 0), .int (nI i)] M P := by
  have hA := hC.1
  have h12 := hA.n12
  have hv := (hS.2.2 i hi).1.2.1
  have hargs := (hS.2.2 i hi).2
  rw [hcc] at hargs
  obtain ⟨r0, r1, r2, r3, hlen⟩ := args_a2 hl
  unfold sPerfV at h
  have e0 : M.1 6 0 0 (4 * i + 0) = l.getD 0 0 := hargs 0 (by show 0 < l.length; omega)
  have e1 : M.1 6 0 0 (4 * i + 1) = l.getD 1 0 := hargs 1 (by show 1 < l.length; omega)
  have e2 : M.1 6 0 0 (4 * i + 2) = l.getD 2 0 := hargs 2 (by show 2 < l.length; omega)
  have e3 : M.1 6 0 0 (4 * i + 3) = l.getD 3 0 := hargs 3 (by show 3 < l.length; omega)
  refine Sp_of (own := RX8) (by decide) rfl rfl (Nat.le_of_ble_eq_true rfl) (fun C => ?_)
  refine G_aload_n dX8_perform_0 rfl ?_
  refine gf_X8_19 dX8_perform_1  ?_
  refine G_iload_n dX8_perform_4 rfl ?_
  refine cv_X8_125 (cs' := 0) (ss' := 0) dX8_perform_5  (Nat.le_of_ble_eq_true rfl) (Nat.le_of_ble_eq_true rfl) (Nat.le_of_ble_eq_true rfl) rfl rfl (Nat.le_of_ble_eq_true rfl) (Nat.le_of_ble_eq_true rfl) rfl ?_
  refine s_X4_verb hS hi (hGo_i ?_)
  rw [hcc]
  refine G_istore_n dX8_perform_8 (Nat.le_of_ble_eq_true rfl) ?_
  refine G_aload_n dX8_perform_9 rfl ?_
  refine gf_X8_19 dX8_perform_10  ?_
  refine G_iload_n dX8_perform_13 rfl ?_
  refine G_iconst (v := 0) dX8_perform_14 (by decide) ?_
  refine cv_X8_128 (cs' := 0) (ss' := 0) dX8_perform_15  (Nat.le_of_ble_eq_true rfl) (Nat.le_of_ble_eq_true rfl) (Nat.le_of_ble_eq_true rfl) rfl rfl (Nat.le_of_ble_eq_true rfl) (Nat.le_of_ble_eq_true rfl) rfl ?_
  refine s_X4_argument (t := 0) hS hi (by decide) (hGo_i ?_)
  rw [e0]
  refine G_istore_n dX8_perform_18 (Nat.le_of_ble_eq_true rfl) ?_
  refine G_aload_n dX8_perform_19 rfl ?_
  refine gf_X8_19 dX8_perform_20  ?_
  refine G_iload_n dX8_perform_23 rfl ?_
  refine G_iconst (v := 1) dX8_perform_24 (by decide) ?_
  refine cv_X8_128 (cs' := 0) (ss' := 0) dX8_perform_25  (Nat.le_of_ble_eq_true rfl) (Nat.le_of_ble_eq_true rfl) (Nat.le_of_ble_eq_true rfl) rfl rfl (Nat.le_of_ble_eq_true rfl) (Nat.le_of_ble_eq_true rfl) rfl ?_
  refine s_X4_argument (t := 1) hS hi (by decide) (hGo_i ?_)
  rw [e1]
  refine G_istore dX8_perform_28 (Nat.le_of_ble_eq_true rfl) ?_
  refine G_aload_n dX8_perform_30 rfl ?_
  refine gf_X8_19 dX8_perform_31  ?_
  refine G_iload_n dX8_perform_34 rfl ?_
  refine G_iconst (v := 2) dX8_perform_35 (by decide) ?_
  refine cv_X8_128 (cs' := 0) (ss' := 0) dX8_perform_36  (Nat.le_of_ble_eq_true rfl) (Nat.le_of_ble_eq_true rfl) (Nat.le_of_ble_eq_true rfl) rfl rfl (Nat.le_of_ble_eq_true rfl) (Nat.le_of_ble_eq_true rfl) rfl ?_
  refine s_X4_argument (t := 2) hS hi (by decide) (hGo_i ?_)
  rw [e2]
  refine G_istore dX8_perform_39 (Nat.le_of_ble_eq_true rfl) ?_
  refine G_aload_n dX8_perform_41 rfl ?_
  refine gf_X8_19 dX8_perform_42  ?_
  refine G_iload_n dX8_perform_45 rfl ?_
  refine G_iconst (v := 3) dX8_perform_46 (by decide) ?_
  refine cv_X8_128 (cs' := 0) (ss' := 0) dX8_perform_47  (Nat.le_of_ble_eq_true rfl) (Nat.le_of_ble_eq_true rfl) (Nat.le_of_ble_eq_true rfl) rfl rfl (Nat.le_of_ble_eq_true rfl) (Nat.le_of_ble_eq_true rfl) rfl ?_
  refine s_X4_argument (t := 3) hS hi (by decide) (hGo_i ?_)
  rw [e3]
  refine G_istore dX8_perform_50 (Nat.le_of_ble_eq_true rfl) ?_
  refine G_iload_n dX8_perform_52 rfl ?_
  refine G_bipush (v := 6) dX8_perform_53 (by decide) ?_
  refine G_icmp_ne (tgt := 64) dX8_perform_55 (by decide) (fun c55 => ?_) (fun c55 => ?_)
  rotate_left
  · exact absurd c55 (by decide)
  refine G_aload_n dX8_perform_64 rfl ?_
  refine gf_X8_26 dX8_perform_65  ?_
  refine G_iload_n dX8_perform_68 rfl ?_
  refine cv_X8_135 (cs' := 0) (ss' := 0) dX8_perform_69 (by decide) (Nat.le_of_ble_eq_true rfl) (Nat.le_of_ble_eq_true rfl) (Nat.le_of_ble_eq_true rfl) rfl rfl (Nat.le_of_ble_eq_true rfl) (Nat.le_of_ble_eq_true rfl) rfl ?_
  refine s_X3_has (by decide) hA (hGo_i ?_)
  by_cases q0 : inP g.A (l.getD 0 0)
  rotate_left
  · rw [if_neg q0]
    rw [if_neg (fun q => q0 q.1)] at h
    refine G_if_ne (tgt := 77) dX8_perform_72 (by decide) (fun c72 => ?_) (fun c72 => ?_)
    · exact absurd rfl c72
    · refine G_iconst (v := (-1)) dX8_perform_75 (by decide) ?_
      refine G_iret dX8_perform_76 rfl rfl (Nat.le_of_ble_eq_true rfl) (Nat.le_of_ble_eq_true rfl) ?_
      exact h M hC Fr.rfl
  rw [if_pos q0]
  refine G_if_ne (tgt := 77) dX8_perform_72 (by decide) (fun c72 => ?_) (fun c72 => ?_)
  rotate_left
  · exact absurd c72 (by decide)
  refine G_iload_n dX8_perform_77 rfl ?_
  refine G_iconst (v := 1) dX8_perform_78 (by decide) ?_
  refine G_icmp_eq (tgt := 92) dX8_perform_79 (by decide) (fun c79 => ?_) (fun c79 => ?_)
  · exact absurd c79 (by decide)
  refine G_iload_n dX8_perform_82 rfl ?_
  refine G_iconst (v := 2) dX8_perform_83 (by decide) ?_
  refine G_icmp_eq (tgt := 92) dX8_perform_84 (by decide) (fun c84 => ?_) (fun c84 => ?_)
  · exact absurd c84 (by decide)
  refine G_iload_n dX8_perform_87 rfl ?_
  refine G_iconst (v := 3) dX8_perform_88 (by decide) ?_
  refine G_icmp_ne (tgt := 106) dX8_perform_89 (by decide) (fun c89 => ?_) (fun c89 => ?_)
  · exact absurd rfl c89
  refine G_aload_n dX8_perform_92 rfl ?_
  refine gf_X8_26 dX8_perform_93  ?_
  refine G_iload dX8_perform_96 rfl ?_
  refine cv_X8_135 (cs' := 0) (ss' := 0) dX8_perform_98 (by decide) (Nat.le_of_ble_eq_true rfl) (Nat.le_of_ble_eq_true rfl) (Nat.le_of_ble_eq_true rfl) rfl rfl (Nat.le_of_ble_eq_true rfl) (Nat.le_of_ble_eq_true rfl) rfl ?_
  refine s_X3_has (by decide) hA (hGo_i ?_)
  by_cases q1 : inP g.A (l.getD 1 0)
  rotate_left
  · rw [if_neg q1]
    rw [if_neg (fun q => q1 q.2)] at h
    refine G_if_ne (tgt := 106) dX8_perform_101 (by decide) (fun c101 => ?_) (fun c101 => ?_)
    · exact absurd rfl c101
    · refine G_iconst (v := (-1)) dX8_perform_104 (by decide) ?_
      refine G_iret dX8_perform_105 rfl rfl (Nat.le_of_ble_eq_true rfl) (Nat.le_of_ble_eq_true rfl) ?_
      exact h M hC Fr.rfl
  rw [if_pos q1]
  refine G_if_ne (tgt := 106) dX8_perform_101 (by decide) (fun c101 => ?_) (fun c101 => ?_)
  rotate_left
  · exact absurd c101 (by decide)
  rw [if_pos ⟨q0, q1⟩] at h
  obtain ⟨a0, hp0, x0, y0⟩ := in_ix q0 (by omega)
  rw [y0] at h
  rw [x0]
  obtain ⟨a1, hp1, x1, y1⟩ := in_ix q1 (by omega)
  rw [y1] at h
  rw [x1]
  obtain ⟨a2, l2, h2, x2, y2⟩ := inR_ix (i := 0) (k := 1) (by decide) (by decide) r2
  rw [y2] at h
  rw [x2]
  obtain ⟨a3, l3, h3, x3, y3⟩ := inR_ix (i := 1) (k := 20) (by decide) (by decide) r3
  rw [y3] at h
  rw [x3]
  refine G_iload_n dX8_perform_106 rfl ?_
  refine G_tIn (off := 71) (tgt := 178) dX8_perform_107 (by decide) (by decide) rfl (by decide) ?_
  refine G_aload_n dX8_perform_178 rfl ?_
  refine G_iload_n dX8_perform_179 rfl ?_
  refine G_iload dX8_perform_180 rfl ?_
  refine G_iload dX8_perform_182 rfl ?_
  refine G_iload dX8_perform_184 rfl ?_
  refine cv_X8_150 (cs' := 0) (ss' := 0) dX8_perform_186  (Nat.le_of_ble_eq_true rfl) (Nat.le_of_ble_eq_true rfl) (Nat.le_of_ble_eq_true rfl) rfl rfl (Nat.le_of_ble_eq_true rfl) (Nat.le_of_ble_eq_true rfl) rfl ?_
  refine s_X8_doPay hC hO hp0 hp1 (by omega) l3 h3 (fun M1 g1 f1 => hGo_i ?_)
  refine G_iret dX8_perform_189 rfl rfl (Nat.le_of_ble_eq_true rfl) (Nat.le_of_ble_eq_true rfl) ?_
  exact h M1 g1 f1
theorem s_X8_perf4 {Cs : List Cmd} {i : Nat} {l : List Int32} (hC : CG M g) (hO : Okg g) (hS : Scr M Cs) (hi : i < Cs.length) (hcc : cg Cs i = (4, l)) (hl : argsOk (vK 4) l) (h : ∀ M', CG M' (sPerfV g 4 (l.getD 0 0) (l.getD 1 0) (l.getD 2 0) (l.getD 3 0)).1 → Fr dAc M M' → P (.inl (some (.int (sPerfV g 4 (l.getD 0 0) (l.getD 1 0) (l.getD 2 0) (l.getD 3 0)).2))) M') : Sp E yX8_perform cX8_perform zX8_perform [.ref (ad E 0 0 0), .int (nI i)] M P := by
  have hA := hC.1
  have h12 := hA.n12
  have hv := (hS.2.2 i hi).1.2.1
  have hargs := (hS.2.2 i hi).2
  rw [hcc] at hargs
  obtain ⟨r0, r1, r2, hlen⟩ := args_a4 hl
  unfold sPerfV at h
  have e0 : M.1 6 0 0 (4 * i + 0) = l.getD 0 0 := hargs 0 (by show 0 < l.length; omega)
  have e1 : M.1 6 0 0 (4 * i + 1) = l.getD 1 0 := hargs 1 (by show 1 < l.length; omega)
  have e2 : M.1 6 0 0 (4 * i + 2) = l.getD 2 0 := hargs 2 (by show 2 < l.length; omega)
  refine Sp_of (own := RX8) (by decide) rfl rfl (Nat.le_of_ble_eq_true rfl) (fun C => ?_)
  refine G_aload_n dX8_perform_0 rfl ?_
  refine gf_X8_19 dX8_perform_1  ?_
  refine G_iload_n dX8_perform_4 rfl ?_
  refine cv_X8_125 (cs' := 0) (ss' := 0) dX8_perform_5  (Nat.le_of_ble_eq_true rfl) (Nat.le_of_ble_eq_true rfl) (Nat.le_of_ble_eq_true rfl) rfl rfl (Nat.le_of_ble_eq_true rfl) (Nat.le_of_ble_eq_true rfl) rfl ?_
  refine s_X4_verb hS hi (hGo_i ?_)
  rw [hcc]
  refine G_istore_n dX8_perform_8 (Nat.le_of_ble_eq_true rfl) ?_
  refine G_aload_n dX8_perform_9 rfl ?_
  refine gf_X8_19 dX8_perform_10  ?_
  refine G_iload_n dX8_perform_13 rfl ?_
  refine G_iconst (v := 0) dX8_perform_14 (by decide) ?_
  refine cv_X8_128 (cs' := 0) (ss' := 0) dX8_perform_15  (Nat.le_of_ble_eq_true rfl) (Nat.le_of_ble_eq_true rfl) (Nat.le_of_ble_eq_true rfl) rfl rfl (Nat.le_of_ble_eq_true rfl) (Nat.le_of_ble_eq_true rfl) rfl ?_
  refine s_X4_argument (t := 0) hS hi (by decide) (hGo_i ?_)
  rw [e0]
  refine G_istore_n dX8_perform_18 (Nat.le_of_ble_eq_true rfl) ?_
  refine G_aload_n dX8_perform_19 rfl ?_
  refine gf_X8_19 dX8_perform_20  ?_
  refine G_iload_n dX8_perform_23 rfl ?_
  refine G_iconst (v := 1) dX8_perform_24 (by decide) ?_
  refine cv_X8_128 (cs' := 0) (ss' := 0) dX8_perform_25  (Nat.le_of_ble_eq_true rfl) (Nat.le_of_ble_eq_true rfl) (Nat.le_of_ble_eq_true rfl) rfl rfl (Nat.le_of_ble_eq_true rfl) (Nat.le_of_ble_eq_true rfl) rfl ?_
  refine s_X4_argument (t := 1) hS hi (by decide) (hGo_i ?_)
  rw [e1]
  refine G_istore dX8_perform_28 (Nat.le_of_ble_eq_true rfl) ?_
  refine G_aload_n dX8_perform_30 rfl ?_
  refine gf_X8_19 dX8_perform_31  ?_
  refine G_iload_n dX8_perform_34 rfl ?_
  refine G_iconst (v := 2) dX8_perform_35 (by decide) ?_
  refine cv_X8_128 (cs' := 0) (ss' := 0) dX8_perform_36  (Nat.le_of_ble_eq_true rfl) (Nat.le_of_ble_eq_true rfl) (Nat.le_of_ble_eq_true rfl) rfl rfl (Nat.le_of_ble_eq_true rfl) (Nat.le_of_ble_eq_true rfl) rfl ?_
  refine s_X4_argument (t := 2) hS hi (by decide) (hGo_i ?_)
  rw [e2]
  refine G_istore dX8_perform_39 (Nat.le_of_ble_eq_true rfl) ?_
  refine G_aload_n dX8_perform_41 rfl ?_
  refine gf_X8_19 dX8_perform_42  ?_
  refine G_iload_n dX8_perform_45 rfl ?_
  refine G_iconst (v := 3) dX8_perform_46 (by decide) ?_
  refine cv_X8_128 (cs' := 0) (ss' := 0) dX8_perform_47  (Nat.le_of_ble_eq_true rfl) (Nat.le_of_ble_eq_true rfl) (Nat.le_of_ble_eq_true rfl) rfl rfl (Nat.le_of_ble_eq_true rfl) (Nat.le_of_ble_eq_true rfl) rfl ?_
  refine s_X4_argument (t := 3) hS hi (by decide) (hGo_i ?_)
  refine G_istore dX8_perform_50 (Nat.le_of_ble_eq_true rfl) ?_
  refine G_iload_n dX8_perform_52 rfl ?_
  refine G_bipush (v := 6) dX8_perform_53 (by decide) ?_
  refine G_icmp_ne (tgt := 64) dX8_perform_55 (by decide) (fun c55 => ?_) (fun c55 => ?_)
  rotate_left
  · exact absurd c55 (by decide)
  refine G_aload_n dX8_perform_64 rfl ?_
  refine gf_X8_26 dX8_perform_65  ?_
  refine G_iload_n dX8_perform_68 rfl ?_
  refine cv_X8_135 (cs' := 0) (ss' := 0) dX8_perform_69 (by decide) (Nat.le_of_ble_eq_true rfl) (Nat.le_of_ble_eq_true rfl) (Nat.le_of_ble_eq_true rfl) rfl rfl (Nat.le_of_ble_eq_true rfl) (Nat.le_of_ble_eq_true rfl) rfl ?_
  refine s_X3_has (by decide) hA (hGo_i ?_)
  by_cases q0 : inP g.A (l.getD 0 0)
  rotate_left
  · rw [if_neg q0]
    rw [if_neg q0] at h
    refine G_if_ne (tgt := 77) dX8_perform_72 (by decide) (fun c72 => ?_) (fun c72 => ?_)
    · exact absurd rfl c72
    · refine G_iconst (v := (-1)) dX8_perform_75 (by decide) ?_
      refine G_iret dX8_perform_76 rfl rfl (Nat.le_of_ble_eq_true rfl) (Nat.le_of_ble_eq_true rfl) ?_
      exact h M hC Fr.rfl
  rw [if_pos q0]
  refine G_if_ne (tgt := 77) dX8_perform_72 (by decide) (fun c72 => ?_) (fun c72 => ?_)
  rotate_left
  · exact absurd c72 (by decide)
  refine G_iload_n dX8_perform_77 rfl ?_
  refine G_iconst (v := 1) dX8_perform_78 (by decide) ?_
  refine G_icmp_eq (tgt := 92) dX8_perform_79 (by decide) (fun c79 => ?_) (fun c79 => ?_)
  · exact absurd c79 (by decide)
  refine G_iload_n dX8_perform_82 rfl ?_
  refine G_iconst (v := 2) dX8_perform_83 (by decide) ?_
  refine G_icmp_eq (tgt := 92) dX8_perform_84 (by decide) (fun c84 => ?_) (fun c84 => ?_)
  · exact absurd c84 (by decide)
  refine G_iload_n dX8_perform_87 rfl ?_
  refine G_iconst (v := 3) dX8_perform_88 (by decide) ?_
  refine G_icmp_ne (tgt := 106) dX8_perform_89 (by decide) (fun c89 => ?_) (fun c89 => ?_)
  rotate_left
  · exact absurd c89 (by decide)
  rw [if_pos q0] at h
  obtain ⟨a0, hp0, x0, y0⟩ := in_ix q0 (by omega)
  rw [y0] at h
  rw [x0]
  refine G_iload_n dX8_perform_106 rfl ?_
  refine G_tIn (off := 83) (tgt := 190) dX8_perform_107 (by decide) (by decide) rfl (by decide) ?_
  refine G_aload_n dX8_perform_190 rfl ?_
  refine G_iload_n dX8_perform_191 rfl ?_
  refine G_iload dX8_perform_192 rfl ?_
  refine G_iload dX8_perform_194 rfl ?_
  refine cv_X8_153 (cs' := 0) (ss' := 0) dX8_perform_196  (Nat.le_of_ble_eq_true rfl) (Nat.le_of_ble_eq_true rfl) (Nat.le_of_ble_eq_true rfl) rfl rfl (Nat.le_of_ble_eq_true rfl) (Nat.le_of_ble_eq_true rfl) rfl ?_
  refine s_X8_doMove hC hO hp0 (fun M1 g1 f1 => hGo_i ?_)
  refine G_iret dX8_perform_199 rfl rfl (Nat.le_of_ble_eq_true rfl) (Nat.le_of_ble_eq_true rfl) ?_
  exact h M1 g1 f1
theorem s_X8_perf5 {Cs : List Cmd} {i : Nat} {l : List Int32} (hC : CG M g) (hO : Okg g) (hS : Scr M Cs) (hi : i < Cs.length) (hcc : cg Cs i = (5, l)) (hl : argsOk (vK 5) l) (h : ∀ M', CG M' (sPerfV g 5 (l.getD 0 0) (l.getD 1 0) (l.getD 2 0) (l.getD 3 0)).1 → Fr dAc M M' → P (.inl (some (.int (sPerfV g 5 (l.getD 0 0) (l.getD 1 0) (l.getD 2 0) (l.getD 3 0)).2))) M') : Sp E yX8_perform cX8_perform zX8_perform [.ref (ad E 0 0 0), .int (nI i)] M P := by
  have hA := hC.1
  have h12 := hA.n12
  have hv := (hS.2.2 i hi).1.2.1
  have hargs := (hS.2.2 i hi).2
  rw [hcc] at hargs
  obtain ⟨r0, hlen⟩ := args_a5 hl
  unfold sPerfV at h
  have e0 : M.1 6 0 0 (4 * i + 0) = l.getD 0 0 := hargs 0 (by show 0 < l.length; omega)
  refine Sp_of (own := RX8) (by decide) rfl rfl (Nat.le_of_ble_eq_true rfl) (fun C => ?_)
  refine G_aload_n dX8_perform_0 rfl ?_
  refine gf_X8_19 dX8_perform_1  ?_
  refine G_iload_n dX8_perform_4 rfl ?_
  refine cv_X8_125 (cs' := 0) (ss' := 0) dX8_perform_5  (Nat.le_of_ble_eq_true rfl) (Nat.le_of_ble_eq_true rfl) (Nat.le_of_ble_eq_true rfl) rfl rfl (Nat.le_of_ble_eq_true rfl) (Nat.le_of_ble_eq_true rfl) rfl ?_
  refine s_X4_verb hS hi (hGo_i ?_)
  rw [hcc]
  refine G_istore_n dX8_perform_8 (Nat.le_of_ble_eq_true rfl) ?_
  refine G_aload_n dX8_perform_9 rfl ?_
  refine gf_X8_19 dX8_perform_10  ?_
  refine G_iload_n dX8_perform_13 rfl ?_
  refine G_iconst (v := 0) dX8_perform_14 (by decide) ?_
  refine cv_X8_128 (cs' := 0) (ss' := 0) dX8_perform_15  (Nat.le_of_ble_eq_true rfl) (Nat.le_of_ble_eq_true rfl) (Nat.le_of_ble_eq_true rfl) rfl rfl (Nat.le_of_ble_eq_true rfl) (Nat.le_of_ble_eq_true rfl) rfl ?_
  refine s_X4_argument (t := 0) hS hi (by decide) (hGo_i ?_)
  rw [e0]
  refine G_istore_n dX8_perform_18 (Nat.le_of_ble_eq_true rfl) ?_
  refine G_aload_n dX8_perform_19 rfl ?_
  refine gf_X8_19 dX8_perform_20  ?_
  refine G_iload_n dX8_perform_23 rfl ?_
  refine G_iconst (v := 1) dX8_perform_24 (by decide) ?_
  refine cv_X8_128 (cs' := 0) (ss' := 0) dX8_perform_25  (Nat.le_of_ble_eq_true rfl) (Nat.le_of_ble_eq_true rfl) (Nat.le_of_ble_eq_true rfl) rfl rfl (Nat.le_of_ble_eq_true rfl) (Nat.le_of_ble_eq_true rfl) rfl ?_
  refine s_X4_argument (t := 1) hS hi (by decide) (hGo_i ?_)
  refine G_istore dX8_perform_28 (Nat.le_of_ble_eq_true rfl) ?_
  refine G_aload_n dX8_perform_30 rfl ?_
  refine gf_X8_19 dX8_perform_31  ?_
  refine G_iload_n dX8_perform_34 rfl ?_
  refine G_iconst (v := 2) dX8_perform_35 (by decide) ?_
  refine cv_X8_128 (cs' := 0) (ss' := 0) dX8_perform_36  (Nat.le_of_ble_eq_true rfl) (Nat.le_of_ble_eq_true rfl) (Nat.le_of_ble_eq_true rfl) rfl rfl (Nat.le_of_ble_eq_true rfl) (Nat.le_of_ble_eq_true rfl) rfl ?_
  refine s_X4_argument (t := 2) hS hi (by decide) (hGo_i ?_)
  refine G_istore dX8_perform_39 (Nat.le_of_ble_eq_true rfl) ?_
  refine G_aload_n dX8_perform_41 rfl ?_
  refine gf_X8_19 dX8_perform_42  ?_
  refine G_iload_n dX8_perform_45 rfl ?_
  refine G_iconst (v := 3) dX8_perform_46 (by decide) ?_
  refine cv_X8_128 (cs' := 0) (ss' := 0) dX8_perform_47  (Nat.le_of_ble_eq_true rfl) (Nat.le_of_ble_eq_true rfl) (Nat.le_of_ble_eq_true rfl) rfl rfl (Nat.le_of_ble_eq_true rfl) (Nat.le_of_ble_eq_true rfl) rfl ?_
  refine s_X4_argument (t := 3) hS hi (by decide) (hGo_i ?_)
  refine G_istore dX8_perform_50 (Nat.le_of_ble_eq_true rfl) ?_
  refine G_iload_n dX8_perform_52 rfl ?_
  refine G_bipush (v := 6) dX8_perform_53 (by decide) ?_
  refine G_icmp_ne (tgt := 64) dX8_perform_55 (by decide) (fun c55 => ?_) (fun c55 => ?_)
  rotate_left
  · exact absurd c55 (by decide)
  refine G_aload_n dX8_perform_64 rfl ?_
  refine gf_X8_26 dX8_perform_65  ?_
  refine G_iload_n dX8_perform_68 rfl ?_
  refine cv_X8_135 (cs' := 0) (ss' := 0) dX8_perform_69 (by decide) (Nat.le_of_ble_eq_true rfl) (Nat.le_of_ble_eq_true rfl) (Nat.le_of_ble_eq_true rfl) rfl rfl (Nat.le_of_ble_eq_true rfl) (Nat.le_of_ble_eq_true rfl) rfl ?_
  refine s_X3_has (by decide) hA (hGo_i ?_)
  by_cases q0 : inP g.A (l.getD 0 0)
  rotate_left
  · rw [if_neg q0]
    rw [if_neg q0] at h
    refine G_if_ne (tgt := 77) dX8_perform_72 (by decide) (fun c72 => ?_) (fun c72 => ?_)
    · exact absurd rfl c72
    · refine G_iconst (v := (-1)) dX8_perform_75 (by decide) ?_
      refine G_iret dX8_perform_76 rfl rfl (Nat.le_of_ble_eq_true rfl) (Nat.le_of_ble_eq_true rfl) ?_
      exact h M hC Fr.rfl
  rw [if_pos q0]
  refine G_if_ne (tgt := 77) dX8_perform_72 (by decide) (fun c72 => ?_) (fun c72 => ?_)
  rotate_left
  · exact absurd c72 (by decide)
  refine G_iload_n dX8_perform_77 rfl ?_
  refine G_iconst (v := 1) dX8_perform_78 (by decide) ?_
  refine G_icmp_eq (tgt := 92) dX8_perform_79 (by decide) (fun c79 => ?_) (fun c79 => ?_)
  · exact absurd c79 (by decide)
  refine G_iload_n dX8_perform_82 rfl ?_
  refine G_iconst (v := 2) dX8_perform_83 (by decide) ?_
  refine G_icmp_eq (tgt := 92) dX8_perform_84 (by decide) (fun c84 => ?_) (fun c84 => ?_)
  · exact absurd c84 (by decide)
  refine G_iload_n dX8_perform_87 rfl ?_
  refine G_iconst (v := 3) dX8_perform_88 (by decide) ?_
  refine G_icmp_ne (tgt := 106) dX8_perform_89 (by decide) (fun c89 => ?_) (fun c89 => ?_)
  rotate_left
  · exact absurd c89 (by decide)
  rw [if_pos q0] at h
  obtain ⟨a0, hp0, x0, y0⟩ := in_ix q0 (by omega)
  rw [y0] at h
  rw [x0]
  refine G_iload_n dX8_perform_106 rfl ?_
  refine G_tIn (off := 93) (tgt := 200) dX8_perform_107 (by decide) (by decide) rfl (by decide) ?_
  refine G_aload_n dX8_perform_200 rfl ?_
  refine G_iload_n dX8_perform_201 rfl ?_
  refine cv_X8_156 (cs' := 0) (ss' := 0) dX8_perform_202  (Nat.le_of_ble_eq_true rfl) (Nat.le_of_ble_eq_true rfl) (Nat.le_of_ble_eq_true rfl) rfl rfl (Nat.le_of_ble_eq_true rfl) (Nat.le_of_ble_eq_true rfl) rfl ?_
  refine s_X8_doConfess hC hO hp0 (fun M1 g1 f1 => hGo_i ?_)
  refine G_iret dX8_perform_205 rfl rfl (Nat.le_of_ble_eq_true rfl) (Nat.le_of_ble_eq_true rfl) ?_
  exact h M1 g1 f1
theorem s_X8_perf6 {Cs : List Cmd} {i : Nat} {l : List Int32} (hC : CG M g) (hO : Okg g) (hS : Scr M Cs) (hi : i < Cs.length) (hcc : cg Cs i = (6, l)) (hl : argsOk (vK 6) l) (h : ∀ M', CG M' (sPerfV g 6 (l.getD 0 0) (l.getD 1 0) (l.getD 2 0) (l.getD 3 0)).1 → Fr dAc M M' → P (.inl (some (.int (sPerfV g 6 (l.getD 0 0) (l.getD 1 0) (l.getD 2 0) (l.getD 3 0)).2))) M') : Sp E yX8_perform cX8_perform zX8_perform [.ref (ad E 0 0 0), .int (nI i)] M P := by
  have hA := hC.1
  have h12 := hA.n12
  have hv := (hS.2.2 i hi).1.2.1
  have hargs := (hS.2.2 i hi).2
  rw [hcc] at hargs
  obtain ⟨r0, hlen⟩ := args_a6 hl
  unfold sPerfV at h
  have e0 : M.1 6 0 0 (4 * i + 0) = l.getD 0 0 := hargs 0 (by show 0 < l.length; omega)
  refine Sp_of (own := RX8) (by decide) rfl rfl (Nat.le_of_ble_eq_true rfl) (fun C => ?_)
  refine G_aload_n dX8_perform_0 rfl ?_
  refine gf_X8_19 dX8_perform_1  ?_
  refine G_iload_n dX8_perform_4 rfl ?_
  refine cv_X8_125 (cs' := 0) (ss' := 0) dX8_perform_5  (Nat.le_of_ble_eq_true rfl) (Nat.le_of_ble_eq_true rfl) (Nat.le_of_ble_eq_true rfl) rfl rfl (Nat.le_of_ble_eq_true rfl) (Nat.le_of_ble_eq_true rfl) rfl ?_
  refine s_X4_verb hS hi (hGo_i ?_)
  rw [hcc]
  refine G_istore_n dX8_perform_8 (Nat.le_of_ble_eq_true rfl) ?_
  refine G_aload_n dX8_perform_9 rfl ?_
  refine gf_X8_19 dX8_perform_10  ?_
  refine G_iload_n dX8_perform_13 rfl ?_
  refine G_iconst (v := 0) dX8_perform_14 (by decide) ?_
  refine cv_X8_128 (cs' := 0) (ss' := 0) dX8_perform_15  (Nat.le_of_ble_eq_true rfl) (Nat.le_of_ble_eq_true rfl) (Nat.le_of_ble_eq_true rfl) rfl rfl (Nat.le_of_ble_eq_true rfl) (Nat.le_of_ble_eq_true rfl) rfl ?_
  refine s_X4_argument (t := 0) hS hi (by decide) (hGo_i ?_)
  rw [e0]
  refine G_istore_n dX8_perform_18 (Nat.le_of_ble_eq_true rfl) ?_
  refine G_aload_n dX8_perform_19 rfl ?_
  refine gf_X8_19 dX8_perform_20  ?_
  refine G_iload_n dX8_perform_23 rfl ?_
  refine G_iconst (v := 1) dX8_perform_24 (by decide) ?_
  refine cv_X8_128 (cs' := 0) (ss' := 0) dX8_perform_25  (Nat.le_of_ble_eq_true rfl) (Nat.le_of_ble_eq_true rfl) (Nat.le_of_ble_eq_true rfl) rfl rfl (Nat.le_of_ble_eq_true rfl) (Nat.le_of_ble_eq_true rfl) rfl ?_
  refine s_X4_argument (t := 1) hS hi (by decide) (hGo_i ?_)
  refine G_istore dX8_perform_28 (Nat.le_of_ble_eq_true rfl) ?_
  refine G_aload_n dX8_perform_30 rfl ?_
  refine gf_X8_19 dX8_perform_31  ?_
  refine G_iload_n dX8_perform_34 rfl ?_
  refine G_iconst (v := 2) dX8_perform_35 (by decide) ?_
  refine cv_X8_128 (cs' := 0) (ss' := 0) dX8_perform_36  (Nat.le_of_ble_eq_true rfl) (Nat.le_of_ble_eq_true rfl) (Nat.le_of_ble_eq_true rfl) rfl rfl (Nat.le_of_ble_eq_true rfl) (Nat.le_of_ble_eq_true rfl) rfl ?_
  refine s_X4_argument (t := 2) hS hi (by decide) (hGo_i ?_)
  refine G_istore dX8_perform_39 (Nat.le_of_ble_eq_true rfl) ?_
  refine G_aload_n dX8_perform_41 rfl ?_
  refine gf_X8_19 dX8_perform_42  ?_
  refine G_iload_n dX8_perform_45 rfl ?_
  refine G_iconst (v := 3) dX8_perform_46 (by decide) ?_
  refine cv_X8_128 (cs' := 0) (ss' := 0) dX8_perform_47  (Nat.le_of_ble_eq_true rfl) (Nat.le_of_ble_eq_true rfl) (Nat.le_of_ble_eq_true rfl) rfl rfl (Nat.le_of_ble_eq_true rfl) (Nat.le_of_ble_eq_true rfl) rfl ?_
  refine s_X4_argument (t := 3) hS hi (by decide) (hGo_i ?_)
  refine G_istore dX8_perform_50 (Nat.le_of_ble_eq_true rfl) ?_
  refine G_iload_n dX8_perform_52 rfl ?_
  refine G_bipush (v := 6) dX8_perform_53 (by decide) ?_
  refine G_icmp_ne (tgt := 64) dX8_perform_55 (by decide) (fun c55 => ?_) (fun c55 => ?_)
  · exact absurd rfl c55
  · obtain ⟨k, k1, k2, ek, et⟩ := inR_ix (i := 1) (k := 10) (by decide) (by decide) r0
    rw [et] at h
    rw [ek]
    refine G_aload_n dX8_perform_58 rfl ?_
    refine G_iload_n dX8_perform_59 rfl ?_
    refine cv_X8_132 (cs' := 0) (ss' := 0) dX8_perform_60  (Nat.le_of_ble_eq_true rfl) (Nat.le_of_ble_eq_true rfl) (Nat.le_of_ble_eq_true rfl) rfl rfl (Nat.le_of_ble_eq_true rfl) (Nat.le_of_ble_eq_true rfl) rfl ?_
    refine s_X8_doPass hC hO k2 (fun M1 g1 f1 => hGo_i ?_)
    refine G_iret dX8_perform_63 rfl rfl (Nat.le_of_ble_eq_true rfl) (Nat.le_of_ble_eq_true rfl) ?_
    exact h M1 g1 f1
theorem s_X8_perform {Cs : List Cmd} {i : Nat} (hC : CG M g) (hO : Okg g) (hS : Scr M Cs) (hi : i < Cs.length) (hc : cOk (cg Cs i)) (h : ∀ M', CG M' (sPerf g (cg Cs i)).1 → Fr dAc M M' → P (.inl (some (.int (sPerf g (cg Cs i)).2))) M') : Sp E yX8_perform cX8_perform zX8_perform [.ref (ad E 0 0 0), .int (nI i)] M P := by
  obtain ⟨hv, hl⟩ := hc
  unfold sPerf cA at h
  generalize hcc : cg Cs i = c at *
  obtain ⟨v, l⟩ := c
  dsimp only at hv hl h
  rcases (show v = 0 ∨ v = 1 ∨ v = 2 ∨ v = 3 ∨ v = 4 ∨ v = 5 ∨ v = 6 by omega) with rfl | rfl | rfl | rfl | rfl | rfl | rfl
  · exact s_X8_perf0 hC hO hS hi hcc hl h
  · exact s_X8_perf1 hC hO hS hi hcc hl h
  · exact s_X8_perf2 hC hO hS hi hcc hl h
  · exact s_X8_perf3 hC hO hS hi hcc hl h
  · exact s_X8_perf4 hC hO hS hi hcc hl h
  · exact s_X8_perf5 hC hO hS hi hcc hl h
  · exact s_X8_perf6 hC hO hS hi hcc hl h
theorem sPerf_ok {c : Cmd} (hO : Okg g) (hc : cOk c) : Okg (sPerf g c).1 := by
  obtain ⟨v, l⟩ := c
  obtain ⟨hv, hl⟩ := hc
  dsimp only at hv hl
  have h12 := hO.1.1.2
  unfold sPerf cA
  dsimp only
  rcases (show v = 0 ∨ v = 1 ∨ v = 2 ∨ v = 3 ∨ v = 4 ∨ v = 5 ∨ v = 6 by omega) with rfl | rfl | rfl | rfl | rfl | rfl | rfl
  · obtain ⟨r0, r1, r2, hlen⟩ := args_a0 hl
    unfold sPerfV
    split
    · rename_i q
      obtain ⟨a0, hp0, x0, y0⟩ := in_ix q (by omega)
      rw [y0]
      obtain ⟨a1, l1, h1, x1, y1⟩ := inR_ix (i := 0) (k := 1) (by decide) (by decide) r1
      rw [y1]
      obtain ⟨a2, l2, h2, x2, y2⟩ := inR_ix (i := 1) (k := 20) (by decide) (by decide) r2
      rw [y2]
      exact sWork_ok hO hp0 (by omega) h2
    · exact hO
  · obtain ⟨r0, r1, r2, r3, hlen⟩ := args_a1 hl
    unfold sPerfV
    split
    · rename_i q
      obtain ⟨a0, hp0, x0, y0⟩ := in_ix q.1 (by omega)
      rw [y0]
      obtain ⟨a1, hp1, x1, y1⟩ := in_ix q.2 (by omega)
      rw [y1]
      obtain ⟨a2, l2, h2, x2, y2⟩ := inR_ix (i := 0) (k := 20) (by decide) (by decide) r2
      rw [y2]
      obtain ⟨a3, l3, h3, x3, y3⟩ := inR_ix (i := 0) (k := 20) (by decide) (by decide) r3
      rw [y3]
      exact sSwap_ok hO hp0 hp1 h2 h3
    · exact hO
  · obtain ⟨r0, r1, r2, r3, hlen⟩ := args_a2 hl
    unfold sPerfV
    split
    · rename_i q
      obtain ⟨a0, hp0, x0, y0⟩ := in_ix q.1 (by omega)
      rw [y0]
      obtain ⟨a1, hp1, x1, y1⟩ := in_ix q.2 (by omega)
      rw [y1]
      obtain ⟨a2, l2, h2, x2, y2⟩ := inR_ix (i := 0) (k := 1) (by decide) (by decide) r2
      rw [y2]
      obtain ⟨a3, l3, h3, x3, y3⟩ := inR_ix (i := 1) (k := 20) (by decide) (by decide) r3
      rw [y3]
      exact sLend_ok hO hp0 hp1 (by omega) l3 h3
    · exact hO
  · obtain ⟨r0, r1, r2, r3, hlen⟩ := args_a2 hl
    unfold sPerfV
    split
    · rename_i q
      obtain ⟨a0, hp0, x0, y0⟩ := in_ix q.1 (by omega)
      rw [y0]
      obtain ⟨a1, hp1, x1, y1⟩ := in_ix q.2 (by omega)
      rw [y1]
      obtain ⟨a2, l2, h2, x2, y2⟩ := inR_ix (i := 0) (k := 1) (by decide) (by decide) r2
      rw [y2]
      obtain ⟨a3, l3, h3, x3, y3⟩ := inR_ix (i := 1) (k := 20) (by decide) (by decide) r3
      rw [y3]
      exact sPay_ok hO hp0 hp1 (by omega) l3 h3
    · exact hO
  · obtain ⟨r0, r1, r2, hlen⟩ := args_a4 hl
    unfold sPerfV
    split
    · rename_i q
      obtain ⟨a0, hp0, x0, y0⟩ := in_ix q (by omega)
      rw [y0]
      exact sMove_ok hO
    · exact hO
  · obtain ⟨r0, hlen⟩ := args_a5 hl
    unfold sPerfV
    split
    · rename_i q
      obtain ⟨a0, hp0, x0, y0⟩ := in_ix q (by omega)
      rw [y0]
      exact sConfess_ok hO
    · exact hO
  · obtain ⟨r0, hlen⟩ := args_a6 hl
    unfold sPerfV
    exact sPass_ok hO
/-- commands performed, up to the first that answers below 0 -/
def runC (g : Gs) : List Cmd → Gs × Nat
  | [] => (g, 0)
  | c :: r => if (sPerf g c).2 < 0 then ((sPerf g c).1, 0) else ((runC (sPerf g c).1 r).1, (runC (sPerf g c).1 r).2 + 1)
theorem runC_ok : ∀ {Cs : List Cmd} {g : Gs}, Okg g → (∀ c, c ∈ Cs → cOk c) → Okg (runC g Cs).1
  | [], g, h, _ => h
  | c :: r, g, h, hc => by
    have h1 := sPerf_ok h (hc c List.mem_cons_self)
    unfold runC
    split
    · exact h1
    · exact runC_ok h1 (fun d hd => hc d (List.mem_cons_of_mem _ hd))
def plG (g : Gs) (v : Int32) : Gs := (g.A, g.U, g.S, g.R, [], ((scrV g.L v).1.code, (scrV g.L v).1.pos), g.W)
def sPlay (g : Gs) (v : Int32) : Gs × Int32 := if (scrV g.L v).1.code = 0 then ((runC (plG g v) (scrV g.L v).2).1, nI (runC (plG g v) (scrV g.L v).2).2) else (plG g v, -1)
theorem scr_ok {L : List Int32} {v : Int32} (h : (scrV L v).1.code = 0) : ∀ c, c ∈ (scrV L v).2 → cOk c := rcL_ok (fun _ c hc => by cases hc) h
theorem sPlay_ok {v : Int32} (h : Okg g) : Okg (sPlay g v).1 := by
  unfold sPlay
  split
  · exact runC_ok (g := plG g v) h (scr_ok (by assumption))
  · exact h
theorem cg_drop {Cs : List Cmd} {i : Nat} (hi : i < Cs.length) : Cs.drop i = cg Cs i :: Cs.drop (i + 1) := by
  rw [List.drop_eq_getElem_cons hi]
  unfold cg
  rw [List.getD_eq_getElem?_getD, List.getElem?_eq_getElem hi]
  rfl
theorem s_X8_play (hC : CG M g) (hO : Okg g) (h : ∀ M', CG M' (sPlay g (M.1 1 0 0 4)).1 → Fr dCl M M' → P (.inl (some (.int (sPlay g (M.1 1 0 0 4)).2))) M') : Sp E yX8_play cX8_play zX8_play [.ref (ad E 0 0 0)] M P := by
  unfold sPlay at h
  obtain ⟨tL, e1, e2⟩ := id hC.2.2.2.2.1
  refine Sp_of (own := RX8) (by decide) rfl rfl (Nat.le_of_ble_eq_true rfl) (fun C => ?_)
  refine G_aload_n dX8_play_0 rfl ?_
  refine gf_X8_19 dX8_play_1  ?_
  refine G_aload_n dX8_play_4 rfl ?_
  refine gf_X8_10 dX8_play_5  ?_
  refine cv_X8_111 (cs' := 0) (ss' := 0) dX8_play_8  (Nat.le_of_ble_eq_true rfl) (Nat.le_of_ble_eq_true rfl) (Nat.le_of_ble_eq_true rfl) rfl rfl (Nat.le_of_ble_eq_true rfl) (Nat.le_of_ble_eq_true rfl) rfl ?_
  refine s_X4_read tL (fun M1 t1 s1 f1 => hGo_v ?_)
  have hok := scr_ok (L := g.L) (v := M.1 1 0 0 4)
  have epl : plG g (M.1 1 0 0 4) = (g.A, g.U, g.S, g.R, [], ((scrV g.L (M.1 1 0 0 4)).1.code, (scrV g.L (M.1 1 0 0 4)).1.pos), g.W) := rfl
  generalize plG g (M.1 1 0 0 4) = g0 at h epl
  generalize scrV g.L (M.1 1 0 0 4) = S at h t1 s1 hok epl
  have g1 := hC.read f1 (fun k j p q => by have q' : k = 1 ∨ 4 ≤ k ∧ k ≤ 6 := q; omega) t1 (fun p hp => (f1.at (fun q => by have q' : 12 = 1 ∨ 4 ≤ 12 ∧ 12 ≤ 6 := q; omega) 0).trans (hC.2.2.2.2.2.2 p hp)) (L := g.L)
  refine G_aload_n dX8_play_11 rfl ?_
  refine gf_X8_10 dX8_play_12  ?_
  refine gf_X8_69 dX8_play_15  ?_
  refine G_iconst (v := 0) dX8_play_18 (by decide) ?_
  refine cv_X8_90 (cs' := 0) (ss' := 0) dX8_play_19 (by decide) (Nat.le_of_ble_eq_true rfl) (Nat.le_of_ble_eq_true rfl) (Nat.le_of_ble_eq_true rfl) rfl rfl (Nat.le_of_ble_eq_true rfl) (Nat.le_of_ble_eq_true rfl) rfl ?_
  refine s_X5_cut (n := 0) (by decide) g1.2.2.2.2.1.1 (Nat.zero_le _) (fun M2 t2 f2 => hGo_v ?_)
  have g2 : CG M2 g0 := by
    rw [epl]
    exact g1.txt t2 f2
  have s2 : Scr M2 S.2 := s1.keep (fun k h4 h6 t => f2.at (fun q => by have q' : (k = 2 ∨ k = 3) ∧ 0 = 0 := q; omega) t)
  have fT : Fr dCl M M2 := (f1.mono (fun k j p q => by have q' : k = 1 ∨ 4 ≤ k ∧ k ≤ 6 := q; show k ≤ 19; omega)).trans (f2.mono dX_Cl)
  have o2 : Okg g0 := by
    rw [epl]
    exact hO
  have hec : g0.e.1 = S.1.code := by rw [epl]
  refine G_aload_n dX8_play_22 rfl ?_
  refine gf_X8_10 dX8_play_23  ?_
  refine cv_X8_97 (cs' := 0) (ss' := 0) dX8_play_26  (Nat.le_of_ble_eq_true rfl) (Nat.le_of_ble_eq_true rfl) (Nat.le_of_ble_eq_true rfl) rfl rfl (Nat.le_of_ble_eq_true rfl) (Nat.le_of_ble_eq_true rfl) rfl ?_
  refine s_X6_failed' (g2.2.2.2.2.1.2.1.trans hec) (hGo_i ?_)
  by_cases c : S.1.code = 0
  · rw [if_pos c] at h ⊢
    rw [if_pos c] at h
    have hok := hok c
    have h25 := s2.2.1
    refine G_if_eq (tgt := 34) dX8_play_29 (by decide) (fun c29 => ?_) (fun c29 => ?_)
    rotate_left
    · exact absurd rfl c29
    refine G_iconst (v := 0) dX8_play_34 (by decide) ?_
    refine G_istore_n dX8_play_35 (Nat.le_of_ble_eq_true rfl) ?_
    refine G_lv (lv' := [(0, .ref (ad E 0 0 0)), (1, .int (nI 0))]) ⟨rfl, rfl, trivial⟩ ?_
    refine up0 (c := S.2.length) (H := fun i => ∀ M' gi, CG M' gi → Okg gi → Scr M' S.2 → Fr dAc M2 M' → (runC g0 S.2).1 = (runC gi (S.2.drop i)).1 → (runC g0 S.2).2 = (runC gi (S.2.drop i)).2 + i → G E C RX8 cX8_play zX8_play P 0 0 M' 36 [(0, .ref (ad E 0 0 0)), (1, .int (nI i))] []) (fun M3 gi g3 o3 s3 f3 r1 r2 => ?_) (fun i hi ih M3 gi g3 o3 s3 f3 r1 r2 => ?_) M2 g0 g2 o2 s2 Fr.rfl rfl rfl
    · rw [List.drop_length] at r1 r2
      have r1 : (runC g0 S.2).1 = gi := r1
      have r2 : (runC g0 S.2).2 = S.2.length := r2.trans (Nat.zero_add _)
      rw [r1, r2] at h
      refine G_iload_n dX8_play_36 rfl ?_
      refine G_aload_n dX8_play_37 rfl ?_
      refine gf_X8_19 dX8_play_38  ?_
      refine gf_X8_114 dX8_play_41  ?_
      rw [s3.1]
      refine G_icmp_ge (tgt := 61) dX8_play_44 (by decide) (fun c44 => ?_) (fun c44 => ?_)
      · refine G_iload_n dX8_play_61 rfl ?_
        refine G_iret dX8_play_62 rfl rfl (Nat.le_of_ble_eq_true rfl) (Nat.le_of_ble_eq_true rfl) ?_
        exact h M3 g3 (fT.trans (f3.mono dAc_Cl))
      · exact absurd (Int32.le_refl _) c44
    · rw [cg_drop hi] at r1 r2
      unfold runC at r1 r2
      refine G_iload_n dX8_play_36 rfl ?_
      refine G_aload_n dX8_play_37 rfl ?_
      refine gf_X8_19 dX8_play_38  ?_
      refine gf_X8_114 dX8_play_41  ?_
      rw [s3.1]
      refine G_icmp_ge (tgt := 61) dX8_play_44 (by decide) (fun c44 => ?_) (fun c44 => ?_)
      · exact absurd c44 (nI_ge hi (by omega))
      · refine G_aload_n dX8_play_47 rfl ?_
        refine G_iload_n dX8_play_48 rfl ?_
        refine cv_X8_115 (cs' := 0) (ss' := 0) dX8_play_49  (Nat.le_of_ble_eq_true rfl) (Nat.le_of_ble_eq_true rfl) (Nat.le_of_ble_eq_true rfl) rfl rfl (Nat.le_of_ble_eq_true rfl) (Nat.le_of_ble_eq_true rfl) rfl ?_
        refine s_X8_perform g3 o3 s3 hi (cOk_get hok hi) (fun M4 g4 f4 => hGo_i ?_)
        refine G_if_lt (tgt := 61) dX8_play_52 (by decide) (fun c52 => ?_) (fun c52 => ?_)
        · rw [if_pos c52] at r1 r2
          unfold runC at h
          sorry
        · sorry
  · rw [if_neg c] at h ⊢
    rw [if_neg c] at h
    refine G_if_eq (tgt := 34) dX8_play_29 (by decide) (fun c29 => ?_) (fun c29 => ?_)
    · exact absurd c29 (by decide)
    · refine G_iconst (v := (-1)) dX8_play_32 (by decide) ?_
      refine G_iret dX8_play_33 rfl rfl (Nat.le_of_ble_eq_true rfl) (Nat.le_of_ble_eq_true rfl) ?_
      exact h M2 g2 fT
def sUndo (g : Gs) : Gs × Int32 := if g.U.length = 0 then (g, -1) else ((ug g.U (g.U.length - 1), g.U.dropLast, g.2.2), nI (g.U.length - 1))
theorem sUndo_ok (h : Okg g) : Okg (sUndo g).1 := by
  unfold sUndo
  split
  · exact h
  · refine ⟨h.2.1 _ (by omega), fun i hi => ?_, h.2.2⟩
    have hi : i < g.U.dropLast.length := hi
    rw [List.length_dropLast] at hi
    show Ok (ug g.U.dropLast i)
    rw [ug_dl hi]
    exact h.2.1 i (by omega)
theorem s_X8_undo (hC : CG M g) (hO : Okg g) (h : ∀ M', CG M' (sUndo g).1 → Fr dCl M M' → P (.inl (some (.int (sUndo g).2))) M') : Sp E yX8_undo cX8_undo zX8_undo [.ref (ad E 0 0 0)] M P := by
  unfold sUndo at h
  have hU := hC.2.1
  have h6 := hU.1
  refine Sp_of (own := RX8) (by decide) rfl rfl (Nat.le_of_ble_eq_true rfl) (fun C => ?_)
  refine G_aload_n dX8_undo_0 rfl ?_
  refine gf_X8_36 dX8_undo_1  ?_
  refine gf_X8_191 dX8_undo_4  ?_
  rw [hU.2.1]
  refine G_if_ne (tgt := 12) dX8_undo_7 (by decide) (fun c7 => ?_) (fun c7 => ?_)
  · have hl : ¬ g.U.length = 0 := fun q => c7 (by rw [q]; rfl)
    rw [if_neg hl] at h
    refine G_aload_n dX8_undo_12 rfl ?_
    refine gf_X8_36 dX8_undo_13  ?_
    refine G_aload_n dX8_undo_16 rfl ?_
    refine gf_X8_26 dX8_undo_17  ?_
    refine cv_X8_428 (cs' := 0) (ss' := 0) dX8_undo_20  (Nat.le_of_ble_eq_true rfl) (Nat.le_of_ble_eq_true rfl) (Nat.le_of_ble_eq_true rfl) rfl rfl (Nat.le_of_ble_eq_true rfl) (Nat.le_of_ble_eq_true rfl) rfl ?_
    refine s_X7_bringBack hC.1.2.2.2.1 hU (by omega) (hO.2.1 _ (by omega)) (fun M1 u1 a1 f1 => hGo_v ?_)
    have g1 := hC.sch a1 u1 f1
    refine G_aload_n dX8_undo_23 rfl ?_
    refine gf_X8_36 dX8_undo_24  ?_
    refine gf_X8_191 dX8_undo_27  ?_
    rw [u1.2.1, List.length_dropLast]
    refine G_iret dX8_undo_30 rfl rfl (Nat.le_of_ble_eq_true rfl) (Nat.le_of_ble_eq_true rfl) ?_
    exact h M1 g1 (f1.mono (fun k j p q => by rcases q with q | q; (show k ≤ 19; omega); exact dC_Cl k j p q))
  · have hl : g.U.length = 0 := by
      rcases Nat.eq_zero_or_pos g.U.length with q | q
      · exact q
      · exact absurd c7 (nI_ne0 q (by omega))
    rw [if_pos hl] at h
    refine G_iconst (v := (-1)) dX8_undo_10 (by decide) ?_
    refine G_iret dX8_undo_11 rfl rfl (Nat.le_of_ble_eq_true rfl) (Nat.le_of_ble_eq_true rfl) ?_
    exact h M hC Fr.rfl
def setS (g : Gs) (s : Nat) : Gs := (g.A, g.U, fun k => if k = s then some g.A else g.S k, g.2.2.2)
def qSave (g : Gs) (x : Int32) : Gs × Qq := if inR x 0 1 then (setS g (tn x), (0, 0)) else thr g 1
/-- what a call without an answer tells -/
def rsv (X : Nat → String) (q : Qq) : Res := if q.1 = 0 then .inl none else .inr (X q.1)
theorem s_X8_save {x : Int32} (hC : CG M g) (hO : Okg g) (h : ∀ M', CG M' (qSave g x).1 → Fr dCl M M' → P (rsv xA (qSave g x).2) M') : Sp E yX8_save cX8_save zX8_save [.ref (ad E 0 0 0), .int x] M P := by
  unfold qSave at h
  refine Sp_of (own := RX8) (by decide) rfl rfl (Nat.le_of_ble_eq_true rfl) (fun C => ?_)
  refine G_iload_n dX8_save_0 rfl ?_
  refine G_iconst (v := 0) dX8_save_1 (by decide) ?_
  refine G_iconst (v := 1) dX8_save_2 (by decide) ?_
  refine cv_X8_86 (cs' := 1) (ss' := 6) dX8_save_3  (Nat.le_of_ble_eq_true rfl) (Nat.le_of_ble_eq_true rfl) (Nat.le_of_ble_eq_true rfl) rfl rfl (Nat.le_of_ble_eq_true rfl) (Nat.le_of_ble_eq_true rfl) rfl ?_
  refine s_X8_needRange (fun c1 => hGo_v ?_) (fun c1 => hGo_x (by rw [if_neg c1] at h; exact h M hC Fr.rfl))
  rw [if_pos c1] at h
  obtain ⟨s, -, hs, rfl, es⟩ := inR_ix (i := 0) (k := 1) (by decide) (by decide) c1
  rw [es] at h
  refine G_aload_n dX8_save_6 rfl ?_
  refine gf_X8_40 dX8_save_7  ?_
  refine G_iload_n dX8_save_10 rfl ?_
  refine G_aald dX8_save_11 ⟨by decide, rfl, rfl⟩ rfl rfl rfl (show s < 2 by omega) (by decide) rfl ?_
  refine G_aload_n dX8_save_12 rfl ?_
  refine gf_X8_26 dX8_save_13  ?_
  refine cv_X8_101 (cs' := 1) (ss' := 6) dX8_save_16 (show 8 + s < 10 by omega) (Nat.le_of_ble_eq_true rfl) (Nat.le_of_ble_eq_true rfl) (Nat.le_of_ble_eq_true rfl) rfl rfl (Nat.le_of_ble_eq_true rfl) (Nat.le_of_ble_eq_true rfl) rfl ?_
  refine s_X3_copyFrom (j := 8 + s) (j2 := 0) (by omega) (by decide) (by omega) hC.1 hO.1.spy ((hC.2.2.1 s (by omega)).1) (fun M1 a1 f1 => hGo_v ?_)
  refine G_aload_n dX8_save_19 rfl ?_
  refine gf_X8_44 dX8_save_20  ?_
  refine G_iload_n dX8_save_23 rfl ?_
  refine G_iconst (v := 1) dX8_save_24 (by decide) ?_
  refine G_zast dX8_save_25 ⟨by decide, rfl, rfl⟩ (fun _ => rfl) rfl (show s < 2 by omega) (by decide) ?_
  refine G_vret dX8_save_26 rfl (Nat.le_of_ble_eq_true rfl) (Nat.le_of_ble_eq_true rfl) ?_
  have f2 : Fr (fun k j _ => k = 18 ∨ (7 ≤ k ∧ k ≤ 14 ∧ j = 8 + s)) M (M1.up 18 0 0 s (vp_nar .boolean 1)) := (f1.mono (fun k j p q => Or.inr q)).up (Or.inl rfl)
  obtain ⟨a, b, c, d, e, f, i⟩ := id hC
  refine h _ ⟨a.frD f2 (fun k j p q z => by omega), b.fr f2 (fun k j p q z => by omega), fun t ht => ?_, d.fr f2 (fun k j p q z => by omega), e.fr f2 (fun k j p q z => by omega), f.fr f2 (fun k j p q z => by omega), fun p hp => (f2.at (fun q => by omega) 0).trans (i p hp)⟩ (f2.mono (fun k j p q => by show k ≤ 19; omega))
  have a1' : CR (M1.up 18 0 0 s (vp_nar .boolean 1)) (8 + s) g.A := a1.keep (fun k _ _ p t => up_nk (by omega))
  by_cases q : t = s
  · subst q
    exact ⟨a1'.2.2.2.1, Or.inr ⟨g.A, if_pos rfl, up_at, a1'⟩⟩
  · obtain ⟨b1, b2⟩ := c t ht
    refine ⟨fun p hp => (f2.at (fun q => by omega) 0).trans (b1 p hp), ?_⟩
    have e18 : (M1.up 18 0 0 s (vp_nar .boolean 1)).1 18 0 0 t = M.1 18 0 0 t := (up_t q).trans (f1.at (fun q => absurd q.2.1 (by decide)) t)
    have eS : (setS g s).S t = g.S t := if_neg q
    rcases b2 with ⟨x1, x2⟩ | ⟨B, x1, x2, x3⟩
    · exact Or.inl ⟨eS.trans x1, e18.trans x2⟩
    · exact Or.inr ⟨B, eS.trans x1, e18.trans x2, x3.frD f2 (fun k j p q z => by omega)⟩
theorem qSave_ok {x : Int32} (h : Okg g) : Okg (qSave g x).1 := by
  unfold qSave
  split
  · refine ⟨h.1, h.2.1, fun s hs B hB => ?_⟩
    have hB : (if s = tn x then some g.A else g.S s) = some B := hB
    split at hB
    · cases hB
      exact h.1
    · exact h.2.2 s hs B hB
  · exact h
def qRestore (g : Gs) (x : Int32) : Gs × Qq := if inR x 0 1 then (match g.S (tn x) with | none => thr g 2 | some B => ((B, [], g.2.2), (0, 0))) else thr g 1
theorem s_X8_restore {x : Int32} (hC : CG M g) (hO : Okg g) (h : ∀ M', CG M' (qRestore g x).1 → Fr dCl M M' → P (rsv xAS (qRestore g x).2) M') : Sp E yX8_restore cX8_restore zX8_restore [.ref (ad E 0 0 0), .int x] M P := by
  unfold qRestore at h
  refine Sp_of (own := RX8) (by decide) rfl rfl (Nat.le_of_ble_eq_true rfl) (fun C => ?_)
  refine G_iload_n dX8_restore_0 rfl ?_
  refine G_iconst (v := 0) dX8_restore_1 (by decide) ?_
  refine G_iconst (v := 1) dX8_restore_2 (by decide) ?_
  refine cv_X8_86 (cs' := 1) (ss' := 6) dX8_restore_3  (Nat.le_of_ble_eq_true rfl) (Nat.le_of_ble_eq_true rfl) (Nat.le_of_ble_eq_true rfl) rfl rfl (Nat.le_of_ble_eq_true rfl) (Nat.le_of_ble_eq_true rfl) rfl ?_
  refine s_X8_needRange (fun c1 => hGo_v ?_) (fun c1 => hGo_x (by rw [if_neg c1] at h; exact h M hC Fr.rfl))
  rw [if_pos c1] at h
  obtain ⟨s, -, hs, rfl, es⟩ := inR_ix (i := 0) (k := 1) (by decide) (by decide) c1
  rw [es] at h
  refine G_aload_n dX8_restore_6 rfl ?_
  refine gf_X8_44 dX8_restore_7  ?_
  refine G_iload_n dX8_restore_10 rfl ?_
  refine G_zald dX8_restore_11 ⟨by decide, rfl, rfl⟩ rfl rfl (show s < 2 by omega) (by decide) ?_
  obtain ⟨b1, b2⟩ := hC.2.2.1 s (by omega)
  rcases b2 with ⟨x1, x2⟩ | ⟨B, x1, x2, x3⟩
  · rw [x1] at h
    have h := h M hC Fr.rfl
    rw [x2]
    refine G_if_ne (tgt := 26) dX8_restore_12 (by decide) (fun c12 => ?_) (fun c12 => ?_)
    · exact absurd rfl c12
    · exact G_thrW 20 thIS dX8_restore_15 dX8_restore_18 dX8_restore_19 dX8_restore_22 dX8_restore_25 (by decide) rfl rfl rfl (Nat.le_of_ble_eq_true rfl) (Nat.le_of_ble_eq_true rfl) (Nat.le_of_ble_eq_true rfl) (Nat.le_of_ble_eq_true rfl) h
  · rw [x1] at h
    rw [x2]
    refine G_if_ne (tgt := 26) dX8_restore_12 (by decide) (fun c12 => ?_) (fun c12 => ?_)
    · refine G_aload_n dX8_restore_26 rfl ?_
      refine gf_X8_26 dX8_restore_27  ?_
      refine G_aload_n dX8_restore_30 rfl ?_
      refine gf_X8_40 dX8_restore_31  ?_
      refine G_iload_n dX8_restore_34 rfl ?_
      refine G_aald dX8_restore_35 ⟨by decide, rfl, rfl⟩ rfl rfl rfl (show s < 2 by omega) (by decide) rfl ?_
      refine cv_X8_101 (cs' := 1) (ss' := 6) dX8_restore_36  (Nat.le_of_ble_eq_true rfl) (Nat.le_of_ble_eq_true rfl) (Nat.le_of_ble_eq_true rfl) rfl rfl (Nat.le_of_ble_eq_true rfl) (Nat.le_of_ble_eq_true rfl) rfl ?_
      refine s_X3_copyFrom (j := 0) (j2 := 8 + s) (by decide) (by omega) (by omega) x3 (hO.2.2 s (by omega) B x1).spy hC.1.2.2.2.1 (fun M1 a1 f1 => hGo_v ?_)
      have u1 : Und M1 g.U := hC.2.1.fr f1 (fun k j p q z => by have q' : 7 ≤ k ∧ k ≤ 14 ∧ j = 0 := q; omega)
      refine G_aload_n dX8_restore_39 rfl ?_
      refine gf_X8_36 dX8_restore_40  ?_
      refine cv_X8_105 (cs' := 1) (ss' := 6) dX8_restore_43  (Nat.le_of_ble_eq_true rfl) (Nat.le_of_ble_eq_true rfl) (Nat.le_of_ble_eq_true rfl) rfl rfl (Nat.le_of_ble_eq_true rfl) (Nat.le_of_ble_eq_true rfl) rfl ?_
      refine s_X7_forgetAll u1 (fun M2 u2 f2 => hGo_v ?_)
      refine G_vret dX8_restore_46 rfl (Nat.le_of_ble_eq_true rfl) (Nat.le_of_ble_eq_true rfl) ?_
      have a2 : CR M2 0 B := a1.frD f2 (fun k j p q z => by omega)
      exact h M2 (hC.sch a2 u2 ((f1.mono (fun k j p q => Or.inr q)).trans (f2.mono (fun k j p q => Or.inl q)))) ((f1.mono dC_Cl).trans (f2.mono (fun k j p q => by show k ≤ 19; omega)))
    · exact absurd c12 (by decide)
theorem qRestore_ok {x : Int32} (h : Okg g) : Okg (qRestore g x).1 := by
  unfold qRestore
  split
  · rename_i c
    have := inR_ix (i := 0) (k := 1) (by decide) (by decide) c
    obtain ⟨s, -, hs, -, es⟩ := this
    rw [es]
    split
    · exact h
    · rename_i B hB
      exact ⟨h.2.2 s (by omega) B hB, fun i hi => absurd hi (Nat.not_lt_zero i), h.2.2⟩
  · exact h
-- output
def mkW (L : List Int32) : List Int32 := L.map (fun m => 97 + m)
def num2 (v : Int32) : List Int32 := if 9 < v then [48 + v / 10, 48 + (v - v / 10 * 10)] else [48 + (v - v / 10 * 10)]
def dbW (d : List De) (i : Nat) : List Int32 := [32, 97 + dg d i 1, if dg d i 2 = 0 then 115 else 118] ++ num2 (dg d i 3)
def dbsW (d : List De) (x : Int32) : Nat → List Int32
  | 0 => []
  | k + 1 => dbsW d x k ++ (if dg d k 0 = x then dbW d k else [])
def wrV (A : Ab) (p : Nat) : List Int32 := mkW (A.s (2 * p)) ++ [47] ++ mkW (A.s (2 * p + 1)) ++ dbsW A.d (nI p) A.d.length
def qWrite (g : Gs) (x : Int32) : Gs × Qq := if inP g.A x then (setW g (wrV g.A (tn x)), (0, nI (wrV g.A (tn x)).length)) else thr g 1
end CTXS
