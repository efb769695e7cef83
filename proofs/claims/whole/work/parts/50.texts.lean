/-! ===== HomeworkBarter: texts, undo, saved states, output ===== -/
section CTXS
variable {E : Ed} {M M' : Mm} {P : Res → Mm → Prop} {A : Ab} {g : Gs}
abbrev setL (g : Gs) (L : List Int32) : Gs := (g.A, g.U, g.S, g.R, L, g.e, g.W)
abbrev setW (g : Gs) (W : List Int32) : Gs := (g.A, g.U, g.S, g.R, g.L, g.e, W)
theorem CG.txt {L : List Int32} (h : CG M g) (hT : Txt M' 0 L) (hf : Fr (dX 0) M M') : CG M' (setL g L) := by
  obtain ⟨a, b, c, d, e, f, i⟩ := h
  have hd : ∀ k j p, dX 0 k j p → (k = 2 ∨ k = 3) ∧ j = 0 := fun k j p q => q
  exact ⟨a.frD hf (fun k j p q z => by have := hd k j p q; omega), b.fr hf (fun k j p q z => by have := hd k j p q; omega), c.fr hf (fun k j p q z => by have := hd k j p q; omega), d.fr hf (fun k j p q z => by have := hd k j p q; omega), ⟨hT, (hf.at (fun q => by have := hd 1 0 0 q; omega) 5).trans e.2.1, (hf.at (fun q => by have := hd 1 0 0 q; omega) 6).trans e.2.2⟩, f.fr hf (fun k j p q z => by have := hd k j p q; omega), fun p hp => (hf.at (fun q => by have := hd 12 1 p q; omega) 0).trans (i p hp)⟩
theorem CG.out1 {L : List Int32} (h : CG M g) (hT : Txt M' 1 L) (hf : Fr (dX 1) M M') : CG M' (setW g L) := by
  obtain ⟨a, b, c, d, e, f, i⟩ := h
  have hd : ∀ k j p, dX 1 k j p → (k = 2 ∨ k = 3) ∧ j = 1 := fun k j p q => q
  exact ⟨a.frD hf (fun k j p q z => by have := hd k j p q; omega), b.fr hf (fun k j p q z => by have := hd k j p q; omega), c.fr hf (fun k j p q z => by have := hd k j p q; omega), d.fr hf (fun k j p q z => by have := hd k j p q; omega), e.fr hf (fun k j p q z => by have := hd k j p q; omega), hT, fun p hp => (hf.at (fun q => by have := hd 12 1 p q; omega) 0).trans (i p hp)⟩
theorem dX_Cl {j : Nat} : ∀ k j' p, dX j k j' p → dCl k j' p := fun k j' p q => by have q' : (k = 2 ∨ k = 3) ∧ j' = j := q; show k ≤ 19; omega
/-- the four bytes of x, the highest first -/
def by4 (x : Int32) : List Int32 := [(x.toUInt32 >>> ((24 : Int32).toUInt32 &&& Int32.toUInt32 31)).toInt32 &&& 255, (x.toUInt32 >>> ((16 : Int32).toUInt32 &&& Int32.toUInt32 31)).toInt32 &&& 255, (x.toUInt32 >>> ((8 : Int32).toUInt32 &&& Int32.toUInt32 31)).toInt32 &&& 255, (x.toUInt32 >>> ((0 : Int32).toUInt32 &&& Int32.toUInt32 31)).toInt32 &&& 255]
theorem and255_2 (x : Int32) : x &&& 255 &&& 255 = x &&& 255 := by rw [Int32.and_assoc]; rfl
def qAppend (g : Gs) (x : Int32) : Gs × Qq := if 496 < g.L.length then thr g 1 else (setL g (g.L ++ by4 x), (0, nI (g.L.length + 4)))
theorem s_X8_appendText {x : Int32} (hC : CG M g) (h : ∀ M', CG M' (qAppend g x).1 → Fr dCl M M' → P (rs xS (qAppend g x).2) M') : Sp E yX8_appendText cX8_appendText zX8_appendText [.ref (ad E 0 0 0), .int x] M P := by
  unfold qAppend at h
  obtain ⟨tL, e1, e2⟩ := hC.2.2.2.2.1
  have l5 := tL.l5
  refine Sp_of (own := RX8) (by decide) rfl rfl (Nat.le_of_ble_eq_true rfl) (fun C => ?_)
  refine G_aload_n dX8_appendText_0 rfl ?_
  refine gf_X8_10 dX8_appendText_1  ?_
  refine gf_X8_69 dX8_appendText_4  ?_
  refine G_astore_n dX8_appendText_7 (Nat.le_of_ble_eq_true rfl) ?_
  refine G_aload_n dX8_appendText_8 rfl ?_
  refine gf_X8_72 dX8_appendText_9 (by decide) ?_
  rw [tL.1]
  refine G_sipush (v := 496) dX8_appendText_12 (by decide) ?_
  refine G_icmp_le (tgt := 28) dX8_appendText_15 (by decide) (fun c15 => ?_) (fun c15 => ?_)
  · have hl : ¬ 496 < g.L.length := fun q => absurd c15 (nI_ge (a := 496) q (by omega))
    rw [if_neg hl] at h
    refine G_bipush (v := 24) dX8_appendText_28 (by decide) ?_
    refine G_istore_n dX8_appendText_30 (Nat.le_of_ble_eq_true rfl) ?_
    have key : ∀ (M1 : Mm) (L1 : List Int32), L1.length < 500 → Txt M1 0 L1 → Fr (dX 0) M M1 → ∀ (sh : Int32), ¬ sh < 0 → (∀ M2, Txt M2 0 (L1 ++ [(x.toUInt32 >>> (sh.toUInt32 &&& Int32.toUInt32 31)).toInt32 &&& 255]) → Fr (dX 0) M M2 → G E C RX8 cX8_appendText zX8_appendText P 0 0 M2 31 [(0, .ref (ad E 0 0 0)), (1, .int x), (2, .ref (ad E 2 0 0)), (3, .int (sh + (-8)))] []) → G E C RX8 cX8_appendText zX8_appendText P 0 0 M1 31 [(0, .ref (ad E 0 0 0)), (1, .int x), (2, .ref (ad E 2 0 0)), (3, .int sh)] [] := by
      intro M1 L1 hl1 t1 f1 sh hsh hk
      refine G_iload_n dX8_appendText_31 rfl ?_
      refine G_if_lt (tgt := 52) dX8_appendText_32 (by decide) (fun c32 => ?_) (fun c32 => ?_)
      · exact absurd c32 hsh
      · refine G_aload_n dX8_appendText_35 rfl ?_
        refine G_iload_n dX8_appendText_36 rfl ?_
        refine G_iload_n dX8_appendText_37 rfl ?_
        refine G_iushr dX8_appendText_38 ?_
        refine G_sipush (v := 255) dX8_appendText_39 (by decide) ?_
        refine G_iand dX8_appendText_42 ?_
        refine cv_X8_83 (cs' := 0) (ss' := 0) dX8_appendText_43 (by decide) (Nat.le_of_ble_eq_true rfl) (Nat.le_of_ble_eq_true rfl) (Nat.le_of_ble_eq_true rfl) rfl rfl (Nat.le_of_ble_eq_true rfl) (Nat.le_of_ble_eq_true rfl) rfl ?_
        refine s_X5_append (by decide) t1 hl1 (fun M2 t2 f2 => hGo_v ?_)
        refine G_iinc (v := (-8)) dX8_appendText_46 rfl (Nat.le_of_ble_eq_true rfl) (by decide) ?_
        refine G_goto (tgt := 31) dX8_appendText_49 (by decide) ?_
        rw [and255_2] at t2
        exact G_lv2 (hk M2 t2 (f1.trans f2)) ⟨rfl, rfl, rfl, rfl, trivial⟩
    refine G_lv2 (key M g.L (by omega) tL Fr.rfl 24 (by decide) (fun M2 t2 f2 => ?_)) ⟨rfl, rfl, rfl, rfl, trivial⟩
    refine key M2 _ (by simp; omega) t2 f2 16 (by decide) (fun M3 t3 f3 => ?_)
    refine key M3 _ (by simp; omega) t3 f3 8 (by decide) (fun M4 t4 f4 => ?_)
    refine key M4 _ (by simp; omega) t4 f4 0 (by decide) (fun M5 t5 f5 => ?_)
    rw [List.append_assoc, List.append_assoc, List.append_assoc] at t5
    have t5' : Txt M5 0 (g.L ++ by4 x) := t5
    have h5 := h M5 (hC.txt t5' f5) (f5.mono dX_Cl)
    refine G_iload_n dX8_appendText_31 rfl ?_
    refine G_if_lt (tgt := 52) dX8_appendText_32 (by decide) (fun c32 => ?_) (fun c32 => ?_)
    · refine G_aload_n dX8_appendText_52 rfl ?_
      refine gf_X8_72 dX8_appendText_53 (by decide) ?_
      rw [t5'.1]
      refine G_iret dX8_appendText_56 rfl rfl (Nat.le_of_ble_eq_true rfl) (Nat.le_of_ble_eq_true rfl) ?_
      rw [List.length_append] at *
      exact h5
    · exact absurd (show (0 : Int32) + (-8) < 0 by decide) c32
  · have hl : 496 < g.L.length := by
      rcases Nat.lt_or_ge 496 g.L.length with q | q
      · exact q
      · exact absurd (nI_le (b := 496) q (by decide)) c15
    have h := h M hC Fr.rfl
    rw [if_pos hl] at h
    exact G_thr 12 thIS dX8_appendText_18 dX8_appendText_21 dX8_appendText_22 dX8_appendText_24 dX8_appendText_27 (by decide) rfl rfl rfl (Nat.le_of_ble_eq_true rfl) (Nat.le_of_ble_eq_true rfl) (Nat.le_of_ble_eq_true rfl) (Nat.le_of_ble_eq_true rfl) h
def qTrunc (g : Gs) (x : Int32) : Gs × Qq := if inR x 0 (nI g.L.length) then (setL g (g.L.take (tn x)), (0, x)) else thr g 1
theorem s_X8_truncateText {x : Int32} (hC : CG M g) (h : ∀ M', CG M' (qTrunc g x).1 → Fr dCl M M' → P (rs xA (qTrunc g x).2) M') : Sp E yX8_truncateText cX8_truncateText zX8_truncateText [.ref (ad E 0 0 0), .int x] M P := by
  unfold qTrunc at h
  obtain ⟨tL, e1, e2⟩ := hC.2.2.2.2.1
  have l5 := tL.l5
  refine Sp_of (own := RX8) (by decide) rfl rfl (Nat.le_of_ble_eq_true rfl) (fun C => ?_)
  refine G_iload_n dX8_truncateText_0 rfl ?_
  refine G_iconst (v := 0) dX8_truncateText_1 (by decide) ?_
  refine G_aload_n dX8_truncateText_2 rfl ?_
  refine gf_X8_10 dX8_truncateText_3  ?_
  refine gf_X8_69 dX8_truncateText_6  ?_
  refine gf_X8_72 dX8_truncateText_9 (by decide) ?_
  rw [tL.1]
  refine cv_X8_86 (cs' := 0) (ss' := 0) dX8_truncateText_12  (Nat.le_of_ble_eq_true rfl) (Nat.le_of_ble_eq_true rfl) (Nat.le_of_ble_eq_true rfl) rfl rfl (Nat.le_of_ble_eq_true rfl) (Nat.le_of_ble_eq_true rfl) rfl ?_
  refine s_X8_needRange (fun c1 => hGo_v ?_) (fun c1 => hGo_x (by have h := h M hC Fr.rfl; rw [if_neg c1] at h; exact h))
  rw [if_pos c1] at h
  obtain ⟨n, -, hn, rfl, en⟩ := inR_ix (i := 0) (k := g.L.length) (by omega) (by omega) c1
  rw [en] at h
  refine G_aload_n dX8_truncateText_15 rfl ?_
  refine gf_X8_10 dX8_truncateText_16  ?_
  refine gf_X8_69 dX8_truncateText_19  ?_
  refine G_iload_n dX8_truncateText_22 rfl ?_
  refine cv_X8_90 (cs' := 0) (ss' := 0) dX8_truncateText_23 (by decide) (Nat.le_of_ble_eq_true rfl) (Nat.le_of_ble_eq_true rfl) (Nat.le_of_ble_eq_true rfl) rfl rfl (Nat.le_of_ble_eq_true rfl) (Nat.le_of_ble_eq_true rfl) rfl ?_
  refine s_X5_cut (by decide) tL hn (fun M1 t1 f1 => hGo_v ?_)
  refine G_iload_n dX8_truncateText_26 rfl ?_
  refine G_iret dX8_truncateText_27 rfl rfl (Nat.le_of_ble_eq_true rfl) (Nat.le_of_ble_eq_true rfl) ?_
  exact h M1 (hC.txt t1 f1) (f1.mono dX_Cl)
theorem s_X8_errorCode (hC : CG M g) (h : P (.inl (some (.int g.e.1))) M) : Sp E yX8_errorCode cX8_errorCode zX8_errorCode [.ref (ad E 0 0 0)] M P := by
  refine Sp_of (own := RX8) (by decide) rfl rfl (Nat.le_of_ble_eq_true rfl) (fun C => ?_)
  refine G_aload_n dX8_errorCode_0 rfl ?_
  refine gf_X8_10 dX8_errorCode_1  ?_
  refine gf_X8_119 dX8_errorCode_4  ?_
  rw [hC.2.2.2.2.1.2.1]
  refine G_iret dX8_errorCode_7 rfl rfl (Nat.le_of_ble_eq_true rfl) (Nat.le_of_ble_eq_true rfl) ?_
  exact h
theorem s_X8_errorPosition (hC : CG M g) (h : P (.inl (some (.int g.e.2))) M) : Sp E yX8_errorPosition cX8_errorPosition zX8_errorPosition [.ref (ad E 0 0 0)] M P := by
  refine Sp_of (own := RX8) (by decide) rfl rfl (Nat.le_of_ble_eq_true rfl) (fun C => ?_)
  refine G_aload_n dX8_errorPosition_0 rfl ?_
  refine gf_X8_10 dX8_errorPosition_1  ?_
  refine gf_X8_122 dX8_errorPosition_4  ?_
  rw [hC.2.2.2.2.1.2.2]
  refine G_iret dX8_errorPosition_7 rfl rfl (Nat.le_of_ble_eq_true rfl) (Nat.le_of_ble_eq_true rfl) ?_
  exact h
theorem s_X8_output {x : Int32} (hC : CG M g) (h : P (.inl (some (.int (atL g.W x)))) M) : Sp E yX8_output cX8_output zX8_output [.ref (ad E 0 0 0), .int x] M P := by
  refine Sp_of (own := RX8) (by decide) rfl rfl (Nat.le_of_ble_eq_true rfl) (fun C => ?_)
  refine G_aload_n dX8_output_0 rfl ?_
  refine gf_X8_57 dX8_output_1  ?_
  refine G_iload_n dX8_output_4 rfl ?_
  refine cv_X8_425 (cs' := 0) (ss' := 0) dX8_output_5 (by decide) (Nat.le_of_ble_eq_true rfl) (Nat.le_of_ble_eq_true rfl) (Nat.le_of_ble_eq_true rfl) rfl rfl (Nat.le_of_ble_eq_true rfl) (Nat.le_of_ble_eq_true rfl) rfl ?_
  refine s_X5_at (by decide) hC.2.2.2.2.2.1 (hGo_i ?_)
  refine G_iret dX8_output_8 rfl rfl (Nat.le_of_ble_eq_true rfl) (Nat.le_of_ble_eq_true rfl) ?_
  exact h
def sLoad (g : Gs) (v : Int32) (A0 : Ab) : Gs × Int32 := if (setupV g.L v A0).1.code = 0 then (((setupV g.L v A0).2, [], g.S, g.R, [], ((setupV g.L v A0).1.code, (setupV g.L v A0).1.pos), g.W), nI (setupV g.L v A0).2.n) else ((g.A, g.U, g.S, g.R, [], ((setupV g.L v A0).1.code, (setupV g.L v A0).1.pos), g.W), -1)
theorem lkN_good {L : List Int32} {T : Tks} {a b : Int32} (h : (lkN a b T).code = 0) : T.code = 0 ∧ T.kind = 2 ∧ inR T.val a b := by
  unfold lkN at h
  split at h
  · exact absurd h (fai_is (by decide))
  · rename_i c
    split at h
    · rename_i d
      exact ⟨h, d, Int32.not_lt.mp (fun q => c (Or.inl q)), Int32.not_lt.mp (fun q => c (Or.inr q))⟩
    · exact absurd h (fai_is (by decide))
theorem tkN_good {L : List Int32} {T : Tks} {a b : Int32} (h : (tkN L a b T).code = 0) : T.code = 0 ∧ T.kind = 2 ∧ inR T.val a b := by
  unfold tkN at h
  rw [adv_code] at h
  exact lkN_good (L := L) h
theorem tkB_good {L : List Int32} {T : Tks} (h : (tkB L T).code = 0) : T.code = 0 ∧ (isW L T (hSb2 10) ∨ isW L T (hSb2 11)) := by
  unfold tkB at h
  rw [adv_code] at h
  split at h
  · exact ⟨h, by assumption⟩
  · exact absurd h (fai_is (by decide))
theorem tkS_good {L : List Int32} {T : Tks} (h : (tkS L T).code = 0) : T.code = 0 ∧ T.kind = 3 := by
  unfold tkS at h
  rw [adv_code] at h
  split at h
  · exact ⟨h, by assumption⟩
  · exact absurd h (fai_is (by decide))
theorem tkW_good {L w : List Int32} {T : Tks} (h : (tkW L w T).code = 0) : T.code = 0 ∧ isW L T w := by
  unfold tkW at h
  rw [adv_code] at h
  split at h
  · exact ⟨h, by assumption⟩
  · exact absurd h (fai_is (by decide))
/-- what a pupil that was read is -/
theorem rdPt_good {L : List Int32} {T : Tks} (h : (rdPt L T A).code = 0) : T.code = 0 ∧ A.n < 12 ∧ isW L T (hSb2 1) ∧ inR (p2 L T A).val 0 5 ∧ inR (p3 L T A).val 0 5 ∧ onV A (p2 L T A).val (p3 L T A).val = -1 ∧ inR (p6 L T A).val 1 9 ∧ inR (p7 L T A).val 1 9 := by
  have hn : A.n < 12 := Nat.not_le.mp (fun q => rdPt_full (L := L) (T := T) (A := A) (Nat.not_lt.mpr q) h)
  have h9 := (tkS_good (L := L) (T := p9 L T A) h).1
  have h8 : (p8 L T A).code = 0 := by
    unfold p9 at h9
    split at h9
    · rw [adv_code] at h9
      exact h9
    · exact h9
  obtain ⟨h7, -, k7⟩ := tkN_good (L := L) (T := p7 L T A) h8
  obtain ⟨h6, -, k6⟩ := tkN_good (L := L) (T := p6 L T A) h7
  have h5 : (p5 L T A).code = 0 := by
    unfold p6 at h6
    rw [adv_code] at h6
    exact h6
  have h4 : (p4 L T A).code = 0 ∧ onV A (p2 L T A).val (p3 L T A).val = -1 := by
    unfold p5 at h5
    split at h5
    · exact ⟨h5, by assumption⟩
    · exact absurd h5 (fai_is (by decide))
  obtain ⟨h3, -, k3⟩ := lkN_good (L := L) (T := p3 L T A) h4.1
  obtain ⟨h2, -, k2⟩ := tkN_good (L := L) (T := p2 L T A) h3
  have h1 := tkW_good (L := L) (T := p1 L T A) h2
  have e1 : p1 L T A = T := if_pos hn
  rw [e1] at h1
  exact ⟨h1.1, hn, h1.2, k2, k3, h4.2, k6, k7⟩
def Ok0 (A : Ab) : Prop := A.n ≤ 12 ∧ (0 ≤ A.g 3 ∧ 0 ≤ A.g 4 ∧ 0 ≤ A.g 5) ∧ (∀ p, p < A.n → fOk A.n (A.f p)) ∧ (∀ q, q < 2 * A.n → mOk A.n (A.s q)) ∧ A.d = []
theorem bs_up {p : Nat → Bool} : ∀ {n : Nat}, bs p n = bs (fun i => p i && decide (i < n)) (n + 1) := by
  intro n
  show _ = if (p n && decide (n < n)) = true then _ else _
  rw [if_neg (by simp)]
  have key : ∀ k, k ≤ n → bs p k = bs (fun i => p i && decide (i < n)) k := by
    intro k
    induction k with
    | zero => intro _; rfl
    | succ k ih =>
      intro hk
      show (if p k = true then _ else _) = if (p k && decide (k < n)) = true then _ else _
      rw [ih (by omega), decide_eq_true (show k < n by omega), Bool.and_true]
  exact key n (Nat.le_refl _)
theorem wOk_up {n : Nat} {w : Int32} (h : wOk n w) : wOk (n + 1) w := by
  obtain ⟨p, rfl⟩ := h
  exact ⟨_, bs_up⟩
theorem Ok0.rd {L : List Int32} {T : Tks} (h : Ok0 A) : Ok0 (rdPa L T A) := by
  unfold rdPa
  split
  · rename_i hc
    obtain ⟨-, hn, -, -, -, -, k6, k7⟩ := rdPt_good hc
    obtain ⟨h1, h2, h3, h4, h5⟩ := h
    refine ⟨hn, h2, fun p hp => ?_, fun q hq => ?_, h5⟩
    · have hp' : p < A.n + 1 := hp
      have e : ∀ k, (enrolA A (p2 L T A).val (p3 L T A).val (p6 L T A).val (p7 L T A).val (pSpy L T A)).f p k = if p = A.n then (match k with | 0 => (p2 L T A).val | 1 => (p3 L T A).val | 2 => (p6 L T A).val | 3 => (p7 L T A).val | 4 => pSpy L T A | 5 => A.g 2 | _ => 0) else A.f p k := fun _ => rfl
      unfold fOk
      rw [e 2, e 3, e 4, e 8, e 9]
      by_cases q : p = A.n
      · rw [if_pos q, if_pos q, if_pos q, if_pos q, if_pos q]
        refine ⟨k6, k7, ?_, by decide, wOk_0 _⟩
        show pSpy L T A = 0 ∨ pSpy L T A = 1
        unfold pSpy
        split <;> simp
      · rw [if_neg q, if_neg q, if_neg q, if_neg q, if_neg q]
        obtain ⟨a, b, c, d, f⟩ := h3 p (by omega)
        exact ⟨a, b, c, d, wOk_up f⟩
    · have hq' : q < 2 * (A.n + 1) := hq
      show mOk (A.n + 1) (if q / 2 = A.n then [] else A.s q)
      split
      · exact mOk_0 _
      · have := h4 q (by omega)
        exact ⟨this.1, fun k hk => by
          obtain ⟨m, hm, e⟩ := this.2 k hk
          exact ⟨m, by omega, e⟩⟩
  · exact h
theorem rdL_ok {L : List Int32} : ∀ {k : Nat} {T : Tks} {A : Ab}, (T.code = 0 → Ok0 A) → ((T.code = 0 → A.n + k = 13)) → (rdL L k T A).1.code = 0 → Ok0 (rdL L k T A).2 ∧ 2 ≤ (rdL L k T A).2.n
  | 0, T, A, h, hk, hc => by
    have := (h hc).1
    have := hk hc
    omega
  | k + 1, T, A, h, hk, hc => by
    by_cases c : T.code = 0
    · have e : rdL L (k + 1) T A = if 2 ≤ A.n ∧ T.kind = 0 then (T, A) else rdL L k (rdPt L T A) (rdPa L T A) := if_pos c
      rw [e] at hc ⊢
      by_cases d : 2 ≤ A.n ∧ T.kind = 0
      · rw [if_pos d]
        exact ⟨h c, d.1⟩
      · rw [if_neg d] at hc ⊢
        exact rdL_ok (fun _ => (h c).rd) (fun q => by rw [rdPa_n q]; have := hk c; omega) hc
    · have e : rdL L (k + 1) T A = (T, A) := if_neg c
      rw [e] at hc
      exact absurd hc c
theorem setup_ok {L : List Int32} {v : Int32} {A0 : Ab} (h : (setupV L v A0).1.code = 0) : Ok (setupV L v A0).2 := by
  have key := rdL_ok (L := L) (k := 13) (T := sT6 L v) (A := sA6 L v A0) (fun hc => ?_) (fun _ => rfl) h
  · obtain ⟨⟨a, b, c, d, e⟩, f⟩ := key
    refine ⟨⟨f, a⟩, b, c, d, ?_⟩
    have e' : (setupV L v A0).2.d = [] := e
    rw [e']
    exact ⟨by decide, fun i hi => absurd hi (Nat.not_lt_zero i), fun i k hi => absurd hi (Nat.not_lt_zero i)⟩
  · have h5 := (tkS_good (L := L) (T := sT5 L v) hc).1
    obtain ⟨h4, -, k4⟩ := tkN_good (L := L) (T := sT4 L v) h5
    obtain ⟨h3, -, k3⟩ := tkN_good (L := L) (T := sT3 L v) h4
    obtain ⟨h2, -, k2⟩ := tkN_good (L := L) (T := sT2 L v) h3
    refine ⟨Nat.zero_le _, ⟨Int32.le_trans (by decide) k2.1, k3.1, k4.1⟩, fun p hp => absurd hp (Nat.not_lt_zero p), fun q hq => absurd hq (Nat.not_lt_zero q), rfl⟩
theorem sLoad_ok {v : Int32} {A0 : Ab} (h : Okg g) : Okg (sLoad g v A0).1 := by
  unfold sLoad
  split
  · exact ⟨setup_ok (by assumption), fun i hi => absurd hi (Nat.not_lt_zero i), h.2.2⟩
  · exact h
/-- the tokens and the trial school as a reading left them -/
theorem CG.read {L : List Int32} {T : Tks} {D : Nat → Nat → Nat → Prop} (h : CG M g) (hf : Fr D M M') (hd : ∀ k j p, D k j p → k = 1 ∨ (4 ≤ k ∧ k ≤ 6) ∨ (7 ≤ k ∧ k ≤ 14 ∧ j = 1)) (hT : TkM M' g.L T) (h1 : ∀ p, p < 12 → M'.1 12 1 p 0 = nI p) : CG M' (g.A, g.U, g.S, g.R, g.L, (T.code, T.pos), g.W) := by
  obtain ⟨a, b, c, d, e, f, i⟩ := h
  exact ⟨a.frD hf (fun k j p q z => by have := hd k j p q; omega), b.fr hf (fun k j p q z => by have := hd k j p q; omega), c.fr hf (fun k j p q z => by have := hd k j p q; omega), d.fr hf (fun k j p q z => by have := hd k j p q; omega), ⟨hT.1, hT.2.2.2.2.2.1, hT.2.2.2.2.2.2.1⟩, f.fr hf (fun k j p q z => by have := hd k j p q; omega), h1⟩
theorem s_X6_failed' {c : Int32} (h5 : M.1 1 0 0 5 = c) (h : P (.inl (some (.int (if c = 0 then 0 else 1)))) M) : Sp E yX6_failed cX6_failed zX6_failed [.ref (ad E 1 0 0)] M P := by
  subst h5
  refine Sp_of (own := RX6) (by decide) rfl rfl (Nat.le_of_ble_eq_true rfl) (fun C => ?_)
  refine G_aload_n dX6_failed_0 rfl ?_
  refine gf_X6_24 dX6_failed_1  ?_
  refine G_if_eq (tgt := 11) dX6_failed_4 (by decide) (fun c4 => ?_) (fun c4 => ?_)
  · rw [if_pos c4] at h
    refine G_iconst (v := 0) dX6_failed_11 (by decide) ?_
    refine G_iret dX6_failed_12 rfl rfl (Nat.le_of_ble_eq_true rfl) (Nat.le_of_ble_eq_true rfl) ?_
    exact h
  · rw [if_neg c4] at h
    refine G_iconst (v := 1) dX6_failed_7 (by decide) ?_
    refine G_goto (tgt := 12) dX6_failed_8 (by decide) ?_
    refine G_iret dX6_failed_12 rfl rfl (Nat.le_of_ble_eq_true rfl) (Nat.le_of_ble_eq_true rfl) ?_
    exact h
theorem CG.sch {M' : Mm} {B : Ab} {U : List Ab} (h : CG M g) (hB : CR M' 0 B) (hU : Und M' U) (hf : Fr (fun k j p => k = 15 ∨ dC 0 k j p) M M') : CG M' (B, U, g.2.2) := by
  obtain ⟨a, b, c, d, e, f, i⟩ := h
  have hd : ∀ k j p, (k = 15 ∨ dC 0 k j p) → k = 15 ∨ 7 ≤ k ∧ k ≤ 14 ∧ j = 0 := fun k j p q => q
  exact ⟨hB, hU, c.fr hf (fun k j p q z => by have := hd k j p q; omega), d.fr hf (fun k j p q z => by have := hd k j p q; omega), e.fr hf (fun k j p q z => by have := hd k j p q; omega), f.fr hf (fun k j p q z => by have := hd k j p q; omega), fun p hp => (hf.at (fun q => by have := hd 12 1 p q; omega) 0).trans (i p hp)⟩
theorem s_X8_load (hC : CG M g) (h : ∀ M', CG M' (sLoad g (M.1 1 0 0 4) Ab0).1 → Fr dCl M M' → P (.inl (some (.int (sLoad g (M.1 1 0 0 4) Ab0).2))) M') : Sp E yX8_load cX8_load zX8_load [.ref (ad E 0 0 0)] M P := by
  unfold sLoad at h
  obtain ⟨tL, e1, e2⟩ := id hC.2.2.2.2.1
  refine Sp_of (own := RX8) (by decide) rfl rfl (Nat.le_of_ble_eq_true rfl) (fun C => ?_)
  refine G_aload_n dX8_load_0 rfl ?_
  refine gf_X8_30 dX8_load_1  ?_
  refine G_aload_n dX8_load_4 rfl ?_
  refine gf_X8_10 dX8_load_5  ?_
  refine cv_X8_93 (cs' := 0) (ss' := 0) dX8_load_8 (by decide) (Nat.le_of_ble_eq_true rfl) (Nat.le_of_ble_eq_true rfl) (Nat.le_of_ble_eq_true rfl) rfl rfl (Nat.le_of_ble_eq_true rfl) (Nat.le_of_ble_eq_true rfl) rfl ?_
  refine s_X3_readSetup (A0 := Ab0) (j := 1) (by decide) tL hC.2.2.2.2.2.2 (fun M1 t1 a1 f1 => hGo_v ?_)
  have hok := setup_ok (L := g.L) (v := M.1 1 0 0 4) (A0 := Ab0)
  generalize setupV g.L (M.1 1 0 0 4) Ab0 = S at h t1 a1 hok
  have g1 := hC.read f1 (fun k j p q => by rcases q with q | q; exact Or.inl q; exact Or.inr (Or.inr q)) t1 a1.2.2.2.1 (L := g.L)
  refine G_aload_n dX8_load_11 rfl ?_
  refine gf_X8_10 dX8_load_12  ?_
  refine gf_X8_69 dX8_load_15  ?_
  refine G_iconst (v := 0) dX8_load_18 (by decide) ?_
  refine cv_X8_90 (cs' := 0) (ss' := 0) dX8_load_19 (by decide) (Nat.le_of_ble_eq_true rfl) (Nat.le_of_ble_eq_true rfl) (Nat.le_of_ble_eq_true rfl) rfl rfl (Nat.le_of_ble_eq_true rfl) (Nat.le_of_ble_eq_true rfl) rfl ?_
  refine s_X5_cut (n := 0) (by decide) g1.2.2.2.2.1.1 (Nat.zero_le _) (fun M2 t2 f2 => hGo_v ?_)
  have g2 := g1.txt t2 f2
  have fT : Fr dCl M M2 := (f1.mono (fun k j p q => by rcases q with q | q; (have : k = 1 := q; show k ≤ 19; omega); exact dC_Cl k j p q)).trans (f2.mono dX_Cl)
  have a2 : CR M2 1 S.2 := a1.frD f2 (fun k j p q z => by have q' : (k = 2 ∨ k = 3) ∧ j = 0 := q; omega)
  refine G_aload_n dX8_load_22 rfl ?_
  refine gf_X8_10 dX8_load_23  ?_
  refine cv_X8_97 (cs' := 0) (ss' := 0) dX8_load_26  (Nat.le_of_ble_eq_true rfl) (Nat.le_of_ble_eq_true rfl) (Nat.le_of_ble_eq_true rfl) rfl rfl (Nat.le_of_ble_eq_true rfl) (Nat.le_of_ble_eq_true rfl) rfl ?_
  refine s_X6_failed' g2.2.2.2.2.1.2.1 (hGo_i ?_)
  by_cases c : S.1.code = 0
  · rw [if_pos c] at h ⊢
    rw [if_pos c] at h
    refine G_if_eq (tgt := 34) dX8_load_29 (by decide) (fun c29 => ?_) (fun c29 => ?_)
    · refine G_aload_n dX8_load_34 rfl ?_
      refine gf_X8_26 dX8_load_35  ?_
      refine G_aload_n dX8_load_38 rfl ?_
      refine gf_X8_30 dX8_load_39  ?_
      refine cv_X8_101 (cs' := 0) (ss' := 0) dX8_load_42 (by decide) (Nat.le_of_ble_eq_true rfl) (Nat.le_of_ble_eq_true rfl) (Nat.le_of_ble_eq_true rfl) rfl rfl (Nat.le_of_ble_eq_true rfl) (Nat.le_of_ble_eq_true rfl) rfl ?_
      refine s_X3_copyFrom (j := 0) (j2 := 1) (by decide) (by decide) (by decide) a2 (hok c).spy g2.1.2.2.2.1 (fun M3 a3 f3 => hGo_v ?_)
      have u3 : Und M3 g.U := g2.2.1.fr f3 (fun k j p q z => by have q' : 7 ≤ k ∧ k ≤ 14 ∧ j = 0 := q; omega)
      refine G_aload_n dX8_load_45 rfl ?_
      refine gf_X8_36 dX8_load_46  ?_
      refine cv_X8_105 (cs' := 0) (ss' := 0) dX8_load_49  (Nat.le_of_ble_eq_true rfl) (Nat.le_of_ble_eq_true rfl) (Nat.le_of_ble_eq_true rfl) rfl rfl (Nat.le_of_ble_eq_true rfl) (Nat.le_of_ble_eq_true rfl) rfl ?_
      refine s_X7_forgetAll u3 (fun M4 u4 f4 => hGo_v ?_)
      have a4 : CR M4 0 S.2 := a3.frD f4 (fun k j p q z => by omega)
      have g4 := g2.sch a4 u4 ((f3.mono (fun k j p q => Or.inr q)).trans (f4.mono (fun k j p q => Or.inl q)))
      refine G_aload_n dX8_load_52 rfl ?_
      refine gf_X8_26 dX8_load_53  ?_
      refine gf_X8_108 dX8_load_56 (by decide) ?_
      rw [a4.n]
      refine G_iret dX8_load_59 rfl rfl (Nat.le_of_ble_eq_true rfl) (Nat.le_of_ble_eq_true rfl) ?_
      exact h M4 g4 ((fT.trans (f3.mono dC_Cl)).trans (f4.mono (fun k j p q => by show k ≤ 19; omega)))
    · exact absurd rfl c29
  · rw [if_neg c] at h ⊢
    rw [if_neg c] at h
    refine G_if_eq (tgt := 34) dX8_load_29 (by decide) (fun c29 => ?_) (fun c29 => ?_)
    · exact absurd c29 (by decide)
    · refine G_iconst (v := (-1)) dX8_load_32 (by decide) ?_
      refine G_iret dX8_load_33 rfl rfl (Nat.le_of_ble_eq_true rfl) (Nat.le_of_ble_eq_true rfl) ?_
      exact h M2 g2 fT
-- scripts
def argsOk : List (Option (Int32 × Int32)) → List Int32 → Prop
  | [], [] => True
  | some (a, b) :: r, x :: l => inR x a b ∧ argsOk r l
  | none :: r, x :: l => inR x 0 1 ∧ argsOk r l
  | _, _ => False
def cOk (c : Cmd) : Prop := c.1 < 7 ∧ argsOk (vK c.1) c.2
theorem rA_good {L : List Int32} : ∀ {ks : List (Option (Int32 × Int32))} {T : Tks}, (rA L ks T).1.code = 0 → T.code = 0 ∧ argsOk ks (rA L ks T).2
  | [], T, h => ⟨h, trivial⟩
  | some (a, b) :: r, T, h => by
    obtain ⟨h1, h2⟩ := rA_good (ks := r) (T := tkN L a b T) h
    obtain ⟨h3, -, h4⟩ := tkN_good h1
    exact ⟨h3, h4, h2⟩
  | none :: r, T, h => by
    obtain ⟨h1, h2⟩ := rA_good (ks := r) (T := tkB L T) h
    refine ⟨(tkB_good h1).1, ?_, h2⟩
    unfold sbV
    split
    · exact ⟨by decide, by decide⟩
    · exact ⟨by decide, by decide⟩
theorem rcC_ok {L : List Int32} {T : Tks} {Cs : List Cmd} (h : ∀ c, c ∈ Cs → cOk c) (hc : (rcT L T Cs).code = 0) : ∀ c, c ∈ rcC L T Cs → cOk c := by
  unfold rcC
  unfold rcT at hc
  split
  · rename_i h0
    rw [if_pos h0] at hc
    intro c hm
    rcases List.mem_append.mp hm with q | q
    · exact h c q
    · rw [List.mem_singleton] at q
      rw [q]
      have h1 := (tkS_good hc).1
      exact ⟨vb_lt (c3_good h0).2.1, (rA_good h1).2⟩
  · exact h
theorem rcL_ok {L : List Int32} : ∀ {k : Nat} {T : Tks} {Cs : List Cmd}, (T.code = 0 → ∀ c, c ∈ Cs → cOk c) → (rcL L k T Cs).1.code = 0 → ∀ c, c ∈ (rcL L k T Cs).2 → cOk c
  | 0, T, Cs, h, hc => h hc
  | k + 1, T, Cs, h, hc => by
    by_cases c : T.code = 0
    · have e : rcL L (k + 1) T Cs = if T.kind = 0 then (T, Cs) else rcL L k (rcT L T Cs) (rcC L T Cs) := if_pos c
      rw [e] at hc ⊢
      by_cases d : T.kind = 0
      · rw [if_pos d]
        exact h c
      · rw [if_neg d] at hc ⊢
        exact rcL_ok (fun q => rcC_ok (h c) q) hc
    · have e : rcL L (k + 1) T Cs = (T, Cs) := if_neg c
      rw [e] at hc
      exact absurd hc c
def cA (c : Cmd) (t : Nat) : Int32 := c.2.getD t 0
def sPerf (g : Gs) (c : Cmd) : Gs × Int32 :=
  if c.1 = 6 then sPass g (tn (cA c 0)) else if ¬ inP g.A (cA c 0) then (g, -1) else if (c.1 = 1 ∨ c.1 = 2 ∨ c.1 = 3) ∧ ¬ inP g.A (cA c 1) then (g, -1) else
  if c.1 = 0 then sWork g (tn (cA c 0)) (tn (cA c 1)) (tn (cA c 2)) else if c.1 = 1 then sSwap g (tn (cA c 0)) (tn (cA c 1)) (tn (cA c 2)) (tn (cA c 3)) else if c.1 = 2 then sLend g (tn (cA c 0)) (tn (cA c 1)) (tn (cA c 2)) (tn (cA c 3)) else
  if c.1 = 3 then sPay g (tn (cA c 0)) (tn (cA c 1)) (tn (cA c 2)) (tn (cA c 3)) else if c.1 = 4 then sMove g (tn (cA c 0)) (cA c 1) (cA c 2) else sConfess g (tn (cA c 0))
theorem cOk_get {Cs : List Cmd} {i : Nat} (h : ∀ c, c ∈ Cs → cOk c) (hi : i < Cs.length) : cOk (cg Cs i) := by
  unfold cg
  rw [List.getD_eq_getElem?_getD, List.getElem?_eq_getElem hi]
  exact h _ (List.getElem_mem hi)
theorem args1 {k : Option (Int32 × Int32)} {l : List Int32} (h : argsOk [k] l) : ∃ x, l = [x] := by
  cases l with
  | nil => cases k <;> exact h.elim
  | cons x l =>
    cases l with
    | nil => exact ⟨x, rfl⟩
    | cons y l => cases k <;> exact h.2.elim
theorem args_a0 {l : List Int32} (h : argsOk [some (0, 11), none, some (1, 20)] l) : inR (l.getD 0 0) 0 11 ∧ inR (l.getD 1 0) 0 1 ∧ inR (l.getD 2 0) 1 20 ∧ l.length = 3 := by
  cases l with
  | nil => exact h.elim
  | cons x0 l =>
    cases l with
    | nil => exact h.2.elim
    | cons x1 l =>
      cases l with
      | nil => exact h.2.2.elim
      | cons x2 l =>
        cases l with
        | cons y l => exact (h.2.2.2).elim
        | nil => exact ⟨h.1, h.2.1, h.2.2.1, rfl⟩
theorem args_a1 {l : List Int32} (h : argsOk [some (0, 11), some (0, 11), some (0, 20), some (0, 20)] l) : inR (l.getD 0 0) 0 11 ∧ inR (l.getD 1 0) 0 11 ∧ inR (l.getD 2 0) 0 20 ∧ inR (l.getD 3 0) 0 20 ∧ l.length = 4 := by
  cases l with
  | nil => exact h.elim
  | cons x0 l =>
    cases l with
    | nil => exact h.2.elim
    | cons x1 l =>
      cases l with
      | nil => exact h.2.2.elim
      | cons x2 l =>
        cases l with
        | nil => exact h.2.2.2.elim
        | cons x3 l =>
          cases l with
          | cons y l => exact (h.2.2.2.2).elim
          | nil => exact ⟨h.1, h.2.1, h.2.2.1, h.2.2.2.1, rfl⟩
theorem args_a2 {l : List Int32} (h : argsOk [some (0, 11), some (0, 11), none, some (1, 20)] l) : inR (l.getD 0 0) 0 11 ∧ inR (l.getD 1 0) 0 11 ∧ inR (l.getD 2 0) 0 1 ∧ inR (l.getD 3 0) 1 20 ∧ l.length = 4 := by
  cases l with
  | nil => exact h.elim
  | cons x0 l =>
    cases l with
    | nil => exact h.2.elim
    | cons x1 l =>
      cases l with
      | nil => exact h.2.2.elim
      | cons x2 l =>
        cases l with
        | nil => exact h.2.2.2.elim
        | cons x3 l =>
          cases l with
          | cons y l => exact (h.2.2.2.2).elim
          | nil => exact ⟨h.1, h.2.1, h.2.2.1, h.2.2.2.1, rfl⟩
theorem args_a4 {l : List Int32} (h : argsOk [some (0, 11), some (0, 5), some (0, 5)] l) : inR (l.getD 0 0) 0 11 ∧ inR (l.getD 1 0) 0 5 ∧ inR (l.getD 2 0) 0 5 ∧ l.length = 3 := by
  cases l with
  | nil => exact h.elim
  | cons x0 l =>
    cases l with
    | nil => exact h.2.elim
    | cons x1 l =>
      cases l with
      | nil => exact h.2.2.elim
      | cons x2 l =>
        cases l with
        | cons y l => exact (h.2.2.2).elim
        | nil => exact ⟨h.1, h.2.1, h.2.2.1, rfl⟩
theorem args_a5 {l : List Int32} (h : argsOk [some (0, 11)] l) : inR (l.getD 0 0) 0 11 ∧ l.length = 1 := by
  cases l with
  | nil => exact h.elim
  | cons x0 l =>
    cases l with
    | cons y l => exact (h.2).elim
    | nil => exact ⟨h.1, rfl⟩
theorem args_a6 {l : List Int32} (h : argsOk [some (1, 10)] l) : inR (l.getD 0 0) 1 10 ∧ l.length = 1 := by
  cases l with
  | nil => exact h.elim
  | cons x0 l =>
    cases l with
    | cons y l => exact (h.2).elim
    | nil => exact ⟨h.1, rfl⟩
theorem tn_in {x : Int32} {i k : Nat} (hk : k < 2 ^ 31) (hik : i ≤ k) (h : inR x (nI i) (nI k)) : i ≤ tn x ∧ tn x ≤ k ∧ nI (tn x) = x := by
  obtain ⟨s, a, b, c, d⟩ := inR_ix hk hik h
  rw [d]
  exact ⟨a, b, c.symm⟩
theorem tn_P {x : Int32} (h12 : A.n ≤ 12) (h : inP A x) : tn x < A.n ∧ nI (tn x) = x := by
  obtain ⟨p, a, b, c⟩ := in_ix h (by omega)
  rw [c]
  exact ⟨a, b.symm⟩
theorem Scr.frA {Cs : List Cmd} (h : Scr M Cs) (hf : Fr dAc M M') : Scr M' Cs := h.keep (fun k _ h6 t => hf.at (fun q => by have q' : 7 ≤ k ∧ k ≤ 19 := q; omega) t)
theorem s_X8_perform {Cs : List Cmd} {i : Nat} (hC : CG M g) (hO : Okg g) (hS : Scr M Cs) (hi : i < Cs.length) (hc : cOk (cg Cs i)) (h : ∀ M', CG M' (sPerf g (cg Cs i)).1 → Fr dAc M M' → P (.inl (some (.int (sPerf g (cg Cs i)).2))) M') : Sp E yX8_perform cX8_perform zX8_perform [.ref (ad E 0 0 0), .int (nI i)] M P := by
  have hA := hC.1
  have h12 := hA.n12
  have hv := (hS.2.2 i hi).1.2.1
  have hargs := (hS.2.2 i hi).2
  obtain ⟨-, hc⟩ := hc
  unfold sPerf cA at h
  generalize hcc : cg Cs i = c at *
  obtain ⟨v, l⟩ := c
  refine Sp_of (own := RX8) (by decide) rfl rfl (Nat.le_of_ble_eq_true rfl) (fun C => ?_)
  refine G_aload_n dX8_perform_0 rfl ?_
  refine gf_X8_19 dX8_perform_1  ?_
  refine G_iload_n dX8_perform_4 rfl ?_
  refine cv_X8_125 (cs' := 0) (ss' := 0) dX8_perform_5  (Nat.le_of_ble_eq_true rfl) (Nat.le_of_ble_eq_true rfl) (Nat.le_of_ble_eq_true rfl) rfl rfl (Nat.le_of_ble_eq_true rfl) (Nat.le_of_ble_eq_true rfl) rfl ?_
  refine s_X4_verb hS hi (hGo_i ?_)
  rw [hcc]
  refine G_istore_n dX8_perform_8 (Nat.le_of_ble_eq_true rfl) ?_
  refine G_aload_n dX8_perform_9 rfl ?_
  refine gf_X8_19 dX8_perform_10  ?_
  refine G_iload_n dX8_perform_13 rfl ?_
  refine G_iconst (v := 0) dX8_perform_14 (by decide) ?_
  refine cv_X8_128 (cs' := 0) (ss' := 0) dX8_perform_15  (Nat.le_of_ble_eq_true rfl) (Nat.le_of_ble_eq_true rfl) (Nat.le_of_ble_eq_true rfl) rfl rfl (Nat.le_of_ble_eq_true rfl) (Nat.le_of_ble_eq_true rfl) rfl ?_
  refine s_X4_argument (t := 0) hS hi (by decide) (hGo_i ?_)
  refine G_istore_n dX8_perform_18 (Nat.le_of_ble_eq_true rfl) ?_
  refine G_aload_n dX8_perform_19 rfl ?_
  refine gf_X8_19 dX8_perform_20  ?_
  refine G_iload_n dX8_perform_23 rfl ?_
  refine G_iconst (v := 1) dX8_perform_24 (by decide) ?_
  refine cv_X8_128 (cs' := 0) (ss' := 0) dX8_perform_25  (Nat.le_of_ble_eq_true rfl) (Nat.le_of_ble_eq_true rfl) (Nat.le_of_ble_eq_true rfl) rfl rfl (Nat.le_of_ble_eq_true rfl) (Nat.le_of_ble_eq_true rfl) rfl ?_
  refine s_X4_argument (t := 1) hS hi (by decide) (hGo_i ?_)
  refine G_istore dX8_perform_28 (Nat.le_of_ble_eq_true rfl) ?_
  refine G_aload_n dX8_perform_30 rfl ?_
  refine gf_X8_19 dX8_perform_31  ?_
  refine G_iload_n dX8_perform_34 rfl ?_
  refine G_iconst (v := 2) dX8_perform_35 (by decide) ?_
  refine cv_X8_128 (cs' := 0) (ss' := 0) dX8_perform_36  (Nat.le_of_ble_eq_true rfl) (Nat.le_of_ble_eq_true rfl) (Nat.le_of_ble_eq_true rfl) rfl rfl (Nat.le_of_ble_eq_true rfl) (Nat.le_of_ble_eq_true rfl) rfl ?_
  refine s_X4_argument (t := 2) hS hi (by decide) (hGo_i ?_)
  refine G_istore dX8_perform_39 (Nat.le_of_ble_eq_true rfl) ?_
  refine G_aload_n dX8_perform_41 rfl ?_
  refine gf_X8_19 dX8_perform_42  ?_
  refine G_iload_n dX8_perform_45 rfl ?_
  refine G_iconst (v := 3) dX8_perform_46 (by decide) ?_
  refine cv_X8_128 (cs' := 0) (ss' := 0) dX8_perform_47  (Nat.le_of_ble_eq_true rfl) (Nat.le_of_ble_eq_true rfl) (Nat.le_of_ble_eq_true rfl) rfl rfl (Nat.le_of_ble_eq_true rfl) (Nat.le_of_ble_eq_true rfl) rfl ?_
  refine s_X4_argument (t := 3) hS hi (by decide) (hGo_i ?_)
  generalize M.1 6 0 0 (4 * i + 0) = b0 at *
  sorry
end CTXS
