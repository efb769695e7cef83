/-! ===== HomeworkBarter: load ===== -/
section CTXS
variable {E : Ed} {M M' : Mm} {P : Res → Mm → Prop} {A : Ab} {g : Gs}
def sLoad (g : Gs) (v : Int32) (A0 : Ab) : Gs × Int32 := if (setupV g.L v A0).1.code = 0 then (((setupV g.L v A0).2, [], g.S, g.R, [], ((setupV g.L v A0).1.code, (setupV g.L v A0).1.pos), g.W), nI (setupV g.L v A0).2.n) else ((g.A, g.U, g.S, g.R, [], ((setupV g.L v A0).1.code, (setupV g.L v A0).1.pos), g.W), -1)
theorem lkN_good {L : List Int32} {T : Tks} {a b : Int32} (h : (lkN a b T).code = 0) : T.code = 0 ∧ T.kind = 2 ∧ inR T.val a b := by
  unfold lkN at h
  split at h
  · exact absurd h (fai_is (by decide))
  · rename_i c
    split at h
    · rename_i d
      exact ⟨h, d, Int32.not_lt.mp (fun q => c (Or.inl q)), Int32.not_lt.mp (fun q => c (Or.inr q))⟩
    · exact absurd h (fai_is (by decide))
theorem tkN_good {L : List Int32} {T : Tks} {a b : Int32} (h : (tkN L a b T).code = 0) : T.code = 0 ∧ T.kind = 2 ∧ inR T.val a b := by
  unfold tkN at h
  rw [adv_code] at h
  exact lkN_good (L := L) h
theorem tkS_good {L : List Int32} {T : Tks} (h : (tkS L T).code = 0) : T.code = 0 ∧ T.kind = 3 := by
  unfold tkS at h
  rw [adv_code] at h
  split at h
  · exact ⟨h, by assumption⟩
  · exact absurd h (fai_is (by decide))
theorem tkW_good {L w : List Int32} {T : Tks} (h : (tkW L w T).code = 0) : T.code = 0 ∧ isW L T w := by
  unfold tkW at h
  rw [adv_code] at h
  split at h
  · exact ⟨h, by assumption⟩
  · exact absurd h (fai_is (by decide))
/-- what a pupil that was read is -/
theorem rdPt_good {L : List Int32} {T : Tks} (h : (rdPt L T A).code = 0) : T.code = 0 ∧ A.n < 12 ∧ isW L T (hSb2 1) ∧ inR (p2 L T A).val 0 5 ∧ inR (p3 L T A).val 0 5 ∧ onV A (p2 L T A).val (p3 L T A).val = -1 ∧ inR (p6 L T A).val 1 9 ∧ inR (p7 L T A).val 1 9 := by
  have hn : A.n < 12 := Nat.not_le.mp (fun q => rdPt_full (L := L) (T := T) (A := A) (Nat.not_lt.mpr q) h)
  unfold rdPt at h
  have h9 := (tkS_good h).1
  have h8 : (p8 L T A).code = 0 := by
    unfold p9 at h9
    by_cases q : isW L (p8 L T A) (hSb2 2)
    · rw [if_pos q, adv_code] at h9
      exact h9
    · rw [if_neg q] at h9
      exact h9
  unfold p8 at h8
  obtain ⟨h7, -, k7⟩ := tkN_good h8
  unfold p7 at h7
  obtain ⟨h6, -, k6⟩ := tkN_good h7
  unfold p6 at h6
  rw [adv_code] at h6
  unfold p5 at h6
  have h4 : (p4 L T A).code = 0 ∧ onV A (p2 L T A).val (p3 L T A).val = -1 := by
    by_cases q : onV A (p2 L T A).val (p3 L T A).val = -1
    · rw [if_pos q] at h6
      exact ⟨h6, q⟩
    · rw [if_neg q] at h6
      exact absurd h6 (fai_is (by decide))
  obtain ⟨h4, k4⟩ := h4
  unfold p4 at h4
  obtain ⟨h3, -, k3⟩ := lkN_good (L := L) h4
  unfold p3 at h3
  obtain ⟨h2, -, k2⟩ := tkN_good h3
  unfold p2 at h2
  have h1 := tkW_good h2
  have e1 : p1 L T A = T := if_pos hn
  rw [e1] at h1
  exact ⟨h1.1, hn, h1.2, k2, k3, k4, k6, k7⟩
def Ok0 (A : Ab) : Prop := A.n ≤ 12 ∧ (0 ≤ A.g 3 ∧ 0 ≤ A.g 4 ∧ 0 ≤ A.g 5) ∧ (∀ p, p < A.n → fOk A.n (A.f p)) ∧ (∀ q, q < 2 * A.n → mOk A.n (A.s q)) ∧ A.d = []
theorem bs_up {p : Nat → Bool} : ∀ {n : Nat}, bs p n = bs (fun i => p i && decide (i < n)) (n + 1) := by
  intro n
  show _ = if (p n && decide (n < n)) = true then _ else _
  rw [if_neg (by simp)]
  have key : ∀ k, k ≤ n → bs p k = bs (fun i => p i && decide (i < n)) k := by
    intro k
    induction k with
    | zero => intro _; rfl
    | succ k ih =>
      intro hk
      show (if p k = true then _ else _) = if (p k && decide (k < n)) = true then _ else _
      rw [ih (by omega), decide_eq_true (show k < n by omega), Bool.and_true]
  exact key n (Nat.le_refl _)
theorem wOk_up {n : Nat} {w : Int32} (h : wOk n w) : wOk (n + 1) w := by
  obtain ⟨p, rfl⟩ := h
  exact ⟨_, bs_up⟩
theorem Ok0.rd {L : List Int32} {T : Tks} (h : Ok0 A) : Ok0 (rdPa L T A) := by
  unfold rdPa
  split
  · rename_i hc
    obtain ⟨-, hn, -, -, -, -, k6, k7⟩ := rdPt_good hc
    obtain ⟨h1, h2, h3, h4, h5⟩ := h
    refine ⟨hn, h2, fun p hp => ?_, fun q hq => ?_, h5⟩
    · have hp' : p < A.n + 1 := hp
      have e : ∀ k, (enrolA A (p2 L T A).val (p3 L T A).val (p6 L T A).val (p7 L T A).val (pSpy L T A)).f p k = if p = A.n then (match k with | 0 => (p2 L T A).val | 1 => (p3 L T A).val | 2 => (p6 L T A).val | 3 => (p7 L T A).val | 4 => pSpy L T A | 5 => A.g 2 | _ => 0) else A.f p k := fun _ => rfl
      unfold fOk
      rw [e 2, e 3, e 4, e 8, e 9]
      by_cases q : p = A.n
      · rw [if_pos q, if_pos q, if_pos q, if_pos q, if_pos q]
        refine ⟨k6, k7, ?_, (show (0 : Int32) ≤ 0 by decide), wOk_0 _⟩
        show pSpy L T A = 0 ∨ pSpy L T A = 1
        unfold pSpy
        split <;> simp
      · rw [if_neg q, if_neg q, if_neg q, if_neg q, if_neg q]
        obtain ⟨a, b, c, d, f⟩ := h3 p (by omega)
        exact ⟨a, b, c, d, wOk_up f⟩
    · have hq' : q < 2 * (A.n + 1) := hq
      show mOk (A.n + 1) (if q / 2 = A.n then [] else A.s q)
      split
      · exact mOk_0 _
      · have := h4 q (by omega)
        exact ⟨this.1, fun k hk => by
          obtain ⟨m, hm, e⟩ := this.2 k hk
          exact ⟨m, by omega, e⟩⟩
  · exact h
theorem rdL_ok {L : List Int32} : ∀ {k : Nat} {T : Tks} {A : Ab}, (T.code = 0 → Ok0 A) → ((T.code = 0 → A.n + k = 13)) → (rdL L k T A).1.code = 0 → Ok0 (rdL L k T A).2 ∧ 2 ≤ (rdL L k T A).2.n
  | 0, T, A, h, hk, hc => by
    have := (h hc).1
    have := hk hc
    omega
  | k + 1, T, A, h, hk, hc => by
    by_cases c : T.code = 0
    · have e : rdL L (k + 1) T A = if 2 ≤ A.n ∧ T.kind = 0 then (T, A) else rdL L k (rdPt L T A) (rdPa L T A) := if_pos c
      rw [e] at hc ⊢
      by_cases d : 2 ≤ A.n ∧ T.kind = 0
      · rw [if_pos d]
        exact ⟨h c, d.1⟩
      · rw [if_neg d] at hc ⊢
        exact rdL_ok (fun _ => (h c).rd) (fun q => by rw [rdPa_n q]; have := hk c; omega) hc
    · have e : rdL L (k + 1) T A = (T, A) := if_neg c
      rw [e] at hc
      exact absurd hc c
theorem setup_ok {L : List Int32} {v : Int32} {A0 : Ab} (h : (setupV L v A0).1.code = 0) : Ok (setupV L v A0).2 := by
  unfold setupV at h ⊢
  have hn : (sA6 L v A0).n + 13 = 13 := by
    have : (sA6 L v A0).n = 0 := rfl
    rw [this]
  have key := fun q => rdL_ok (L := L) (k := 13) (T := sT6 L v) (A := sA6 L v A0) q (fun _ => hn) h
  generalize rdL L 13 (sT6 L v) (sA6 L v A0) = S at *
  have key := key (fun hc => ?_)
  · obtain ⟨⟨a, b, c, d, e⟩, f⟩ := key
    refine ⟨⟨f, a⟩, b, c, d, ?_⟩
    rw [e]
    exact ⟨by decide, fun i hi => absurd hi (Nat.not_lt_zero i), fun i k hi => absurd hi (Nat.not_lt_zero i)⟩
  · unfold sT6 at hc
    have h5 := (tkS_good hc).1
    unfold sT5 at h5
    obtain ⟨h4, -, k4⟩ := tkN_good h5
    unfold sT4 at h4
    obtain ⟨h3, -, k3⟩ := tkN_good h4
    unfold sT3 at h3
    obtain ⟨h2, -, k2⟩ := tkN_good h3
    unfold sA6
    generalize (sT1 L v).val = w1 at *
    generalize (sT2 L v).val = w2 at *
    generalize (sT3 L v).val = w3 at *
    generalize (sT4 L v).val = w4 at *
    refine ⟨Nat.zero_le _, ⟨Int32.le_trans (show (0 : Int32) ≤ 1 by decide) k2.1, k3.1, k4.1⟩, fun p hp => absurd hp (Nat.not_lt_zero p), fun q hq => absurd hq (Nat.not_lt_zero q), rfl⟩
theorem sLoad_ok {v : Int32} {A0 : Ab} (h : Okg g) : Okg (sLoad g v A0).1 := by
  unfold sLoad
  have hok := setup_ok (L := g.L) (v := v) (A0 := A0)
  generalize setupV g.L v A0 = S at *
  by_cases c : S.1.code = 0
  · rw [if_pos c]
    exact ⟨hok c, fun i hi => absurd hi (Nat.not_lt_zero i), h.2.2⟩
  · rw [if_neg c]
    exact h
/-- the tokens and the trial school as a reading left them -/
theorem CG.read {L : List Int32} {T : Tks} {D : Nat → Nat → Nat → Prop} (h : CG M g) (hf : Fr D M M') (hd : ∀ k j p, D k j p → k = 1 ∨ (4 ≤ k ∧ k ≤ 6) ∨ (7 ≤ k ∧ k ≤ 14 ∧ j = 1)) (hT : TkM M' g.L T) (h1 : ∀ p, p < 12 → M'.1 12 1 p 0 = nI p) : CG M' (g.A, g.U, g.S, g.R, g.L, (T.code, T.pos), g.W) := by
  obtain ⟨a, b, c, d, e, f, i⟩ := h
  exact ⟨a.frD hf (fun k j p q z => by have := hd k j p q; omega), b.fr hf (fun k j p q z => by have := hd k j p q; omega), c.fr hf (fun k j p q z => by have := hd k j p q; omega), d.fr hf (fun k j p q z => by have := hd k j p q; omega), ⟨hT.1, hT.2.2.2.2.2.1, hT.2.2.2.2.2.2.1⟩, f.fr hf (fun k j p q z => by have := hd k j p q; omega), h1⟩
theorem s_X6_failed' {c : Int32} (h5 : M.1 1 0 0 5 = c) (h : P (.inl (some (.int (if c = 0 then 0 else 1)))) M) : Sp E yX6_failed cX6_failed zX6_failed [.ref (ad E 1 0 0)] M P := by
  subst h5
  refine Sp_of (own := RX6) (by decide) rfl rfl (Nat.le_of_ble_eq_true rfl) (fun C => ?_)
  refine G_aload_n dX6_failed_0 rfl ?_
  refine gf_X6_24 dX6_failed_1  ?_
  refine G_if_eq (tgt := 11) dX6_failed_4 (by decide) (fun c4 => ?_) (fun c4 => ?_)
  · rw [if_pos c4] at h
    refine G_iconst (v := 0) dX6_failed_11 (by decide) ?_
    refine G_iret dX6_failed_12 rfl rfl (Nat.le_of_ble_eq_true rfl) (Nat.le_of_ble_eq_true rfl) ?_
    exact h
  · rw [if_neg c4] at h
    refine G_iconst (v := 1) dX6_failed_7 (by decide) ?_
    refine G_goto (tgt := 12) dX6_failed_8 (by decide) ?_
    refine G_iret dX6_failed_12 rfl rfl (Nat.le_of_ble_eq_true rfl) (Nat.le_of_ble_eq_true rfl) ?_
    exact h
theorem CG.sch {M' : Mm} {B : Ab} {U : List Ab} (h : CG M g) (hB : CR M' 0 B) (hU : Und M' U) (hf : Fr (fun k j p => k = 15 ∨ dC 0 k j p) M M') : CG M' (B, U, g.2.2) := by
  obtain ⟨a, b, c, d, e, f, i⟩ := h
  have hd : ∀ k j p, (k = 15 ∨ dC 0 k j p) → k = 15 ∨ 7 ≤ k ∧ k ≤ 14 ∧ j = 0 := fun k j p q => q
  exact ⟨hB, hU, c.fr hf (fun k j p q z => by have := hd k j p q; omega), d.fr hf (fun k j p q z => by have := hd k j p q; omega), e.fr hf (fun k j p q z => by have := hd k j p q; omega), f.fr hf (fun k j p q z => by have := hd k j p q; omega), fun p hp => (hf.at (fun q => by have := hd 12 1 p q; omega) 0).trans (i p hp)⟩
theorem s_X8_load (hC : CG M g) (h : ∀ M', CG M' (sLoad g (M.1 1 0 0 4) Ab0).1 → Fr dCl M M' → P (.inl (some (.int (sLoad g (M.1 1 0 0 4) Ab0).2))) M') : Sp E yX8_load cX8_load zX8_load [.ref (ad E 0 0 0)] M P := by
  unfold sLoad at h
  obtain ⟨tL, e1, e2⟩ := id hC.2.2.2.2.1
  refine Sp_of (own := RX8) (by decide) rfl rfl (Nat.le_of_ble_eq_true rfl) (fun C => ?_)
  refine G_aload_n dX8_load_0 rfl ?_
  refine gf_X8_30 dX8_load_1  ?_
  refine G_aload_n dX8_load_4 rfl ?_
  refine gf_X8_10 dX8_load_5  ?_
  refine cv_X8_93 (cs' := 0) (ss' := 0) dX8_load_8 (by decide) (Nat.le_of_ble_eq_true rfl) (Nat.le_of_ble_eq_true rfl) (Nat.le_of_ble_eq_true rfl) rfl rfl (Nat.le_of_ble_eq_true rfl) (Nat.le_of_ble_eq_true rfl) rfl ?_
  refine s_X3_readSetup (A0 := Ab0) (j := 1) (by decide) tL hC.2.2.2.2.2.2 (fun M1 t1 a1 f1 => hGo_v ?_)
  have hok := setup_ok (L := g.L) (v := M.1 1 0 0 4) (A0 := Ab0)
  generalize setupV g.L (M.1 1 0 0 4) Ab0 = S at h t1 a1 hok
  have g1 := hC.read f1 (fun k j p q => by rcases q with q | q; exact Or.inl q; exact Or.inr (Or.inr q)) t1 a1.2.2.2.1 (L := g.L)
  refine G_aload_n dX8_load_11 rfl ?_
  refine gf_X8_10 dX8_load_12  ?_
  refine gf_X8_69 dX8_load_15  ?_
  refine G_iconst (v := 0) dX8_load_18 (by decide) ?_
  refine cv_X8_90 (cs' := 0) (ss' := 0) dX8_load_19 (by decide) (Nat.le_of_ble_eq_true rfl) (Nat.le_of_ble_eq_true rfl) (Nat.le_of_ble_eq_true rfl) rfl rfl (Nat.le_of_ble_eq_true rfl) (Nat.le_of_ble_eq_true rfl) rfl ?_
  refine s_X5_cut (n := 0) (by decide) g1.2.2.2.2.1.1 (Nat.zero_le _) (fun M2 t2 f2 => hGo_v ?_)
  have g2 := g1.txt t2 f2
  have fT : Fr dCl M M2 := (f1.mono (fun k j p q => by rcases q with q | q; (have : k = 1 := q; show k ≤ 19; omega); exact dC_Cl k j p q)).trans (f2.mono dX_Cl)
  have a2 : CR M2 1 S.2 := a1.frD f2 (fun k j p q z => by have q' : (k = 2 ∨ k = 3) ∧ j = 0 := q; omega)
  refine G_aload_n dX8_load_22 rfl ?_
  refine gf_X8_10 dX8_load_23  ?_
  refine cv_X8_97 (cs' := 0) (ss' := 0) dX8_load_26  (Nat.le_of_ble_eq_true rfl) (Nat.le_of_ble_eq_true rfl) (Nat.le_of_ble_eq_true rfl) rfl rfl (Nat.le_of_ble_eq_true rfl) (Nat.le_of_ble_eq_true rfl) rfl ?_
  refine s_X6_failed' g2.2.2.2.2.1.2.1 (hGo_i ?_)
  by_cases c : S.1.code = 0
  · rw [if_pos c] at h ⊢
    refine G_if_eq (tgt := 34) dX8_load_29 (by decide) (fun c29 => ?_) (fun c29 => ?_)
    · refine G_aload_n dX8_load_34 rfl ?_
      refine gf_X8_26 dX8_load_35  ?_
      refine G_aload_n dX8_load_38 rfl ?_
      refine gf_X8_30 dX8_load_39  ?_
      refine cv_X8_101 (cs' := 0) (ss' := 0) dX8_load_42 (by decide) (Nat.le_of_ble_eq_true rfl) (Nat.le_of_ble_eq_true rfl) (Nat.le_of_ble_eq_true rfl) rfl rfl (Nat.le_of_ble_eq_true rfl) (Nat.le_of_ble_eq_true rfl) rfl ?_
      refine s_X3_copyFrom (j := 0) (j2 := 1) (by decide) (by decide) (by decide) a2 (hok c).spy g2.1.2.2.2.1 (fun M3 a3 f3 => hGo_v ?_)
      have u3 : Und M3 g.U := g2.2.1.fr f3 (fun k j p q z => by have q' : 7 ≤ k ∧ k ≤ 14 ∧ j = 0 := q; omega)
      refine G_aload_n dX8_load_45 rfl ?_
      refine gf_X8_36 dX8_load_46  ?_
      refine cv_X8_105 (cs' := 0) (ss' := 0) dX8_load_49  (Nat.le_of_ble_eq_true rfl) (Nat.le_of_ble_eq_true rfl) (Nat.le_of_ble_eq_true rfl) rfl rfl (Nat.le_of_ble_eq_true rfl) (Nat.le_of_ble_eq_true rfl) rfl ?_
      refine s_X7_forgetAll u3 (fun M4 u4 f4 => hGo_v ?_)
      have a4 : CR M4 0 S.2 := a3.frD f4 (fun k j p q z => by omega)
      have g4 := g2.sch a4 u4 ((f3.mono (fun k j p q => Or.inr q)).trans (f4.mono (fun k j p q => Or.inl q)))
      refine G_aload_n dX8_load_52 rfl ?_
      refine gf_X8_26 dX8_load_53  ?_
      refine gf_X8_108 dX8_load_56 (by decide) ?_
      rw [a4.n]
      refine G_iret dX8_load_59 rfl rfl (Nat.le_of_ble_eq_true rfl) (Nat.le_of_ble_eq_true rfl) ?_
      exact h M4 g4 ((fT.trans (f3.mono dC_Cl)).trans (f4.mono (fun k j p q => by show k ≤ 19; omega)))
    · exact absurd rfl c29
  · rw [if_neg c] at h ⊢
    refine G_if_eq (tgt := 34) dX8_load_29 (by decide) (fun c29 => ?_) (fun c29 => ?_)
    · exact absurd c29 (by decide)
    · refine G_iconst (v := (-1)) dX8_load_32 (by decide) ?_
      refine G_iret dX8_load_33 rfl rfl (Nat.le_of_ble_eq_true rfl) (Nat.le_of_ble_eq_true rfl) ?_
      exact h M2 g2 fT
end CTXS
