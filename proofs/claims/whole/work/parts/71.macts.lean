/-! ===== HomeworkBarterModel: acts ===== -/
section MACTS
variable {E : Ed} {M M' : Mm} {P : Res → Mm → Prop} {A B : Ab} {o : Nat} {g : Gs}
theorem owed_lend {d : List De} {x y s m : Int32} (hl : d.length ≤ 30) : owedV (lendD d x y s m) x y s = lendV d x y s m := by
  rcases fnd_cases d x y s with ⟨e, hno⟩ | ⟨i, hi, e, hp, hno⟩
  · unfold lendD lendV
    rw [if_pos e, if_pos e]
    have ef : fnd (d ++ [(x, y, s, 0 + m)]) x y s = nI d.length := by
      unfold fnd
      refine first_at (by rw [List.length_append]; exact Nat.lt_succ_self _) (fun k hk => ?_) ?_
      · have q := hno k hk
        unfold fP at q ⊢
        rw [dg_app, dg_app, dg_app, if_neg (by omega), if_neg (by omega), if_neg (by omega)]
        exact q
      · unfold fP
        rw [dg_app, dg_app, dg_app, if_pos rfl, if_pos rfl, if_pos rfl]
        exact decide_eq_true ⟨rfl, rfl, rfl⟩
    unfold owedV
    rw [ef, if_neg (nI_nm1 (by omega)), nI_clamp (by omega), dg_app, if_pos rfl]
    rfl
  · unfold lendD lendV
    have ne : ¬ fnd d x y s = -1 := by rw [e]; exact nI_nm1 (by omega)
    rw [if_neg ne, if_neg ne, e, nI_clamp (by omega)]
    have ef : fnd (setP d i (dg d i 3 + m)) x y s = nI i := by
      unfold fnd
      refine first_at (by rw [setP_len]; exact hi) (fun k hk => ?_) ?_
      · have q := hno k hk
        unfold fP at q ⊢
        rw [dg_setP hi (by decide), dg_setP hi (by decide), dg_setP hi (by decide), if_neg (fun z => absurd z.2 (by decide)), if_neg (fun z => absurd z.2 (by decide)), if_neg (fun z => absurd z.2 (by decide))]
        exact q
      · unfold fP at hp ⊢
        rw [dg_setP hi (by decide), dg_setP hi (by decide), dg_setP hi (by decide), if_neg (fun z => absurd z.2 (by decide)), if_neg (fun z => absurd z.2 (by decide)), if_neg (fun z => absurd z.2 (by decide))]
        exact hp
    unfold owedV
    rw [ef, if_neg (nI_nm1 (by omega)), nI_clamp (by omega), dg_setP hi (by decide), if_pos ⟨rfl, rfl⟩]
theorem owed_pay {n k : Nat} {d : List De} {x y s : Int32} {i : Nat} (h : dOk n d) (hi : i < d.length) (e : fnd d x y s = nI i) (hk : k ≤ 20) (hc : ¬ owedV d x y s < nI k) : owedV (payD d x y s (nI k)) x y s = payV d x y s (nI k) := by
  have h30 := h.1
  have eo := owedV_at h hi e
  obtain ⟨w, w1, w2, ew⟩ := (h.2.1 i hi).2.2.2
  rw [eo, ew] at hc
  have kw : k ≤ w := by
    rcases Nat.lt_or_ge w k with q | q
    · exact absurd (nI_lt q (by omega)) hc
    · exact q
  have ep : payV d x y s (nI k) = nI (w - k) := by
    unfold payV
    rw [e, nI_clamp (by omega), ew]
    exact nI_subN kw
  unfold payD
  rw [ep, e, nI_clamp (by omega)]
  rcases fnd_cases d x y s with ⟨e2, hno⟩ | ⟨i2, hi2, e2, hp, hno⟩
  · exact absurd (e.symm.trans e2) (nI_nm1 (by omega))
  have ii : i2 = i := (nI_eq (by omega) (by omega)).mp (e2.symm.trans e)
  subst ii
  by_cases q : nI (w - k) ≤ 0
  · rw [if_pos q]
    have z : w - k = 0 := by
      rcases Nat.eq_zero_or_pos (w - k) with z | z
      · exact z
      · exact absurd q (nI_ge (a := 0) z (by omega))
    rw [z]
    have ef : fnd ((setP d i2 (nI 0)).eraseIdx i2) x y s = -1 := by
      unfold fnd
      refine first_none (fun j hj => ?_)
      rw [List.length_eraseIdx, setP_len, if_pos hi2] at hj
      unfold fP
      rw [dg_erase, dg_erase, dg_erase]
      by_cases c : j < i2
      · rw [if_pos c, if_pos c, if_pos c, dg_setP hi2 (by decide), dg_setP hi2 (by decide), dg_setP hi2 (by decide), if_neg (fun z => absurd z.2 (by decide)), if_neg (fun z => absurd z.2 (by decide)), if_neg (fun z => absurd z.2 (by decide))]
        exact hno j c
      · rw [if_neg c, if_neg c, if_neg c, dg_setP hi2 (by decide), dg_setP hi2 (by decide), dg_setP hi2 (by decide), if_neg (fun z => absurd z.2 (by decide)), if_neg (fun z => absurd z.2 (by decide)), if_neg (fun z => absurd z.2 (by decide))]
        refine decide_eq_false (fun z => ?_)
        have hp := of_decide_eq_true hp
        have := h.2.2 (j + 1) i2 (by omega) hi2 (z.1.trans hp.1.symm) (z.2.1.trans hp.2.1.symm) (z.2.2.trans hp.2.2.symm)
        omega
    unfold owedV
    rw [if_pos ef]
    rfl
  · rw [if_neg q]
    have ef : fnd (setP d i2 (nI (w - k))) x y s = nI i2 := by
      unfold fnd
      refine first_at (by rw [setP_len]; exact hi2) (fun k hk => ?_) ?_
      · have q := hno k hk
        unfold fP at q ⊢
        rw [dg_setP hi2 (by decide), dg_setP hi2 (by decide), dg_setP hi2 (by decide), if_neg (fun z => absurd z.2 (by decide)), if_neg (fun z => absurd z.2 (by decide)), if_neg (fun z => absurd z.2 (by decide))]
        exact q
      · unfold fP at hp ⊢
        rw [dg_setP hi2 (by decide), dg_setP hi2 (by decide), dg_setP hi2 (by decide), if_neg (fun z => absurd z.2 (by decide)), if_neg (fun z => absurd z.2 (by decide)), if_neg (fun z => absurd z.2 (by decide))]
        exact hp
    unfold owedV
    rw [ef, if_neg (nI_nm1 (by omega)), nI_clamp (by omega), dg_setP hi2 (by decide), if_pos ⟨rfl, rfl⟩]
-- keeping
def Sh (i : Nat) (M M' : Mm) : Prop := M'.2 = M.2 ∧ (∀ k j p, k ≠ 21 → ∀ t, M'.1 k j p t = M.1 k j p t) ∧ ∀ r k, k < 761 → cl M' r k = if 1 ≤ r ∧ r < i then cl M (r + 1) k else cl M r k
theorem MG.shift (h : MG M g) (hU : g.U.length = 6) (s : Sh 6 M M') : MG (M'.up 20 0 0 4 5) (g.A, g.U.tail, g.2.2) := by
  obtain ⟨a, b, ⟨c1, c2, c3⟩, d, f, ⟨i1, i2, i3⟩, ⟨j1, j2⟩, k1, k2, k3⟩ := h
  obtain ⟨s1, s2, s3⟩ := s
  have e : ∀ k t, k ≠ 21 → k ≠ 20 → (M'.up 20 0 0 4 5).1 k 0 0 t = M.1 k 0 0 t := fun k t hk h2 => (up_nk h2).trans (s2 k 0 0 hk t)
  have e20 : ∀ t, t ≠ 4 → (M'.up 20 0 0 4 5).1 20 0 0 t = M.1 20 0 0 t := fun t ht => (up_nt ht).trans (s2 20 0 0 (by decide) t)
  have ec : ∀ r k, k < 761 → cl (M'.up 20 0 0 4 5) r k = if 1 ≤ r ∧ r < 6 then cl M (r + 1) k else cl M r k := fun r k hk => (show cl (M'.up 20 0 0 4 5) r k = cl M' r k from up_nk (by decide)).trans (s3 r k hk)
  refine ⟨⟨(e20 3 (by decide)).trans a.1, a.2⟩, b.ext (fun k hk => (ec 0 k hk).trans (if_neg (by omega))), ⟨by show g.U.tail.length ≤ 6; rw [List.length_tail]; omega, ?_, fun i hi => ?_⟩, fun s hs => ?_, fun r r1 r2 => (e 23 r (by decide) (by decide)).trans (f r r1 r2), ⟨(e20 7 (by decide)).trans i1, i2, fun k hk => (e 24 k (by decide) (by decide)).trans (i3 k hk)⟩, ⟨(e20 8 (by decide)).trans j1, (e20 9 (by decide)).trans j2⟩, (e20 17 (by decide)).trans k1, k2, fun k hk => (e 26 k (by decide) (by decide)).trans (k3 k hk)⟩
  · show _ = nI g.U.tail.length
    rw [List.length_tail, hU]
    exact up_at
  · have hi : i < g.U.tail.length := hi
    rw [List.length_tail] at hi
    show MR _ (1 + i) (ug g.U.tail i)
    rw [ug_tail]
    exact (c3 (i + 1) (by omega)).ext (fun k hk => by rw [ec _ k hk, if_pos (by omega), show 1 + i + 1 = 1 + (i + 1) by omega])
  · rcases d s hs with ⟨x, y⟩ | ⟨B, x, y, z⟩
    · exact Or.inl ⟨x, (e 22 s (by decide) (by decide)).trans y⟩
    · exact Or.inr ⟨B, x, (e 22 s (by decide) (by decide)).trans y, z.ext (fun k hk => (ec _ k hk).trans (if_neg (by omega)))⟩
theorem MG.push (h : MG M g) (hn : g.U.length ≤ 5) (e2 : ∀ k, k < 761 → cl M' (1 + g.U.length) k = cl M 0 k) (f2 : Fo (1 + g.U.length) M M') : MG (M'.up 20 0 0 4 (nI (g.U.length + 1))) (g.A, g.U ++ [g.A], g.2.2) := by
  obtain ⟨a, b, ⟨c1, c2, c3⟩, d, f, ⟨i1, i2, i3⟩, ⟨j1, j2⟩, k1, k2, k3⟩ := h
  have e : ∀ k t, k ≠ 21 → k ≠ 20 → (M'.up 20 0 0 4 (nI (g.U.length + 1))).1 k 0 0 t = M.1 k 0 0 t := fun k t hk h2 => (up_nk h2).trans (f2.k hk 0 0 t)
  have e20 : ∀ t, t ≠ 4 → (M'.up 20 0 0 4 (nI (g.U.length + 1))).1 20 0 0 t = M.1 20 0 0 t := fun t ht => (up_nt ht).trans (f2.k (by decide) 0 0 t)
  have ek : ∀ t, (M'.up 20 0 0 4 (nI (g.U.length + 1))).1 21 0 0 t = M'.1 21 0 0 t := fun t => up_nk (by decide)
  refine ⟨⟨(e20 3 (by decide)).trans a.1, a.2⟩, (b.fo f2 (by omega)).keep ek, ⟨by show (g.U ++ [g.A]).length ≤ 6; rw [List.length_append]; show g.U.length + 1 ≤ 6; omega, ?_, fun i hi => ?_⟩, fun s hs => ?_, fun r r1 r2 => (e 23 r (by decide) (by decide)).trans (f r r1 r2), ⟨(e20 7 (by decide)).trans i1, i2, fun k hk => (e 24 k (by decide) (by decide)).trans (i3 k hk)⟩, ⟨(e20 8 (by decide)).trans j1, (e20 9 (by decide)).trans j2⟩, (e20 17 (by decide)).trans k1, k2, fun k hk => (e 26 k (by decide) (by decide)).trans (k3 k hk)⟩
  · show _ = nI (g.U ++ [g.A]).length
    rw [List.length_append]
    exact up_at
  · have hi : i < (g.U ++ [g.A]).length := hi
    rw [List.length_append] at hi
    have hi : i < g.U.length + 1 := hi
    show MR _ (1 + i) (ug (g.U ++ [g.A]) i)
    by_cases q : i = g.U.length
    · rw [q, ug_end]
      exact (b.ext e2).keep ek
    · rw [ug_app (by omega)]
      exact ((c3 i (by omega)).fo f2 (by omega)).keep ek
  · rcases d s hs with ⟨x, y⟩ | ⟨B, x, y, z⟩
    · exact Or.inl ⟨x, (e 22 s (by decide) (by decide)).trans y⟩
    · exact Or.inr ⟨B, x, (e 22 s (by decide) (by decide)).trans y, (z.fo f2 (by omega)).keep ek⟩
theorem s_X9_keeps (hG : MG M g) (h : ∀ M', MG M' (g.A, pushU g.U g.A, g.2.2) → Fm M M' → M'.1 20 0 0 5 = M.1 20 0 0 5 → P (.inl none) M') : Sp E yX9_keeps cX9_keeps zX9_keeps [.ref (ad E 20 0 0)] M P := by
  refine Sp_of (own := RX9) (by decide) rfl rfl (Nat.le_of_ble_eq_true rfl) (fun C => ?_)
  have k45 : ∀ (M1 : Mm) (V : List Ab), MG M1 (g.A, V, g.2.2) → V.length ≤ 5 → Fm M M1 → M1.1 20 0 0 5 = M.1 20 0 0 5 → V ++ [g.A] = pushU g.U g.A → G E C RX9 cX9_keeps zX9_keeps P 0 0 M1 45 [(0, .ref (ad E 20 0 0))] [] := fun M1 V hG1 hV hF hT eV => by
    have eU : M1.1 20 0 0 4 = nI V.length := hG1.2.2.1.2.1
    refine G_aload_n dX9_keeps_45 rfl ?_
    refine G_iconst (v := 0) dX9_keeps_46 (by decide) ?_
    refine G_iconst (v := 1) dX9_keeps_47 (by decide) ?_
    refine G_aload_n dX9_keeps_48 rfl ?_
    refine gf_X9_234 dX9_keeps_49  ?_
    rw [eU]
    refine G_iadd dX9_keeps_52 ?_
    rw [show (1 : Int32) + nI V.length = nI (1 + V.length) from nI_add 1 _]
    refine cv_X9_152 (cs' := 0) (ss' := 0) dX9_keeps_53  (Nat.le_of_ble_eq_true rfl) (Nat.le_of_ble_eq_true rfl) (Nat.le_of_ble_eq_true rfl) rfl rfl (Nat.le_of_ble_eq_true rfl) (Nat.le_of_ble_eq_true rfl) rfl ?_
    refine s_X9_copies (a := 0) (b' := 1 + V.length) (by decide) (by omega) (by omega) (fun M2 e2 f2 => hGo_v ?_)
    have eU2 : M2.1 20 0 0 4 = nI V.length := (f2.k (by decide) 0 0 4).trans eU
    refine G_aload_n dX9_keeps_56 rfl ?_
    refine G_dup dX9_keeps_57 rfl ?_
    refine gf_X9_234 dX9_keeps_58  ?_
    rw [eU2]
    refine G_iconst (v := 1) dX9_keeps_61 (by decide) ?_
    refine G_iadd dX9_keeps_62 ?_
    rw [show nI V.length + (1 : Int32) = nI (V.length + 1) from nI_add _ 1]
    refine pf_X9_234 dX9_keeps_63  ?_
    refine G_vret dX9_keeps_66 rfl (Nat.le_of_ble_eq_true rfl) (Nat.le_of_ble_eq_true rfl) ?_
    have hG3 : MG (M2.up 20 0 0 4 (nI (V.length + 1))) (g.A, V ++ [g.A], g.2.2) := MG.push (g := (g.A, V, g.2.2)) hG1 hV e2 f2
    rw [eV] at hG3
    exact h _ hG3 ((Fo.mo f2 hF).up ⟨by decide, by decide⟩) ((up_nt (by decide)).trans ((f2.k (by decide) 0 0 5).trans hT))
  have eU : M.1 20 0 0 4 = nI g.U.length := hG.2.2.1.2.1
  have lU := hG.2.2.1.1
  refine G_aload_n dX9_keeps_0 rfl ?_
  refine gf_X9_234 dX9_keeps_1  ?_
  rw [eU]
  refine G_bipush (v := 6) dX9_keeps_4 (by decide) ?_
  refine G_icmp_ne (tgt := 45) dX9_keeps_6 (by decide) (fun c6 => ?_) (fun c6 => ?_)
  · have q : g.U.length ≠ 6 := fun z => c6 (by rw [z]; rfl)
    have hG : MG M (g.A, g.U, g.2.2) := hG
    refine G_lv2 (k45 M g.U hG (by omega) Fm.rfl rfl ?_) ⟨rfl, trivial⟩
    unfold pushU
    rw [if_pos (by omega)]
  · have q : g.U.length = 6 := (nI_eq (b := 6) (by omega) (by decide)).mp c6
    refine G_iconst (v := 1) dX9_keeps_9 (by decide) ?_
    refine G_istore_n dX9_keeps_10 (Nat.le_of_ble_eq_true rfl) ?_
    refine G_lv (lv' := [(0, .ref (ad E 20 0 0)), (1, .int (nI (1 + 0)))]) ⟨rfl, rfl, trivial⟩ ?_
    refine up0 (c := 5) (H := fun i => ∀ M1, Sh (1 + i) M M1 → G E C RX9 cX9_keeps zX9_keeps P 0 0 M1 11 [(0, .ref (ad E 20 0 0)), (1, .int (nI (1 + i)))] []) (fun M1 s => ?_) (fun i hi ih M1 s => ?_) M ⟨rfl, fun k j p _ t => rfl, fun r k _ => (if_neg (by omega)).symm⟩
    · have e1 : M1.1 20 0 0 4 = 6 := (s.2.1 20 0 0 (by decide) 4).trans (eU.trans (by rw [q]; rfl))
      refine G_iload_n dX9_keeps_11 rfl ?_
      refine G_bipush (v := 6) dX9_keeps_12 (by decide) ?_
      refine G_icmp_ge (tgt := 35) dX9_keeps_14 (by decide) (fun c14 => ?_) (fun c14 => ?_)
      · refine G_aload_n dX9_keeps_35 rfl ?_
        refine G_dup dX9_keeps_36 rfl ?_
        refine gf_X9_234 dX9_keeps_37  ?_
        rw [e1]
        refine G_iconst (v := 1) dX9_keeps_40 (by decide) ?_
        refine G_isub dX9_keeps_41 ?_
        rw [show (6 : Int32) - 1 = 5 by decide]
        refine pf_X9_234 dX9_keeps_42  ?_
        have hG2 := MG.shift hG q s
        refine G_lv2 (k45 _ g.U.tail hG2 (by rw [List.length_tail]; omega) (Fm.up ⟨⟨s.1, fun k j p hn t => s.2.1 k j p (fun z => hn ⟨by omega, by omega, by omega⟩) t⟩, s.2.1 20 0 0 (by decide) 15⟩ ⟨by decide, by decide⟩) ((up_nt (by decide)).trans (s.2.1 20 0 0 (by decide) 5)) ?_) ⟨rfl, trivial⟩
        unfold pushU
        rw [if_neg (by omega)]
      · exact absurd (show (6 : Int32) ≤ nI (1 + 5) by decide) c14
    · refine G_iload_n dX9_keeps_11 rfl ?_
      refine G_bipush (v := 6) dX9_keeps_12 (by decide) ?_
      refine G_icmp_ge (tgt := 35) dX9_keeps_14 (by decide) (fun c14 => ?_) (fun c14 => ?_)
      · exact absurd (show nI 6 ≤ nI (1 + i) from c14) (nI_ge (by omega) (by decide))
      · refine G_aload_n dX9_keeps_17 rfl ?_
        refine G_iconst (v := 1) dX9_keeps_18 (by decide) ?_
        refine G_iload_n dX9_keeps_19 rfl ?_
        refine G_iadd dX9_keeps_20 ?_
        rw [show (1 : Int32) + nI (1 + i) = nI (1 + (1 + i)) from nI_add 1 _]
        refine G_iconst (v := 1) dX9_keeps_21 (by decide) ?_
        refine G_iload_n dX9_keeps_22 rfl ?_
        refine G_iadd dX9_keeps_23 ?_
        rw [show (1 : Int32) + nI (1 + i) = nI (1 + (1 + i)) from nI_add 1 _]
        refine G_iconst (v := 1) dX9_keeps_24 (by decide) ?_
        refine G_isub dX9_keeps_25 ?_
        rw [show nI (1 + (1 + i)) - (1 : Int32) = nI (1 + i) from (nI_subN (a := 1) (b := 1 + (1 + i)) (by omega)).trans (by rw [show 1 + (1 + i) - 1 = 1 + i by omega])]
        refine cv_X9_152 (cs' := 0) (ss' := 0) dX9_keeps_26  (Nat.le_of_ble_eq_true rfl) (Nat.le_of_ble_eq_true rfl) (Nat.le_of_ble_eq_true rfl) rfl rfl (Nat.le_of_ble_eq_true rfl) (Nat.le_of_ble_eq_true rfl) rfl ?_
        refine s_X9_copies (a := 1 + (1 + i)) (b' := 1 + i) (by omega) (by omega) (by omega) (fun M2 e2 f2 => hGo_v ?_)
        refine G_iinc (v := 1) dX9_keeps_29 rfl (Nat.le_of_ble_eq_true rfl) (by decide) ?_
        refine G_goto (tgt := 11) dX9_keeps_32 (by decide) ?_
        refine G_lv2 (ih M2 ⟨f2.1.trans s.1, fun k j p hk t => (f2.k hk j p t).trans (s.2.1 k j p hk t), fun r k hk => ?_⟩) ⟨rfl, lvi (nI_1 (1 + i)), trivial⟩
        by_cases c : r = 1 + i
        · subst c
          rw [e2 k hk, s.2.2 _ k hk, if_neg (by omega), if_pos (by omega), show 1 + (1 + i) = 1 + i + 1 by omega]
        · rw [f2.cl c hk, s.2.2 r k hk]
          by_cases z : 1 ≤ r ∧ r < 1 + i
          · rw [if_pos z, if_pos (by omega)]
          · rw [if_neg z, if_neg (by omega)]
theorem MG.refd {k : Nat} (h : MG M g) (hk : 1 ≤ k) (hk2 : k ≤ 10) : MG (M.up 23 0 0 k (M.1 23 0 0 k + 1)) (refG g (nI k)) := by
  obtain ⟨a, b, ⟨c1, c2, c3⟩, d, f, ⟨i1, i2, i3⟩, ⟨j1, j2⟩, k1, k2, k3⟩ := h
  have e : ∀ q t, q ≠ 23 → (M.up 23 0 0 k (M.1 23 0 0 k + 1)).1 q 0 0 t = M.1 q 0 0 t := fun q t hq => up_nk hq
  refine ⟨⟨(e 20 3 (by decide)).trans a.1, a.2⟩, b.keep (fun t => e 21 t (by decide)), ⟨c1, (e 20 4 (by decide)).trans c2, fun i hi => (c3 i hi).keep (fun t => e 21 t (by decide))⟩, fun s hs => ?_, fun r r1 r2 => ?_, ⟨(e 20 7 (by decide)).trans i1, i2, fun k hk => (e 24 k (by decide)).trans (i3 k hk)⟩, ⟨(e 20 8 (by decide)).trans j1, (e 20 9 (by decide)).trans j2⟩, (e 20 17 (by decide)).trans k1, k2, fun k hk => (e 26 k (by decide)).trans (k3 k hk)⟩
  · rcases d s hs with ⟨x, y⟩ | ⟨B, x, y, z⟩
    · exact Or.inl ⟨x, (e 22 s (by decide)).trans y⟩
    · exact Or.inr ⟨B, x, (e 22 s (by decide)).trans y, z.keep (fun t => e 21 t (by decide))⟩
  · show _ = if r = tn (nI k) then g.R r + 1 else g.R r
    rw [tn_nI (by omega)]
    by_cases q : r = k
    · subst q
      rw [if_pos rfl, up_at, f r r1 r2]
    · rw [if_neg q, up_nt q]
      exact f r r1 r2
theorem s_X9_refuses {r : Int32} (hG : MG M g) (hr : isR r) (h : ∀ M', MG M' (refG g r) → Fm M M' → M'.1 20 0 0 5 = M.1 20 0 0 5 → P (.inl (some (.int (-r)))) M') : Sp E yX9_refuses cX9_refuses zX9_refuses [.ref (ad E 20 0 0), .int r] M P := by
  obtain ⟨k, h1, h2, rfl⟩ := hr
  refine Sp_of (own := RX9) (by decide) rfl rfl (Nat.le_of_ble_eq_true rfl) (fun C => ?_)
  refine G_aload_n dX9_refuses_0 rfl ?_
  refine gf_X9_17 dX9_refuses_1  ?_
  refine G_iload_n dX9_refuses_4 rfl ?_
  refine G_dup2 dX9_refuses_5 rfl rfl ?_
  refine G_iald dX9_refuses_6 ⟨by decide, rfl, rfl⟩ rfl rfl (show k < 11 by omega) (by decide) ?_
  refine G_iconst (v := 1) dX9_refuses_7 (by decide) ?_
  refine G_iadd dX9_refuses_8 ?_
  refine G_iast dX9_refuses_9 ⟨by decide, rfl, rfl⟩ (fun _ => rfl) rfl (show k < 11 by omega) (by decide) ?_
  refine G_iload_n dX9_refuses_10 rfl ?_
  refine G_ineg dX9_refuses_11 ?_
  refine G_iret dX9_refuses_12 rfl rfl (Nat.le_of_ble_eq_true rfl) (Nat.le_of_ble_eq_true rfl) ?_
  exact h _ (hG.refd h1 h2) (Fm.rfl.up ⟨by decide, by decide, by decide, fun z => absurd z (by decide)⟩) (up_nk (by decide))
end MACTS
