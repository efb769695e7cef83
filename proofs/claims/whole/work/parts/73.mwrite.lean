/-! ===== HomeworkBarterModel: texts, undo, saved states, output ===== -/
section MSAVE
variable {E : Ed} {M M' : Mm} {P : Res → Mm → Prop} {A B : Ab} {o : Nat} {g : Gs} {a b' : Nat} {L W : List Int32}
theorem up_ft {k j p t t' j' p' : Nat} {v : Int32} (h : t' ≠ t) : (M.up k j p t v).1 k j' p' t' = M.1 k j' p' t' := by
  show mU M.1 k j p t v k j' p' t' = _
  unfold mU
  exact if_neg (fun q => h q.2.2.2)
/-- changed: field a of the model, array b' -/
def Fq (a b' : Nat) (M M' : Mm) : Prop := M'.2 = M.2 ∧ ∀ k j p t, ¬ (k = 20 ∧ t = a) → k ≠ b' → M'.1 k j p t = M.1 k j p t
theorem Fq.rfl : Fq a b' M M := ⟨Eq.refl _, fun _ _ _ _ _ _ => Eq.refl _⟩
theorem Fq.trans {M'' : Mm} (h : Fq a b' M M') (h2 : Fq a b' M' M'') : Fq a b' M M'' := ⟨h2.1.trans h.1, fun k j p t q r => (h2.2 k j p t q r).trans (h.2 k j p t q r)⟩
theorem Fq.upA {v : Int32} (h : Fq a b' M M') : Fq a b' M (M'.up 20 0 0 a v) := ⟨h.1, fun k j p t q r => by
  rw [← h.2 k j p t q r]
  by_cases e : k = 20
  · exact (by subst e; exact up_ft (fun z => q ⟨Eq.refl _, z⟩))
  · exact up_nk e⟩
theorem Fq.upB {v : Int32} {t : Nat} (h : Fq a b' M M') : Fq a b' M (M'.up b' 0 0 t v) := ⟨h.1, fun k j p t q r => (up_nk r).trans (h.2 k j p t q r)⟩
theorem Fq.mo (h : Fq a b' M M') (hb : 21 ≤ b' ∧ b' ≤ 26 ∧ b' ≠ 25 ∧ a ≠ 15) : Fm M M' := ⟨⟨h.1, fun k j p hn t => h.2 k j p t (fun q => hn ⟨by omega, by omega, by omega⟩) (fun q => hn ⟨by omega, by omega, by omega⟩)⟩, h.2 20 0 0 15 (fun q => hb.2.2.2 q.2.symm) (by omega)⟩
theorem MG.wr (h : MG M g) (f : Fq 17 26 M M') (hW : MW M' W) : MG M' (setW g W) := by
  obtain ⟨a, b, ⟨c1, c2, c3⟩, d, r, ⟨i1, i2, i3⟩, ⟨j1, j2⟩, k⟩ := h
  have e : ∀ k t, k ≠ 20 → k ≠ 26 → M'.1 k 0 0 t = M.1 k 0 0 t := fun k t h1 h2 => f.2 k 0 0 t (fun q => h1 q.1) h2
  have e20 : ∀ t, t ≠ 17 → M'.1 20 0 0 t = M.1 20 0 0 t := fun t ht => f.2 20 0 0 t (fun q => ht q.2) (by decide)
  have e21 : ∀ t, M'.1 21 0 0 t = M.1 21 0 0 t := fun t => e 21 t (by decide) (by decide)
  refine ⟨⟨(e20 3 (by decide)).trans a.1, a.2⟩, b.keep e21, ⟨c1, (e20 4 (by decide)).trans c2, fun i hi => (c3 i hi).keep e21⟩, fun s hs => ?_, fun q r1 r2 => (e 23 q (by decide) (by decide)).trans (r q r1 r2), ⟨(e20 7 (by decide)).trans i1, i2, fun k hk => (e 24 k (by decide) (by decide)).trans (i3 k hk)⟩, ⟨(e20 8 (by decide)).trans j1, (e20 9 (by decide)).trans j2⟩, hW⟩
  rcases d s hs with ⟨x, y⟩ | ⟨B, x, y, z⟩
  · exact Or.inl ⟨x, (e 22 s (by decide) (by decide)).trans y⟩
  · exact Or.inr ⟨B, x, (e 22 s (by decide) (by decide)).trans y, z.keep e21⟩
theorem MG.tx (h : MG M g) (f : Fq 7 24 M M') (hT : MT M' L) : MG M' (setL g L) := by
  obtain ⟨a, b, ⟨c1, c2, c3⟩, d, r, i, ⟨j1, j2⟩, k1, k2, k3⟩ := h
  have e : ∀ k t, k ≠ 20 → k ≠ 24 → M'.1 k 0 0 t = M.1 k 0 0 t := fun k t h1 h2 => f.2 k 0 0 t (fun q => h1 q.1) h2
  have e20 : ∀ t, t ≠ 7 → M'.1 20 0 0 t = M.1 20 0 0 t := fun t ht => f.2 20 0 0 t (fun q => ht q.2) (by decide)
  have e21 : ∀ t, M'.1 21 0 0 t = M.1 21 0 0 t := fun t => e 21 t (by decide) (by decide)
  refine ⟨⟨(e20 3 (by decide)).trans a.1, a.2⟩, b.keep e21, ⟨c1, (e20 4 (by decide)).trans c2, fun i hi => (c3 i hi).keep e21⟩, fun s hs => ?_, fun q r1 r2 => (e 23 q (by decide) (by decide)).trans (r q r1 r2), hT, ⟨(e20 8 (by decide)).trans j1, (e20 9 (by decide)).trans j2⟩, (e20 17 (by decide)).trans k1, k2, fun k hk => (e 26 k (by decide) (by decide)).trans (k3 k hk)⟩
  rcases d s hs with ⟨x, y⟩ | ⟨B, x, y, z⟩
  · exact Or.inl ⟨x, (e 22 s (by decide) (by decide)).trans y⟩
  · exact Or.inr ⟨B, x, (e 22 s (by decide) (by decide)).trans y, z.keep e21⟩
theorem getD_app {L : List Int32} {v : Int32} {k : Nat} : (L ++ [v]).getD k 0 = if k = L.length then v else L.getD k 0 := by
  rw [List.getD_eq_getElem?_getD, List.getD_eq_getElem?_getD]
  by_cases q : k = L.length
  · rw [if_pos q, q]
    simp
  · rw [if_neg q]
    by_cases z : k < L.length
    · rw [List.getElem?_append_left z]
    · rw [List.getElem?_eq_none (by rw [List.length_append]; show L.length + 1 ≤ k; omega), List.getElem?_eq_none (by omega)]
-- what is written
theorem s_X9_says {v : Int32} (hW : MW M W) (hl : W.length < 240) (h : ∀ M', MW M' (W ++ [v]) → Fq 17 26 M M' → P (.inl none) M') : Sp E yX9_says cX9_says zX9_says [.ref (ad E 20 0 0), .int v] M P := by
  obtain ⟨w1, w2, w3⟩ := hW
  refine Sp_of (own := RX9) (by decide) rfl rfl (Nat.le_of_ble_eq_true rfl) (fun C => ?_)
  refine G_aload_n dX9_says_0 rfl ?_
  refine gf_X9_30 dX9_says_1  ?_
  refine G_aload_n dX9_says_4 rfl ?_
  refine gf_X9_370 dX9_says_5  ?_
  refine G_iload_n dX9_says_8 rfl ?_
  refine G_iast dX9_says_9 ⟨by decide, rfl, rfl⟩ (fun _ => rfl) w1 (show W.length < 240 by omega) (by decide) ?_
  refine G_aload_n dX9_says_10 rfl ?_
  refine G_dup dX9_says_11 rfl ?_
  refine gf_X9_370 dX9_says_12  ?_
  rw [show (M.up 26 0 0 W.length v).1 20 0 0 17 = nI W.length from (up_nk (by decide)).trans w1]
  refine G_iconst (v := 1) dX9_says_15 (by decide) ?_
  refine G_iadd dX9_says_16 ?_
  rw [show nI W.length + (1 : Int32) = nI (W.length + 1) from nI_add _ 1]
  refine pf_X9_370 dX9_says_17  ?_
  refine G_vret dX9_says_20 rfl (Nat.le_of_ble_eq_true rfl) (Nat.le_of_ble_eq_true rfl) ?_
  refine h _ ⟨?_, by rw [List.length_append]; show W.length + 1 ≤ 240; omega, fun k hk => ?_⟩ (Fq.rfl.upB.upA)
  · rw [List.length_append]
    exact up_at
  · rw [List.length_append] at hk
    have hk : k < W.length + 1 := hk
    rw [getD_app, up_nk (by decide)]
    by_cases q : k = W.length
    · rw [if_pos q, q]
      exact up_at
    · rw [if_neg q, up_nt q]
      exact w3 k (by omega)
theorem s_X9_saysNumber {v : Int32} (hW : MW M W) (hl : W.length < 239) (h : ∀ M', MW M' (W ++ num2 v) → Fq 17 26 M M' → P (.inl none) M') : Sp E yX9_saysNumber cX9_saysNumber zX9_saysNumber [.ref (ad E 20 0 0), .int v] M P := by
  unfold num2 at h
  refine Sp_of (own := RX9) (by decide) rfl rfl (Nat.le_of_ble_eq_true rfl) (fun C => ?_)
  refine G_iload_n dX9_saysNumber_0 rfl ?_
  refine G_bipush (v := 9) dX9_saysNumber_1 (by decide) ?_
  refine G_icmp_le (tgt := 17) dX9_saysNumber_3 (by decide) (fun c3 => ?_) (fun c3 => ?_)
  · rw [if_neg (Int32.not_lt.mpr c3)] at h
    refine G_aload_n dX9_saysNumber_17 rfl ?_
    refine G_bipush (v := 48) dX9_saysNumber_18 (by decide) ?_
    refine G_iload_n dX9_saysNumber_20 rfl ?_
    refine G_bipush (v := 10) dX9_saysNumber_21 (by decide) ?_
    refine G_irem dX9_saysNumber_23 (by decide) ?_
    refine G_iadd dX9_saysNumber_24 ?_
    refine cv_X9_373 (cs' := 0) (ss' := 0) dX9_saysNumber_25  (Nat.le_of_ble_eq_true rfl) (Nat.le_of_ble_eq_true rfl) (Nat.le_of_ble_eq_true rfl) rfl rfl (Nat.le_of_ble_eq_true rfl) (Nat.le_of_ble_eq_true rfl) rfl ?_
    refine s_X9_says hW (by omega) (fun M1 w1 f1 => hGo_v ?_)
    refine G_vret dX9_saysNumber_28 rfl (Nat.le_of_ble_eq_true rfl) (Nat.le_of_ble_eq_true rfl) ?_
    exact h M1 w1 f1
  · rw [if_pos (Int32.not_le.mp c3)] at h
    refine G_aload_n dX9_saysNumber_6 rfl ?_
    refine G_bipush (v := 48) dX9_saysNumber_7 (by decide) ?_
    refine G_iload_n dX9_saysNumber_9 rfl ?_
    refine G_bipush (v := 10) dX9_saysNumber_10 (by decide) ?_
    refine G_idiv dX9_saysNumber_12 (by decide) ?_
    refine G_iadd dX9_saysNumber_13 ?_
    refine cv_X9_373 (cs' := 0) (ss' := 0) dX9_saysNumber_14  (Nat.le_of_ble_eq_true rfl) (Nat.le_of_ble_eq_true rfl) (Nat.le_of_ble_eq_true rfl) rfl rfl (Nat.le_of_ble_eq_true rfl) (Nat.le_of_ble_eq_true rfl) rfl ?_
    refine s_X9_says hW (by omega) (fun M1 w1 f1 => hGo_v ?_)
    refine G_aload_n dX9_saysNumber_17 rfl ?_
    refine G_bipush (v := 48) dX9_saysNumber_18 (by decide) ?_
    refine G_iload_n dX9_saysNumber_20 rfl ?_
    refine G_bipush (v := 10) dX9_saysNumber_21 (by decide) ?_
    refine G_irem dX9_saysNumber_23 (by decide) ?_
    refine G_iadd dX9_saysNumber_24 ?_
    refine cv_X9_373 (cs' := 0) (ss' := 0) dX9_saysNumber_25  (Nat.le_of_ble_eq_true rfl) (Nat.le_of_ble_eq_true rfl) (Nat.le_of_ble_eq_true rfl) rfl rfl (Nat.le_of_ble_eq_true rfl) (Nat.le_of_ble_eq_true rfl) rfl ?_
    refine s_X9_says w1 (by rw [List.length_append]; show _ + 1 < 240; omega) (fun M2 w2 f2 => hGo_v ?_)
    rw [List.append_assoc] at w2
    refine G_vret dX9_saysNumber_28 rfl (Nat.le_of_ble_eq_true rfl) (Nat.le_of_ble_eq_true rfl) ?_
    exact h M2 w2 (f1.trans f2)
theorem mkW_s {L : List Int32} {i : Nat} (hi : i < L.length) : mkW (L.take (i + 1)) = mkW (L.take i) ++ [97 + L.getD i 0] := by
  unfold mkW
  rw [take_s hi, List.map_append]
  rfl
theorem s_X9_saysSatchel {p s : Nat} (hR : Ro M 0) (hA : MR M 0 A) (hp : p < A.n) (hs : s < 2) (hW : MW M W) (hl : W.length ≤ 200) (h : ∀ M', MW M' (W ++ mkW (A.s (2 * p + s))) → Fq 17 26 M M' → P (.inl none) M') : Sp E yX9_saysSatchel cX9_saysSatchel zX9_saysSatchel [.ref (ad E 20 0 0), .int (nI p), .int (nI s)] M P := by
  have h12 := hA.n12
  have l20 := hA.l20 hp hs
  have ka : ∀ {M1 : Mm}, Fq 17 26 M M1 → Ro M1 0 ∧ MR M1 0 A := fun f => ⟨⟨(f.2 20 0 0 3 (fun q => absurd q.2 (by decide)) (by decide)).trans hR.1, hR.2⟩, hA.keep (fun t => f.2 21 0 0 t (fun q => absurd q.1 (by decide)) (by decide))⟩
  refine Sp_of (own := RX9) (by decide) rfl rfl (Nat.le_of_ble_eq_true rfl) (fun C => ?_)
  refine G_iconst (v := 0) dX9_saysSatchel_0 (by decide) ?_
  refine G_istore_n dX9_saysSatchel_1 (Nat.le_of_ble_eq_true rfl) ?_
  refine G_lv (lv' := [(0, .ref (ad E 20 0 0)), (1, .int (nI p)), (2, .int (nI s)), (3, .int (nI 0))]) ⟨rfl, rfl, rfl, rfl, trivial⟩ ?_
  refine up0 (c := (A.s (2 * p + s)).length) (H := fun i => ∀ M1, MW M1 (W ++ mkW ((A.s (2 * p + s)).take i)) → Fq 17 26 M M1 → G E C RX9 cX9_saysSatchel zX9_saysSatchel P 0 0 M1 2 [(0, .ref (ad E 20 0 0)), (1, .int (nI p)), (2, .int (nI s)), (3, .int (nI i))] []) (fun M1 w1 f1 => ?_) (fun i hi ih M1 w1 f1 => ?_) M (by rw [List.take_zero]; rw [show mkW [] = [] from rfl, List.append_nil]; exact hW) Fq.rfl
  · obtain ⟨r1, a1⟩ := ka f1
    rw [List.take_length] at w1
    refine G_iload_n dX9_saysSatchel_2 rfl ?_
    refine G_aload_n dX9_saysSatchel_3 rfl ?_
    refine G_iload_n dX9_saysSatchel_4 rfl ?_
    refine G_iload_n dX9_saysSatchel_5 rfl ?_
    refine cv_X9_65 (cs' := 0) (ss' := 0) dX9_saysSatchel_6  (Nat.le_of_ble_eq_true rfl) (Nat.le_of_ble_eq_true rfl) (Nat.le_of_ble_eq_true rfl) rfl rfl (Nat.le_of_ble_eq_true rfl) (Nat.le_of_ble_eq_true rfl) rfl ?_
    refine s_X9_many r1 (by omega) hs (a1.many hp hs) (hGo_i ?_)
    refine G_icmp_ge (tgt := 32) dX9_saysSatchel_9 (by decide) (fun c9 => ?_) (fun c9 => ?_)
    · refine G_vret dX9_saysSatchel_32 rfl (Nat.le_of_ble_eq_true rfl) (Nat.le_of_ble_eq_true rfl) ?_
      exact h M1 w1 f1
    · exact absurd (Int32.le_refl _) c9
  · obtain ⟨r1, a1⟩ := ka f1
    refine G_iload_n dX9_saysSatchel_2 rfl ?_
    refine G_aload_n dX9_saysSatchel_3 rfl ?_
    refine G_iload_n dX9_saysSatchel_4 rfl ?_
    refine G_iload_n dX9_saysSatchel_5 rfl ?_
    refine cv_X9_65 (cs' := 0) (ss' := 0) dX9_saysSatchel_6  (Nat.le_of_ble_eq_true rfl) (Nat.le_of_ble_eq_true rfl) (Nat.le_of_ble_eq_true rfl) rfl rfl (Nat.le_of_ble_eq_true rfl) (Nat.le_of_ble_eq_true rfl) rfl ?_
    refine s_X9_many r1 (by omega) hs (a1.many hp hs) (hGo_i ?_)
    refine G_icmp_ge (tgt := 32) dX9_saysSatchel_9 (by decide) (fun c9 => ?_) (fun c9 => ?_)
    · exact absurd c9 (nI_ge hi (by omega))
    · refine G_aload_n dX9_saysSatchel_12 rfl ?_
      refine G_bipush (v := 97) dX9_saysSatchel_13 (by decide) ?_
      refine G_aload_n dX9_saysSatchel_15 rfl ?_
      refine G_iload_n dX9_saysSatchel_16 rfl ?_
      refine G_iload_n dX9_saysSatchel_17 rfl ?_
      refine G_iload_n dX9_saysSatchel_18 rfl ?_
      refine cv_X9_71 (cs' := 0) (ss' := 0) dX9_saysSatchel_19  (Nat.le_of_ble_eq_true rfl) (Nat.le_of_ble_eq_true rfl) (Nat.le_of_ble_eq_true rfl) rfl rfl (Nat.le_of_ble_eq_true rfl) (Nat.le_of_ble_eq_true rfl) rfl ?_
      refine s_X9_makerAt r1 (by omega) hs (by omega) (a1.mk hp hs hi) (hGo_i ?_)
      refine G_iadd dX9_saysSatchel_22 ?_
      refine cv_X9_373 (cs' := 0) (ss' := 0) dX9_saysSatchel_23  (Nat.le_of_ble_eq_true rfl) (Nat.le_of_ble_eq_true rfl) (Nat.le_of_ble_eq_true rfl) rfl rfl (Nat.le_of_ble_eq_true rfl) (Nat.le_of_ble_eq_true rfl) rfl ?_
      refine s_X9_says w1 (by rw [List.length_append, mkW_len, List.length_take]; omega) (fun M2 w2 f2 => hGo_v ?_)
      rw [List.append_assoc, ← mkW_s hi] at w2
      refine G_iinc (v := 1) dX9_saysSatchel_26 rfl (Nat.le_of_ble_eq_true rfl) (by decide) ?_
      refine G_goto (tgt := 2) dX9_saysSatchel_29 (by decide) ?_
      exact G_lv2 (ih M2 w2 (f1.trans f2)) ⟨rfl, rfl, rfl, lvi (nI_1 i), trivial⟩
theorem s_X9_saysDebt {i : Nat} (hR : Ro M 0) (hA : MR M 0 A) (hi : i < A.d.length) (hW : MW M W) (hl : W.length ≤ 230) (h : ∀ M', MW M' (W ++ dbW A.d i) → Fq 17 26 M M' → P (.inl none) M') : Sp E yX9_saysDebt cX9_saysDebt zX9_saysDebt [.ref (ad E 20 0 0), .int (nI i)] M P := by
  have h30 := hA.d30
  have ka : ∀ {M1 : Mm}, Fq 17 26 M M1 → Ro M1 0 ∧ MR M1 0 A := fun f => ⟨⟨(f.2 20 0 0 3 (fun q => absurd q.2 (by decide)) (by decide)).trans hR.1, hR.2⟩, hA.keep (fun t => f.2 21 0 0 t (fun q => absurd q.1 (by decide)) (by decide))⟩
  refine Sp_of (own := RX9) (by decide) rfl rfl (Nat.le_of_ble_eq_true rfl) (fun C => ?_)
  refine G_aload_n dX9_saysDebt_0 rfl ?_
  refine G_bipush (v := 32) dX9_saysDebt_1 (by decide) ?_
  refine cv_X9_373 (cs' := 0) (ss' := 0) dX9_saysDebt_3  (Nat.le_of_ble_eq_true rfl) (Nat.le_of_ble_eq_true rfl) (Nat.le_of_ble_eq_true rfl) rfl rfl (Nat.le_of_ble_eq_true rfl) (Nat.le_of_ble_eq_true rfl) rfl ?_
  refine s_X9_says hW (by omega) (fun M1 w1 f1 => hGo_v ?_)
  obtain ⟨r1, a1⟩ := ka f1
  refine G_aload_n dX9_saysDebt_6 rfl ?_
  refine G_bipush (v := 97) dX9_saysDebt_7 (by decide) ?_
  refine G_aload_n dX9_saysDebt_9 rfl ?_
  refine G_iload_n dX9_saysDebt_10 rfl ?_
  refine G_iconst (v := 1) dX9_saysDebt_11 (by decide) ?_
  refine cv_X9_84 (cs' := 0) (ss' := 0) dX9_saysDebt_12  (Nat.le_of_ble_eq_true rfl) (Nat.le_of_ble_eq_true rfl) (Nat.le_of_ble_eq_true rfl) rfl rfl (Nat.le_of_ble_eq_true rfl) (Nat.le_of_ble_eq_true rfl) rfl ?_
  refine s_X9_db (t := 1) r1 (by omega) (by decide) (a1.d hi (by decide)) (hGo_i ?_)
  refine G_iadd dX9_saysDebt_15 ?_
  refine cv_X9_373 (cs' := 0) (ss' := 0) dX9_saysDebt_16  (Nat.le_of_ble_eq_true rfl) (Nat.le_of_ble_eq_true rfl) (Nat.le_of_ble_eq_true rfl) rfl rfl (Nat.le_of_ble_eq_true rfl) (Nat.le_of_ble_eq_true rfl) rfl ?_
  refine s_X9_says w1 (by rw [List.length_append]; show _ + 1 < 240; omega) (fun M2 w2 f2 => hGo_v ?_)
  have f2 := f1.trans f2
  obtain ⟨r2, a2⟩ := ka f2
  refine G_aload_n dX9_saysDebt_19 rfl ?_
  refine G_aload_n dX9_saysDebt_20 rfl ?_
  refine G_iload_n dX9_saysDebt_21 rfl ?_
  refine G_iconst (v := 2) dX9_saysDebt_22 (by decide) ?_
  refine cv_X9_84 (cs' := 0) (ss' := 0) dX9_saysDebt_23  (Nat.le_of_ble_eq_true rfl) (Nat.le_of_ble_eq_true rfl) (Nat.le_of_ble_eq_true rfl) rfl rfl (Nat.le_of_ble_eq_true rfl) (Nat.le_of_ble_eq_true rfl) rfl ?_
  refine s_X9_db (t := 2) r2 (by omega) (by decide) (a2.d hi (by decide)) (hGo_i ?_)
  have g36 : ∀ v : Int32, v = (if dg A.d i 2 = 0 then 115 else 118) → ∀ lv, lvf lv 0 = some (.ref (ad E 20 0 0)) → lvf lv 1 = some (.int (nI i)) → G E C RX9 cX9_saysDebt zX9_saysDebt P 0 0 M2 36 lv [.int v, .ref (ad E 20 0 0)] := fun v hv lv a0 a1' => by
    refine G_lv (lv' := [(0, .ref (ad E 20 0 0)), (1, .int (nI i))]) ⟨a0, a1', trivial⟩ ?_
    subst hv
    refine cv_X9_373 (cs' := 0) (ss' := 0) dX9_saysDebt_36  (Nat.le_of_ble_eq_true rfl) (Nat.le_of_ble_eq_true rfl) (Nat.le_of_ble_eq_true rfl) rfl rfl (Nat.le_of_ble_eq_true rfl) (Nat.le_of_ble_eq_true rfl) rfl ?_
    refine s_X9_says w2 (by rw [List.length_append, List.length_append]; show _ + 1 + 1 < 240; omega) (fun M3 w3 f3 => hGo_v ?_)
    have f3 := f2.trans f3
    obtain ⟨r3, a3⟩ := ka f3
    refine G_aload_n dX9_saysDebt_39 rfl ?_
    refine G_aload_n dX9_saysDebt_40 rfl ?_
    refine G_iload_n dX9_saysDebt_41 rfl ?_
    refine G_iconst (v := 3) dX9_saysDebt_42 (by decide) ?_
    refine cv_X9_84 (cs' := 0) (ss' := 0) dX9_saysDebt_43  (Nat.le_of_ble_eq_true rfl) (Nat.le_of_ble_eq_true rfl) (Nat.le_of_ble_eq_true rfl) rfl rfl (Nat.le_of_ble_eq_true rfl) (Nat.le_of_ble_eq_true rfl) rfl ?_
    refine s_X9_db (t := 3) r3 (by omega) (by decide) (a3.d hi (by decide)) (hGo_i ?_)
    refine cv_X9_376 (cs' := 0) (ss' := 0) dX9_saysDebt_46  (Nat.le_of_ble_eq_true rfl) (Nat.le_of_ble_eq_true rfl) (Nat.le_of_ble_eq_true rfl) rfl rfl (Nat.le_of_ble_eq_true rfl) (Nat.le_of_ble_eq_true rfl) rfl ?_
    refine s_X9_saysNumber w3 (by rw [List.length_append, List.length_append, List.length_append]; show _ + 1 + 1 + 1 < 239; omega) (fun M4 w4 f4 => hGo_v ?_)
    refine G_vret dX9_saysDebt_49 rfl (Nat.le_of_ble_eq_true rfl) (Nat.le_of_ble_eq_true rfl) ?_
    refine h M4 ?_ (f3.trans f4)
    rw [List.append_assoc, List.append_assoc, List.append_assoc] at w4
    exact w4
  refine G_if_ne (tgt := 34) dX9_saysDebt_26 (by decide) (fun c26 => ?_) (fun c26 => ?_)
  · refine G_bipush (v := 118) dX9_saysDebt_34 (by decide) ?_
    exact g36 _ (by rw [if_neg c26]) _ rfl rfl
  · refine G_bipush (v := 115) dX9_saysDebt_29 (by decide) ?_
    refine G_goto (tgt := 36) dX9_saysDebt_31 (by decide) ?_
    exact g36 _ (by rw [if_pos c26]) _ rfl rfl
theorem m_write {x : Int32} (hG : MG M g) (hO : Okg g) (h : ∀ M' v, MG M' (qWrite g x).1 → Fm M M' → M'.1 20 0 0 5 = nI (qWrite g x).2.1 → ((qWrite g x).2.1 = 0 → v = (qWrite g x).2.2) → P (.inl (some (.int v))) M') : Sp E yX9_write cX9_write zX9_write [.ref (ad E 20 0 0), .int x] M P := by
  unfold qWrite at h
  refine Sp_of (own := RX9) (by decide) rfl rfl (Nat.le_of_ble_eq_true rfl) (fun C => ?_)
  refine G_aload_n dX9_write_0 rfl ?_
  refine G_iconst (v := 0) dX9_write_1 (by decide) ?_
  refine pf_X9_41 dX9_write_2  ?_
  have hG1 : MG (M.up 20 0 0 5 0) g := hG.thr
  have hT : (M.up 20 0 0 5 0).1 20 0 0 5 = 0 := up_at
  have hF : Fm M (M.up 20 0 0 5 0) := Fm.rfl.up ⟨by decide, by decide⟩
  generalize M.up 20 0 0 5 0 = M1 at hG1 hT hF ⊢
  have hR := hG1.1
  have hA := hG1.2.1
  have h12 := hA.n12
  refine G_aload_n dX9_write_5 rfl ?_
  refine G_aload_n dX9_write_6 rfl ?_
  refine G_iload_n dX9_write_7 rfl ?_
  refine cv_X9_297 (cs' := 0) (ss' := 0) dX9_write_8  (Nat.le_of_ble_eq_true rfl) (Nat.le_of_ble_eq_true rfl) (Nat.le_of_ble_eq_true rfl) rfl rfl (Nat.le_of_ble_eq_true rfl) (Nat.le_of_ble_eq_true rfl) rfl ?_
  refine s_X9_isPupil hR hA (hGo_i ?_)
  by_cases q00 : inP g.A x
  rotate_left
  · rw [if_neg q00]
    refine G_iconst (v := 1) dX9_write_11 (by decide) ?_
    refine cv_X9_158 (cs' := 0) (ss' := 0) dX9_write_12  (Nat.le_of_ble_eq_true rfl) (Nat.le_of_ble_eq_true rfl) (Nat.le_of_ble_eq_true rfl) rfl rfl (Nat.le_of_ble_eq_true rfl) (Nat.le_of_ble_eq_true rfl) rfl ?_
    refine s_X9_holds0 hT (by decide) (hGo_i ?_)
    refine G_if_ne (tgt := 20) dX9_write_15 (by decide) (fun c15 => ?_) (fun c15 => ?_)
    · exact absurd rfl c15
    · refine G_iconst (v := 0) dX9_write_18 (by decide) ?_
      refine G_iret dX9_write_19 rfl rfl (Nat.le_of_ble_eq_true rfl) (Nat.le_of_ble_eq_true rfl) ?_
      rw [if_neg q00] at h
      exact h _ _ hG1.thr (hF.up ⟨by decide, by decide⟩) up_at (fun z => absurd z (Nat.succ_ne_zero _))
  rw [if_pos q00]
  refine G_iconst (v := 1) dX9_write_11 (by decide) ?_
  refine cv_X9_158 (cs' := 0) (ss' := 0) dX9_write_12  (Nat.le_of_ble_eq_true rfl) (Nat.le_of_ble_eq_true rfl) (Nat.le_of_ble_eq_true rfl) rfl rfl (Nat.le_of_ble_eq_true rfl) (Nat.le_of_ble_eq_true rfl) rfl ?_
  rw [if_pos q00] at h
  refine s_X9_holds1 hT (hGo_i ?_)
  refine G_if_ne (tgt := 20) dX9_write_15 (by decide) (fun c15 => ?_) (fun c15 => ?_)
  rotate_left
  · exact absurd c15 (by decide)
  obtain ⟨p, hp, rfl, ep⟩ := in_ix q00 (by omega)
  rw [ep] at h
  have h30 := hA.d30
  have l0 := hA.l20 hp (s := 0) (by decide)
  have l1 := hA.l20 hp (s := 1) (by decide)
  have ka : ∀ {M2 : Mm}, Fq 17 26 M1 M2 → Ro M2 0 ∧ MR M2 0 g.A := fun f => ⟨⟨(f.2 20 0 0 3 (fun q => absurd q.2 (by decide)) (by decide)).trans hR.1, hR.2⟩, hA.keep (fun t => f.2 21 0 0 t (fun q => absurd q.1 (by decide)) (by decide))⟩
  refine G_aload_n dX9_write_20 rfl ?_
  refine G_iconst (v := 0) dX9_write_21 (by decide) ?_
  refine pf_X9_370 dX9_write_22  ?_
  refine G_aload_n dX9_write_25 rfl ?_
  refine G_iload_n dX9_write_26 rfl ?_
  refine G_iconst (v := 0) dX9_write_27 (by decide) ?_
  refine cv_X9_379 (cs' := 0) (ss' := 0) dX9_write_28  (Nat.le_of_ble_eq_true rfl) (Nat.le_of_ble_eq_true rfl) (Nat.le_of_ble_eq_true rfl) rfl rfl (Nat.le_of_ble_eq_true rfl) (Nat.le_of_ble_eq_true rfl) rfl ?_
  have f0 : Fq 17 26 M1 (M1.up 20 0 0 17 0) := Fq.rfl.upA
  have w0 : MW (M1.up 20 0 0 17 0) [] := ⟨up_at, by decide, fun k hk => absurd hk (Nat.not_lt_zero k)⟩
  generalize M1.up 20 0 0 17 0 = M2 at f0 w0 ⊢
  obtain ⟨r0, a0⟩ := ka f0
  refine s_X9_saysSatchel (s := 0) r0 a0 hp (by decide) w0 (by decide) (fun M3 w3 f3 => hGo_v ?_)
  have f3 := f0.trans f3
  rw [List.nil_append] at w3
  refine G_aload_n dX9_write_31 rfl ?_
  refine G_bipush (v := 47) dX9_write_32 (by decide) ?_
  refine cv_X9_373 (cs' := 0) (ss' := 0) dX9_write_34  (Nat.le_of_ble_eq_true rfl) (Nat.le_of_ble_eq_true rfl) (Nat.le_of_ble_eq_true rfl) rfl rfl (Nat.le_of_ble_eq_true rfl) (Nat.le_of_ble_eq_true rfl) rfl ?_
  refine s_X9_says w3 (by rw [mkW_len]; omega) (fun M4 w4 f4 => hGo_v ?_)
  have f4 := f3.trans f4
  obtain ⟨r4, a4⟩ := ka f4
  refine G_aload_n dX9_write_37 rfl ?_
  refine G_iload_n dX9_write_38 rfl ?_
  refine G_iconst (v := 1) dX9_write_39 (by decide) ?_
  refine cv_X9_379 (cs' := 0) (ss' := 0) dX9_write_40  (Nat.le_of_ble_eq_true rfl) (Nat.le_of_ble_eq_true rfl) (Nat.le_of_ble_eq_true rfl) rfl rfl (Nat.le_of_ble_eq_true rfl) (Nat.le_of_ble_eq_true rfl) rfl ?_
  refine s_X9_saysSatchel (s := 1) r4 a4 hp (by decide) w4 (by rw [List.length_append, mkW_len]; show _ + 1 ≤ 200; omega) (fun M5 w5 f5 => hGo_v ?_)
  have f5 := f4.trans f5
  have lW : (mkW (g.A.s (2 * p + 0)) ++ [47] ++ mkW (g.A.s (2 * p + 1))).length ≤ 41 := by
    rw [List.length_append, List.length_append, mkW_len, mkW_len]
    show (g.A.s (2 * p + 0)).length + 1 + (g.A.s (2 * p + 1)).length ≤ 41
    omega
  generalize hX : mkW (g.A.s (2 * p + 0)) ++ [47] ++ mkW (g.A.s (2 * p + 1)) = X at w5 lW
  have hwr : wrV g.A p = X ++ dbsW g.A.d (nI p) g.A.d.length := by rw [← hX]; rfl
  rw [hwr] at h
  refine G_iconst (v := 0) dX9_write_43 (by decide) ?_
  refine G_istore_n dX9_write_44 (Nat.le_of_ble_eq_true rfl) ?_
  refine G_lv (lv' := [(0, .ref (ad E 20 0 0)), (1, .int (nI p)), (2, .int (nI 0))]) ⟨rfl, rfl, rfl, trivial⟩ ?_
  refine up0 (c := g.A.d.length) (H := fun i => ∀ M6, MW M6 (X ++ dbsW g.A.d (nI p) i) → Fq 17 26 M1 M6 → G E C RX9 cX9_write zX9_write P 0 0 M6 45 [(0, .ref (ad E 20 0 0)), (1, .int (nI p)), (2, .int (nI i))] []) (fun M6 w6 f6 => ?_) (fun i hi ih M6 w6 f6 => ?_) M5 (by rw [show dbsW g.A.d (nI p) 0 = [] from rfl, List.append_nil]; exact w5) f5
  · obtain ⟨r6, a6⟩ := ka f6
    refine G_iload_n dX9_write_45 rfl ?_
    refine G_aload_n dX9_write_46 rfl ?_
    refine G_bipush (v := 6) dX9_write_47 (by decide) ?_
    refine cv_X9_50 (cs' := 0) (ss' := 0) dX9_write_49  (Nat.le_of_ble_eq_true rfl) (Nat.le_of_ble_eq_true rfl) (Nat.le_of_ble_eq_true rfl) rfl rfl (Nat.le_of_ble_eq_true rfl) (Nat.le_of_ble_eq_true rfl) rfl ?_
    refine s_X9_get (w := 6) r6 (by decide) a6.dn (hGo_i ?_)
    refine G_icmp_ge (tgt := 76) dX9_write_52 (by decide) (fun c52 => ?_) (fun c52 => ?_)
    · refine G_aload_n dX9_write_76 rfl ?_
      refine gf_X9_370 dX9_write_77  ?_
      rw [w6.1]
      refine G_iret dX9_write_80 rfl rfl (Nat.le_of_ble_eq_true rfl) (Nat.le_of_ble_eq_true rfl) ?_
      exact h M6 _ (hG1.wr f6 w6) (hF.trans (f6.mo (by decide))) ((f6.2 20 0 0 5 (fun q => absurd q.2 (by decide)) (by decide)).trans hT) (fun _ => rfl)
    · exact absurd (Int32.le_refl _) c52
  · obtain ⟨r6, a6⟩ := ka f6
    have ld := dbsW_len (d := g.A.d) (x := nI p) i
    have eD : dbsW g.A.d (nI p) (i + 1) = dbsW g.A.d (nI p) i ++ (if dg g.A.d i 0 = nI p then dbW g.A.d i else []) := rfl
    refine G_iload_n dX9_write_45 rfl ?_
    refine G_aload_n dX9_write_46 rfl ?_
    refine G_bipush (v := 6) dX9_write_47 (by decide) ?_
    refine cv_X9_50 (cs' := 0) (ss' := 0) dX9_write_49  (Nat.le_of_ble_eq_true rfl) (Nat.le_of_ble_eq_true rfl) (Nat.le_of_ble_eq_true rfl) rfl rfl (Nat.le_of_ble_eq_true rfl) (Nat.le_of_ble_eq_true rfl) rfl ?_
    refine s_X9_get (w := 6) r6 (by decide) a6.dn (hGo_i ?_)
    refine G_icmp_ge (tgt := 76) dX9_write_52 (by decide) (fun c52 => ?_) (fun c52 => ?_)
    · exact absurd c52 (nI_ge hi (by omega))
    · refine G_aload_n dX9_write_55 rfl ?_
      refine G_iload_n dX9_write_56 rfl ?_
      refine G_iconst (v := 0) dX9_write_57 (by decide) ?_
      refine cv_X9_84 (cs' := 0) (ss' := 0) dX9_write_58  (Nat.le_of_ble_eq_true rfl) (Nat.le_of_ble_eq_true rfl) (Nat.le_of_ble_eq_true rfl) rfl rfl (Nat.le_of_ble_eq_true rfl) (Nat.le_of_ble_eq_true rfl) rfl ?_
      refine s_X9_db (t := 0) r6 (by omega) (by decide) (a6.d hi (by decide)) (hGo_i ?_)
      refine G_iload_n dX9_write_61 rfl ?_
      refine G_icmp_ne (tgt := 70) dX9_write_62 (by decide) (fun c62 => ?_) (fun c62 => ?_)
      · refine G_iinc (v := 1) dX9_write_70 rfl (Nat.le_of_ble_eq_true rfl) (by decide) ?_
        refine G_goto (tgt := 45) dX9_write_73 (by decide) ?_
        refine G_lv2 (ih M6 (by rw [eD, if_neg c62, List.append_nil]; exact w6) f6) ⟨rfl, rfl, lvi (nI_1 i), trivial⟩
      · refine G_aload_n dX9_write_65 rfl ?_
        refine G_iload_n dX9_write_66 rfl ?_
        refine cv_X9_382 (cs' := 0) (ss' := 0) dX9_write_67  (Nat.le_of_ble_eq_true rfl) (Nat.le_of_ble_eq_true rfl) (Nat.le_of_ble_eq_true rfl) rfl rfl (Nat.le_of_ble_eq_true rfl) (Nat.le_of_ble_eq_true rfl) rfl ?_
        refine s_X9_saysDebt r6 a6 hi w6 (by rw [List.length_append]; omega) (fun M7 w7 f7 => hGo_v ?_)
        refine G_iinc (v := 1) dX9_write_70 rfl (Nat.le_of_ble_eq_true rfl) (by decide) ?_
        refine G_goto (tgt := 45) dX9_write_73 (by decide) ?_
        refine G_lv2 (ih M7 (by rw [eD, if_pos c62, ← List.append_assoc]; exact w7) (f6.trans f7)) ⟨rfl, rfl, lvi (nI_1 i), trivial⟩
theorem m_output {x : Int32} (hG : MG M g) (h : ∀ M', MG M' g → Fm M M' → M'.1 20 0 0 5 = 0 → P (.inl (some (.int (atL g.W x)))) M') : Sp E yX9_output cX9_output zX9_output [.ref (ad E 20 0 0), .int x] M P := by
  refine Sp_of (own := RX9) (by decide) rfl rfl (Nat.le_of_ble_eq_true rfl) (fun C => ?_)
  refine G_aload_n dX9_output_0 rfl ?_
  refine G_iconst (v := 0) dX9_output_1 (by decide) ?_
  refine pf_X9_41 dX9_output_2  ?_
  have hG1 : MG (M.up 20 0 0 5 0) g := hG.thr
  have hT : (M.up 20 0 0 5 0).1 20 0 0 5 = 0 := up_at
  have hF : Fm M (M.up 20 0 0 5 0) := Fm.rfl.up ⟨by decide, by decide⟩
  generalize M.up 20 0 0 5 0 = M1 at hG1 hT hF ⊢
  have hR := hG1.1
  have hA := hG1.2.1
  have h12 := hA.n12
  obtain ⟨w1, w2, w3⟩ := hG1.2.2.2.2.2.2.2
  have h := h M1 hG1 hF hT
  unfold atL at h
  refine G_iload_n dX9_output_5 rfl ?_
  refine G_iconst (v := 0) dX9_output_6 (by decide) ?_
  refine G_aload_n dX9_output_7 rfl ?_
  refine gf_X9_370 dX9_output_8  ?_
  rw [w1]
  refine G_iconst (v := 1) dX9_output_11 (by decide) ?_
  refine G_isub dX9_output_12 ?_
  refine cv_X9_162 (cs' := 0) (ss' := 0) dX9_output_13  (Nat.le_of_ble_eq_true rfl) (Nat.le_of_ble_eq_true rfl) (Nat.le_of_ble_eq_true rfl) rfl rfl (Nat.le_of_ble_eq_true rfl) (Nat.le_of_ble_eq_true rfl) rfl ?_
  refine s_X9_in (hGo_i ?_)
  by_cases c : 0 ≤ x ∧ x < nI g.W.length
  · rw [if_pos ((inDm (by omega)).mpr c)]
    rw [if_neg (fun q => q.elim (Int32.not_lt.mpr c.1) (Int32.not_le.mpr c.2))] at h
    obtain ⟨k, hk, rfl, ek⟩ := in_ix c (by omega)
    rw [show (nI k).toNatClampNeg = k from nI_clamp (by omega)] at h
    refine G_if_eq (tgt := 28) dX9_output_16 (by decide) (fun c16 => ?_) (fun c16 => ?_)
    · exact absurd c16 (by decide)
    · refine G_aload_n dX9_output_19 rfl ?_
      refine gf_X9_30 dX9_output_20  ?_
      refine G_iload_n dX9_output_23 rfl ?_
      refine G_iald dX9_output_24 ⟨by decide, rfl, rfl⟩ rfl rfl (show k < 240 by omega) (by decide) ?_
      rw [w3 k hk]
      refine G_goto (tgt := 29) dX9_output_25 (by decide) ?_
      refine G_iret dX9_output_29 rfl rfl (Nat.le_of_ble_eq_true rfl) (Nat.le_of_ble_eq_true rfl) ?_
      exact h
  · rw [if_neg (fun q => c ((inDm (by omega)).mp q))]
    rw [if_pos (by
      rcases Int32.lt_or_le x 0 with q | q
      · exact Or.inl q
      · exact Or.inr (Int32.not_lt.mp (fun z => c ⟨q, z⟩)))] at h
    refine G_if_eq (tgt := 28) dX9_output_16 (by decide) (fun c16 => ?_) (fun c16 => ?_)
    · refine G_iconst (v := (-1)) dX9_output_28 (by decide) ?_
      refine G_iret dX9_output_29 rfl rfl (Nat.le_of_ble_eq_true rfl) (Nat.le_of_ble_eq_true rfl) ?_
      exact h
    · exact absurd rfl c16
end MSAVE
