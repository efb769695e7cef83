/-! ===== HomeworkBarterModel: load done ===== -/
section MLD2
variable {E : Ed} {M M' M0 M1 : Mm} {P : Res → Mm → Prop} {L : List Int32} {T T' : Tks} {A B : Ab} {g : Gs} {n : Nat}
theorem Fl.mo (h : Fl M M') : Fm M M' := ⟨⟨h.1, fun k j p hn t => h.2.1 k j p t (fun q => hn ⟨by omega, by omega, by omega⟩) (fun q => hn ⟨by omega, by omega, by omega⟩)⟩, h.2.1 20 0 0 15 (by decide) (fun q => by omega)⟩
def LdS (M0 M : Mm) (L : List Int32) (T : Tks) (A : Ab) (n : Nat) : Prop := Ro M 10 ∧ MT M L ∧ TX M L T ∧ MR M 10 A ∧ Zb M 10 n ∧ Fl M0 M
theorem LdS.fx (h : LdS M0 M L T A n) (x : TX M' L T') (f : Fx M M') : LdS M0 M' L T' A n := ⟨h.1.fx f, h.2.1.fx f, x, h.2.2.2.1.fx f, h.2.2.2.2.1.fx f, h.2.2.2.2.2.trans f.fl⟩
theorem LdS.lay {t : Nat} {r : Int32} (h : LdS M0 M L T A n) (ht : 2 ≤ t ∧ t ≤ 5) : LdS M0 (M.w 10 t r) L T (A.sG t r) n := by
  have f : Fo 10 M (M.w 10 t r) := Fo.rfl.w (by omega)
  exact ⟨h.1.w, h.2.1.fo f, h.2.2.1.fo f, h.2.2.2.1.wG (by omega), fun p a b u hu => (cl_n (by omega)).trans (h.2.2.2.2.1 p a b u hu), h.2.2.2.2.2.trans f.fl⟩
theorem open_eq {a b c d : Int32} : (((Ab0.sG 2 a).sG 3 b).sG 4 c).sG 5 d = openA a b c d Ab0 := by
  show ((0 : Nat), _, Ab0.f, Ab0.s, ([] : List De)) = ((0 : Nat), _, Ab0.f, Ab0.s, ([] : List De))
  congr 2
  funext t
  show (if t = 5 then d else if t = 4 then c else if t = 3 then b else if t = 2 then a else 0) = if t = 2 then a else if t = 3 then b else if t = 4 then c else if t = 5 then d else 0
  by_cases h2 : t = 2
  · subst h2
    rfl
  by_cases h3 : t = 3
  · subst h3
    rfl
  by_cases h4 : t = 4
  · subst h4
    rfl
  by_cases h5 : t = 5
  · subst h5
    rfl
  rw [if_neg h2, if_neg h2, if_neg h3, if_neg h3, if_neg h4, if_neg h4, if_neg h5]
theorem MG.load (h : MG M g) (f : Fl (M.up 20 0 0 3 10) M1) : MG ((M1.up 20 0 0 3 0).up 20 0 0 7 0) (g.A, g.U, g.S, g.R, [], (M1.1 20 0 0 8, M1.1 20 0 0 9), g.W) := by
  obtain ⟨a, b, ⟨c1, c2, c3⟩, d, r, i, j, k1, k2, k3⟩ := h
  have e : ∀ k t, k ≠ 20 → k ≠ 21 → ((M1.up 20 0 0 3 0).up 20 0 0 7 0).1 k 0 0 t = M.1 k 0 0 t := fun k t h1 h2 => (up_nk h1).trans ((up_nk h1).trans ((f.2.1 k 0 0 t h2 (fun q => h1 q.1)).trans (up_nk h1)))
  have e20 : ∀ t, (t = 4 ∨ t = 17) → ((M1.up 20 0 0 3 0).up 20 0 0 7 0).1 20 0 0 t = M.1 20 0 0 t := fun t ht => (up_nt (by omega)).trans ((up_nt (by omega)).trans ((f.2.1 20 0 0 t (by decide) (fun q => by omega)).trans (up_nt (by omega))))
  have er : ∀ {o : Nat} {X : Ab}, o < 10 → MR M o X → MR ((M1.up 20 0 0 3 0).up 20 0 0 7 0) o X := fun ho z => z.ext (fun k hk => (show cl ((M1.up 20 0 0 3 0).up 20 0 0 7 0) _ k = cl M1 _ k from (up_nk (by decide)).trans (up_nk (by decide))).trans ((f.2.2 _ (by omega)).trans (up_nk (by decide))))
  refine ⟨⟨(up_nt (by decide)).trans up_at, by decide⟩, er (by decide) b, ⟨c1, (e20 4 (Or.inl rfl)).trans c2, fun i hi => er (by have hi : i < g.U.length := hi; omega) (c3 i hi)⟩, fun s hs => ?_, fun q r1 r2 => (e 23 q (by decide) (by decide)).trans (r q r1 r2), ⟨up_at, Nat.zero_le _, fun k hk => absurd hk (Nat.not_lt_zero k)⟩, ⟨(up_nt (by decide)).trans (up_nt (by decide)), (up_nt (by decide)).trans (up_nt (by decide))⟩, (e20 17 (Or.inr rfl)).trans k1, k2, fun k hk => (e 26 k (by decide) (by decide)).trans (k3 k hk)⟩
  rcases d s hs with ⟨x, y⟩ | ⟨B, x, y, z⟩
  · exact Or.inl ⟨x, (e 22 s (by decide) (by decide)).trans y⟩
  · exact Or.inr ⟨B, x, (e 22 s (by decide) (by decide)).trans y, er (by omega) z⟩
theorem MG.nou (h : MG M g) : MG (M.up 20 0 0 4 0) (g.A, [], g.2.2) := by
  obtain ⟨a, b, ⟨c1, c2, c3⟩, d, r, ⟨i1, i2, i3⟩, ⟨j1, j2⟩, k1, k2, k3⟩ := h
  have e : ∀ k t, k ≠ 20 → (M.up 20 0 0 4 0).1 k 0 0 t = M.1 k 0 0 t := fun k t h1 => up_nk h1
  have e20 : ∀ t, t ≠ 4 → (M.up 20 0 0 4 0).1 20 0 0 t = M.1 20 0 0 t := fun t ht => up_nt ht
  have kk : ∀ {r : Nat} {X : Ab}, MR M r X → MR (M.up 20 0 0 4 0) r X := fun z => z.keep (fun t => up_nk (by decide))
  refine ⟨⟨(e20 3 (by decide)).trans a.1, a.2⟩, kk b, ⟨Nat.zero_le _, up_at, fun i hi => absurd hi (Nat.not_lt_zero i)⟩, fun t ht => ?_, fun q r1 r2 => (e 23 q (by decide)).trans (r q r1 r2), ⟨(e20 7 (by decide)).trans i1, i2, fun k hk => (e 24 k (by decide)).trans (i3 k hk)⟩, ⟨(e20 8 (by decide)).trans j1, (e20 9 (by decide)).trans j2⟩, (e20 17 (by decide)).trans k1, k2, fun k hk => (e 26 k (by decide)).trans (k3 k hk)⟩
  rcases d t ht with ⟨x, y⟩ | ⟨B, x, y, z⟩
  · exact Or.inl ⟨x, (e 22 t (by decide)).trans y⟩
  · exact Or.inr ⟨B, x, (e 22 t (by decide)).trans y, kk z⟩
theorem m_load (v : Int32) (hG : MG M g) (h : ∀ M', MG M' (sLoad g v Ab0).1 → Fm M M' → M'.1 20 0 0 5 = 0 → P (.inl (some (.int (sLoad g v Ab0).2))) M') : Sp E yX9_load cX9_load zX9_load [.ref (ad E 20 0 0)] M P := by
  have ew : hSb2 21 = hSb2 0 := by decide
  refine Sp_of (own := RX9) (by decide) rfl rfl (Nat.le_of_ble_eq_true rfl) (fun C => ?_)
  refine G_aload_n dX9_load_0 rfl ?_
  refine G_iconst (v := 0) dX9_load_1 (by decide) ?_
  refine pf_X9_41 dX9_load_2  ?_
  have hG1 : MG (M.up 20 0 0 5 0) g := hG.thr
  have hT : (M.up 20 0 0 5 0).1 20 0 0 5 = 0 := up_at
  have hF : Fm M (M.up 20 0 0 5 0) := Fm.rfl.up ⟨by decide, by decide⟩
  generalize M.up 20 0 0 5 0 = M1 at hG1 hT hF ⊢
  have hR := hG1.1
  have hA := hG1.2.1
  have h12 := hA.n12
  unfold sLoad at h
  refine G_aload_n dX9_load_5 rfl ?_
  refine G_bipush (v := 10) dX9_load_6 (by decide) ?_
  refine pf_X9_44 dX9_load_8  ?_
  refine G_iconst (v := 0) dX9_load_11 (by decide) ?_
  refine G_istore_n dX9_load_12 (Nat.le_of_ble_eq_true rfl) ?_
  have f2 : Fm M (M1.up 20 0 0 3 10) := hF.up ⟨by decide, by decide⟩
  have r2 : Ro (M1.up 20 0 0 3 10) 10 := ⟨up_at, by decide⟩
  have x2 : MT (M1.up 20 0 0 3 10) g.L := ⟨(up_nt (by decide)).trans hG1.2.2.2.2.2.1.1, hG1.2.2.2.2.2.1.2.1, fun k hk => (up_nk (by decide)).trans (hG1.2.2.2.2.2.1.2.2 k hk)⟩
  have g125 : ∀ M3 T3 A3, TX M3 g.L T3 → MR M3 10 A3 → Fl (M1.up 20 0 0 3 10) M3 → T3 = (setupV g.L v Ab0).1 → (T3.code = 0 → A3 = (setupV g.L v Ab0).2) → G E C RX9 cX9_load zX9_load P 0 0 M3 125 [(0, .ref (ad E 20 0 0))] [] := fun M3 T3 A3 x3 a3 f3 e3 ea => by
    have hG3 := hG1.load f3
    have hF3 : Fm M ((M3.up 20 0 0 3 0).up 20 0 0 7 0) := ((f2.trans f3.mo).up ⟨by decide, by decide⟩).up ⟨by decide, by decide⟩
    have hT3 : ((M3.up 20 0 0 3 0).up 20 0 0 7 0).1 20 0 0 5 = 0 := (up_nt (by decide)).trans ((up_nt (by decide)).trans ((f3.2.1 20 0 0 5 (by decide) (fun q => absurd q.2.1 (by decide))).trans ((up_nt (by decide)).trans hT)))
    have ec : ((M3.up 20 0 0 3 0).up 20 0 0 7 0).1 20 0 0 8 = T3.code := (up_nt (by decide)).trans ((up_nt (by decide)).trans x3.1)
    have a4 : MR ((M3.up 20 0 0 3 0).up 20 0 0 7 0) 10 A3 := a3.keep (fun t => (up_nk (by decide)).trans (up_nk (by decide)))
    rw [x3.1, x3.2.1] at hG3
    rw [← e3] at h
    refine G_aload_n dX9_load_125 rfl ?_
    refine G_iconst (v := 0) dX9_load_126 (by decide) ?_
    refine pf_X9_44 dX9_load_127  ?_
    refine G_aload_n dX9_load_130 rfl ?_
    refine G_iconst (v := 0) dX9_load_131 (by decide) ?_
    refine pf_X9_155 dX9_load_132  ?_
    generalize (M3.up 20 0 0 3 0).up 20 0 0 7 0 = M4 at hG3 hF3 hT3 ec a4 ⊢
    refine G_aload_n dX9_load_135 rfl ?_
    refine gf_X9_181 dX9_load_136  ?_
    rw [ec]
    refine G_if_eq (tgt := 144) dX9_load_139 (by decide) (fun c139 => ?_) (fun c139 => ?_)
    rotate_left
    · rw [if_neg c139] at h
      refine G_iconst (v := (-1)) dX9_load_142 (by decide) ?_
      refine G_iret dX9_load_143 rfl rfl (Nat.le_of_ble_eq_true rfl) (Nat.le_of_ble_eq_true rfl) ?_
      exact h M4 hG3 hF3 hT3
    · rw [if_pos c139] at h
      rw [← ea c139] at h
      refine G_aload_n dX9_load_144 rfl ?_
      refine G_bipush (v := 10) dX9_load_145 (by decide) ?_
      refine G_iconst (v := 0) dX9_load_147 (by decide) ?_
      refine cv_X9_152 (cs' := 0) (ss' := 0) dX9_load_148  (Nat.le_of_ble_eq_true rfl) (Nat.le_of_ble_eq_true rfl) (Nat.le_of_ble_eq_true rfl) rfl rfl (Nat.le_of_ble_eq_true rfl) (Nat.le_of_ble_eq_true rfl) rfl ?_
      refine s_X9_copies (a := 10) (b' := 0) (by decide) (by decide) (by decide) (fun M5 e5 f5 => hGo_v ?_)
      have a5 : MR M5 0 A3 := a4.ext e5
      have hG5 := (hG3.row f5 a5).nou
      have a6 : MR (M5.up 20 0 0 4 0) 0 A3 := hG5.2.1
      refine G_aload_n dX9_load_151 rfl ?_
      refine G_iconst (v := 0) dX9_load_152 (by decide) ?_
      refine pf_X9_234 dX9_load_153  ?_
      refine G_aload_n dX9_load_156 rfl ?_
      refine G_iconst (v := 0) dX9_load_157 (by decide) ?_
      refine cv_X9_50 (cs' := 0) (ss' := 0) dX9_load_158  (Nat.le_of_ble_eq_true rfl) (Nat.le_of_ble_eq_true rfl) (Nat.le_of_ble_eq_true rfl) rfl rfl (Nat.le_of_ble_eq_true rfl) (Nat.le_of_ble_eq_true rfl) rfl ?_
      refine s_X9_get (w := 0) hG5.1 (by decide) a6.n (hGo_i ?_)
      refine G_iret dX9_load_161 rfl rfl (Nat.le_of_ble_eq_true rfl) (Nat.le_of_ble_eq_true rfl) ?_
      exact h _ hG5 ((Fo.mo f5 hF3).up ⟨by decide, by decide⟩) ((up_nt (by decide)).trans ((f5.k (by decide) 0 0 5).trans hT3))
  have loop : ∀ (k : Nat) (T : Tks) (A : Ab) (M3 : Mm), Ro M3 10 → MT M3 g.L → TX M3 g.L T → MR M3 10 A → (T.code = 0 → Zb M3 10 A.n ∧ A.n + k = 13) → Fl (M1.up 20 0 0 3 10) M3 → rdL g.L k T A = setupV g.L v Ab0 → G E C RX9 cX9_load zX9_load P 0 0 M3 95 [(0, .ref (ad E 20 0 0))] [] := by
    intro k
    induction k with
    | zero =>
      intro T A M3 r3 x3 t3 a3 hz f3 e
      have e : (T, A) = setupV g.L v Ab0 := e
      have h12 := a3.n12
      refine G_aload_n dX9_load_95 rfl ?_
      refine gf_X9_181 dX9_load_96  ?_
      rw [t3.1]
      refine G_if_ne (tgt := 125) dX9_load_99 (by decide) (fun c99 => ?_) (fun c99 => ?_)
      · exact G_lv2 (g125 M3 T A t3 a3 f3 (by rw [← e]) (fun _ => by rw [← e])) ⟨rfl, trivial⟩
      · have := (hz c99).2
        omega
    | succ k ih =>
      intro T A M3 r3 x3 t3 a3 hz f3 e
      have h12 := a3.n12
      refine G_aload_n dX9_load_95 rfl ?_
      refine gf_X9_181 dX9_load_96  ?_
      rw [t3.1]
      refine G_if_ne (tgt := 125) dX9_load_99 (by decide) (fun c99 => ?_) (fun c99 => ?_)
      · rw [rdL_bad c99] at e
        exact G_lv2 (g125 M3 T A t3 a3 f3 (by rw [← e]) (fun _ => by rw [← e])) ⟨rfl, trivial⟩
      · obtain ⟨hz, hk⟩ := hz c99
        have e : (if T.code = 0 then (if 2 ≤ A.n ∧ T.kind = 0 then (T, A) else rdL g.L k (rdPt g.L T A) (rdPa g.L T A)) else (T, A)) = setupV g.L v Ab0 := e
        rw [if_pos c99] at e
        have g118 : ¬ (2 ≤ A.n ∧ T.kind = 0) → G E C RX9 cX9_load zX9_load P 0 0 M3 118 [(0, .ref (ad E 20 0 0))] [] := fun q => by
          rw [if_neg q] at e
          refine G_aload_n dX9_load_118 rfl ?_
          refine cv_X9_231 (cs' := 0) (ss' := 0) dX9_load_119  (Nat.le_of_ble_eq_true rfl) (Nat.le_of_ble_eq_true rfl) (Nat.le_of_ble_eq_true rfl) rfl rfl (Nat.le_of_ble_eq_true rfl) (Nat.le_of_ble_eq_true rfl) rfl ?_
          refine s_X9_readsPupil x3 t3 c99 r3 a3 hz (fun M4 t4 a4 z4 x4 r4 f4 => hGo_v ?_)
          refine G_goto (tgt := 95) dX9_load_122 (by decide) ?_
          refine G_lv2 (ih _ _ M4 r4 x4 t4 a4 (fun c => ?_) (f3.trans f4) e) ⟨rfl, trivial⟩
          rw [rdPa_n c]
          exact ⟨z4 c, by omega⟩
        refine G_aload_n dX9_load_102 rfl ?_
        refine G_iconst (v := 0) dX9_load_103 (by decide) ?_
        refine cv_X9_50 (cs' := 0) (ss' := 0) dX9_load_104  (Nat.le_of_ble_eq_true rfl) (Nat.le_of_ble_eq_true rfl) (Nat.le_of_ble_eq_true rfl) rfl rfl (Nat.le_of_ble_eq_true rfl) (Nat.le_of_ble_eq_true rfl) rfl ?_
        refine s_X9_get (w := 0) r3 (by decide) a3.n (hGo_i ?_)
        refine G_iconst (v := 2) dX9_load_107 (by decide) ?_
        refine G_icmp_lt (tgt := 118) dX9_load_108 (by decide) (fun c108 => ?_) (fun c108 => ?_)
        · exact G_lv2 (g118 (fun q => absurd c108 (show ¬ nI A.n < nI 2 from nI_nlt q.1 (by omega)))) ⟨rfl, trivial⟩
        · have h2 : 2 ≤ A.n := by
            rcases Nat.lt_or_ge A.n 2 with q | q
            · exact absurd (nI_lt (b := 2) q (by decide)) c108
            · exact q
          refine G_aload_n dX9_load_111 rfl ?_
          refine gf_X9_174 dX9_load_112  ?_
          rw [(t3.2.2.2.2 c99).1]
          refine G_if_eq (tgt := 125) dX9_load_115 (by decide) (fun c115 => ?_) (fun c115 => ?_)
          · have k0 : T.kind = 0 := (nI_eq (b := 0) (by have := t3.2.2.1.2.2; omega) (by decide)).mp c115
            rw [if_pos ⟨h2, k0⟩] at e
            exact G_lv2 (g125 M3 T A t3 a3 f3 (by rw [← e]) (fun _ => by rw [← e])) ⟨rfl, trivial⟩
          · exact G_lv2 (g118 (fun q => c115 (by rw [q.2]; rfl))) ⟨rfl, trivial⟩
  generalize hM2 : M1.up 20 0 0 3 10 = M2 at *
  refine G_lv (lv' := [(0, .ref (ad E 20 0 0)), (1, .int (nI 0))]) ⟨rfl, rfl, trivial⟩ ?_
  refine up0 (c := 761) (H := fun i => ∀ M3, Ro M3 10 → MT M3 g.L → Fl M2 M3 → (∀ k, k < i → cl M3 10 k = 0) → G E C RX9 cX9_load zX9_load P 0 0 M3 13 [(0, .ref (ad E 20 0 0)), (1, .int (nI i))] []) (fun M3 r3 x3 f3 z3 => ?_) (fun i hi ih M3 r3 x3 f3 z3 => ?_) M2 r2 x2 Fl.rfl (fun k hk => absurd hk (Nat.not_lt_zero k))
  · have a3 : MR M3 10 Ab0 := ⟨⟨z3 0 (by decide), by decide⟩, fun t ht => z3 _ (by omega), fun t ht => z3 _ (by omega), fun p hp => absurd hp (Nat.not_lt_zero p), fun p hp => absurd hp (Nat.not_lt_zero p), z3 6 (by decide), by decide, fun i hi => absurd hi (Nat.not_lt_zero i)⟩
    have b3 : Zb M3 10 0 := fun p _ hp t ht => z3 _ (by omega)
    refine G_iload_n dX9_load_13 rfl ?_
    refine G_sipush (v := 761) dX9_load_14 (by decide) ?_
    refine G_icmp_ge (tgt := 32) dX9_load_17 (by decide) (fun c17 => ?_) (fun c17 => ?_)
    rotate_left
    · exact absurd (show nI 761 ≤ nI 761 from Int32.le_refl _) c17
    refine G_aload_n dX9_load_32 rfl ?_
    refine cv_X9_222 (cs' := 0) (ss' := 0) dX9_load_33  (Nat.le_of_ble_eq_true rfl) (Nat.le_of_ble_eq_true rfl) (Nat.le_of_ble_eq_true rfl) rfl rfl (Nat.le_of_ble_eq_true rfl) (Nat.le_of_ble_eq_true rfl) rfl ?_
    refine s_X9_starts v x3 (fun M4 t4 f4 => hGo_v ?_)
    have s4 : LdS M2 M4 g.L (sT0 g.L v) Ab0 0 := ⟨r3.fx f4, x3.fx f4, t4, a3.fx f4, b3.fx f4, f3.trans f4.fl⟩
    refine G_aload_n dX9_load_36 rfl ?_
    refine G_ldcS 21 dX9_load_37 (by decide) rfl rfl ?_
    refine cv_X9_227 (cs' := 0) (ss' := 0) dX9_load_39  (Nat.le_of_ble_eq_true rfl) (Nat.le_of_ble_eq_true rfl) (Nat.le_of_ble_eq_true rfl) rfl rfl (Nat.le_of_ble_eq_true rfl) (Nat.le_of_ble_eq_true rfl) rfl ?_
    refine s_X9_mustWord (by decide) s4.2.1 s4.2.2.1 (fun M5 t5 f5 => hGo_v ?_)
    rw [ew] at t5
    have s5 : LdS M2 M5 g.L (sT1 g.L v) Ab0 0 := s4.fx t5 f5
    refine G_aload_n dX9_load_42 rfl ?_
    refine G_iconst (v := 2) dX9_load_43 (by decide) ?_
    refine G_aload_n dX9_load_44 rfl ?_
    refine G_bipush (v := 10) dX9_load_45 (by decide) ?_
    refine G_bipush (v := 60) dX9_load_47 (by decide) ?_
    refine cv_X9_211 (cs' := 0) (ss' := 0) dX9_load_49  (Nat.le_of_ble_eq_true rfl) (Nat.le_of_ble_eq_true rfl) (Nat.le_of_ble_eq_true rfl) rfl rfl (Nat.le_of_ble_eq_true rfl) (Nat.le_of_ble_eq_true rfl) rfl ?_
    refine s_X9_reads (α := 10) (β := 60) (by decide) (by decide) s5.2.1 s5.2.2.1 (fun M6 r1 t6 f6 v1 => hGo_i ?_)
    have s6 : LdS M2 M6 g.L (sT2 g.L v) Ab0 0 := s5.fx t6 f6
    refine cv_X9_33 (cs' := 0) (ss' := 0) dX9_load_52  (Nat.le_of_ble_eq_true rfl) (Nat.le_of_ble_eq_true rfl) (Nat.le_of_ble_eq_true rfl) rfl rfl (Nat.le_of_ble_eq_true rfl) (Nat.le_of_ble_eq_true rfl) rfl ?_
    refine s_X9_lay (w := 2) s6.1 (by decide) (hGo_v ?_)
    have s7 := s6.lay (t := 2) (r := r1) (by decide)
    refine G_aload_n dX9_load_55 rfl ?_
    refine G_iconst (v := 3) dX9_load_56 (by decide) ?_
    refine G_aload_n dX9_load_57 rfl ?_
    refine G_iconst (v := 1) dX9_load_58 (by decide) ?_
    refine G_bipush (v := 20) dX9_load_59 (by decide) ?_
    refine cv_X9_211 (cs' := 0) (ss' := 0) dX9_load_61  (Nat.le_of_ble_eq_true rfl) (Nat.le_of_ble_eq_true rfl) (Nat.le_of_ble_eq_true rfl) rfl rfl (Nat.le_of_ble_eq_true rfl) (Nat.le_of_ble_eq_true rfl) rfl ?_
    refine s_X9_reads (α := 1) (β := 20) (by decide) (by decide) s7.2.1 s7.2.2.1 (fun M8 r2 t8 f8 v2 => hGo_i ?_)
    have s8 : LdS M2 M8 g.L (sT3 g.L v) _ 0 := s7.fx t8 f8
    refine cv_X9_33 (cs' := 0) (ss' := 0) dX9_load_64  (Nat.le_of_ble_eq_true rfl) (Nat.le_of_ble_eq_true rfl) (Nat.le_of_ble_eq_true rfl) rfl rfl (Nat.le_of_ble_eq_true rfl) (Nat.le_of_ble_eq_true rfl) rfl ?_
    refine s_X9_lay (w := 3) s8.1 (by decide) (hGo_v ?_)
    have s9 := s8.lay (t := 3) (r := r2) (by decide)
    refine G_aload_n dX9_load_67 rfl ?_
    refine G_iconst (v := 4) dX9_load_68 (by decide) ?_
    refine G_aload_n dX9_load_69 rfl ?_
    refine G_iconst (v := 0) dX9_load_70 (by decide) ?_
    refine G_bipush (v := 9) dX9_load_71 (by decide) ?_
    refine cv_X9_211 (cs' := 0) (ss' := 0) dX9_load_73  (Nat.le_of_ble_eq_true rfl) (Nat.le_of_ble_eq_true rfl) (Nat.le_of_ble_eq_true rfl) rfl rfl (Nat.le_of_ble_eq_true rfl) (Nat.le_of_ble_eq_true rfl) rfl ?_
    refine s_X9_reads (α := 0) (β := 9) (by decide) (by decide) s9.2.1 s9.2.2.1 (fun Ma r3 ta fa v3 => hGo_i ?_)
    have sa : LdS M2 Ma g.L (sT4 g.L v) _ 0 := s9.fx ta fa
    refine cv_X9_33 (cs' := 0) (ss' := 0) dX9_load_76  (Nat.le_of_ble_eq_true rfl) (Nat.le_of_ble_eq_true rfl) (Nat.le_of_ble_eq_true rfl) rfl rfl (Nat.le_of_ble_eq_true rfl) (Nat.le_of_ble_eq_true rfl) rfl ?_
    refine s_X9_lay (w := 4) sa.1 (by decide) (hGo_v ?_)
    have sb := sa.lay (t := 4) (r := r3) (by decide)
    refine G_aload_n dX9_load_79 rfl ?_
    refine G_iconst (v := 5) dX9_load_80 (by decide) ?_
    refine G_aload_n dX9_load_81 rfl ?_
    refine G_iconst (v := 0) dX9_load_82 (by decide) ?_
    refine G_bipush (v := 9) dX9_load_83 (by decide) ?_
    refine cv_X9_211 (cs' := 0) (ss' := 0) dX9_load_85  (Nat.le_of_ble_eq_true rfl) (Nat.le_of_ble_eq_true rfl) (Nat.le_of_ble_eq_true rfl) rfl rfl (Nat.le_of_ble_eq_true rfl) (Nat.le_of_ble_eq_true rfl) rfl ?_
    refine s_X9_reads (α := 0) (β := 9) (by decide) (by decide) sb.2.1 sb.2.2.1 (fun Mc r4 tc fc v4 => hGo_i ?_)
    have sc : LdS M2 Mc g.L (sT5 g.L v) _ 0 := sb.fx tc fc
    refine cv_X9_33 (cs' := 0) (ss' := 0) dX9_load_88  (Nat.le_of_ble_eq_true rfl) (Nat.le_of_ble_eq_true rfl) (Nat.le_of_ble_eq_true rfl) rfl rfl (Nat.le_of_ble_eq_true rfl) (Nat.le_of_ble_eq_true rfl) rfl ?_
    refine s_X9_lay (w := 5) sc.1 (by decide) (hGo_v ?_)
    have sd := sc.lay (t := 5) (r := r4) (by decide)
    refine G_aload_n dX9_load_91 rfl ?_
    refine cv_X9_219 (cs' := 0) (ss' := 0) dX9_load_92  (Nat.le_of_ble_eq_true rfl) (Nat.le_of_ble_eq_true rfl) (Nat.le_of_ble_eq_true rfl) rfl rfl (Nat.le_of_ble_eq_true rfl) (Nat.le_of_ble_eq_true rfl) rfl ?_
    refine s_X9_endsLine sd.2.1 sd.2.2.1 (fun Me te fe => hGo_v ?_)
    have se : LdS M2 Me g.L (sT6 g.L v) ((((Ab0.sG 2 r1).sG 3 r2).sG 4 r3).sG 5 r4) 0 := sd.fx te fe
    obtain ⟨re, xe, te, ae, ze, fe⟩ := se
    by_cases c0 : (sT6 g.L v).code = 0
    · have c5 : (sT5 g.L v).code = 0 := (tkS_good c0).1
      have c4 : (sT4 g.L v).code = 0 := (tkN_good c5).1
      have c3 : (sT3 g.L v).code = 0 := (tkN_good c4).1
      have c2 : (sT2 g.L v).code = 0 := (tkN_good c3).1
      have q1 : r1 = (sT1 g.L v).val := v1 c2
      have q2 : r2 = (sT2 g.L v).val := v2 c3
      have q3 : r3 = (sT3 g.L v).val := v3 c4
      have q4 : r4 = (sT4 g.L v).val := v4 c5
      rw [open_eq, q1, q2, q3, q4] at ae
      exact G_lv2 (loop 13 _ (sA6 g.L v Ab0) Me re xe te ae (fun _ => ⟨ze, rfl⟩) fe rfl) ⟨rfl, trivial⟩
    · have es : setupV g.L v Ab0 = (sT6 g.L v, sA6 g.L v Ab0) := rdL_bad c0
      refine G_aload_n dX9_load_95 rfl ?_
      refine gf_X9_181 dX9_load_96  ?_
      rw [te.1]
      refine G_if_ne (tgt := 125) dX9_load_99 (by decide) (fun c99 => ?_) (fun c99 => ?_)
      · exact G_lv2 (g125 Me _ _ te ae fe (by rw [es]) (fun z => absurd z c0)) ⟨rfl, trivial⟩
      · exact absurd c99 c0
  · refine G_iload_n dX9_load_13 rfl ?_
    refine G_sipush (v := 761) dX9_load_14 (by decide) ?_
    refine G_icmp_ge (tgt := 32) dX9_load_17 (by decide) (fun c17 => ?_) (fun c17 => ?_)
    · exact absurd (show nI 761 ≤ nI i from c17) (nI_ge hi (by decide))
    · refine G_aload_n dX9_load_20 rfl ?_
      refine G_iload_n dX9_load_21 rfl ?_
      refine G_iconst (v := 0) dX9_load_22 (by decide) ?_
      refine cv_X9_33 (cs' := 0) (ss' := 0) dX9_load_23  (Nat.le_of_ble_eq_true rfl) (Nat.le_of_ble_eq_true rfl) (Nat.le_of_ble_eq_true rfl) rfl rfl (Nat.le_of_ble_eq_true rfl) (Nat.le_of_ble_eq_true rfl) rfl ?_
      refine s_X9_lay r3 hi (hGo_v ?_)
      have f4 : Fo 10 M3 (M3.w 10 i 0) := Fo.rfl.w hi
      refine G_iinc (v := 1) dX9_load_26 rfl (Nat.le_of_ble_eq_true rfl) (by decide) ?_
      refine G_goto (tgt := 13) dX9_load_29 (by decide) ?_
      refine G_lv2 (ih _ r3.w (x3.fo f4) (f3.trans f4.fl) (fun k hk => ?_)) ⟨rfl, lvi (nI_1 i), trivial⟩
      by_cases q : k = i
      · rw [q]
        exact cl_at
      · exact (cl_n q).trans (z3 k (by omega))
end MLD2
