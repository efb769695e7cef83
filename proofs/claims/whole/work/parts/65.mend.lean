/-! ===== HomeworkBarterModel: the week's end, copies, new pupils ===== -/
section MEND
variable {E : Ed} {M M' : Mm} {P : Res → Mm → Prop} {A B : Ab} {o : Nat}
theorem sG_self {t : Nat} : A.sG t (A.g t) = A := by
  show (A.n, _, A.f, A.s, A.d) = (A.n, A.g, A.f, A.s, A.d)
  congr 1
  refine Prod.ext ?_ rfl
  funext k
  show (if k = t then A.g t else A.g k) = A.g k
  split
  · rename_i q
    rw [q]
  · rfl
theorem detV_sG {x t : Nat} {v w : Int32} (h : t ≠ 3) : detV (A.sG t v) x w = detV A x w := by
  unfold detV
  rw [sG_g (fun q => h q.symm), sG_f]
theorem sF_sG {p t u : Nat} {v w : Int32} : (A.sG u w).sF p t v = (A.sF p t v).sG u w := rfl
theorem sS_sG {q u : Nat} {L : List Int32} {w : Int32} : (A.sG u w).sS q L = (A.sS q L).sG u w := rfl
theorem lookA_sG {x : Nat} {v : Int32} : lookA (A.sG 15 v) x = (lookA A x).sG 15 v := by
  unfold lookA
  rw [detV_sG (by decide), sG_f, sG_g (by decide), sG_g (by decide), sG_s]
  by_cases c : A.f x 6 < A.g 3
  · rw [if_pos c, if_pos c, sF_sG]
  · rw [if_neg c, if_neg c, sF_sG, sF_sG, sF_sG, sG_comm (by decide), sS_sG, sS_sG]
theorem lookV_sG {x : Nat} {v : Int32} : lookV (A.sG 15 v) x = lookV A x := by
  unfold lookV
  rw [sG_f, sG_g (by decide)]
theorem wkS_sG {v : Int32} : ∀ k, wkS (A.sG 15 v) k = (wkS A k).sG 15 v
  | 0 => rfl
  | k + 1 => by
    show (wkS (A.sG 15 v) k).sF k 5 (if 0 < (wkS (A.sG 15 v) k).f k 8 then (wkS (A.sG 15 v) k).g 2 / 2 else (wkS (A.sG 15 v) k).g 2) = ((wkS A k).sF k 5 (if 0 < (wkS A k).f k 8 then (wkS A k).g 2 / 2 else (wkS A k).g 2)).sG 15 v
    rw [wkS_sG k, sG_f, sG_g (by decide), sF_sG]
theorem lookA_g {x t : Nat} (h : t ≠ 13) : (lookA A x).g t = A.g t := by
  unfold lookA
  split
  · rfl
  · rw [sS_g, sS_g, sG_g h, sF_g, sF_g, sF_g]
theorem wkL_g {t : Nat} (h : t ≠ 13) : ∀ k, (wkL A k).g t = A.g t
  | 0 => rfl
  | k + 1 => (lookA_g h).trans (wkL_g h k)
theorem wkS_g {t : Nat} : ∀ k, (wkS A k).g t = A.g t
  | 0 => rfl
  | k + 1 => wkS_g k
theorem wk2_g {t : Nat} (h : t ≠ 12) (h2 : t ≠ 13) : (wk2 A).g t = A.g t := (wkS_g _).trans ((wkL_g h2 _).trans (wkH_g h _))
theorem MR.eq (h : MR M o A) (e : A = B) : MR M o B := e ▸ h
theorem MR.upDG (h : MR M o A) {d : List De} {v : Int32} (hl : d.length = A.d.length) (hm : ∀ i, i < d.length → ∀ t, t < 4 → cl M' o (641 + 4 * i + t) = dg d i t) (hv : cl M' o 16 = v) (hf : ∀ k, k < 641 → k ≠ 16 → cl M' o k = cl M o k) : MR M' o ((A.sD d).sG 16 v) := by
  have h30 := h.d30
  have a1 : MR (M'.w o 16 (cl M o 16)) o (A.sD d) := h.upD ((cl_n (by decide)).trans ((hf 6 (by decide) (by decide)).trans (h.dn.trans (by rw [hl])))) (by omega) (fun i hi t ht => (cl_n (by omega)).trans (hm i hi t ht)) (fun k hk h6 => by
    by_cases q : k = 16
    · rw [q]
      exact cl_at
    · exact (cl_n q).trans (hf k hk q))
  refine (a1.wG (t := 16) (v := v) (by omega)).ext (fun k hk => ?_)
  by_cases q : k = 16
  · rw [q, hv]
    exact cl_at.symm
  · exact ((cl_n q).trans (cl_n q)).symm
theorem nI_lt_sym {v : Nat} (h : v ≤ 99) : ¬ nI v = 99 ↔ nI v < 99 := by
  constructor
  · intro q
    refine nI_lt (b := 99) ?_ (by decide)
    by_cases e : v = 99
    · subst e
      exact absurd rfl q
    · omega
  · intro q e
    rw [e] at q
    exact absurd q (by decide)
theorem s_X9_weekEnds (hR : Ro M o) (hA : MR M o A) (hO : Ok A) (h : ∀ M', MR M' o (weekA A) → Fo o M M' → P (.inl none) M') : Sp E yX9_weekEnds cX9_weekEnds zX9_weekEnds [.ref (ad E 20 0 0)] M P := by
  have h12 := hA.n12
  have oW : Ok (wkH A A.n) := wkH_ok hO A.n (Nat.le_refl _)
  have nW : (wkH A A.n).n = A.n := wkH_n _
  refine Sp_of (own := RX9) (by decide) rfl rfl (Nat.le_of_ble_eq_true rfl) (fun C => ?_)
  have g92 : ∀ M3, MR M3 o ((wk2 A).sG 15 (A.g 15 + wkP A)) → Fo o M M3 → G E C RX9 cX9_weekEnds zX9_weekEnds P 0 0 M3 92 [(0, .ref (ad E 20 0 0)), (1, .int (nI 0))] [] := fun M3 a3 f3 => by
    have oX : Ok (wk2 A) := wkS_ok (wkL_ok oW A.n) A.n
    have h30 := oX.2.2.2.2.1
    have eF : weekA A = ((((wk2 A).sG 15 (A.g 15 + wkP A)).sD (grD (wk2 A).d)).sG 16 ((wk2 A).g 16 + grV (wk2 A).d)).sG 1 ((wk2 A).g 1 + 1) := by
      unfold weekA
      rw [wk2_g (t := 15) (by decide) (by decide)]
    rw [eF] at h
    have lD : (grD (wk2 A).d).length = (wk2 A).d.length := List.length_map _
    refine up0 (c := (wk2 A).d.length) (H := fun i => ∀ M', (∀ k, k < (wk2 A).d.length → ∀ t, t < 4 → cl M' o (641 + 4 * k + t) = if k < i then dg (grD (wk2 A).d) k t else dg (wk2 A).d k t) → cl M' o 16 = (wk2 A).g 16 + sm i (fun i => if dg (wk2 A).d i 3 < 99 then 1 else 0) → (∀ k, k < 641 → k ≠ 16 → cl M' o k = cl M3 o k) → Fo o M M' → G E C RX9 cX9_weekEnds zX9_weekEnds P 0 0 M' 92 [(0, .ref (ad E 20 0 0)), (1, .int (nI i))] []) (fun M4 hd h16 ho f4 => ?_) (fun i hi ih M4 hd h16 ho f4 => ?_) M3 (fun k hk t ht => by rw [if_neg (Nat.not_lt_zero k)]; exact a3.d hk ht) ((a3.tl (t := 9) (by decide)).trans ((sG_g (by decide)).trans (Int32.add_zero _).symm)) (fun _ _ _ => rfl) f3
    · have hR4 := hR.fo f4
      refine G_iload_n dX9_weekEnds_92 rfl ?_
      refine G_aload_n dX9_weekEnds_93 rfl ?_
      refine G_bipush (v := 6) dX9_weekEnds_94 (by decide) ?_
      refine cv_X9_50 (cs' := 0) (ss' := 0) dX9_weekEnds_96  (Nat.le_of_ble_eq_true rfl) (Nat.le_of_ble_eq_true rfl) (Nat.le_of_ble_eq_true rfl) rfl rfl (Nat.le_of_ble_eq_true rfl) (Nat.le_of_ble_eq_true rfl) rfl ?_
      refine s_X9_get (w := 6) hR4 (by decide) ((ho 6 (by decide) (by decide)).trans a3.dn) (hGo_i ?_)
      refine G_icmp_ge (tgt := 143) dX9_weekEnds_99 (by decide) (fun c99 => ?_) (fun c99 => ?_)
      · refine G_aload_n dX9_weekEnds_143 rfl ?_
        refine G_iconst (v := 1) dX9_weekEnds_144 (by decide) ?_
        refine G_iconst (v := 1) dX9_weekEnds_145 (by decide) ?_
        refine cv_X9_47 (cs' := 0) (ss' := 0) dX9_weekEnds_146  (Nat.le_of_ble_eq_true rfl) (Nat.le_of_ble_eq_true rfl) (Nat.le_of_ble_eq_true rfl) rfl rfl (Nat.le_of_ble_eq_true rfl) (Nat.le_of_ble_eq_true rfl) rfl ?_
        have a4 : MR M4 o ((((wk2 A).sG 15 (A.g 15 + wkP A)).sD (grD (wk2 A).d)).sG 16 ((wk2 A).g 16 + grV (wk2 A).d)) := a3.upDG lD (fun k hk t ht => by
          rw [lD] at hk
          have := hd k hk t ht
          rw [if_pos hk] at this
          exact this) h16 ho
        refine s_X9_adds (w := 1) (x := (wk2 A).g 1) hR4 (by decide) ((a4.g (t := 0) (by decide)).trans ((sG_g (by decide)).trans (show ((wk2 A).sG 15 (A.g 15 + wkP A)).g 1 = (wk2 A).g 1 from sG_g (by decide)))) (hGo_v ?_)
        refine G_vret dX9_weekEnds_149 rfl (Nat.le_of_ble_eq_true rfl) (Nat.le_of_ble_eq_true rfl) ?_
        exact h _ (a4.wG (by omega)) (f4.w (by omega))
      · exact absurd (Int32.le_refl _) c99
    · have hR4 := hR.fo f4
      obtain ⟨-, -, -, v, v1, v2, v3⟩ := oX.2.2.2.2.2.1 i hi
      have e3 := hd i hi 3 (by decide)
      rw [if_neg (Nat.lt_irrefl i)] at e3
      have e99 := nI_lt_sym (v := v) v2
      rw [← v3] at e99
      have g137 : ∀ M5, (∀ k, k < (wk2 A).d.length → ∀ t, t < 4 → cl M5 o (641 + 4 * k + t) = if k < i + 1 then dg (grD (wk2 A).d) k t else dg (wk2 A).d k t) → cl M5 o 16 = (wk2 A).g 16 + sm (i + 1) (fun i => if dg (wk2 A).d i 3 < 99 then 1 else 0) → (∀ k, k < 641 → k ≠ 16 → cl M5 o k = cl M3 o k) → Fo o M M5 → G E C RX9 cX9_weekEnds zX9_weekEnds P 0 0 M5 137 [(0, .ref (ad E 20 0 0)), (1, .int (nI i))] [] := fun M5 x1 x2 x3 x4 => by
        refine G_iinc (v := 1) dX9_weekEnds_137 rfl (Nat.le_of_ble_eq_true rfl) (by decide) ?_
        refine G_goto (tgt := 92) dX9_weekEnds_140 (by decide) ?_
        exact G_lv2 (ih M5 x1 x2 x3 x4) ⟨rfl, lvi (nI_1 i), trivial⟩
      have es : sm (i + 1) (fun i => if dg (wk2 A).d i 3 < 99 then (1 : Int32) else 0) = sm i (fun i => if dg (wk2 A).d i 3 < 99 then 1 else 0) + (if dg (wk2 A).d i 3 < 99 then 1 else 0) := rfl
      refine G_iload_n dX9_weekEnds_92 rfl ?_
      refine G_aload_n dX9_weekEnds_93 rfl ?_
      refine G_bipush (v := 6) dX9_weekEnds_94 (by decide) ?_
      refine cv_X9_50 (cs' := 0) (ss' := 0) dX9_weekEnds_96  (Nat.le_of_ble_eq_true rfl) (Nat.le_of_ble_eq_true rfl) (Nat.le_of_ble_eq_true rfl) rfl rfl (Nat.le_of_ble_eq_true rfl) (Nat.le_of_ble_eq_true rfl) rfl ?_
      refine s_X9_get (w := 6) hR4 (by decide) ((ho 6 (by decide) (by decide)).trans a3.dn) (hGo_i ?_)
      refine G_icmp_ge (tgt := 143) dX9_weekEnds_99 (by decide) (fun c99 => ?_) (fun c99 => ?_)
      · exact absurd c99 (nI_ge (b := (wk2 A).d.length) hi (by omega))
      · refine G_aload_n dX9_weekEnds_102 rfl ?_
        refine G_iload_n dX9_weekEnds_103 rfl ?_
        refine G_iconst (v := 3) dX9_weekEnds_104 (by decide) ?_
        refine cv_X9_84 (cs' := 0) (ss' := 0) dX9_weekEnds_105  (Nat.le_of_ble_eq_true rfl) (Nat.le_of_ble_eq_true rfl) (Nat.le_of_ble_eq_true rfl) rfl rfl (Nat.le_of_ble_eq_true rfl) (Nat.le_of_ble_eq_true rfl) rfl ?_
        refine s_X9_db (t := 3) hR4 (by omega) (by decide) e3 (hGo_i ?_)
        refine G_bipush (v := 99) dX9_weekEnds_108 (by decide) ?_
        refine G_icmp_ne (tgt := 116) dX9_weekEnds_110 (by decide) (fun c110 => ?_) (fun c110 => ?_)
        · have hlt := e99.mp c110
          refine G_aload_n dX9_weekEnds_116 rfl ?_
          refine G_sipush (v := 641) dX9_weekEnds_117 (by decide) ?_
          refine G_iconst (v := 4) dX9_weekEnds_120 (by decide) ?_
          refine G_iload_n dX9_weekEnds_121 rfl ?_
          refine G_imul dX9_weekEnds_122 ?_
          refine G_iadd dX9_weekEnds_123 ?_
          refine G_iconst (v := 3) dX9_weekEnds_124 (by decide) ?_
          refine G_iadd dX9_weekEnds_125 ?_
          rw [show (641 : Int32) + 4 * nI i + 3 = nI (641 + 4 * i + 3) from ixD (t := 3)]
          refine G_iconst (v := 1) dX9_weekEnds_126 (by decide) ?_
          refine cv_X9_47 (cs' := 0) (ss' := 0) dX9_weekEnds_127  (Nat.le_of_ble_eq_true rfl) (Nat.le_of_ble_eq_true rfl) (Nat.le_of_ble_eq_true rfl) rfl rfl (Nat.le_of_ble_eq_true rfl) (Nat.le_of_ble_eq_true rfl) rfl ?_
          refine s_X9_adds hR4 (by omega) e3 (hGo_v ?_)
          refine G_aload_n dX9_weekEnds_130 rfl ?_
          refine G_bipush (v := 9) dX9_weekEnds_131 (by decide) ?_
          refine G_iconst (v := 1) dX9_weekEnds_133 (by decide) ?_
          refine cv_X9_117 (cs' := 0) (ss' := 0) dX9_weekEnds_134  (Nat.le_of_ble_eq_true rfl) (Nat.le_of_ble_eq_true rfl) (Nat.le_of_ble_eq_true rfl) rfl rfl (Nat.le_of_ble_eq_true rfl) (Nat.le_of_ble_eq_true rfl) rfl ?_
          refine s_X9_tallies (t := 9) hR4.w (by decide) ((cl_n (by omega)).trans h16) (hGo_v ?_)
          refine G_lv2 (g137 _ (fun k hk t ht => ?_) ?_ (fun k hk h6 => (cl_n h6).trans ((cl_n (by omega)).trans (ho k hk h6))) ((f4.w (by omega)).w (by omega))) ⟨rfl, rfl, trivial⟩
          · refine (cl_n (by omega)).trans ?_
            by_cases q : k = i ∧ t = 3
            · rw [if_pos (by omega), dg_grD hk ht, q.1, q.2, if_pos ⟨rfl, hlt⟩]
              exact cl_at
            · refine (cl_n (by omega)).trans ((hd k hk t ht).trans ?_)
              by_cases z : k < i
              · rw [if_pos z, if_pos (by omega)]
              · rw [if_neg z]
                by_cases z2 : k < i + 1
                · have : k = i := by omega
                  rw [if_pos z2, dg_grD hk ht, if_neg (fun y => q ⟨this, y.1⟩)]
                · rw [if_neg z2]
          · refine cl_at.trans ?_
            rw [es, if_pos hlt, Int32.add_assoc]
        · have hlt : ¬ dg (wk2 A).d i 3 < 99 := fun q => absurd (e99.mpr q) (fun z => z c110)
          refine G_goto (tgt := 137) dX9_weekEnds_113 (by decide) ?_
          refine G_lv2 (g137 M4 (fun k hk t ht => ?_) ?_ ho f4) ⟨rfl, rfl, trivial⟩
          · rw [hd k hk t ht]
            by_cases z : k < i
            · rw [if_pos z, if_pos (by omega)]
            · rw [if_neg z]
              by_cases z2 : k < i + 1
              · have : k = i := by omega
                rw [if_pos z2, dg_grD hk ht, this, if_neg (fun y => hlt y.2)]
              · rw [if_neg z2]
          · rw [h16, es, if_neg hlt, Int32.add_zero]
  have g46 : ∀ M2, MR M2 o ((wk1 A).sG 15 (A.g 15 + wkP A)) → Fo o M M2 → G E C RX9 cX9_weekEnds zX9_weekEnds P 0 0 M2 46 [(0, .ref (ad E 20 0 0)), (1, .int (nI 0))] [] := fun M2 a2 f2 => by
    refine up0 (c := A.n) (H := fun i => ∀ M', MR M' o ((wkS (wk1 A) i).sG 15 (A.g 15 + wkP A)) → Fo o M M' → G E C RX9 cX9_weekEnds zX9_weekEnds P 0 0 M' 46 [(0, .ref (ad E 20 0 0)), (1, .int (nI i))] []) (fun M3 a3 f3 => ?_) (fun i hi ih M3 a3 f3 => ?_) M2 a2 f2
    · have hR3 := hR.fo f3
      have hn : cl M3 o 0 = nI A.n := a3.n.trans (by rw [sG_n, wkS_n, wk1_n])
      refine G_iload_n dX9_weekEnds_46 rfl ?_
      refine G_aload_n dX9_weekEnds_47 rfl ?_
      refine G_iconst (v := 0) dX9_weekEnds_48 (by decide) ?_
      refine cv_X9_50 (cs' := 0) (ss' := 0) dX9_weekEnds_49  (Nat.le_of_ble_eq_true rfl) (Nat.le_of_ble_eq_true rfl) (Nat.le_of_ble_eq_true rfl) rfl rfl (Nat.le_of_ble_eq_true rfl) (Nat.le_of_ble_eq_true rfl) rfl ?_
      refine s_X9_get (w := 0) hR3 (by decide) hn (hGo_i ?_)
      refine G_icmp_ge (tgt := 90) dX9_weekEnds_52 (by decide) (fun c52 => ?_) (fun c52 => ?_)
      · refine G_iconst (v := 0) dX9_weekEnds_90 (by decide) ?_
        refine G_istore_n dX9_weekEnds_91 (Nat.le_of_ble_eq_true rfl) ?_
        exact G_lv2 (g92 M3 a3 f3) ⟨rfl, rfl, trivial⟩
      · exact absurd (Int32.le_refl _) c52
    · have hR3 := hR.fo f3
      have hn : cl M3 o 0 = nI A.n := a3.n.trans (by rw [sG_n, wkS_n, wk1_n])
      have hi3 : i < ((wkS (wk1 A) i).sG 15 (A.g 15 + wkP A)).n := by rw [sG_n, wkS_n, wk1_n]; exact hi
      have e8 : cl M3 o (17 + 12 * i + 8) = (wkS (wk1 A) i).f i 8 := a3.f hi3 (by decide)
      have e2 : cl M3 o 2 = (wkS (wk1 A) i).g 2 := (a3.g (t := 1) (by decide)).trans (sG_g (by decide))
      have g81 : ∀ v, v = (if 0 < (wkS (wk1 A) i).f i 8 then (wkS (wk1 A) i).g 2 / 2 else (wkS (wk1 A) i).g 2) → G E C RX9 cX9_weekEnds zX9_weekEnds P 0 0 M3 81 [(0, .ref (ad E 20 0 0)), (1, .int (nI i))] [.int v, .int 5, .int (nI i), .ref (ad E 20 0 0)] := fun v hv => by
        refine cv_X9_58 (cs' := 0) (ss' := 0) dX9_weekEnds_81  (Nat.le_of_ble_eq_true rfl) (Nat.le_of_ble_eq_true rfl) (Nat.le_of_ble_eq_true rfl) rfl rfl (Nat.le_of_ble_eq_true rfl) (Nat.le_of_ble_eq_true rfl) rfl ?_
        refine s_X9_layPupil (t := 5) hR3 (by omega) (by decide) (hGo_v ?_)
        refine G_iinc (v := 1) dX9_weekEnds_84 rfl (Nat.le_of_ble_eq_true rfl) (by decide) ?_
        refine G_goto (tgt := 46) dX9_weekEnds_87 (by decide) ?_
        refine G_lv2 (ih _ ((a3.wF (p := i) (t := 5) (v := v) (by omega) (by decide)).eq ?_) (f3.w (by omega))) ⟨rfl, lvi (nI_1 i), trivial⟩
        rw [hv]
        rfl
      refine G_iload_n dX9_weekEnds_46 rfl ?_
      refine G_aload_n dX9_weekEnds_47 rfl ?_
      refine G_iconst (v := 0) dX9_weekEnds_48 (by decide) ?_
      refine cv_X9_50 (cs' := 0) (ss' := 0) dX9_weekEnds_49  (Nat.le_of_ble_eq_true rfl) (Nat.le_of_ble_eq_true rfl) (Nat.le_of_ble_eq_true rfl) rfl rfl (Nat.le_of_ble_eq_true rfl) (Nat.le_of_ble_eq_true rfl) rfl ?_
      refine s_X9_get (w := 0) hR3 (by decide) hn (hGo_i ?_)
      refine G_icmp_ge (tgt := 90) dX9_weekEnds_52 (by decide) (fun c52 => ?_) (fun c52 => ?_)
      · exact absurd c52 (nI_ge hi (by omega))
      · refine G_aload_n dX9_weekEnds_55 rfl ?_
        refine G_iload_n dX9_weekEnds_56 rfl ?_
        refine G_iconst (v := 5) dX9_weekEnds_57 (by decide) ?_
        refine G_aload_n dX9_weekEnds_58 rfl ?_
        refine G_iload_n dX9_weekEnds_59 rfl ?_
        refine cv_X9_99 (cs' := 0) (ss' := 0) dX9_weekEnds_60  (Nat.le_of_ble_eq_true rfl) (Nat.le_of_ble_eq_true rfl) (Nat.le_of_ble_eq_true rfl) rfl rfl (Nat.le_of_ble_eq_true rfl) (Nat.le_of_ble_eq_true rfl) rfl ?_
        refine s_X9_isDetained hR3 (by omega) e8 (hGo_i ?_)
        by_cases c : 0 < (wkS (wk1 A) i).f i 8
        · rw [if_pos c]
          refine G_if_eq (tgt := 76) dX9_weekEnds_63 (by decide) (fun c63 => ?_) (fun c63 => ?_)
          · exact absurd c63 (by decide)
          · refine G_aload_n dX9_weekEnds_66 rfl ?_
            refine G_iconst (v := 2) dX9_weekEnds_67 (by decide) ?_
            refine cv_X9_50 (cs' := 0) (ss' := 0) dX9_weekEnds_68  (Nat.le_of_ble_eq_true rfl) (Nat.le_of_ble_eq_true rfl) (Nat.le_of_ble_eq_true rfl) rfl rfl (Nat.le_of_ble_eq_true rfl) (Nat.le_of_ble_eq_true rfl) rfl ?_
            refine s_X9_get (w := 2) hR3 (by decide) e2 (hGo_i ?_)
            refine G_iconst (v := 2) dX9_weekEnds_71 (by decide) ?_
            refine G_idiv dX9_weekEnds_72 (by decide) ?_
            refine G_goto (tgt := 81) dX9_weekEnds_73 (by decide) ?_
            exact G_lv2 (g81 _ (by rw [if_pos c])) ⟨rfl, rfl, trivial⟩
        · rw [if_neg c]
          refine G_if_eq (tgt := 76) dX9_weekEnds_63 (by decide) (fun c63 => ?_) (fun c63 => ?_)
          · refine G_aload_n dX9_weekEnds_76 rfl ?_
            refine G_iconst (v := 2) dX9_weekEnds_77 (by decide) ?_
            refine cv_X9_50 (cs' := 0) (ss' := 0) dX9_weekEnds_78  (Nat.le_of_ble_eq_true rfl) (Nat.le_of_ble_eq_true rfl) (Nat.le_of_ble_eq_true rfl) rfl rfl (Nat.le_of_ble_eq_true rfl) (Nat.le_of_ble_eq_true rfl) rfl ?_
            refine s_X9_get (w := 2) hR3 (by decide) e2 (hGo_i ?_)
            exact G_lv2 (g81 _ (by rw [if_neg c])) ⟨rfl, rfl, trivial⟩
          · exact absurd rfl c63
  have g24 : ∀ M1, MR M1 o (wkH A A.n) → Fo o M M1 → G E C RX9 cX9_weekEnds zX9_weekEnds P 0 0 M1 24 [(0, .ref (ad E 20 0 0)), (1, .int (nI 0))] [] := fun M1 a1 f1 => by
    have g15 : (wkH A A.n).g 15 = A.g 15 := wkH_g (by decide) _
    refine up0 (c := A.n) (H := fun i => ∀ M', MR M' o ((wkL (wkH A A.n) i).sG 15 (A.g 15 + wkV (wkH A A.n) i)) → Fo o M M' → G E C RX9 cX9_weekEnds zX9_weekEnds P 0 0 M' 24 [(0, .ref (ad E 20 0 0)), (1, .int (nI i))] []) (fun M2 a2 f2 => ?_) (fun i hi ih M2 a2 f2 => ?_) M1 (a1.eq (by
      show wkH A A.n = (wkH A A.n).sG 15 (A.g 15 + 0)
      rw [Int32.add_zero, ← g15, sG_self])) f1
    · have hR2 := hR.fo f2
      have hn : cl M2 o 0 = nI A.n := a2.n.trans (by rw [sG_n, wkL_n, wkH_n])
      refine G_iload_n dX9_weekEnds_24 rfl ?_
      refine G_aload_n dX9_weekEnds_25 rfl ?_
      refine G_iconst (v := 0) dX9_weekEnds_26 (by decide) ?_
      refine cv_X9_50 (cs' := 0) (ss' := 0) dX9_weekEnds_27  (Nat.le_of_ble_eq_true rfl) (Nat.le_of_ble_eq_true rfl) (Nat.le_of_ble_eq_true rfl) rfl rfl (Nat.le_of_ble_eq_true rfl) (Nat.le_of_ble_eq_true rfl) rfl ?_
      refine s_X9_get (w := 0) hR2 (by decide) hn (hGo_i ?_)
      refine G_icmp_ge (tgt := 44) dX9_weekEnds_30 (by decide) (fun c30 => ?_) (fun c30 => ?_)
      · refine G_iconst (v := 0) dX9_weekEnds_44 (by decide) ?_
        refine G_istore_n dX9_weekEnds_45 (Nat.le_of_ble_eq_true rfl) ?_
        exact G_lv2 (g46 M2 a2 f2) ⟨rfl, rfl, trivial⟩
      · exact absurd (Int32.le_refl _) c30
    · have hR2 := hR.fo f2
      have hn : cl M2 o 0 = nI A.n := a2.n.trans (by rw [sG_n, wkL_n, wkH_n])
      have hi2 : i < ((wkL (wkH A A.n) i).sG 15 (A.g 15 + wkV (wkH A A.n) i)).n := by rw [sG_n, wkL_n, wkH_n]; exact hi
      refine G_iload_n dX9_weekEnds_24 rfl ?_
      refine G_aload_n dX9_weekEnds_25 rfl ?_
      refine G_iconst (v := 0) dX9_weekEnds_26 (by decide) ?_
      refine cv_X9_50 (cs' := 0) (ss' := 0) dX9_weekEnds_27  (Nat.le_of_ble_eq_true rfl) (Nat.le_of_ble_eq_true rfl) (Nat.le_of_ble_eq_true rfl) rfl rfl (Nat.le_of_ble_eq_true rfl) (Nat.le_of_ble_eq_true rfl) rfl ?_
      refine s_X9_get (w := 0) hR2 (by decide) hn (hGo_i ?_)
      refine G_icmp_ge (tgt := 44) dX9_weekEnds_30 (by decide) (fun c30 => ?_) (fun c30 => ?_)
      · exact absurd c30 (nI_ge hi (by omega))
      · refine G_aload_n dX9_weekEnds_33 rfl ?_
        refine G_iload_n dX9_weekEnds_34 rfl ?_
        refine cv_X9_146 (cs' := 0) (ss' := 0) dX9_weekEnds_35  (Nat.le_of_ble_eq_true rfl) (Nat.le_of_ble_eq_true rfl) (Nat.le_of_ble_eq_true rfl) rfl rfl (Nat.le_of_ble_eq_true rfl) (Nat.le_of_ble_eq_true rfl) rfl ?_
        refine s_X9_isLookedAt hR2 a2 ((wkL_ok oW i).sG (by omega)) hi2 (fun M3 a3 f3 => hGo_v ?_)
        refine G_iinc (v := 1) dX9_weekEnds_38 rfl (Nat.le_of_ble_eq_true rfl) (by decide) ?_
        refine G_goto (tgt := 24) dX9_weekEnds_41 (by decide) ?_
        refine G_lv2 (ih M3 (a3.eq ?_) (f2.trans f3)) ⟨rfl, lvi (nI_1 i), trivial⟩
        unfold lookG
        rw [lookA_sG, lookV_sG, sG_at, sG_sG, Int32.add_assoc]
        rfl
  refine G_iconst (v := 0) dX9_weekEnds_0 (by decide) ?_
  refine G_istore_n dX9_weekEnds_1 (Nat.le_of_ble_eq_true rfl) ?_
  refine G_lv (lv' := [(0, .ref (ad E 20 0 0)), (1, .int (nI 0))]) ⟨rfl, rfl, trivial⟩ ?_
  refine up0 (c := A.n) (H := fun i => ∀ M', MR M' o (wkH A i) → Fo o M M' → G E C RX9 cX9_weekEnds zX9_weekEnds P 0 0 M' 2 [(0, .ref (ad E 20 0 0)), (1, .int (nI i))] []) (fun M1 a1 f1 => ?_) (fun i hi ih M1 a1 f1 => ?_) M hA Fo.rfl
  · have hR1 := hR.fo f1
    refine G_iload_n dX9_weekEnds_2 rfl ?_
    refine G_aload_n dX9_weekEnds_3 rfl ?_
    refine G_iconst (v := 0) dX9_weekEnds_4 (by decide) ?_
    refine cv_X9_50 (cs' := 0) (ss' := 0) dX9_weekEnds_5  (Nat.le_of_ble_eq_true rfl) (Nat.le_of_ble_eq_true rfl) (Nat.le_of_ble_eq_true rfl) rfl rfl (Nat.le_of_ble_eq_true rfl) (Nat.le_of_ble_eq_true rfl) rfl ?_
    refine s_X9_get (w := 0) hR1 (by decide) (a1.n.trans (by rw [wkH_n])) (hGo_i ?_)
    refine G_icmp_ge (tgt := 22) dX9_weekEnds_8 (by decide) (fun c8 => ?_) (fun c8 => ?_)
    · refine G_iconst (v := 0) dX9_weekEnds_22 (by decide) ?_
      refine G_istore_n dX9_weekEnds_23 (Nat.le_of_ble_eq_true rfl) ?_
      exact G_lv2 (g24 M1 a1 f1) ⟨rfl, rfl, trivial⟩
    · exact absurd (Int32.le_refl _) c8
  · have hR1 := hR.fo f1
    refine G_iload_n dX9_weekEnds_2 rfl ?_
    refine G_aload_n dX9_weekEnds_3 rfl ?_
    refine G_iconst (v := 0) dX9_weekEnds_4 (by decide) ?_
    refine cv_X9_50 (cs' := 0) (ss' := 0) dX9_weekEnds_5  (Nat.le_of_ble_eq_true rfl) (Nat.le_of_ble_eq_true rfl) (Nat.le_of_ble_eq_true rfl) rfl rfl (Nat.le_of_ble_eq_true rfl) (Nat.le_of_ble_eq_true rfl) rfl ?_
    refine s_X9_get (w := 0) hR1 (by decide) (a1.n.trans (by rw [wkH_n])) (hGo_i ?_)
    refine G_icmp_ge (tgt := 22) dX9_weekEnds_8 (by decide) (fun c8 => ?_) (fun c8 => ?_)
    · exact absurd c8 (nI_ge hi (by omega))
    · refine G_aload_n dX9_weekEnds_11 rfl ?_
      refine G_iload_n dX9_weekEnds_12 rfl ?_
      refine cv_X9_142 (cs' := 0) (ss' := 0) dX9_weekEnds_13  (Nat.le_of_ble_eq_true rfl) (Nat.le_of_ble_eq_true rfl) (Nat.le_of_ble_eq_true rfl) rfl rfl (Nat.le_of_ble_eq_true rfl) (Nat.le_of_ble_eq_true rfl) rfl ?_
      refine s_X9_handsAllIn hR1 a1 (wkH_ok hO i (by omega)) (by rw [wkH_n]; exact hi) (fun M2 a2 f2 => hGo_v ?_)
      refine G_iinc (v := 1) dX9_weekEnds_16 rfl (Nat.le_of_ble_eq_true rfl) (by decide) ?_
      refine G_goto (tgt := 2) dX9_weekEnds_19 (by decide) ?_
      exact G_lv2 (ih M2 a2 (f1.trans f2)) ⟨rfl, lvi (nI_1 i), trivial⟩
theorem weekA_15 : (weekA A).g 15 = A.g 15 + wkP A := by
  unfold weekA
  rw [sG_g (by decide), sG_g (by decide)]
  show ((wk2 A).sG 15 ((wk2 A).g 15 + wkP A)).g 15 = _
  rw [sG_at, wk2_g (by decide) (by decide)]
theorem wks_15 : ∀ k, (wks A k).g 15 = A.g 15 + wksP A k
  | 0 => (Int32.add_zero _).symm
  | k + 1 => by
    show (weekA (wks A k)).g 15 = A.g 15 + (wksP A k + wkP (wks A k))
    rw [weekA_15, wks_15 k, Int32.add_assoc]
theorem s_X9_passes {n : Nat} (hR : Ro M o) (hA : MR M o A) (hO : Ok A) (hn : n ≤ 30) (h : ∀ M', MR M' o (wks A n) → Fo o M M' → P (.inl (some (.int (wksP A n)))) M') : Sp E yX9_passes cX9_passes zX9_passes [.ref (ad E 20 0 0), .int (nI n)] M P := by
  refine Sp_of (own := RX9) (by decide) rfl rfl (Nat.le_of_ble_eq_true rfl) (fun C => ?_)
  refine G_aload_n dX9_passes_0 rfl ?_
  refine G_bipush (v := 15) dX9_passes_1 (by decide) ?_
  refine cv_X9_50 (cs' := 0) (ss' := 0) dX9_passes_3  (Nat.le_of_ble_eq_true rfl) (Nat.le_of_ble_eq_true rfl) (Nat.le_of_ble_eq_true rfl) rfl rfl (Nat.le_of_ble_eq_true rfl) (Nat.le_of_ble_eq_true rfl) rfl ?_
  refine s_X9_get (w := 15) hR (by decide) (hA.tl (t := 8) (by decide)) (hGo_i ?_)
  refine G_istore_n dX9_passes_6 (Nat.le_of_ble_eq_true rfl) ?_
  refine G_iconst (v := 0) dX9_passes_7 (by decide) ?_
  refine G_istore_n dX9_passes_8 (Nat.le_of_ble_eq_true rfl) ?_
  refine G_lv (lv' := [(0, .ref (ad E 20 0 0)), (1, .int (nI n)), (2, .int (A.g 15)), (3, .int (nI 0))]) ⟨rfl, rfl, rfl, rfl, trivial⟩ ?_
  refine up0 (c := n) (H := fun i => ∀ M', MR M' o (wks A i) → Fo o M M' → G E C RX9 cX9_passes zX9_passes P 0 0 M' 9 [(0, .ref (ad E 20 0 0)), (1, .int (nI n)), (2, .int (A.g 15)), (3, .int (nI i))] []) (fun M1 a1 f1 => ?_) (fun i hi ih M1 a1 f1 => ?_) M hA Fo.rfl
  · refine G_iload_n dX9_passes_9 rfl ?_
    refine G_iload_n dX9_passes_10 rfl ?_
    refine G_icmp_ge (tgt := 24) dX9_passes_11 (by decide) (fun c11 => ?_) (fun c11 => ?_)
    · refine G_aload_n dX9_passes_24 rfl ?_
      refine G_bipush (v := 15) dX9_passes_25 (by decide) ?_
      refine cv_X9_50 (cs' := 0) (ss' := 0) dX9_passes_27  (Nat.le_of_ble_eq_true rfl) (Nat.le_of_ble_eq_true rfl) (Nat.le_of_ble_eq_true rfl) rfl rfl (Nat.le_of_ble_eq_true rfl) (Nat.le_of_ble_eq_true rfl) rfl ?_
      refine s_X9_get (w := 15) (hR.fo f1) (by decide) (a1.tl (t := 8) (by decide)) (hGo_i ?_)
      rw [show (wks A n).g (7 + 8) = A.g 15 + wksP A n from wks_15 n]
      refine G_iload_n dX9_passes_30 rfl ?_
      refine G_isub dX9_passes_31 ?_
      rw [show A.g 15 + wksP A n - A.g 15 = wksP A n by rw [Int32.add_comm, Int32.add_sub_cancel]]
      refine G_iret dX9_passes_32 rfl rfl (Nat.le_of_ble_eq_true rfl) (Nat.le_of_ble_eq_true rfl) ?_
      exact h M1 a1 f1
    · exact absurd (Int32.le_refl _) c11
  · refine G_iload_n dX9_passes_9 rfl ?_
    refine G_iload_n dX9_passes_10 rfl ?_
    refine G_icmp_ge (tgt := 24) dX9_passes_11 (by decide) (fun c11 => ?_) (fun c11 => ?_)
    · exact absurd c11 (nI_ge hi (by omega))
    · refine G_aload_n dX9_passes_14 rfl ?_
      refine cv_X9_149 (cs' := 0) (ss' := 0) dX9_passes_15  (Nat.le_of_ble_eq_true rfl) (Nat.le_of_ble_eq_true rfl) (Nat.le_of_ble_eq_true rfl) rfl rfl (Nat.le_of_ble_eq_true rfl) (Nat.le_of_ble_eq_true rfl) rfl ?_
      refine s_X9_weekEnds (hR.fo f1) a1 (wks_ok hO i) (fun M2 a2 f2 => hGo_v ?_)
      refine G_iinc (v := 1) dX9_passes_18 rfl (Nat.le_of_ble_eq_true rfl) (by decide) ?_
      refine G_goto (tgt := 9) dX9_passes_21 (by decide) ?_
      exact G_lv2 (ih M2 a2 (f1.trans f2)) ⟨rfl, rfl, rfl, lvi (nI_1 i), trivial⟩
theorem s_X9_copies {a b' : Nat} (ha : a ≤ 10) (hb : b' ≤ 10) (hne : a ≠ b') (h : ∀ M', (∀ k, k < 761 → cl M' b' k = cl M a k) → Fo b' M M' → P (.inl none) M') : Sp E yX9_copies cX9_copies zX9_copies [.ref (ad E 20 0 0), .int (nI a), .int (nI b')] M P := by
  refine Sp_of (own := RX9) (by decide) rfl rfl (Nat.le_of_ble_eq_true rfl) (fun C => ?_)
  refine G_iconst (v := 0) dX9_copies_0 (by decide) ?_
  refine G_istore_n dX9_copies_1 (Nat.le_of_ble_eq_true rfl) ?_
  have ix : ∀ r i : Nat, (761 : Int32) * nI r + nI i = nI (761 * r + i) := fun r i => by rw [show (761 : Int32) = nI 761 from rfl, pk_mul, nI_add]
  refine G_lv (lv' := [(0, .ref (ad E 20 0 0)), (1, .int (nI a)), (2, .int (nI b')), (3, .int (nI 0))]) ⟨rfl, rfl, rfl, rfl, trivial⟩ ?_
  refine up0 (c := 761) (H := fun i => ∀ M', (∀ k, k < i → cl M' b' k = cl M a k) → (∀ k, k < 761 → cl M' a k = cl M a k) → Fo b' M M' → G E C RX9 cX9_copies zX9_copies P 0 0 M' 2 [(0, .ref (ad E 20 0 0)), (1, .int (nI a)), (2, .int (nI b')), (3, .int (nI i))] []) (fun M1 hk hs hf => ?_) (fun i hi ih M1 hk hs hf => ?_) M (fun k hk => absurd hk (Nat.not_lt_zero k)) (fun _ _ => rfl) Fo.rfl
  · refine G_iload_n dX9_copies_2 rfl ?_
    refine G_sipush (v := 761) dX9_copies_3 (by decide) ?_
    refine G_icmp_ge (tgt := 39) dX9_copies_6 (by decide) (fun c6 => ?_) (fun c6 => ?_)
    · refine G_vret dX9_copies_39 rfl (Nat.le_of_ble_eq_true rfl) (Nat.le_of_ble_eq_true rfl) ?_
      exact h M1 hk hf
    · exact absurd (show (761 : Int32) ≤ nI 761 from Int32.le_refl _) c6
  · refine G_iload_n dX9_copies_2 rfl ?_
    refine G_sipush (v := 761) dX9_copies_3 (by decide) ?_
    refine G_icmp_ge (tgt := 39) dX9_copies_6 (by decide) (fun c6 => ?_) (fun c6 => ?_)
    · exact absurd (show nI 761 ≤ nI i from c6) (nI_ge hi (by decide))
    · refine G_aload_n dX9_copies_9 rfl ?_
      refine gf_X9_7 dX9_copies_10  ?_
      refine G_sipush (v := 761) dX9_copies_13 (by decide) ?_
      refine G_iload_n dX9_copies_16 rfl ?_
      refine G_imul dX9_copies_17 ?_
      refine G_iload_n dX9_copies_18 rfl ?_
      refine G_iadd dX9_copies_19 ?_
      refine G_aload_n dX9_copies_20 rfl ?_
      refine gf_X9_7 dX9_copies_21  ?_
      refine G_sipush (v := 761) dX9_copies_24 (by decide) ?_
      refine G_iload_n dX9_copies_27 rfl ?_
      refine G_imul dX9_copies_28 ?_
      refine G_iload_n dX9_copies_29 rfl ?_
      refine G_iadd dX9_copies_30 ?_
      refine G_iald dX9_copies_31 ⟨by decide, rfl, rfl⟩ rfl (ix a i) (show 761 * a + i < 8371 by omega) (by decide) ?_
      refine G_iast dX9_copies_32 ⟨by decide, rfl, rfl⟩ (fun _ => rfl) (ix b' i) (show 761 * b' + i < 8371 by omega) (by decide) ?_
      rw [show M1.1 21 0 0 (761 * a + i) = cl M a i from hs i hi]
      refine G_iinc (v := 1) dX9_copies_33 rfl (Nat.le_of_ble_eq_true rfl) (by decide) ?_
      refine G_goto (tgt := 2) dX9_copies_36 (by decide) ?_
      refine G_lv2 (ih _ (fun k hk2 => ?_) (fun k hk2 => (up_t (by omega)).trans (hs k hk2)) (hf.w hi)) ⟨rfl, rfl, rfl, lvi (nI_1 i), trivial⟩
      by_cases q : k = i
      · subst q
        exact cl_at
      · exact (cl_n q).trans (hk k (by omega))
/-- the pupils that are not there are empty -/
def Zb (M : Mm) (o n : Nat) : Prop := ∀ p, n ≤ p → p < 12 → ∀ t, t < 12 → cl M o (17 + 12 * p + t) = 0
theorem s_X9_newPupil {r t s1 s2 spy : Int32} (hR : Ro M o) (hA : MR M o A) (hn : A.n < 12) (hz : Zb M o A.n) (h : ∀ M', MR M' o (enrolA A r t s1 s2 spy) → Zb M' o (A.n + 1) → Fo o M M' → P (.inl none) M') : Sp E yX9_newPupil cX9_newPupil zX9_newPupil [.ref (ad E 20 0 0), .int r, .int t, .int s1, .int s2, .int spy] M P := by
  refine Sp_of (own := RX9) (by decide) rfl rfl (Nat.le_of_ble_eq_true rfl) (fun C => ?_)
  refine G_aload_n dX9_newPupil_0 rfl ?_
  refine G_iconst (v := 0) dX9_newPupil_1 (by decide) ?_
  refine cv_X9_50 (cs' := 0) (ss' := 0) dX9_newPupil_2  (Nat.le_of_ble_eq_true rfl) (Nat.le_of_ble_eq_true rfl) (Nat.le_of_ble_eq_true rfl) rfl rfl (Nat.le_of_ble_eq_true rfl) (Nat.le_of_ble_eq_true rfl) rfl ?_
  refine s_X9_get (w := 0) hR (by decide) hA.n (hGo_i ?_)
  refine G_istore dX9_newPupil_5 (Nat.le_of_ble_eq_true rfl) ?_
  refine G_aload_n dX9_newPupil_7 rfl ?_
  refine G_iload dX9_newPupil_8 rfl ?_
  refine G_iconst (v := 0) dX9_newPupil_10 (by decide) ?_
  refine G_iload_n dX9_newPupil_11 rfl ?_
  refine cv_X9_58 (cs' := 0) (ss' := 0) dX9_newPupil_12  (Nat.le_of_ble_eq_true rfl) (Nat.le_of_ble_eq_true rfl) (Nat.le_of_ble_eq_true rfl) rfl rfl (Nat.le_of_ble_eq_true rfl) (Nat.le_of_ble_eq_true rfl) rfl ?_
  refine s_X9_layPupil (t := 0) hR hn (by decide) (hGo_v ?_)
  refine G_aload_n dX9_newPupil_15 rfl ?_
  refine G_iload dX9_newPupil_16 rfl ?_
  refine G_iconst (v := 1) dX9_newPupil_18 (by decide) ?_
  refine G_iload_n dX9_newPupil_19 rfl ?_
  refine cv_X9_58 (cs' := 0) (ss' := 0) dX9_newPupil_20  (Nat.le_of_ble_eq_true rfl) (Nat.le_of_ble_eq_true rfl) (Nat.le_of_ble_eq_true rfl) rfl rfl (Nat.le_of_ble_eq_true rfl) (Nat.le_of_ble_eq_true rfl) rfl ?_
  refine s_X9_layPupil (t := 1) hR.w hn (by decide) (hGo_v ?_)
  refine G_aload_n dX9_newPupil_23 rfl ?_
  refine G_iload dX9_newPupil_24 rfl ?_
  refine G_iconst (v := 2) dX9_newPupil_26 (by decide) ?_
  refine G_iload_n dX9_newPupil_27 rfl ?_
  refine cv_X9_58 (cs' := 0) (ss' := 0) dX9_newPupil_28  (Nat.le_of_ble_eq_true rfl) (Nat.le_of_ble_eq_true rfl) (Nat.le_of_ble_eq_true rfl) rfl rfl (Nat.le_of_ble_eq_true rfl) (Nat.le_of_ble_eq_true rfl) rfl ?_
  refine s_X9_layPupil (t := 2) hR.w.w hn (by decide) (hGo_v ?_)
  refine G_aload_n dX9_newPupil_31 rfl ?_
  refine G_iload dX9_newPupil_32 rfl ?_
  refine G_iconst (v := 3) dX9_newPupil_34 (by decide) ?_
  refine G_iload dX9_newPupil_35 rfl ?_
  refine cv_X9_58 (cs' := 0) (ss' := 0) dX9_newPupil_37  (Nat.le_of_ble_eq_true rfl) (Nat.le_of_ble_eq_true rfl) (Nat.le_of_ble_eq_true rfl) rfl rfl (Nat.le_of_ble_eq_true rfl) (Nat.le_of_ble_eq_true rfl) rfl ?_
  refine s_X9_layPupil (t := 3) hR.w.w.w hn (by decide) (hGo_v ?_)
  refine G_aload_n dX9_newPupil_40 rfl ?_
  refine G_iload dX9_newPupil_41 rfl ?_
  refine G_iconst (v := 4) dX9_newPupil_43 (by decide) ?_
  refine G_iload dX9_newPupil_44 rfl ?_
  refine cv_X9_58 (cs' := 0) (ss' := 0) dX9_newPupil_46  (Nat.le_of_ble_eq_true rfl) (Nat.le_of_ble_eq_true rfl) (Nat.le_of_ble_eq_true rfl) rfl rfl (Nat.le_of_ble_eq_true rfl) (Nat.le_of_ble_eq_true rfl) rfl ?_
  refine s_X9_layPupil (t := 4) hR.w.w.w.w hn (by decide) (hGo_v ?_)
  refine G_aload_n dX9_newPupil_49 rfl ?_
  refine G_iload dX9_newPupil_50 rfl ?_
  refine G_iconst (v := 5) dX9_newPupil_52 (by decide) ?_
  refine G_aload_n dX9_newPupil_53 rfl ?_
  refine G_iconst (v := 2) dX9_newPupil_54 (by decide) ?_
  refine cv_X9_50 (cs' := 0) (ss' := 0) dX9_newPupil_55  (Nat.le_of_ble_eq_true rfl) (Nat.le_of_ble_eq_true rfl) (Nat.le_of_ble_eq_true rfl) rfl rfl (Nat.le_of_ble_eq_true rfl) (Nat.le_of_ble_eq_true rfl) rfl ?_
  refine s_X9_get (w := 2) (v := A.g 2) hR.w.w.w.w.w (by decide) ((cl_n (by omega)).trans ((cl_n (by omega)).trans ((cl_n (by omega)).trans ((cl_n (by omega)).trans ((cl_n (by omega)).trans (hA.g (t := 1) (by decide))))))) (hGo_i ?_)
  refine cv_X9_58 (cs' := 0) (ss' := 0) dX9_newPupil_58  (Nat.le_of_ble_eq_true rfl) (Nat.le_of_ble_eq_true rfl) (Nat.le_of_ble_eq_true rfl) rfl rfl (Nat.le_of_ble_eq_true rfl) (Nat.le_of_ble_eq_true rfl) rfl ?_
  refine s_X9_layPupil (t := 5) hR.w.w.w.w.w hn (by decide) (hGo_v ?_)
  have fF : Fo o M ((((((M.w o (17 + 12 * A.n + 0) r).w o (17 + 12 * A.n + 1) t).w o (17 + 12 * A.n + 2) s1).w o (17 + 12 * A.n + 3) s2).w o (17 + 12 * A.n + 4) spy).w o (17 + 12 * A.n + 5) (A.g 2)) := (((((Fo.rfl.w (by omega)).w (by omega)).w (by omega)).w (by omega)).w (by omega)).w (by omega)
  have c0 : ∀ k, k ≠ 17 + 12 * A.n + 0 → k ≠ 17 + 12 * A.n + 1 → k ≠ 17 + 12 * A.n + 2 → k ≠ 17 + 12 * A.n + 3 → k ≠ 17 + 12 * A.n + 4 → k ≠ 17 + 12 * A.n + 5 → cl ((((((M.w o (17 + 12 * A.n + 0) r).w o (17 + 12 * A.n + 1) t).w o (17 + 12 * A.n + 2) s1).w o (17 + 12 * A.n + 3) s2).w o (17 + 12 * A.n + 4) spy).w o (17 + 12 * A.n + 5) (A.g 2)) o k = cl M o k := fun k a b c d e f => (cl_n f).trans ((cl_n e).trans ((cl_n d).trans ((cl_n c).trans ((cl_n b).trans (cl_n a)))))
  have v0 : cl ((((((M.w o (17 + 12 * A.n + 0) r).w o (17 + 12 * A.n + 1) t).w o (17 + 12 * A.n + 2) s1).w o (17 + 12 * A.n + 3) s2).w o (17 + 12 * A.n + 4) spy).w o (17 + 12 * A.n + 5) (A.g 2)) o (17 + 12 * A.n + 0) = r := (cl_n (by omega)).trans ((cl_n (by omega)).trans ((cl_n (by omega)).trans ((cl_n (by omega)).trans ((cl_n (by omega)).trans cl_at))))
  have v1 : cl ((((((M.w o (17 + 12 * A.n + 0) r).w o (17 + 12 * A.n + 1) t).w o (17 + 12 * A.n + 2) s1).w o (17 + 12 * A.n + 3) s2).w o (17 + 12 * A.n + 4) spy).w o (17 + 12 * A.n + 5) (A.g 2)) o (17 + 12 * A.n + 1) = t := (cl_n (by omega)).trans ((cl_n (by omega)).trans ((cl_n (by omega)).trans ((cl_n (by omega)).trans cl_at)))
  have v2 : cl ((((((M.w o (17 + 12 * A.n + 0) r).w o (17 + 12 * A.n + 1) t).w o (17 + 12 * A.n + 2) s1).w o (17 + 12 * A.n + 3) s2).w o (17 + 12 * A.n + 4) spy).w o (17 + 12 * A.n + 5) (A.g 2)) o (17 + 12 * A.n + 2) = s1 := (cl_n (by omega)).trans ((cl_n (by omega)).trans ((cl_n (by omega)).trans cl_at))
  have v3 : cl ((((((M.w o (17 + 12 * A.n + 0) r).w o (17 + 12 * A.n + 1) t).w o (17 + 12 * A.n + 2) s1).w o (17 + 12 * A.n + 3) s2).w o (17 + 12 * A.n + 4) spy).w o (17 + 12 * A.n + 5) (A.g 2)) o (17 + 12 * A.n + 3) = s2 := (cl_n (by omega)).trans ((cl_n (by omega)).trans cl_at)
  have v4 : cl ((((((M.w o (17 + 12 * A.n + 0) r).w o (17 + 12 * A.n + 1) t).w o (17 + 12 * A.n + 2) s1).w o (17 + 12 * A.n + 3) s2).w o (17 + 12 * A.n + 4) spy).w o (17 + 12 * A.n + 5) (A.g 2)) o (17 + 12 * A.n + 4) = spy := (cl_n (by omega)).trans cl_at
  have v5 : cl ((((((M.w o (17 + 12 * A.n + 0) r).w o (17 + 12 * A.n + 1) t).w o (17 + 12 * A.n + 2) s1).w o (17 + 12 * A.n + 3) s2).w o (17 + 12 * A.n + 4) spy).w o (17 + 12 * A.n + 5) (A.g 2)) o (17 + 12 * A.n + 5) = A.g 2 := cl_at
  generalize (((((M.w o (17 + 12 * A.n + 0) r).w o (17 + 12 * A.n + 1) t).w o (17 + 12 * A.n + 2) s1).w o (17 + 12 * A.n + 3) s2).w o (17 + 12 * A.n + 4) spy).w o (17 + 12 * A.n + 5) (A.g 2) = M1 at fF c0 v0 v1 v2 v3 v4 v5 ⊢
  refine G_aload_n dX9_newPupil_61 rfl ?_
  refine G_iconst (v := 0) dX9_newPupil_62 (by decide) ?_
  refine G_iconst (v := 1) dX9_newPupil_63 (by decide) ?_
  refine cv_X9_47 (cs' := 0) (ss' := 0) dX9_newPupil_64  (Nat.le_of_ble_eq_true rfl) (Nat.le_of_ble_eq_true rfl) (Nat.le_of_ble_eq_true rfl) rfl rfl (Nat.le_of_ble_eq_true rfl) (Nat.le_of_ble_eq_true rfl) rfl ?_
  refine s_X9_adds (w := 0) (hR.fo fF) (by decide) ((c0 0 (by omega) (by omega) (by omega) (by omega) (by omega) (by omega)).trans hA.n) (hGo_v ?_)
  refine G_vret dX9_newPupil_67 rfl (Nat.le_of_ble_eq_true rfl) (Nat.le_of_ble_eq_true rfl) ?_
  have k0 : ∀ k, k ≠ 0 → ¬ (17 + 12 * A.n ≤ k ∧ k < 17 + 12 * A.n + 6) → cl (M1.w o 0 (nI A.n + 1)) o k = cl M o k := fun k a b => (cl_n a).trans (c0 k (by omega) (by omega) (by omega) (by omega) (by omega) (by omega))
  have kN : ∀ k, k ≠ 0 → cl (M1.w o 0 (nI A.n + 1)) o k = cl M1 o k := fun k a => cl_n a
  obtain ⟨h1, h2, h3, h4, h5, h6, h7, h8⟩ := id hA
  refine h _ ⟨⟨cl_at.trans (nI_1 _), hn⟩, fun k hk => (k0 (1 + k) (by omega) (by omega)).trans (h2 k hk), fun k hk => (k0 (7 + k) (by omega) (by omega)).trans (h3 k hk), fun p hp k hk => ?_, fun p hp k hk => ?_, (k0 6 (by omega) (by omega)).trans h6, h7, fun i (hi : i < A.d.length) t ht => (k0 (641 + 4 * i + t) (by omega) (by omega)).trans (h8 i hi t ht)⟩ (fun p hp1 hp2 k hk => (k0 (17 + 12 * p + k) (by omega) (by omega)).trans (hz p (by omega) hp2 k hk)) (fF.w (by decide))
  · have hp' : p < A.n + 1 := hp
    show cl _ o (17 + 12 * p + k) = if p = A.n then _ else A.f p k
    by_cases e : p = A.n
    · rw [if_pos e, e]
      rcases (show k = 0 ∨ k = 1 ∨ k = 2 ∨ k = 3 ∨ k = 4 ∨ k = 5 ∨ k = 6 ∨ k = 7 ∨ k = 8 ∨ k = 9 by omega) with rfl | rfl | rfl | rfl | rfl | rfl | rfl | rfl | rfl | rfl
      · exact (kN _ (by omega)).trans v0
      · exact (kN _ (by omega)).trans v1
      · exact (kN _ (by omega)).trans v2
      · exact (kN _ (by omega)).trans v3
      · exact (kN _ (by omega)).trans v4
      · exact (kN _ (by omega)).trans v5
      · exact (k0 _ (by omega) (by omega)).trans (hz A.n (Nat.le_refl _) hn 6 (by decide))
      · exact (k0 _ (by omega) (by omega)).trans (hz A.n (Nat.le_refl _) hn 7 (by decide))
      · exact (k0 _ (by omega) (by omega)).trans (hz A.n (Nat.le_refl _) hn 8 (by decide))
      · exact (k0 _ (by omega) (by omega)).trans (hz A.n (Nat.le_refl _) hn 9 (by decide))
    · rw [if_neg e]
      exact (k0 _ (by omega) (by omega)).trans (h4 p (by omega) k hk)
  · have hp' : p < A.n + 1 := hp
    show cl _ o (17 + 12 * p + (10 + k)) = nI (if (2 * p + k) / 2 = A.n then [] else A.s (2 * p + k)).length ∧ (if (2 * p + k) / 2 = A.n then [] else A.s (2 * p + k)).length ≤ 20 ∧ ∀ i, i < (if (2 * p + k) / 2 = A.n then [] else A.s (2 * p + k)).length → cl _ o (161 + 20 * (2 * p + k) + i) = (if (2 * p + k) / 2 = A.n then [] else A.s (2 * p + k)).getD i 0
    by_cases e : p = A.n
    · rw [if_pos (by omega)]
      refine ⟨(k0 _ (by omega) (by omega)).trans ?_, by decide, fun i hi => absurd hi (Nat.not_lt_zero i)⟩
      rw [e]
      exact hz A.n (Nat.le_refl _) hn (10 + k) (by omega)
    · rw [if_neg (by omega)]
      obtain ⟨a, b, c⟩ := h5 p (by omega) k hk
      exact ⟨(k0 _ (by omega) (by omega)).trans a, b, fun i hi => (k0 _ (by omega) (by omega)).trans (c i hi)⟩
theorem s_X9_spiesNear {x : Nat} {r t : Int32} (hR : Ro M o) (hA : MR M o A) (hO : ∀ p, p < A.n → fOk A.n (A.f p)) (hx : x < A.n) (h : P (.inl (some (.int (spNearV A x r t)))) M) : Sp E yX9_spiesNear cX9_spiesNear zX9_spiesNear [.ref (ad E 20 0 0), .int (nI x), .int r, .int t] M P := by
  have h12 := hA.n12
  unfold spNearV at h
  refine Sp_of (own := RX9) (by decide) rfl rfl (Nat.le_of_ble_eq_true rfl) (fun C => ?_)
  refine G_iconst (v := 0) dX9_spiesNear_0 (by decide) ?_
  refine G_istore dX9_spiesNear_1 (Nat.le_of_ble_eq_true rfl) ?_
  refine G_iconst (v := 0) dX9_spiesNear_3 (by decide) ?_
  refine G_istore dX9_spiesNear_4 (Nat.le_of_ble_eq_true rfl) ?_
  refine G_lv (lv' := [(0, .ref (ad E 20 0 0)), (1, .int (nI x)), (2, .int r), (3, .int t), (4, .int (sm 0 (fun i => if spNearP A x r t i = true then 1 else 0))), (5, .int (nI 0))]) ⟨rfl, rfl, rfl, rfl, rfl, rfl, trivial⟩ ?_
  refine up0 (c := A.n) (H := fun i => G E C RX9 cX9_spiesNear zX9_spiesNear P 0 0 M 6 [(0, .ref (ad E 20 0 0)), (1, .int (nI x)), (2, .int r), (3, .int t), (4, .int (sm i (fun i => if spNearP A x r t i = true then 1 else 0))), (5, .int (nI i))] []) ?_ (fun i hi ih => ?_)
  · refine G_iload dX9_spiesNear_6 rfl ?_
    refine G_aload_n dX9_spiesNear_8 rfl ?_
    refine G_iconst (v := 0) dX9_spiesNear_9 (by decide) ?_
    refine cv_X9_50 (cs' := 0) (ss' := 0) dX9_spiesNear_10  (Nat.le_of_ble_eq_true rfl) (Nat.le_of_ble_eq_true rfl) (Nat.le_of_ble_eq_true rfl) rfl rfl (Nat.le_of_ble_eq_true rfl) (Nat.le_of_ble_eq_true rfl) rfl ?_
    refine s_X9_get (w := 0) hR (by decide) hA.n (hGo_i ?_)
    refine G_icmp_ge (tgt := 72) dX9_spiesNear_13 (by decide) (fun c13 => ?_) (fun c13 => ?_)
    · refine G_iload dX9_spiesNear_72 rfl ?_
      refine G_iret dX9_spiesNear_74 rfl rfl (Nat.le_of_ble_eq_true rfl) (Nat.le_of_ble_eq_true rfl) ?_
      exact h
    · exact absurd (Int32.le_refl _) c13
  · have h4 := (hO i hi).2.2.1
    have h8 := (hO i hi).2.2.2.1
    have g60 : ∀ v : Int32, (v = if spNearP A x r t i = true then 1 else 0) → G E C RX9 cX9_spiesNear zX9_spiesNear P 0 0 M 60 [(0, .ref (ad E 20 0 0)), (1, .int (nI x)), (2, .int r), (3, .int t), (4, .int (sm i (fun i => if spNearP A x r t i = true then 1 else 0))), (5, .int (nI i))] [.int v, .int (sm i (fun i => if spNearP A x r t i = true then 1 else 0))] := fun v hv => by
      refine cv_X9_110 (cs' := 0) (ss' := 0) dX9_spiesNear_60  (Nat.le_of_ble_eq_true rfl) (Nat.le_of_ble_eq_true rfl) (Nat.le_of_ble_eq_true rfl) rfl rfl (Nat.le_of_ble_eq_true rfl) (Nat.le_of_ble_eq_true rfl) rfl ?_
      refine s_X9_one (by rw [hv]; split <;> simp) (hGo_i ?_)
      refine G_iadd dX9_spiesNear_63 ?_
      refine G_istore dX9_spiesNear_64 (Nat.le_of_ble_eq_true rfl) ?_
      refine G_iinc (v := 1) dX9_spiesNear_66 rfl (Nat.le_of_ble_eq_true rfl) (by decide) ?_
      refine G_goto (tgt := 6) dX9_spiesNear_69 (by decide) ?_
      exact G_lv2 ih ⟨rfl, rfl, rfl, rfl, lvi (by rw [hv]; rfl), lvi (nI_1 i), trivial⟩
    have e1 : i ≠ x → sp A i = true → nrB A i r t = true → spNearP A x r t i = true := fun a b c => by
      unfold spNearP
      rw [decide_eq_true a, b, c]
      rfl
    have e0 : spNearP A x r t i = true → i ≠ x ∧ sp A i = true ∧ nrB A i r t = true := fun z => by
      unfold spNearP at z
      rw [Bool.and_eq_true, Bool.and_eq_true, decide_eq_true_eq] at z
      exact z
    have g59 : spNearP A x r t i ≠ true → ∀ lv, lvAll lv [(0, .ref (ad E 20 0 0)), (1, .int (nI x)), (2, .int r), (3, .int t), (4, .int (sm i (fun i => if spNearP A x r t i = true then 1 else 0))), (5, .int (nI i))] → G E C RX9 cX9_spiesNear zX9_spiesNear P 0 0 M 59 lv [.int (sm i (fun i => if spNearP A x r t i = true then 1 else 0))] := fun q lv hlv => by
      refine G_iconst (v := 0) dX9_spiesNear_59 (by decide) ?_
      exact G_lv2 (g60 0 (by rw [if_neg q])) hlv
    refine G_iload dX9_spiesNear_6 rfl ?_
    refine G_aload_n dX9_spiesNear_8 rfl ?_
    refine G_iconst (v := 0) dX9_spiesNear_9 (by decide) ?_
    refine cv_X9_50 (cs' := 0) (ss' := 0) dX9_spiesNear_10  (Nat.le_of_ble_eq_true rfl) (Nat.le_of_ble_eq_true rfl) (Nat.le_of_ble_eq_true rfl) rfl rfl (Nat.le_of_ble_eq_true rfl) (Nat.le_of_ble_eq_true rfl) rfl ?_
    refine s_X9_get (w := 0) hR (by decide) hA.n (hGo_i ?_)
    refine G_icmp_ge (tgt := 72) dX9_spiesNear_13 (by decide) (fun c13 => ?_) (fun c13 => ?_)
    · exact absurd c13 (nI_ge hi (by omega))
    · refine G_iload dX9_spiesNear_16 rfl ?_
      refine G_iload dX9_spiesNear_18 rfl ?_
      refine G_iload_n dX9_spiesNear_20 rfl ?_
      refine G_icmp_eq (tgt := 59) dX9_spiesNear_21 (by decide) (fun c21 => ?_) (fun c21 => ?_)
      · exact g59 (fun z => (e0 z).1 ((nI_eq (by omega) (by omega)).mp c21)) _ ⟨rfl, rfl, rfl, rfl, rfl, rfl, trivial⟩
      · have ex : i ≠ x := fun q => c21 (by rw [q])
        refine G_aload_n dX9_spiesNear_24 rfl ?_
        refine G_iload dX9_spiesNear_25 rfl ?_
        refine G_iconst (v := 4) dX9_spiesNear_27 (by decide) ?_
        refine cv_X9_54 (cs' := 0) (ss' := 0) dX9_spiesNear_28  (Nat.le_of_ble_eq_true rfl) (Nat.le_of_ble_eq_true rfl) (Nat.le_of_ble_eq_true rfl) rfl rfl (Nat.le_of_ble_eq_true rfl) (Nat.le_of_ble_eq_true rfl) rfl ?_
        refine s_X9_pu (t := 4) hR (by omega) (by decide) (hA.f hi (by decide)) (hGo_i ?_)
        refine G_iconst (v := 1) dX9_spiesNear_31 (by decide) ?_
        refine G_icmp_ne (tgt := 59) dX9_spiesNear_32 (by decide) (fun c32 => ?_) (fun c32 => ?_)
        · exact g59 (fun z => c32 (h4.resolve_left (of_decide_eq_true (e0 z).2.1).1)) _ ⟨rfl, rfl, rfl, rfl, rfl, rfl, trivial⟩
        · refine G_aload_n dX9_spiesNear_35 rfl ?_
          refine G_iload dX9_spiesNear_36 rfl ?_
          refine cv_X9_99 (cs' := 0) (ss' := 0) dX9_spiesNear_38  (Nat.le_of_ble_eq_true rfl) (Nat.le_of_ble_eq_true rfl) (Nat.le_of_ble_eq_true rfl) rfl rfl (Nat.le_of_ble_eq_true rfl) (Nat.le_of_ble_eq_true rfl) rfl ?_
          refine s_X9_isDetained hR (by omega) (hA.f hi (by decide)) (hGo_i ?_)
          by_cases c8 : 0 < A.f i 8
          · rw [if_pos c8]
            refine G_if_ne (tgt := 59) dX9_spiesNear_41 (by decide) (fun c41 => ?_) (fun c41 => ?_)
            · refine g59 (fun z => ?_) _ ⟨rfl, rfl, rfl, rfl, rfl, rfl, trivial⟩
              rw [(of_decide_eq_true (e0 z).2.1).2] at c8
              exact absurd c8 (by decide)
            · exact absurd c41 (by decide)
          · rw [if_neg c8]
            refine G_if_ne (tgt := 59) dX9_spiesNear_41 (by decide) (fun c41 => ?_) (fun c41 => ?_)
            · exact absurd rfl c41
            · have hsp : sp A i = true := decide_eq_true ⟨by rw [c32]; decide, Int32.le_antisymm (Int32.not_lt.mp c8) h8⟩
              refine G_aload_n dX9_spiesNear_44 rfl ?_
              refine G_iload dX9_spiesNear_45 rfl ?_
              refine G_iload_n dX9_spiesNear_47 rfl ?_
              refine G_iload_n dX9_spiesNear_48 rfl ?_
              refine cv_X9_95 (cs' := 0) (ss' := 0) dX9_spiesNear_49  (Nat.le_of_ble_eq_true rfl) (Nat.le_of_ble_eq_true rfl) (Nat.le_of_ble_eq_true rfl) rfl rfl (Nat.le_of_ble_eq_true rfl) (Nat.le_of_ble_eq_true rfl) rfl ?_
              refine s_X9_isNearBench hR hA hi (hGo_i ?_)
              by_cases n1 : nrB A i r t = true
              · rw [if_pos n1]
                refine G_if_eq (tgt := 59) dX9_spiesNear_52 (by decide) (fun c52 => ?_) (fun c52 => ?_)
                · exact absurd c52 (by decide)
                · refine G_iconst (v := 1) dX9_spiesNear_55 (by decide) ?_
                  refine G_goto (tgt := 60) dX9_spiesNear_56 (by decide) ?_
                  exact G_lv2 (g60 1 (by rw [if_pos (e1 ex hsp n1)])) ⟨rfl, rfl, rfl, rfl, rfl, rfl, trivial⟩
              · rw [if_neg n1]
                refine G_if_eq (tgt := 59) dX9_spiesNear_52 (by decide) (fun c52 => ?_) (fun c52 => ?_)
                · exact g59 (fun z => n1 (e0 z).2.2) _ ⟨rfl, rfl, rfl, rfl, rfl, rfl, trivial⟩
                · exact absurd rfl c52
end MEND
