/-! ===== HomeworkBarterModel: weeks ===== -/
section MWEEK
variable {E : Ed} {M M' : Mm} {P : Res → Mm → Prop} {A B : Ab} {o : Nat}
theorem sF_sF {p t q u : Nat} {v w : Int32} (h : t ≠ u) : (A.sF p t v).sF q u w = (A.sF q u w).sF p t v := by
  show (A.n, A.g, _, A.s, A.d) = (A.n, A.g, _, A.s, A.d)
  congr 2
  refine Prod.ext ?_ rfl
  funext i k
  show (if i = q ∧ k = u then w else if i = p ∧ k = t then v else A.f i k) = if i = p ∧ k = t then v else if i = q ∧ k = u then w else A.f i k
  by_cases e : i = q ∧ k = u
  · rw [if_pos e, if_neg (fun z => h (z.2.symm.trans e.2)), if_pos e]
  · rw [if_neg e, if_neg e]
theorem sG_sG {t : Nat} {v w : Int32} : (A.sG t v).sG t w = A.sG t w := by
  show (A.n, _, A.f, A.s, A.d) = (A.n, _, A.f, A.s, A.d)
  congr 1
  refine Prod.ext ?_ rfl
  funext k
  show (if k = t then w else if k = t then v else A.g k) = if k = t then w else A.g k
  split <;> rfl
theorem sG_comm {t u : Nat} {v w : Int32} (h : t ≠ u) : (A.sG t v).sG u w = (A.sG u w).sG t v := by
  show (A.n, _, A.f, A.s, A.d) = (A.n, _, A.f, A.s, A.d)
  congr 1
  refine Prod.ext ?_ rfl
  funext k
  show (if k = u then w else if k = t then v else A.g k) = if k = t then v else if k = u then w else A.g k
  by_cases e : k = u
  · rw [if_pos e, if_neg (fun z => h (z.symm.trans e)), if_pos e]
  · rw [if_neg e, if_neg e]
theorem sG_g {t u : Nat} {v : Int32} (h : u ≠ t) : (A.sG t v).g u = A.g u := if_neg h
theorem sG_at {t : Nat} {v : Int32} : (A.sG t v).g t = v := if_pos rfl
theorem sF_f {p t q u : Nat} {v : Int32} (h : u ≠ t) : (A.sF p t v).f q u = A.f q u := if_neg (fun z => h z.2)
theorem sF_at {p t : Nat} {v : Int32} : (A.sF p t v).f p t = v := if_pos ⟨rfl, rfl⟩
theorem sS_g {q : Nat} {L : List Int32} : (A.sS q L).g = A.g := rfl
theorem sS_n {q : Nat} {L : List Int32} : (A.sS q L).n = A.n := rfl
theorem sS_f {q : Nat} {L : List Int32} : (A.sS q L).f = A.f := rfl
theorem sG_s {t : Nat} {v : Int32} : (A.sG t v).s = A.s := rfl
theorem sG_n {t : Nat} {v : Int32} : (A.sG t v).n = A.n := rfl
theorem sG_f {t : Nat} {v : Int32} : (A.sG t v).f = A.f := rfl
theorem sF_s {p t : Nat} {v : Int32} : (A.sF p t v).s = A.s := rfl
theorem sF_n {p t : Nat} {v : Int32} : (A.sF p t v).n = A.n := rfl
theorem sF_g {p t : Nat} {v : Int32} : (A.sF p t v).g = A.g := rfl
theorem sG_sS {q t : Nat} {L : List Int32} {v : Int32} : (A.sS q L).sG t v = (A.sG t v).sS q L := rfl
theorem hdN_le {x s : Nat} : hdN A x s ≤ (A.s (2 * x + s)).length := Nat.min_le_right _ _
theorem s_X9_handsIn {x s : Nat} (hR : Ro M o) (hA : MR M o A) (hx : x < A.n) (hs : s < 2) (h0 : 0 ≤ A.g (4 + s)) (h : P (.inl (some (.int (nI (hdN A x s))))) M) : Sp E yX9_handsIn cX9_handsIn zX9_handsIn [.ref (ad E 20 0 0), .int (nI x), .int (nI s)] M P := by
  have h12 := hA.n12
  have l20 := hA.l20 hx hs
  obtain ⟨d, hd, ed⟩ := nI_of (Int32.not_lt.mpr h0)
  have eh : hdN A x s = min d (A.s (2 * x + s)).length := by unfold hdN; rw [ed, nI_clamp hd]
  refine Sp_of (own := RX9) (by decide) rfl rfl (Nat.le_of_ble_eq_true rfl) (fun C => ?_)
  refine G_aload_n dX9_handsIn_0 rfl ?_
  refine G_iload_n dX9_handsIn_1 rfl ?_
  refine G_iload_n dX9_handsIn_2 rfl ?_
  refine cv_X9_65 (cs' := 0) (ss' := 0) dX9_handsIn_3  (Nat.le_of_ble_eq_true rfl) (Nat.le_of_ble_eq_true rfl) (Nat.le_of_ble_eq_true rfl) rfl rfl (Nat.le_of_ble_eq_true rfl) (Nat.le_of_ble_eq_true rfl) rfl ?_
  refine s_X9_many hR (by omega) hs (hA.many hx hs) (hGo_i ?_)
  refine G_aload_n dX9_handsIn_6 rfl ?_
  refine G_iconst (v := 4) dX9_handsIn_7 (by decide) ?_
  refine G_iload_n dX9_handsIn_8 rfl ?_
  refine G_iadd dX9_handsIn_9 ?_
  rw [show (4 : Int32) + nI s = nI (4 + s) from nI_add 4 s]
  refine cv_X9_50 (cs' := 0) (ss' := 0) dX9_handsIn_10  (Nat.le_of_ble_eq_true rfl) (Nat.le_of_ble_eq_true rfl) (Nat.le_of_ble_eq_true rfl) rfl rfl (Nat.le_of_ble_eq_true rfl) (Nat.le_of_ble_eq_true rfl) rfl ?_
  refine s_X9_get (v := nI d) hR (by omega) (by
    have := hA.g (t := 3 + s) (by omega)
    rw [show 1 + (3 + s) = 4 + s by omega] at this
    exact this.trans ed) (hGo_i ?_)
  refine G_mmin dX9_handsIn_13 (hqx 1723 (by decide +kernel) rfl) (hqx 358 (by decide +kernel) rfl) (hqx 16 (by decide +kernel) rfl) (hqx 359 (by decide +kernel) rfl) (Nat.le_of_ble_eq_true rfl) (Nat.le_of_ble_eq_true rfl) (Nat.le_of_ble_eq_true rfl) (Nat.le_of_ble_eq_true rfl) ?_
  refine G_iret dX9_handsIn_16 rfl rfl (Nat.le_of_ble_eq_true rfl) (Nat.le_of_ble_eq_true rfl) ?_
  rw [eh] at h
  by_cases q : d < (A.s (2 * x + s)).length
  · rw [if_pos (nI_lt q (by omega))]
    rw [Nat.min_eq_left (by omega)] at h
    exact h
  · rw [if_neg (nI_nlt (by omega) (by omega))]
    rw [Nat.min_eq_right (by omega)] at h
    exact h
theorem s_X9_marks {x : Nat} (hR : Ro M o) (hA : MR M o A) (hx : x < A.n) (h4 : 0 ≤ A.g 4) (h5 : 0 ≤ A.g 5) (h : P (.inl (some (.int (A.g 4 + A.g 5 - nI (hdN A x 0) - nI (hdN A x 1))))) M) : Sp E yX9_marks cX9_marks zX9_marks [.ref (ad E 20 0 0), .int (nI x)] M P := by
  refine Sp_of (own := RX9) (by decide) rfl rfl (Nat.le_of_ble_eq_true rfl) (fun C => ?_)
  refine G_aload_n dX9_marks_0 rfl ?_
  refine G_iconst (v := 4) dX9_marks_1 (by decide) ?_
  refine cv_X9_50 (cs' := 0) (ss' := 0) dX9_marks_2  (Nat.le_of_ble_eq_true rfl) (Nat.le_of_ble_eq_true rfl) (Nat.le_of_ble_eq_true rfl) rfl rfl (Nat.le_of_ble_eq_true rfl) (Nat.le_of_ble_eq_true rfl) rfl ?_
  refine s_X9_get (w := 4) hR (by decide) (hA.g (t := 3) (by decide)) (hGo_i ?_)
  refine G_aload_n dX9_marks_5 rfl ?_
  refine G_iconst (v := 5) dX9_marks_6 (by decide) ?_
  refine cv_X9_50 (cs' := 0) (ss' := 0) dX9_marks_7  (Nat.le_of_ble_eq_true rfl) (Nat.le_of_ble_eq_true rfl) (Nat.le_of_ble_eq_true rfl) rfl rfl (Nat.le_of_ble_eq_true rfl) (Nat.le_of_ble_eq_true rfl) rfl ?_
  refine s_X9_get (w := 5) hR (by decide) (hA.g (t := 4) (by decide)) (hGo_i ?_)
  refine G_iadd dX9_marks_10 ?_
  refine G_aload_n dX9_marks_11 rfl ?_
  refine G_iload_n dX9_marks_12 rfl ?_
  refine G_iconst (v := 0) dX9_marks_13 (by decide) ?_
  refine cv_X9_123 (cs' := 0) (ss' := 0) dX9_marks_14  (Nat.le_of_ble_eq_true rfl) (Nat.le_of_ble_eq_true rfl) (Nat.le_of_ble_eq_true rfl) rfl rfl (Nat.le_of_ble_eq_true rfl) (Nat.le_of_ble_eq_true rfl) rfl ?_
  refine s_X9_handsIn (s := 0) hR hA hx (by decide) h4 (hGo_i ?_)
  refine G_isub dX9_marks_17 ?_
  refine G_aload_n dX9_marks_18 rfl ?_
  refine G_iload_n dX9_marks_19 rfl ?_
  refine G_iconst (v := 1) dX9_marks_20 (by decide) ?_
  refine cv_X9_123 (cs' := 0) (ss' := 0) dX9_marks_21  (Nat.le_of_ble_eq_true rfl) (Nat.le_of_ble_eq_true rfl) (Nat.le_of_ble_eq_true rfl) rfl rfl (Nat.le_of_ble_eq_true rfl) (Nat.le_of_ble_eq_true rfl) rfl ?_
  refine s_X9_handsIn (s := 1) hR hA hx (by decide) h5 (hGo_i ?_)
  refine G_isub dX9_marks_24 ?_
  refine G_iret dX9_marks_25 rfl rfl (Nat.le_of_ble_eq_true rfl) (Nat.le_of_ble_eq_true rfl) ?_
  exact h
theorem s_X9_ofMaker {x s e : Nat} {m : Int32} (hR : Ro M o) (hA : MR M o A) (hx : x < A.n) (hs : s < 2) (he : e ≤ (A.s (2 * x + s)).length) (h : P (.inl (some (.int (ofM (A.s (2 * x + s)) m e)))) M) : Sp E yX9_ofMaker cX9_ofMaker zX9_ofMaker [.ref (ad E 20 0 0), .int (nI x), .int (nI s), .int m, .int (nI e)] M P := by
  have h12 := hA.n12
  have l20 := hA.l20 hx hs
  refine Sp_of (own := RX9) (by decide) rfl rfl (Nat.le_of_ble_eq_true rfl) (fun C => ?_)
  refine G_iconst (v := 0) dX9_ofMaker_0 (by decide) ?_
  refine G_istore dX9_ofMaker_1 (Nat.le_of_ble_eq_true rfl) ?_
  refine G_iconst (v := 0) dX9_ofMaker_3 (by decide) ?_
  refine G_istore dX9_ofMaker_4 (Nat.le_of_ble_eq_true rfl) ?_
  refine G_lv (lv' := [(0, .ref (ad E 20 0 0)), (1, .int (nI x)), (2, .int (nI s)), (3, .int m), (4, .int (nI e)), (5, .int (ofM (A.s (2 * x + s)) m 0)), (6, .int (nI 0))]) ⟨rfl, rfl, rfl, rfl, rfl, rfl, rfl, trivial⟩ ?_
  refine up0 (c := e) (H := fun i => G E C RX9 cX9_ofMaker zX9_ofMaker P 0 0 M 6 [(0, .ref (ad E 20 0 0)), (1, .int (nI x)), (2, .int (nI s)), (3, .int m), (4, .int (nI e)), (5, .int (ofM (A.s (2 * x + s)) m i)), (6, .int (nI i))] []) ?_ (fun i hi ih => ?_)
  · refine G_iload dX9_ofMaker_6 rfl ?_
    refine G_iload dX9_ofMaker_8 rfl ?_
    refine G_icmp_ge (tgt := 44) dX9_ofMaker_10 (by decide) (fun c10 => ?_) (fun c10 => ?_)
    · refine G_iload dX9_ofMaker_44 rfl ?_
      refine G_iret dX9_ofMaker_46 rfl rfl (Nat.le_of_ble_eq_true rfl) (Nat.le_of_ble_eq_true rfl) ?_
      exact h
    · exact absurd (Int32.le_refl _) c10
  · refine G_iload dX9_ofMaker_6 rfl ?_
    refine G_iload dX9_ofMaker_8 rfl ?_
    refine G_icmp_ge (tgt := 44) dX9_ofMaker_10 (by decide) (fun c10 => ?_) (fun c10 => ?_)
    · exact absurd c10 (nI_ge hi (by omega))
    · refine G_iload dX9_ofMaker_13 rfl ?_
      refine G_aload_n dX9_ofMaker_15 rfl ?_
      refine G_iload_n dX9_ofMaker_16 rfl ?_
      refine G_iload_n dX9_ofMaker_17 rfl ?_
      refine G_iload dX9_ofMaker_18 rfl ?_
      refine cv_X9_71 (cs' := 0) (ss' := 0) dX9_ofMaker_20  (Nat.le_of_ble_eq_true rfl) (Nat.le_of_ble_eq_true rfl) (Nat.le_of_ble_eq_true rfl) rfl rfl (Nat.le_of_ble_eq_true rfl) (Nat.le_of_ble_eq_true rfl) rfl ?_
      refine s_X9_makerAt hR (by omega) hs (by omega) (hA.mk hx hs (by omega)) (hGo_i ?_)
      refine G_iload_n dX9_ofMaker_23 rfl ?_
      refine G_icmp_ne (tgt := 31) dX9_ofMaker_24 (by decide) (fun c24 => ?_) (fun c24 => ?_)
      · refine G_iconst (v := 0) dX9_ofMaker_31 (by decide) ?_
        refine cv_X9_110 (cs' := 0) (ss' := 0) dX9_ofMaker_32  (Nat.le_of_ble_eq_true rfl) (Nat.le_of_ble_eq_true rfl) (Nat.le_of_ble_eq_true rfl) rfl rfl (Nat.le_of_ble_eq_true rfl) (Nat.le_of_ble_eq_true rfl) rfl ?_
        refine s_X9_one (Or.inl rfl) (hGo_i ?_)
        refine G_iadd dX9_ofMaker_35 ?_
        refine G_istore dX9_ofMaker_36 (Nat.le_of_ble_eq_true rfl) ?_
        refine G_iinc (v := 1) dX9_ofMaker_38 rfl (Nat.le_of_ble_eq_true rfl) (by decide) ?_
        refine G_goto (tgt := 6) dX9_ofMaker_41 (by decide) ?_
        exact G_lv2 ih ⟨rfl, rfl, rfl, rfl, rfl, lvi (sm_t (if_neg c24)), lvi (nI_1 i), trivial⟩
      · refine G_iconst (v := 1) dX9_ofMaker_27 (by decide) ?_
        refine G_goto (tgt := 32) dX9_ofMaker_28 (by decide) ?_
        refine cv_X9_110 (cs' := 0) (ss' := 0) dX9_ofMaker_32  (Nat.le_of_ble_eq_true rfl) (Nat.le_of_ble_eq_true rfl) (Nat.le_of_ble_eq_true rfl) rfl rfl (Nat.le_of_ble_eq_true rfl) (Nat.le_of_ble_eq_true rfl) rfl ?_
        refine s_X9_one (Or.inr rfl) (hGo_i ?_)
        refine G_iadd dX9_ofMaker_35 ?_
        refine G_istore dX9_ofMaker_36 (Nat.le_of_ble_eq_true rfl) ?_
        refine G_iinc (v := 1) dX9_ofMaker_38 rfl (Nat.le_of_ble_eq_true rfl) (by decide) ?_
        refine G_goto (tgt := 6) dX9_ofMaker_41 (by decide) ?_
        exact G_lv2 ih ⟨rfl, rfl, rfl, rfl, rfl, lvi (sm_t (if_pos c24)), lvi (nI_1 i), trivial⟩
def rhy (A : Ab) (x m : Nat) : Nat := if m = x then 0 else cN (A.s (2 * x + 1)) (nI m) (hdN A x 1) - 1
theorem s_X9_growth {x : Nat} (hR : Ro M o) (hA : MR M o A) (hO : Ok A) (hx : x < A.n) (h : P (.inl (some (.int (growV A x)))) M) : Sp E yX9_growth cX9_growth zX9_growth [.ref (ad E 20 0 0), .int (nI x)] M P := by
  have h12 := hA.n12
  have l0 := hA.l20 hx (s := 0) (by decide)
  have l1 := hA.l20 hx (s := 1) (by decide)
  have d0 := hdN_le (A := A) (x := x) (s := 0)
  have d1 := hdN_le (A := A) (x := x) (s := 1)
  have h4 := hO.2.1.2.1
  have h5 := hO.2.1.2.2
  have eg : growV A x = nI (hdN A x 0 - cN (A.s (2 * x)) (nI x) (hdN A x 0)) / 3 + nI (sN A.n (rhy A x)) := by
    unfold growV
    exact grow_eq h12 hx (fun k hk => (hO.2.2.2.1 (2 * x + 1) (by omega)).2 k (by omega)) (by omega)
  rw [eg] at h
  have c0 := cN_le (L := A.s (2 * x)) (x := nI x) (h := hdN A x 0)
  refine Sp_of (own := RX9) (by decide) rfl rfl (Nat.le_of_ble_eq_true rfl) (fun C => ?_)
  refine G_aload_n dX9_growth_0 rfl ?_
  refine G_iload_n dX9_growth_1 rfl ?_
  refine G_iconst (v := 0) dX9_growth_2 (by decide) ?_
  refine cv_X9_123 (cs' := 0) (ss' := 0) dX9_growth_3  (Nat.le_of_ble_eq_true rfl) (Nat.le_of_ble_eq_true rfl) (Nat.le_of_ble_eq_true rfl) rfl rfl (Nat.le_of_ble_eq_true rfl) (Nat.le_of_ble_eq_true rfl) rfl ?_
  refine s_X9_handsIn (s := 0) hR hA hx (by decide) h4 (hGo_i ?_)
  refine G_aload_n dX9_growth_6 rfl ?_
  refine G_iload_n dX9_growth_7 rfl ?_
  refine G_iconst (v := 0) dX9_growth_8 (by decide) ?_
  refine G_iload_n dX9_growth_9 rfl ?_
  refine G_aload_n dX9_growth_10 rfl ?_
  refine G_iload_n dX9_growth_11 rfl ?_
  refine G_iconst (v := 0) dX9_growth_12 (by decide) ?_
  refine cv_X9_123 (cs' := 0) (ss' := 0) dX9_growth_13  (Nat.le_of_ble_eq_true rfl) (Nat.le_of_ble_eq_true rfl) (Nat.le_of_ble_eq_true rfl) rfl rfl (Nat.le_of_ble_eq_true rfl) (Nat.le_of_ble_eq_true rfl) rfl ?_
  refine s_X9_handsIn (s := 0) hR hA hx (by decide) h4 (hGo_i ?_)
  refine cv_X9_126 (cs' := 0) (ss' := 0) dX9_growth_16  (Nat.le_of_ble_eq_true rfl) (Nat.le_of_ble_eq_true rfl) (Nat.le_of_ble_eq_true rfl) rfl rfl (Nat.le_of_ble_eq_true rfl) (Nat.le_of_ble_eq_true rfl) rfl ?_
  refine s_X9_ofMaker (s := 0) hR hA hx (by decide) d0 (hGo_i ?_)
  rw [ofM_c]
  refine G_isub dX9_growth_19 ?_
  rw [show nI (hdN A x 0) - nI (cN (A.s (2 * x + 0)) (nI x) (hdN A x 0)) = nI (hdN A x 0 - cN (A.s (2 * x)) (nI x) (hdN A x 0)) from nI_subN c0]
  refine G_istore_n dX9_growth_20 (Nat.le_of_ble_eq_true rfl) ?_
  refine G_iload_n dX9_growth_21 rfl ?_
  refine G_iconst (v := 3) dX9_growth_22 (by decide) ?_
  refine G_idiv dX9_growth_23 (by decide) ?_
  refine G_istore_n dX9_growth_24 (Nat.le_of_ble_eq_true rfl) ?_
  refine G_iconst (v := 0) dX9_growth_25 (by decide) ?_
  refine G_istore dX9_growth_26 (Nat.le_of_ble_eq_true rfl) ?_
  generalize nI (hdN A x 0 - cN (A.s (2 * x)) (nI x) (hdN A x 0)) / 3 = z at h ⊢
  refine G_lv (lv' := [(0, .ref (ad E 20 0 0)), (1, .int (nI x)), (3, .int (z + nI (sN 0 (rhy A x)))), (4, .int (nI 0))]) ⟨rfl, rfl, lvi (Int32.add_zero z).symm, rfl, trivial⟩ ?_
  refine up0 (c := A.n) (H := fun i => G E C RX9 cX9_growth zX9_growth P 0 0 M 28 [(0, .ref (ad E 20 0 0)), (1, .int (nI x)), (3, .int (z + nI (sN i (rhy A x)))), (4, .int (nI i))] []) ?_ (fun i hi ih => ?_)
  · refine G_iload dX9_growth_28 rfl ?_
    refine G_aload_n dX9_growth_30 rfl ?_
    refine G_iconst (v := 0) dX9_growth_31 (by decide) ?_
    refine cv_X9_50 (cs' := 0) (ss' := 0) dX9_growth_32  (Nat.le_of_ble_eq_true rfl) (Nat.le_of_ble_eq_true rfl) (Nat.le_of_ble_eq_true rfl) rfl rfl (Nat.le_of_ble_eq_true rfl) (Nat.le_of_ble_eq_true rfl) rfl ?_
    refine s_X9_get (w := 0) hR (by decide) hA.n (hGo_i ?_)
    refine G_icmp_ge (tgt := 73) dX9_growth_35 (by decide) (fun c35 => ?_) (fun c35 => ?_)
    · refine G_iload_n dX9_growth_73 rfl ?_
      refine G_iret dX9_growth_74 rfl rfl (Nat.le_of_ble_eq_true rfl) (Nat.le_of_ble_eq_true rfl) ?_
      exact h
    · exact absurd (Int32.le_refl _) c35
  · have es : sN (i + 1) (rhy A x) = sN i (rhy A x) + rhy A x i := rfl
    refine G_iload dX9_growth_28 rfl ?_
    refine G_aload_n dX9_growth_30 rfl ?_
    refine G_iconst (v := 0) dX9_growth_31 (by decide) ?_
    refine cv_X9_50 (cs' := 0) (ss' := 0) dX9_growth_32  (Nat.le_of_ble_eq_true rfl) (Nat.le_of_ble_eq_true rfl) (Nat.le_of_ble_eq_true rfl) rfl rfl (Nat.le_of_ble_eq_true rfl) (Nat.le_of_ble_eq_true rfl) rfl ?_
    refine s_X9_get (w := 0) hR (by decide) hA.n (hGo_i ?_)
    refine G_icmp_ge (tgt := 73) dX9_growth_35 (by decide) (fun c35 => ?_) (fun c35 => ?_)
    · exact absurd c35 (nI_ge hi (by omega))
    · refine G_iload dX9_growth_38 rfl ?_
      refine G_iload_n dX9_growth_40 rfl ?_
      refine G_icmp_eq (tgt := 67) dX9_growth_41 (by decide) (fun c41 => ?_) (fun c41 => ?_)
      · have e : i = x := (nI_eq (by omega) (by omega)).mp c41
        refine G_iinc (v := 1) dX9_growth_67 rfl (Nat.le_of_ble_eq_true rfl) (by decide) ?_
        refine G_goto (tgt := 28) dX9_growth_70 (by decide) ?_
        refine G_lv2 ih ⟨rfl, rfl, lvi ?_, lvi (nI_1 i), trivial⟩
        rw [es, show rhy A x i = 0 from if_pos e, Nat.add_zero]
      · have e : i ≠ x := fun q => c41 (by rw [q])
        refine G_iload_n dX9_growth_44 rfl ?_
        refine G_iconst (v := 0) dX9_growth_45 (by decide) ?_
        refine G_aload_n dX9_growth_46 rfl ?_
        refine G_iload_n dX9_growth_47 rfl ?_
        refine G_iconst (v := 1) dX9_growth_48 (by decide) ?_
        refine G_iload dX9_growth_49 rfl ?_
        refine G_aload_n dX9_growth_51 rfl ?_
        refine G_iload_n dX9_growth_52 rfl ?_
        refine G_iconst (v := 1) dX9_growth_53 (by decide) ?_
        refine cv_X9_123 (cs' := 0) (ss' := 0) dX9_growth_54  (Nat.le_of_ble_eq_true rfl) (Nat.le_of_ble_eq_true rfl) (Nat.le_of_ble_eq_true rfl) rfl rfl (Nat.le_of_ble_eq_true rfl) (Nat.le_of_ble_eq_true rfl) rfl ?_
        refine s_X9_handsIn (s := 1) hR hA hx (by decide) h5 (hGo_i ?_)
        refine cv_X9_126 (cs' := 0) (ss' := 0) dX9_growth_57  (Nat.le_of_ble_eq_true rfl) (Nat.le_of_ble_eq_true rfl) (Nat.le_of_ble_eq_true rfl) rfl rfl (Nat.le_of_ble_eq_true rfl) (Nat.le_of_ble_eq_true rfl) rfl ?_
        refine s_X9_ofMaker (s := 1) hR hA hx (by decide) d1 (hGo_i ?_)
        rw [ofM_c]
        have cm := cN_le (L := A.s (2 * x + 1)) (x := nI i) (h := hdN A x 1)
        have er : rhy A x i = cN (A.s (2 * x + 1)) (nI i) (hdN A x 1) - 1 := if_neg e
        generalize cN (A.s (2 * x + 1)) (nI i) (hdN A x 1) = n at er cm ⊢
        refine G_iconst (v := 1) dX9_growth_60 (by decide) ?_
        refine G_isub dX9_growth_61 ?_
        refine G_mmax dX9_growth_62 (hqx 1621 (by decide +kernel) rfl) (hqx 604 (by decide +kernel) rfl) (hqx 16 (by decide +kernel) rfl) (hqx 605 (by decide +kernel) rfl) (Nat.le_of_ble_eq_true rfl) (Nat.le_of_ble_eq_true rfl) (Nat.le_of_ble_eq_true rfl) (Nat.le_of_ble_eq_true rfl) ?_
        have em : (if (0 : Int32) < nI n - 1 then nI n - 1 else 0) = nI (n - 1) := by
          rcases Nat.eq_zero_or_pos n with q | q
          · subst q
            rfl
          · rw [show nI n - 1 = nI (n - 1) from nI_subN q]
            by_cases q2 : n - 1 = 0
            · rw [q2]
              rfl
            · rw [if_pos (show (0 : Int32) < nI (n - 1) from nI_lt (a := 0) (by omega) (by omega))]
        rw [em]
        refine G_iadd dX9_growth_65 ?_
        refine G_istore_n dX9_growth_66 (Nat.le_of_ble_eq_true rfl) ?_
        refine G_iinc (v := 1) dX9_growth_67 rfl (Nat.le_of_ble_eq_true rfl) (by decide) ?_
        refine G_goto (tgt := 28) dX9_growth_70 (by decide) ?_
        refine G_lv2 ih ⟨rfl, rfl, lvi ?_, lvi (nI_1 i), trivial⟩
        rw [es, er, Int32.add_assoc, nI_add]
theorem s_X9_punishment {w : Int32} (hR : Ro M o) (hA : MR M o A) (h : P (.inl (some (.int (imin (1 + (w - A.g 3) / 3) 9)))) M) : Sp E yX9_punishment cX9_punishment zX9_punishment [.ref (ad E 20 0 0), .int w] M P := by
  refine Sp_of (own := RX9) (by decide) rfl rfl (Nat.le_of_ble_eq_true rfl) (fun C => ?_)
  refine G_bipush (v := 9) dX9_punishment_0 (by decide) ?_
  refine G_iconst (v := 1) dX9_punishment_2 (by decide) ?_
  refine G_iload_n dX9_punishment_3 rfl ?_
  refine G_aload_n dX9_punishment_4 rfl ?_
  refine G_iconst (v := 3) dX9_punishment_5 (by decide) ?_
  refine cv_X9_50 (cs' := 0) (ss' := 0) dX9_punishment_6  (Nat.le_of_ble_eq_true rfl) (Nat.le_of_ble_eq_true rfl) (Nat.le_of_ble_eq_true rfl) rfl rfl (Nat.le_of_ble_eq_true rfl) (Nat.le_of_ble_eq_true rfl) rfl ?_
  refine s_X9_get (w := 3) hR (by decide) (hA.g (t := 2) (by decide)) (hGo_i ?_)
  refine G_isub dX9_punishment_9 ?_
  refine G_iconst (v := 3) dX9_punishment_10 (by decide) ?_
  refine G_idiv dX9_punishment_11 (by decide) ?_
  refine G_iadd dX9_punishment_12 ?_
  refine G_mmin dX9_punishment_13 (hqx 1723 (by decide +kernel) rfl) (hqx 358 (by decide +kernel) rfl) (hqx 16 (by decide +kernel) rfl) (hqx 359 (by decide +kernel) rfl) (Nat.le_of_ble_eq_true rfl) (Nat.le_of_ble_eq_true rfl) (Nat.le_of_ble_eq_true rfl) (Nat.le_of_ble_eq_true rfl) ?_
  refine G_iret dX9_punishment_16 rfl rfl (Nat.le_of_ble_eq_true rfl) (Nat.le_of_ble_eq_true rfl) ?_
  unfold imin at h
  generalize 1 + (w - A.g 3) / 3 = q at h ⊢
  by_cases c : (9 : Int32) < q
  · rw [if_neg (Int32.not_lt.mpr (Int32.le_of_lt c))]
    rw [if_pos c] at h
    exact h
  · rw [if_neg c] at h
    by_cases c2 : q < 9
    · rw [if_pos c2]
      exact h
    · rw [if_neg c2]
      have : q = 9 := Int32.le_antisymm (Int32.not_lt.mp c) (Int32.not_lt.mp c2)
      rw [this] at h
      exact h
theorem marks_eq (a b c d : Int32) : a + b - c - d = a - c + b - d := by
  rw [Int32.sub_eq_add_neg, Int32.sub_eq_add_neg, Int32.sub_eq_add_neg, Int32.sub_eq_add_neg]
  rw [Int32.add_assoc a b (-c), Int32.add_comm b (-c), ← Int32.add_assoc a (-c) b]
theorem hdN_keep {x s : Nat} (hg : B.g (4 + s) = A.g (4 + s)) (hs : B.s (2 * x + s) = A.s (2 * x + s)) : hdN B x s = hdN A x s := by
  unfold hdN
  rw [hg, hs]
theorem s_X9_hand2 {x : Nat} {M2 : Mm} {lv : List (Nat × Value)} {C : Cx} (hl : lvf lv 0 = some (.ref (ad E 20 0 0)) ∧ lvf lv 1 = some (.int (nI x))) (f2 : Fo o M M2) (hR2 : Ro M2 o) (a2 : MR M2 o B) (Bn : B.n = A.n) (Bg : B.g = A.g) (Bs : B.s = A.s) (h12 : A.n ≤ 12) (h4 : 0 ≤ A.g 4) (h5 : 0 ≤ A.g 5) (hx : x < A.n) (h : ∀ M', MR M' o (((B.sS (2 * x) ((A.s (2 * x)).drop (hdN A x 0))).sS (2 * x + 1) ((A.s (2 * x + 1)).drop (hdN A x 1))).sG 12 (A.g 12 + (nI (hdN A x 0) + nI (hdN A x 1)))) → Fo o M M' → P (.inl none) M') : G E C RX9 cX9_handsAllIn zX9_handsAllIn P 0 0 M2 24 lv [] := by
  refine G_lv (lv' := [(0, .ref (ad E 20 0 0)), (1, .int (nI x))]) ⟨hl.1, hl.2, trivial⟩ ?_
  have hxB : x < B.n := by rw [Bn]; exact hx
  have e0 : hdN B x 0 = hdN A x 0 := hdN_keep (by rw [Bg]) (by rw [Bs])
  refine G_iconst (v := 0) dX9_handsAllIn_24 (by decide) ?_
  refine G_istore_n dX9_handsAllIn_25 (Nat.le_of_ble_eq_true rfl) ?_
  refine G_iload_n dX9_handsAllIn_26 rfl ?_
  refine G_iconst (v := 2) dX9_handsAllIn_27 (by decide) ?_
  refine G_icmp_ge (tgt := 57) dX9_handsAllIn_28 (by decide) (fun c28 => ?_) (fun c28 => ?_)
  · exact absurd c28 (by decide)
  refine G_aload_n dX9_handsAllIn_31 rfl ?_
  refine G_iload_n dX9_handsAllIn_32 rfl ?_
  refine G_iload_n dX9_handsAllIn_33 rfl ?_
  refine cv_X9_123 (cs' := 0) (ss' := 0) dX9_handsAllIn_34  (Nat.le_of_ble_eq_true rfl) (Nat.le_of_ble_eq_true rfl) (Nat.le_of_ble_eq_true rfl) rfl rfl (Nat.le_of_ble_eq_true rfl) (Nat.le_of_ble_eq_true rfl) rfl ?_
  refine s_X9_handsIn (s := 0) hR2 a2 hxB (by decide) (by rw [Bg]; exact h4) (hGo_i ?_)
  rw [e0]
  refine G_istore_n dX9_handsAllIn_37 (Nat.le_of_ble_eq_true rfl) ?_
  refine G_aload_n dX9_handsAllIn_38 rfl ?_
  refine G_iconst (v := 5) dX9_handsAllIn_39 (by decide) ?_
  refine G_iload_n dX9_handsAllIn_40 rfl ?_
  refine cv_X9_117 (cs' := 0) (ss' := 0) dX9_handsAllIn_41  (Nat.le_of_ble_eq_true rfl) (Nat.le_of_ble_eq_true rfl) (Nat.le_of_ble_eq_true rfl) rfl rfl (Nat.le_of_ble_eq_true rfl) (Nat.le_of_ble_eq_true rfl) rfl ?_
  refine s_X9_tallies (t := 5) hR2 (by decide) (a2.tl (t := 5) (by decide)) (hGo_v ?_)
  have a3 := a2.wG (t := 12) (v := B.g 12 + nI (hdN A x 0)) (by omega)
  have hR3 : Ro (M2.w o 12 (B.g 12 + nI (hdN A x 0))) o := hR2.w
  have f3 : Fo o M (M2.w o 12 (B.g 12 + nI (hdN A x 0))) := f2.w (by omega)
  generalize hM3 : M2.w o (7 + 5) (B.g (7 + 5) + nI (hdN A x 0)) = M3
  have hM3' : M2.w o 12 (B.g 12 + nI (hdN A x 0)) = M3 := hM3
  rw [hM3'] at a3 hR3 f3
  rw [Bg] at a3
  have n3 : x < (B.sG 12 (A.g 12 + nI (hdN A x 0))).n := hxB
  refine G_aload_n dX9_handsAllIn_44 rfl ?_
  refine G_iload_n dX9_handsAllIn_45 rfl ?_
  refine G_iload_n dX9_handsAllIn_46 rfl ?_
  refine G_iload_n dX9_handsAllIn_47 rfl ?_
  refine cv_X9_78 (cs' := 0) (ss' := 0) dX9_handsAllIn_48  (Nat.le_of_ble_eq_true rfl) (Nat.le_of_ble_eq_true rfl) (Nat.le_of_ble_eq_true rfl) rfl rfl (Nat.le_of_ble_eq_true rfl) (Nat.le_of_ble_eq_true rfl) rfl ?_
  refine s_X9_goes (s := 0) (e := hdN A x 0) hR3 a3 n3 (by decide) (by rw [sG_s, Bs]; exact hdN_le) (fun M4 a4 f4 => hGo_v ?_)
  have hR4 := hR3.fo f4
  have F4 : Fo o M M4 := f3.trans f4
  rw [sG_s, Bs] at a4
  have g5 : ((B.sG 12 (A.g 12 + nI (hdN A x 0))).sS (2 * x + 0) ((A.s (2 * x + 0)).drop (hdN A x 0))).g (4 + 1) = A.g (4 + 1) := by rw [sS_g, sG_g (by decide), Bg]
  have g12 : ((B.sG 12 (A.g 12 + nI (hdN A x 0))).sS (2 * x + 0) ((A.s (2 * x + 0)).drop (hdN A x 0))).g (7 + 5) = A.g 12 + nI (hdN A x 0) := by rw [sS_g]; exact sG_at
  have s1 : ((B.sG 12 (A.g 12 + nI (hdN A x 0))).sS (2 * x + 0) ((A.s (2 * x + 0)).drop (hdN A x 0))).s (2 * x + 1) = A.s (2 * x + 1) := by rw [sS_s (by omega), sG_s, Bs]
  have n4 : x < ((B.sG 12 (A.g 12 + nI (hdN A x 0))).sS (2 * x + 0) ((A.s (2 * x + 0)).drop (hdN A x 0))).n := by rw [sS_n]; exact n3
  have hD : (B.sG 12 (A.g 12 + nI (hdN A x 0))).sS (2 * x + 0) ((A.s (2 * x + 0)).drop (hdN A x 0)) = (B.sS (2 * x) ((A.s (2 * x)).drop (hdN A x 0))).sG 12 (A.g 12 + nI (hdN A x 0)) := by
    rw [sG_sS]
    rfl
  generalize hDD : (B.sG 12 (A.g 12 + nI (hdN A x 0))).sS (2 * x + 0) ((A.s (2 * x + 0)).drop (hdN A x 0)) = D at a4 g5 g12 s1 n4 hD
  have e1 : hdN D x 1 = hdN A x 1 := hdN_keep g5 s1
  refine G_iinc (v := 1) dX9_handsAllIn_51 rfl (Nat.le_of_ble_eq_true rfl) (by decide) ?_
  refine G_goto (tgt := 26) dX9_handsAllIn_54 (by decide) ?_
  refine G_iload_n dX9_handsAllIn_26 rfl ?_
  refine G_iconst (v := 2) dX9_handsAllIn_27 (by decide) ?_
  refine G_icmp_ge (tgt := 57) dX9_handsAllIn_28 (by decide) (fun c28 => ?_) (fun c28 => ?_)
  · exact absurd c28 (by decide)
  refine G_aload_n dX9_handsAllIn_31 rfl ?_
  refine G_iload_n dX9_handsAllIn_32 rfl ?_
  refine G_iload_n dX9_handsAllIn_33 rfl ?_
  refine cv_X9_123 (cs' := 0) (ss' := 0) dX9_handsAllIn_34  (Nat.le_of_ble_eq_true rfl) (Nat.le_of_ble_eq_true rfl) (Nat.le_of_ble_eq_true rfl) rfl rfl (Nat.le_of_ble_eq_true rfl) (Nat.le_of_ble_eq_true rfl) rfl ?_
  refine s_X9_handsIn (s := 1) hR4 a4 n4 (by decide) (by rw [g5]; exact h5) (hGo_i ?_)
  rw [e1]
  refine G_istore_n dX9_handsAllIn_37 (Nat.le_of_ble_eq_true rfl) ?_
  refine G_aload_n dX9_handsAllIn_38 rfl ?_
  refine G_iconst (v := 5) dX9_handsAllIn_39 (by decide) ?_
  refine G_iload_n dX9_handsAllIn_40 rfl ?_
  refine cv_X9_117 (cs' := 0) (ss' := 0) dX9_handsAllIn_41  (Nat.le_of_ble_eq_true rfl) (Nat.le_of_ble_eq_true rfl) (Nat.le_of_ble_eq_true rfl) rfl rfl (Nat.le_of_ble_eq_true rfl) (Nat.le_of_ble_eq_true rfl) rfl ?_
  refine s_X9_tallies (t := 5) (x := A.g 12 + nI (hdN A x 0)) hR4 (by decide) ((a4.tl (t := 5) (by decide)).trans g12) (hGo_v ?_)
  have a5 := a4.wG (t := 12) (v := A.g 12 + nI (hdN A x 0) + nI (hdN A x 1)) (by omega)
  have n5 : x < (D.sG 12 (A.g 12 + nI (hdN A x 0) + nI (hdN A x 1))).n := n4
  refine G_aload_n dX9_handsAllIn_44 rfl ?_
  refine G_iload_n dX9_handsAllIn_45 rfl ?_
  refine G_iload_n dX9_handsAllIn_46 rfl ?_
  refine G_iload_n dX9_handsAllIn_47 rfl ?_
  refine cv_X9_78 (cs' := 0) (ss' := 0) dX9_handsAllIn_48  (Nat.le_of_ble_eq_true rfl) (Nat.le_of_ble_eq_true rfl) (Nat.le_of_ble_eq_true rfl) rfl rfl (Nat.le_of_ble_eq_true rfl) (Nat.le_of_ble_eq_true rfl) rfl ?_
  refine s_X9_goes (s := 1) (e := hdN A x 1) hR4.w a5 n5 (by decide) (by rw [sG_s, s1]; exact hdN_le) (fun M6 a6 f6 => hGo_v ?_)
  rw [sG_s, s1, hD, sG_sG, Int32.add_assoc, ← sG_sS] at a6
  refine G_iinc (v := 1) dX9_handsAllIn_51 rfl (Nat.le_of_ble_eq_true rfl) (by decide) ?_
  refine G_goto (tgt := 26) dX9_handsAllIn_54 (by decide) ?_
  refine G_iload_n dX9_handsAllIn_26 rfl ?_
  refine G_iconst (v := 2) dX9_handsAllIn_27 (by decide) ?_
  refine G_icmp_ge (tgt := 57) dX9_handsAllIn_28 (by decide) (fun c28 => ?_) (fun c28 => ?_)
  · refine G_vret dX9_handsAllIn_57 rfl (Nat.le_of_ble_eq_true rfl) (Nat.le_of_ble_eq_true rfl) ?_
    exact h M6 a6 ((F4.w (by omega)).trans f6)
  · exact absurd (by decide) c28
theorem s_X9_handsAllIn {x : Nat} (hR : Ro M o) (hA : MR M o A) (hO : Ok A) (hx : x < A.n) (h : ∀ M', MR M' o (handA A x) → Fo o M M' → P (.inl none) M') : Sp E yX9_handsAllIn cX9_handsAllIn zX9_handsAllIn [.ref (ad E 20 0 0), .int (nI x)] M P := by
  have h12 := hA.n12
  have h4 := hO.2.1.2.1
  have h5 := hO.2.1.2.2
  refine Sp_of (own := RX9) (by decide) rfl rfl (Nat.le_of_ble_eq_true rfl) (fun C => ?_)
  refine G_aload_n dX9_handsAllIn_0 rfl ?_
  refine G_iload_n dX9_handsAllIn_1 rfl ?_
  refine G_bipush (v := 6) dX9_handsAllIn_2 (by decide) ?_
  refine G_aload_n dX9_handsAllIn_4 rfl ?_
  refine G_iload_n dX9_handsAllIn_5 rfl ?_
  refine cv_X9_133 (cs' := 0) (ss' := 0) dX9_handsAllIn_6  (Nat.le_of_ble_eq_true rfl) (Nat.le_of_ble_eq_true rfl) (Nat.le_of_ble_eq_true rfl) rfl rfl (Nat.le_of_ble_eq_true rfl) (Nat.le_of_ble_eq_true rfl) rfl ?_
  refine s_X9_growth hR hA hO hx (hGo_i ?_)
  refine cv_X9_68 (cs' := 0) (ss' := 0) dX9_handsAllIn_9  (Nat.le_of_ble_eq_true rfl) (Nat.le_of_ble_eq_true rfl) (Nat.le_of_ble_eq_true rfl) rfl rfl (Nat.le_of_ble_eq_true rfl) (Nat.le_of_ble_eq_true rfl) rfl ?_
  refine s_X9_addsPupil (t := 6) hR (by omega) (by decide) (hA.f hx (by decide)) (hGo_v ?_)
  have a1 := hA.wF (p := x) (t := 6) (v := A.f x 6 + growV A x) (by omega) (by decide)
  have hR1 : Ro (M.w o (17 + 12 * x + 6) (A.f x 6 + growV A x)) o := hR.w
  have f1 : Fo o M (M.w o (17 + 12 * x + 6) (A.f x 6 + growV A x)) := Fo.rfl.w (by omega)
  generalize M.w o (17 + 12 * x + 6) (A.f x 6 + growV A x) = M1 at a1 hR1 f1 ⊢
  refine G_aload_n dX9_handsAllIn_12 rfl ?_
  refine G_iload_n dX9_handsAllIn_13 rfl ?_
  refine G_bipush (v := 7) dX9_handsAllIn_14 (by decide) ?_
  refine G_aload_n dX9_handsAllIn_16 rfl ?_
  refine G_iload_n dX9_handsAllIn_17 rfl ?_
  refine cv_X9_136 (cs' := 0) (ss' := 0) dX9_handsAllIn_18  (Nat.le_of_ble_eq_true rfl) (Nat.le_of_ble_eq_true rfl) (Nat.le_of_ble_eq_true rfl) rfl rfl (Nat.le_of_ble_eq_true rfl) (Nat.le_of_ble_eq_true rfl) rfl ?_
  have e0 : hdN (A.sF x 6 (A.f x 6 + growV A x)) x 0 = hdN A x 0 := hdN_keep rfl rfl
  have e1 : hdN (A.sF x 6 (A.f x 6 + growV A x)) x 1 = hdN A x 1 := hdN_keep rfl rfl
  have eg : (A.sF x 6 (A.f x 6 + growV A x)).g = A.g := rfl
  refine s_X9_marks hR1 a1 hx (by rw [eg]; exact h4) (by rw [eg]; exact h5) (hGo_i ?_)
  rw [e0, e1, eg]
  refine cv_X9_68 (cs' := 0) (ss' := 0) dX9_handsAllIn_21  (Nat.le_of_ble_eq_true rfl) (Nat.le_of_ble_eq_true rfl) (Nat.le_of_ble_eq_true rfl) rfl rfl (Nat.le_of_ble_eq_true rfl) (Nat.le_of_ble_eq_true rfl) rfl ?_
  refine s_X9_addsPupil (t := 7) (x := A.f x 7) hR1 (by omega) (by decide) ((a1.f hx (t := 7) (by decide)).trans (sF_f (by decide))) (hGo_v ?_)
  rw [marks_eq]
  have a2 : MR (M1.w o (17 + 12 * x + 7) (A.f x 7 + (A.g 4 - nI (hdN A x 0) + A.g 5 - nI (hdN A x 1)))) o ((A.sF x 7 (A.f x 7 + (A.g 4 - nI (hdN A x 0) + A.g 5 - nI (hdN A x 1)))).sF x 6 (A.f x 6 + growV A x)) := by
    have := a1.wF (p := x) (t := 7) (v := A.f x 7 + (A.g 4 - nI (hdN A x 0) + A.g 5 - nI (hdN A x 1))) (by omega) (by decide)
    rw [sF_sF (by decide)] at this
    exact this
  have hR2 : Ro (M1.w o (17 + 12 * x + 7) (A.f x 7 + (A.g 4 - nI (hdN A x 0) + A.g 5 - nI (hdN A x 1)))) o := hR1.w
  have f2 : Fo o M (M1.w o (17 + 12 * x + 7) (A.f x 7 + (A.g 4 - nI (hdN A x 0) + A.g 5 - nI (hdN A x 1)))) := f1.w (by omega)
  generalize M1.w o (17 + 12 * x + 7) (A.f x 7 + (A.g 4 - nI (hdN A x 0) + A.g 5 - nI (hdN A x 1))) = M2 at a2 hR2 f2 ⊢
  unfold handA at h
  refine s_X9_hand2 (B := (A.sF x 7 (A.f x 7 + (A.g 4 - nI (hdN A x 0) + A.g 5 - nI (hdN A x 1)))).sF x 6 (A.f x 6 + growV A x)) ⟨rfl, rfl⟩ f2 hR2 a2 rfl rfl rfl h12 h4 h5 hx h
theorem iflip {x : Int32} : (0 : Int32) < x → ¬ x ≤ 0 := Int32.not_le.mpr
/-- a look at the proof, and whom it punished told -/
def lookG (A : Ab) (x : Nat) : Ab := (lookA A x).sG 15 (A.g 15 + lookV A x)
theorem one_pos {v : Int32} (h : 0 < v) : 0 ≤ v - 1 := by
  have h2 : ∃ j : Nat, j < 2 ^ 31 ∧ v = nI j := nI_of (fun q => Int32.lt_irrefl (Int32.lt_trans h q))
  obtain ⟨j, hj, rfl⟩ := h2
  have h3 : 0 < j := by
    rcases Nat.eq_zero_or_pos j with q | q
    · subst q
      exact absurd h (by decide)
    · exact q
  rw [show nI j - 1 = nI (j - 1) from nI_subN h3]
  exact nI_pos' (by omega)
theorem det_eq {v : Int32} (h : 0 ≤ v) : v + -(if 0 < v then (1 : Int32) else 0) = imax (v - 1) 0 := by
  unfold imax
  by_cases q : 0 < v
  · rw [if_pos q, if_neg (Int32.not_lt.mpr (one_pos q)), Int32.sub_eq_add_neg]
  · have : v = 0 := Int32.le_antisymm (Int32.not_lt.mp q) h
    subst this
    decide
theorem s_X9_isLookedAt {x : Nat} (hR : Ro M o) (hA : MR M o A) (hO : Ok A) (hx : x < A.n) (h : ∀ M', MR M' o (lookG A x) → Fo o M M' → P (.inl none) M') : Sp E yX9_isLookedAt cX9_isLookedAt zX9_isLookedAt [.ref (ad E 20 0 0), .int (nI x)] M P := by
  have h12 := hA.n12
  have h8 := (hO.2.2.1 x hx).2.2.2.1
  unfold lookG lookA lookV detV at h
  refine Sp_of (own := RX9) (by decide) rfl rfl (Nat.le_of_ble_eq_true rfl) (fun C => ?_)
  refine G_aload_n dX9_isLookedAt_0 rfl ?_
  refine G_iload_n dX9_isLookedAt_1 rfl ?_
  refine G_bipush (v := 6) dX9_isLookedAt_2 (by decide) ?_
  refine cv_X9_54 (cs' := 0) (ss' := 0) dX9_isLookedAt_4  (Nat.le_of_ble_eq_true rfl) (Nat.le_of_ble_eq_true rfl) (Nat.le_of_ble_eq_true rfl) rfl rfl (Nat.le_of_ble_eq_true rfl) (Nat.le_of_ble_eq_true rfl) rfl ?_
  refine s_X9_pu (t := 6) hR (by omega) (by decide) (hA.f hx (by decide)) (hGo_i ?_)
  refine G_aload_n dX9_isLookedAt_7 rfl ?_
  refine G_iconst (v := 3) dX9_isLookedAt_8 (by decide) ?_
  refine cv_X9_50 (cs' := 0) (ss' := 0) dX9_isLookedAt_9  (Nat.le_of_ble_eq_true rfl) (Nat.le_of_ble_eq_true rfl) (Nat.le_of_ble_eq_true rfl) rfl rfl (Nat.le_of_ble_eq_true rfl) (Nat.le_of_ble_eq_true rfl) rfl ?_
  refine s_X9_get (w := 3) hR (by decide) (hA.g (t := 2) (by decide)) (hGo_i ?_)
  refine G_icmp_ge (tgt := 32) dX9_isLookedAt_12 (by decide) (fun c12 => ?_) (fun c12 => ?_)
  · rw [if_neg (Int32.not_lt.mpr c12), if_neg (Int32.not_lt.mpr c12), if_neg (Int32.not_lt.mpr c12)] at h
    refine G_aload_n dX9_isLookedAt_32 rfl ?_
    refine G_iload_n dX9_isLookedAt_33 rfl ?_
    refine G_bipush (v := 8) dX9_isLookedAt_34 (by decide) ?_
    refine G_aload_n dX9_isLookedAt_36 rfl ?_
    refine G_aload_n dX9_isLookedAt_37 rfl ?_
    refine G_iload_n dX9_isLookedAt_38 rfl ?_
    refine G_bipush (v := 6) dX9_isLookedAt_39 (by decide) ?_
    refine cv_X9_54 (cs' := 0) (ss' := 0) dX9_isLookedAt_41  (Nat.le_of_ble_eq_true rfl) (Nat.le_of_ble_eq_true rfl) (Nat.le_of_ble_eq_true rfl) rfl rfl (Nat.le_of_ble_eq_true rfl) (Nat.le_of_ble_eq_true rfl) rfl ?_
    refine s_X9_pu (t := 6) hR (by omega) (by decide) (hA.f hx (by decide)) (hGo_i ?_)
    refine cv_X9_139 (cs' := 0) (ss' := 0) dX9_isLookedAt_44  (Nat.le_of_ble_eq_true rfl) (Nat.le_of_ble_eq_true rfl) (Nat.le_of_ble_eq_true rfl) rfl rfl (Nat.le_of_ble_eq_true rfl) (Nat.le_of_ble_eq_true rfl) rfl ?_
    refine s_X9_punishment hR hA (hGo_i ?_)
    refine cv_X9_58 (cs' := 0) (ss' := 0) dX9_isLookedAt_47  (Nat.le_of_ble_eq_true rfl) (Nat.le_of_ble_eq_true rfl) (Nat.le_of_ble_eq_true rfl) rfl rfl (Nat.le_of_ble_eq_true rfl) (Nat.le_of_ble_eq_true rfl) rfl ?_
    refine s_X9_layPupil (t := 8) hR (by omega) (by decide) (hGo_v ?_)
    have a1 := hA.wF (p := x) (t := 8) (v := imin (1 + (A.f x 6 - A.g 3) / 3) 9) (by omega) (by decide)
    refine G_aload_n dX9_isLookedAt_50 rfl ?_
    refine G_iload_n dX9_isLookedAt_51 rfl ?_
    refine G_bipush (v := 6) dX9_isLookedAt_52 (by decide) ?_
    refine G_iconst (v := 0) dX9_isLookedAt_54 (by decide) ?_
    refine cv_X9_58 (cs' := 0) (ss' := 0) dX9_isLookedAt_55  (Nat.le_of_ble_eq_true rfl) (Nat.le_of_ble_eq_true rfl) (Nat.le_of_ble_eq_true rfl) rfl rfl (Nat.le_of_ble_eq_true rfl) (Nat.le_of_ble_eq_true rfl) rfl ?_
    refine s_X9_layPupil (t := 6) hR.w (by omega) (by decide) (hGo_v ?_)
    have a2 := a1.wF (p := x) (t := 6) (v := 0) (by omega) (by decide)
    refine G_aload_n dX9_isLookedAt_58 rfl ?_
    refine G_iload_n dX9_isLookedAt_59 rfl ?_
    refine G_bipush (v := 9) dX9_isLookedAt_60 (by decide) ?_
    refine G_iconst (v := 0) dX9_isLookedAt_62 (by decide) ?_
    refine cv_X9_58 (cs' := 0) (ss' := 0) dX9_isLookedAt_63  (Nat.le_of_ble_eq_true rfl) (Nat.le_of_ble_eq_true rfl) (Nat.le_of_ble_eq_true rfl) rfl rfl (Nat.le_of_ble_eq_true rfl) (Nat.le_of_ble_eq_true rfl) rfl ?_
    refine s_X9_layPupil (t := 9) hR.w.w (by omega) (by decide) (hGo_v ?_)
    have a3 := a2.wF (p := x) (t := 9) (v := 0) (by omega) (by decide)
    have hR3 : Ro (((M.w o (17 + 12 * x + 8) (imin (1 + (A.f x 6 - A.g 3) / 3) 9)).w o (17 + 12 * x + 6) 0).w o (17 + 12 * x + 9) 0) o := hR.w.w.w
    have f3 : Fo o M (((M.w o (17 + 12 * x + 8) (imin (1 + (A.f x 6 - A.g 3) / 3) 9)).w o (17 + 12 * x + 6) 0).w o (17 + 12 * x + 9) 0) := ((Fo.rfl.w (by omega)).w (by omega)).w (by omega)
    generalize ((M.w o (17 + 12 * x + 8) (imin (1 + (A.f x 6 - A.g 3) / 3) 9)).w o (17 + 12 * x + 6) 0).w o (17 + 12 * x + 9) 0 = M3 at a3 hR3 f3 ⊢
    generalize hB : ((A.sF x 8 (imin (1 + (A.f x 6 - A.g 3) / 3) 9)).sF x 6 0).sF x 9 0 = B at a3 h
    have Bn : B.n = A.n := by rw [← hB]; rfl
    have Bg : B.g = A.g := by rw [← hB]; rfl
    have Bs : B.s = A.s := by rw [← hB]; rfl
    have hxB : x < B.n := by rw [Bn]; exact hx
    have lay0 : ∀ {M4 : Mm} {D : Ab} {s : Nat}, Ro M4 o → MR M4 o D → s < 2 → MR (M4.w o (17 + 12 * x + (10 + s)) 0) o (D.sS (2 * x + s) []) := fun {M4 D s} r d hs => d.upS (by omega) hs cl_at (by decide) (fun k hk => absurd hk (Nat.not_lt_zero k)) (fun k hk h1 h2 => cl_n h1)
    refine G_iconst (v := 0) dX9_isLookedAt_66 (by decide) ?_
    refine G_istore_n dX9_isLookedAt_67 (Nat.le_of_ble_eq_true rfl) ?_
    refine G_iload_n dX9_isLookedAt_68 rfl ?_
    refine G_iconst (v := 2) dX9_isLookedAt_69 (by decide) ?_
    refine G_icmp_ge (tgt := 101) dX9_isLookedAt_70 (by decide) (fun c70 => ?_) (fun c70 => ?_)
    · exact absurd c70 (by decide)
    refine G_aload_n dX9_isLookedAt_73 rfl ?_
    refine G_bipush (v := 6) dX9_isLookedAt_74 (by decide) ?_
    refine G_aload_n dX9_isLookedAt_76 rfl ?_
    refine G_iload_n dX9_isLookedAt_77 rfl ?_
    refine G_iload_n dX9_isLookedAt_78 rfl ?_
    refine cv_X9_65 (cs' := 0) (ss' := 0) dX9_isLookedAt_79  (Nat.le_of_ble_eq_true rfl) (Nat.le_of_ble_eq_true rfl) (Nat.le_of_ble_eq_true rfl) rfl rfl (Nat.le_of_ble_eq_true rfl) (Nat.le_of_ble_eq_true rfl) rfl ?_
    refine s_X9_many (s := 0) hR3 (by omega) (by decide) (a3.many hxB (by decide)) (hGo_i ?_)
    refine cv_X9_117 (cs' := 0) (ss' := 0) dX9_isLookedAt_82  (Nat.le_of_ble_eq_true rfl) (Nat.le_of_ble_eq_true rfl) (Nat.le_of_ble_eq_true rfl) rfl rfl (Nat.le_of_ble_eq_true rfl) (Nat.le_of_ble_eq_true rfl) rfl ?_
    refine s_X9_tallies (t := 6) hR3 (by decide) (a3.tl (t := 6) (by decide)) (hGo_v ?_)
    have a4 := a3.wG (t := 13) (v := B.g 13 + nI (B.s (2 * x + 0)).length) (by omega)
    refine G_aload_n dX9_isLookedAt_85 rfl ?_
    refine G_iload_n dX9_isLookedAt_86 rfl ?_
    refine G_bipush (v := 10) dX9_isLookedAt_87 (by decide) ?_
    refine G_iload_n dX9_isLookedAt_89 rfl ?_
    refine G_iadd dX9_isLookedAt_90 ?_
    refine G_iconst (v := 0) dX9_isLookedAt_91 (by decide) ?_
    refine cv_X9_58 (cs' := 0) (ss' := 0) dX9_isLookedAt_92  (Nat.le_of_ble_eq_true rfl) (Nat.le_of_ble_eq_true rfl) (Nat.le_of_ble_eq_true rfl) rfl rfl (Nat.le_of_ble_eq_true rfl) (Nat.le_of_ble_eq_true rfl) rfl ?_
    refine s_X9_layPupil (t := 10) hR3.w (by omega) (by decide) (hGo_v ?_)
    have a5 := lay0 (s := 0) hR3.w a4 (by decide)
    refine G_iinc (v := 1) dX9_isLookedAt_95 rfl (Nat.le_of_ble_eq_true rfl) (by decide) ?_
    refine G_goto (tgt := 68) dX9_isLookedAt_98 (by decide) ?_
    refine G_iload_n dX9_isLookedAt_68 rfl ?_
    refine G_iconst (v := 2) dX9_isLookedAt_69 (by decide) ?_
    refine G_icmp_ge (tgt := 101) dX9_isLookedAt_70 (by decide) (fun c70 => ?_) (fun c70 => ?_)
    · exact absurd c70 (by decide)
    refine G_aload_n dX9_isLookedAt_73 rfl ?_
    refine G_bipush (v := 6) dX9_isLookedAt_74 (by decide) ?_
    refine G_aload_n dX9_isLookedAt_76 rfl ?_
    refine G_iload_n dX9_isLookedAt_77 rfl ?_
    refine G_iload_n dX9_isLookedAt_78 rfl ?_
    refine cv_X9_65 (cs' := 0) (ss' := 0) dX9_isLookedAt_79  (Nat.le_of_ble_eq_true rfl) (Nat.le_of_ble_eq_true rfl) (Nat.le_of_ble_eq_true rfl) rfl rfl (Nat.le_of_ble_eq_true rfl) (Nat.le_of_ble_eq_true rfl) rfl ?_
    refine s_X9_many (s := 1) hR3.w.w (by omega) (by decide) (a5.many hxB (by decide)) (hGo_i ?_)
    refine cv_X9_117 (cs' := 0) (ss' := 0) dX9_isLookedAt_82  (Nat.le_of_ble_eq_true rfl) (Nat.le_of_ble_eq_true rfl) (Nat.le_of_ble_eq_true rfl) rfl rfl (Nat.le_of_ble_eq_true rfl) (Nat.le_of_ble_eq_true rfl) rfl ?_
    refine s_X9_tallies (t := 6) (x := B.g 13 + nI (B.s (2 * x + 0)).length) hR3.w.w (by decide) ((a5.tl (t := 6) (by decide)).trans (show (B.sG 13 (B.g 13 + nI (B.s (2 * x + 0)).length)).g 13 = B.g 13 + nI (B.s (2 * x + 0)).length from sG_at)) (hGo_v ?_)
    have a6 := a5.wG (t := 13) (v := B.g 13 + nI (B.s (2 * x + 0)).length + nI (((B.sG 13 (B.g 13 + nI (B.s (2 * x + 0)).length)).sS (2 * x + 0) []).s (2 * x + 1)).length) (by omega)
    refine G_aload_n dX9_isLookedAt_85 rfl ?_
    refine G_iload_n dX9_isLookedAt_86 rfl ?_
    refine G_bipush (v := 10) dX9_isLookedAt_87 (by decide) ?_
    refine G_iload_n dX9_isLookedAt_89 rfl ?_
    refine G_iadd dX9_isLookedAt_90 ?_
    refine G_iconst (v := 0) dX9_isLookedAt_91 (by decide) ?_
    refine cv_X9_58 (cs' := 0) (ss' := 0) dX9_isLookedAt_92  (Nat.le_of_ble_eq_true rfl) (Nat.le_of_ble_eq_true rfl) (Nat.le_of_ble_eq_true rfl) rfl rfl (Nat.le_of_ble_eq_true rfl) (Nat.le_of_ble_eq_true rfl) rfl ?_
    refine s_X9_layPupil (t := 11) hR3.w.w.w (by omega) (by decide) (hGo_v ?_)
    have a7 := lay0 (s := 1) hR3.w.w.w a6 (by decide)
    refine G_iinc (v := 1) dX9_isLookedAt_95 rfl (Nat.le_of_ble_eq_true rfl) (by decide) ?_
    refine G_goto (tgt := 68) dX9_isLookedAt_98 (by decide) ?_
    refine G_iload_n dX9_isLookedAt_68 rfl ?_
    refine G_iconst (v := 2) dX9_isLookedAt_69 (by decide) ?_
    refine G_icmp_ge (tgt := 101) dX9_isLookedAt_70 (by decide) (fun c70 => ?_) (fun c70 => ?_)
    · refine G_aload_n dX9_isLookedAt_101 rfl ?_
      refine G_bipush (v := 8) dX9_isLookedAt_102 (by decide) ?_
      refine G_iconst (v := 1) dX9_isLookedAt_104 (by decide) ?_
      refine cv_X9_117 (cs' := 0) (ss' := 0) dX9_isLookedAt_105  (Nat.le_of_ble_eq_true rfl) (Nat.le_of_ble_eq_true rfl) (Nat.le_of_ble_eq_true rfl) rfl rfl (Nat.le_of_ble_eq_true rfl) (Nat.le_of_ble_eq_true rfl) rfl ?_
      refine s_X9_tallies (t := 8) hR3.w.w.w.w (by decide) (a7.tl (t := 8) (by decide)) (hGo_v ?_)
      have a8 := a7.wG (t := 15) (v := (((((B.sG 13 (B.g 13 + nI (B.s (2 * x + 0)).length)).sS (2 * x + 0) []).sG 13 (B.g 13 + nI (B.s (2 * x + 0)).length + nI (((B.sG 13 (B.g 13 + nI (B.s (2 * x + 0)).length)).sS (2 * x + 0) []).s (2 * x + 1)).length)).sS (2 * x + 1) []).g 15) + 1) (by omega)
      refine G_vret dX9_isLookedAt_108 rfl (Nat.le_of_ble_eq_true rfl) (Nat.le_of_ble_eq_true rfl) ?_
      refine h _ ?_ (((((f3.w (by omega)).w (by omega)).w (by omega)).w (by omega)).w (by omega))
      have e1 : ((B.sG 13 (B.g 13 + nI (B.s (2 * x + 0)).length)).sS (2 * x + 0) []).s (2 * x + 1) = A.s (2 * x + 1) := (sS_s (by omega)).trans (by show B.s (2 * x + 1) = _; rw [Bs])
      have e2 : B.s (2 * x + 0) = A.s (2 * x) := by rw [Bs]; rfl
      have e3 : B.g 13 = A.g 13 := by rw [Bg]
      have e4 : ((((B.sG 13 (A.g 13 + nI (A.s (2 * x)).length)).sS (2 * x + 0) []).sG 13 (A.g 13 + nI (A.s (2 * x)).length + nI (A.s (2 * x + 1)).length)).sS (2 * x + 1) []).g 15 = A.g 15 := (show ((B.sG 13 (A.g 13 + nI (A.s (2 * x)).length)).sG 13 (A.g 13 + nI (A.s (2 * x)).length + nI (A.s (2 * x + 1)).length)).g 15 = A.g 15 from (sG_g (by decide)).trans ((sG_g (by decide)).trans (by rw [Bg])))
      have ec : ((((B.sG 13 (A.g 13 + nI (A.s (2 * x)).length)).sS (2 * x + 0) []).sG 13 (A.g 13 + (nI (A.s (2 * x)).length + nI (A.s (2 * x + 1)).length))).sS (2 * x + 1) []) = (((B.sG 13 (A.g 13 + nI (A.s (2 * x)).length)).sG 13 (A.g 13 + (nI (A.s (2 * x)).length + nI (A.s (2 * x + 1)).length))).sS (2 * x + 0) []).sS (2 * x + 1) [] := rfl
      have eq : (((((B.sG 13 (B.g 13 + nI (B.s (2 * x + 0)).length)).sS (2 * x + 0) []).sG 13 (B.g 13 + nI (B.s (2 * x + 0)).length + nI (((B.sG 13 (B.g 13 + nI (B.s (2 * x + 0)).length)).sS (2 * x + 0) []).s (2 * x + 1)).length)).sS (2 * x + 1) []).sG 15 ((((((B.sG 13 (B.g 13 + nI (B.s (2 * x + 0)).length)).sS (2 * x + 0) []).sG 13 (B.g 13 + nI (B.s (2 * x + 0)).length + nI (((B.sG 13 (B.g 13 + nI (B.s (2 * x + 0)).length)).sS (2 * x + 0) []).s (2 * x + 1)).length)).sS (2 * x + 1) []).g 15) + 1)) = ((((B.sG 13 (A.g 13 + (nI (A.s (2 * x)).length + nI (A.s (2 * x + 1)).length))).sS (2 * x + 0) []).sS (2 * x + 1) []).sG 15 (A.g 15 + 1)) := by
        rw [e1, e2, e3, e4, Int32.add_assoc (A.g 13), ec, sG_sG]
      rw [eq] at a8
      exact a8
    · exact absurd (by decide) c70
  · have c12 := Int32.not_le.mp c12
    rw [if_pos c12, if_pos c12, if_pos c12] at h
    refine G_aload_n dX9_isLookedAt_15 rfl ?_
    refine G_iload_n dX9_isLookedAt_16 rfl ?_
    refine G_bipush (v := 8) dX9_isLookedAt_17 (by decide) ?_
    refine G_aload_n dX9_isLookedAt_19 rfl ?_
    refine G_iload_n dX9_isLookedAt_20 rfl ?_
    refine cv_X9_99 (cs' := 0) (ss' := 0) dX9_isLookedAt_21  (Nat.le_of_ble_eq_true rfl) (Nat.le_of_ble_eq_true rfl) (Nat.le_of_ble_eq_true rfl) rfl rfl (Nat.le_of_ble_eq_true rfl) (Nat.le_of_ble_eq_true rfl) rfl ?_
    refine s_X9_isDetained hR (by omega) (hA.f hx (t := 8) (by decide)) (hGo_i ?_)
    refine cv_X9_110 (cs' := 0) (ss' := 0) dX9_isLookedAt_24  (Nat.le_of_ble_eq_true rfl) (Nat.le_of_ble_eq_true rfl) (Nat.le_of_ble_eq_true rfl) rfl rfl (Nat.le_of_ble_eq_true rfl) (Nat.le_of_ble_eq_true rfl) rfl ?_
    refine s_X9_one (by split <;> simp) (hGo_i ?_)
    refine G_ineg dX9_isLookedAt_27 ?_
    refine cv_X9_68 (cs' := 0) (ss' := 0) dX9_isLookedAt_28  (Nat.le_of_ble_eq_true rfl) (Nat.le_of_ble_eq_true rfl) (Nat.le_of_ble_eq_true rfl) rfl rfl (Nat.le_of_ble_eq_true rfl) (Nat.le_of_ble_eq_true rfl) rfl ?_
    refine s_X9_addsPupil (t := 8) hR (by omega) (by decide) (hA.f hx (by decide)) (hGo_v ?_)
    rw [det_eq h8]
    refine G_vret dX9_isLookedAt_31 rfl (Nat.le_of_ble_eq_true rfl) (Nat.le_of_ble_eq_true rfl) ?_
    have a1 := hA.wF (p := x) (t := 8) (v := imax (A.f x 8 - 1) 0) (by omega) (by decide)
    refine h _ ?_ (Fo.rfl.w (by omega))
    have e : (A.sF x 8 (imax (A.f x 8 - 1) 0)).sG 15 (A.g 15 + 0) = A.sF x 8 (imax (A.f x 8 - 1) 0) := by
      rw [Int32.add_zero]
      show (A.n, _, _, A.s, A.d) = (A.n, A.g, _, A.s, A.d)
      congr 1
      refine Prod.ext ?_ rfl
      funext k
      show (if k = 15 then A.g 15 else A.g k) = A.g k
      split
      · rename_i q
        rw [q]
      · rfl
    rw [e]
    exact a1
end MWEEK
