/-! ===== HomeworkBarterModel: pieces, debts, spies ===== -/
section MONE
variable {E : Ed} {M M' : Mm} {P : Res → Mm → Prop} {A : Ab} {o : Nat}
theorem s_X9_comes {p s : Nat} {m : Int32} (hR : Ro M o) (hA : MR M o A) (hp : p < A.n) (hs : s < 2) (hl : (A.s (2 * p + s)).length < 20) (h : ∀ M', MR M' o (A.sS (2 * p + s) (A.s (2 * p + s) ++ [m])) → Fo o M M' → P (.inl none) M') : Sp E yX9_comes cX9_comes zX9_comes [.ref (ad E 20 0 0), .int (nI p), .int (nI s), .int m] M P := by
  have h12 := hA.n12
  refine Sp_of (own := RX9) (by decide) rfl rfl (Nat.le_of_ble_eq_true rfl) (fun C => ?_)
  refine G_aload_n dX9_comes_0 rfl ?_
  refine G_aload_n dX9_comes_1 rfl ?_
  refine G_iload_n dX9_comes_2 rfl ?_
  refine G_iload_n dX9_comes_3 rfl ?_
  refine cv_X9_62 (cs' := 0) (ss' := 0) dX9_comes_4  (Nat.le_of_ble_eq_true rfl) (Nat.le_of_ble_eq_true rfl) (Nat.le_of_ble_eq_true rfl) rfl rfl (Nat.le_of_ble_eq_true rfl) (Nat.le_of_ble_eq_true rfl) rfl ?_
  refine s_X9_satchel (hGo_i ?_)
  refine G_aload_n dX9_comes_7 rfl ?_
  refine G_iload_n dX9_comes_8 rfl ?_
  refine G_iload_n dX9_comes_9 rfl ?_
  refine cv_X9_65 (cs' := 0) (ss' := 0) dX9_comes_10  (Nat.le_of_ble_eq_true rfl) (Nat.le_of_ble_eq_true rfl) (Nat.le_of_ble_eq_true rfl) rfl rfl (Nat.le_of_ble_eq_true rfl) (Nat.le_of_ble_eq_true rfl) rfl ?_
  refine s_X9_many hR (by omega) hs (hA.many hp hs) (hGo_i ?_)
  refine G_iadd dX9_comes_13 ?_
  rw [nI_add]
  refine G_iload_n dX9_comes_14 rfl ?_
  refine cv_X9_33 (cs' := 0) (ss' := 0) dX9_comes_15  (Nat.le_of_ble_eq_true rfl) (Nat.le_of_ble_eq_true rfl) (Nat.le_of_ble_eq_true rfl) rfl rfl (Nat.le_of_ble_eq_true rfl) (Nat.le_of_ble_eq_true rfl) rfl ?_
  refine s_X9_lay hR (by omega) (hGo_v ?_)
  refine G_aload_n dX9_comes_18 rfl ?_
  refine G_iload_n dX9_comes_19 rfl ?_
  refine G_bipush (v := 10) dX9_comes_20 (by decide) ?_
  refine G_iload_n dX9_comes_22 rfl ?_
  refine G_iadd dX9_comes_23 ?_
  rw [show (10 : Int32) + nI s = nI (10 + s) from nI_add 10 s]
  refine G_iconst (v := 1) dX9_comes_24 (by decide) ?_
  refine cv_X9_68 (cs' := 0) (ss' := 0) dX9_comes_25  (Nat.le_of_ble_eq_true rfl) (Nat.le_of_ble_eq_true rfl) (Nat.le_of_ble_eq_true rfl) rfl rfl (Nat.le_of_ble_eq_true rfl) (Nat.le_of_ble_eq_true rfl) rfl ?_
  refine s_X9_addsPupil (x := nI (A.s (2 * p + s)).length) hR.w (by omega) (by omega) ((cl_n (by omega)).trans (hA.many hp hs)) (hGo_v ?_)
  refine G_vret dX9_comes_28 rfl (Nat.le_of_ble_eq_true rfl) (Nat.le_of_ble_eq_true rfl) ?_
  refine h _ (hA.upS (by omega) hs (cl_at.trans (by rw [nI_1, List.length_append]; rfl)) (by rw [List.length_append]; exact hl) (fun k hk => ?_) (fun k hk h1 h2 => (cl_n h1).trans (cl_n (by omega)))) ((Fo.rfl.w (by omega)).w (by omega))
  rw [List.length_append] at hk
  have hk' : k < (A.s (2 * p + s)).length + 1 := hk
  refine (cl_n (by omega)).trans ?_
  by_cases e : k = (A.s (2 * p + s)).length
  · subst e
    rw [cl_at]
    simp
  · refine (cl_n (by omega)).trans ((hA.mk hp hs (by omega)).trans ?_)
    simp [List.getD_eq_getElem?_getD, List.getElem?_append_left (show k < (A.s (2 * p + s)).length by omega)]
theorem s_X9_goes {p s e : Nat} (hR : Ro M o) (hA : MR M o A) (hp : p < A.n) (hs : s < 2) (he : e ≤ (A.s (2 * p + s)).length) (h : ∀ M', MR M' o (A.sS (2 * p + s) ((A.s (2 * p + s)).drop e)) → Fo o M M' → P (.inl none) M') : Sp E yX9_goes cX9_goes zX9_goes [.ref (ad E 20 0 0), .int (nI p), .int (nI s), .int (nI e)] M P := by
  have h12 := hA.n12
  have l20 := hA.l20 hp hs
  refine Sp_of (own := RX9) (by decide) rfl rfl (Nat.le_of_ble_eq_true rfl) (fun C => ?_)
  refine G_aload_n dX9_goes_0 rfl ?_
  refine G_iload_n dX9_goes_1 rfl ?_
  refine G_iload_n dX9_goes_2 rfl ?_
  refine cv_X9_65 (cs' := 0) (ss' := 0) dX9_goes_3  (Nat.le_of_ble_eq_true rfl) (Nat.le_of_ble_eq_true rfl) (Nat.le_of_ble_eq_true rfl) rfl rfl (Nat.le_of_ble_eq_true rfl) (Nat.le_of_ble_eq_true rfl) rfl ?_
  refine s_X9_many hR (by omega) hs (hA.many hp hs) (hGo_i ?_)
  refine G_iload_n dX9_goes_6 rfl ?_
  refine G_isub dX9_goes_7 ?_
  rw [nI_subN he]
  refine G_istore dX9_goes_8 (Nat.le_of_ble_eq_true rfl) ?_
  refine G_iconst (v := 0) dX9_goes_10 (by decide) ?_
  refine G_istore dX9_goes_11 (Nat.le_of_ble_eq_true rfl) ?_
  refine G_lv (lv' := [(0, .ref (ad E 20 0 0)), (1, .int (nI p)), (2, .int (nI s)), (3, .int (nI e)), (4, .int (nI ((A.s (2 * p + s)).length - e))), (5, .int (nI 0))]) ⟨rfl, rfl, rfl, rfl, rfl, rfl, trivial⟩ ?_
  refine up0 (c := (A.s (2 * p + s)).length - e) (H := fun i => ∀ M', (∀ k, k < i → cl M' o (161 + 20 * (2 * p + s) + k) = (A.s (2 * p + s)).getD (e + k) 0) → (∀ k, k < 761 → ¬ (161 + 20 * (2 * p + s) ≤ k ∧ k < 161 + 20 * (2 * p + s) + i) → cl M' o k = cl M o k) → Fo o M M' → G E C RX9 cX9_goes zX9_goes P 0 0 M' 13 [(0, .ref (ad E 20 0 0)), (1, .int (nI p)), (2, .int (nI s)), (3, .int (nI e)), (4, .int (nI ((A.s (2 * p + s)).length - e))), (5, .int (nI i))] []) (fun M1 hd hk hf => ?_) (fun i hi ih M1 hd hk hf => ?_) M (fun k hk => absurd hk (Nat.not_lt_zero k)) (fun _ _ _ => rfl) Fo.rfl
  · refine G_iload dX9_goes_13 rfl ?_
    refine G_iload dX9_goes_15 rfl ?_
    refine G_icmp_ge (tgt := 49) dX9_goes_17 (by decide) (fun c17 => ?_) (fun c17 => ?_)
    · refine G_aload_n dX9_goes_49 rfl ?_
      refine G_iload_n dX9_goes_50 rfl ?_
      refine G_bipush (v := 10) dX9_goes_51 (by decide) ?_
      refine G_iload_n dX9_goes_53 rfl ?_
      refine G_iadd dX9_goes_54 ?_
      rw [show (10 : Int32) + nI s = nI (10 + s) from nI_add 10 s]
      refine G_iload dX9_goes_55 rfl ?_
      refine cv_X9_58 (cs' := 0) (ss' := 0) dX9_goes_57  (Nat.le_of_ble_eq_true rfl) (Nat.le_of_ble_eq_true rfl) (Nat.le_of_ble_eq_true rfl) rfl rfl (Nat.le_of_ble_eq_true rfl) (Nat.le_of_ble_eq_true rfl) rfl ?_
      refine s_X9_layPupil (hR.fo hf) (by omega) (by omega) (hGo_v ?_)
      refine G_vret dX9_goes_60 rfl (Nat.le_of_ble_eq_true rfl) (Nat.le_of_ble_eq_true rfl) ?_
      refine h _ (hA.upS (by omega) hs (cl_at.trans (by rw [List.length_drop])) (by rw [List.length_drop]; omega) (fun k hk2 => ?_) (fun k hk2 h1 h2 => (cl_n h1).trans (hk k hk2 (by omega)))) (hf.w (by omega))
      rw [List.length_drop] at hk2
      refine (cl_n (by omega)).trans ((hd k hk2).trans ?_)
      simp [List.getD_eq_getElem?_getD, List.getElem?_drop]
    · exact absurd (Int32.le_refl _) c17
  · refine G_iload dX9_goes_13 rfl ?_
    refine G_iload dX9_goes_15 rfl ?_
    refine G_icmp_ge (tgt := 49) dX9_goes_17 (by decide) (fun c17 => ?_) (fun c17 => ?_)
    · exact absurd c17 (nI_ge hi (by omega))
    · refine G_aload_n dX9_goes_20 rfl ?_
      refine G_aload_n dX9_goes_21 rfl ?_
      refine G_iload_n dX9_goes_22 rfl ?_
      refine G_iload_n dX9_goes_23 rfl ?_
      refine cv_X9_62 (cs' := 0) (ss' := 0) dX9_goes_24  (Nat.le_of_ble_eq_true rfl) (Nat.le_of_ble_eq_true rfl) (Nat.le_of_ble_eq_true rfl) rfl rfl (Nat.le_of_ble_eq_true rfl) (Nat.le_of_ble_eq_true rfl) rfl ?_
      refine s_X9_satchel (hGo_i ?_)
      refine G_iload dX9_goes_27 rfl ?_
      refine G_iadd dX9_goes_29 ?_
      rw [nI_add]
      refine G_aload_n dX9_goes_30 rfl ?_
      refine G_iload_n dX9_goes_31 rfl ?_
      refine G_iload_n dX9_goes_32 rfl ?_
      refine G_iload_n dX9_goes_33 rfl ?_
      refine G_iload dX9_goes_34 rfl ?_
      refine G_iadd dX9_goes_36 ?_
      rw [nI_add]
      refine cv_X9_71 (cs' := 0) (ss' := 0) dX9_goes_37  (Nat.le_of_ble_eq_true rfl) (Nat.le_of_ble_eq_true rfl) (Nat.le_of_ble_eq_true rfl) rfl rfl (Nat.le_of_ble_eq_true rfl) (Nat.le_of_ble_eq_true rfl) rfl ?_
      refine s_X9_makerAt (hR.fo hf) (by omega) hs (by omega) ((hk _ (by omega) (by omega)).trans (hA.mk hp hs (by omega))) (hGo_i ?_)
      refine cv_X9_33 (cs' := 0) (ss' := 0) dX9_goes_40  (Nat.le_of_ble_eq_true rfl) (Nat.le_of_ble_eq_true rfl) (Nat.le_of_ble_eq_true rfl) rfl rfl (Nat.le_of_ble_eq_true rfl) (Nat.le_of_ble_eq_true rfl) rfl ?_
      refine s_X9_lay (hR.fo hf) (by omega) (hGo_v ?_)
      refine G_iinc (v := 1) dX9_goes_43 rfl (Nat.le_of_ble_eq_true rfl) (by decide) ?_
      refine G_goto (tgt := 13) dX9_goes_46 (by decide) ?_
      refine G_lv2 (ih _ (fun k hk2 => ?_) (fun k hk2 h1 => (cl_n (by omega)).trans (hk k hk2 (by omega))) (hf.w (by omega))) ⟨rfl, rfl, rfl, rfl, rfl, lvi (nI_1 i), trivial⟩
      by_cases q : k = i
      · subst q
        exact cl_at
      · exact (cl_n (by omega)).trans (hd k (by omega))
theorem sS_s {q q' : Nat} {L : List Int32} (h : q' ≠ q) : (A.sS q L).s q' = A.s q' := if_neg h
theorem sS_at {q : Nat} {L : List Int32} : (A.sS q L).s q = L := if_pos rfl
theorem sS_sS {q : Nat} {L L2 : List Int32} : (A.sS q L).sS q L2 = A.sS q L2 := by
  show (A.n, A.g, A.f, _, A.d) = (A.n, A.g, A.f, _, A.d)
  congr 3
  refine Prod.ext ?_ rfl
  funext k
  show (if k = q then L2 else if k = q then L else A.s k) = if k = q then L2 else A.s k
  split <;> rfl
theorem sS_comm {q q' : Nat} {L L2 : List Int32} (h : q ≠ q') : (A.sS q L).sS q' L2 = (A.sS q' L2).sS q L := by
  show (A.n, A.g, A.f, _, A.d) = (A.n, A.g, A.f, _, A.d)
  congr 3
  refine Prod.ext ?_ rfl
  funext k
  show (if k = q' then L2 else if k = q then L else A.s k) = if k = q then L else if k = q' then L2 else A.s k
  by_cases e : k = q'
  · rw [if_pos e, if_neg (fun z => h (z.symm.trans e)), if_pos e]
  · rw [if_neg e, if_neg e]
theorem sS_self {q : Nat} : A.sS q (A.s q) = A := by
  show (A.n, A.g, A.f, _, A.d) = (A.n, A.g, A.f, A.s, A.d)
  congr 3
  refine Prod.ext ?_ rfl
  funext k
  show (if k = q then A.s q else A.s k) = A.s k
  split
  · rename_i e
    rw [e]
  · rfl
theorem take_s {L : List Int32} {i : Nat} (h : i < L.length) : L.take (i + 1) = L.take i ++ [L.getD i 0] := by
  rw [List.take_succ_eq_append_getElem h, List.getD_eq_getElem?_getD, List.getElem?_eq_getElem h]
  rfl
theorem s_X9_gives {x y s e : Nat} (hR : Ro M o) (hA : MR M o A) (hx : x < A.n) (hy : y < A.n) (hne : x ≠ y) (hs : s < 2) (he : e ≤ (A.s (2 * x + s)).length) (hr : (A.s (2 * y + s)).length + e ≤ 20) (h : ∀ M', MR M' o (giveA A x y s e) → Fo o M M' → P (.inl none) M') : Sp E yX9_gives cX9_gives zX9_gives [.ref (ad E 20 0 0), .int (nI x), .int (nI y), .int (nI s), .int (nI e)] M P := by
  have h12 := hA.n12
  have l20 := hA.l20 hx hs
  have hq : 2 * x + s ≠ 2 * y + s := by omega
  refine Sp_of (own := RX9) (by decide) rfl rfl (Nat.le_of_ble_eq_true rfl) (fun C => ?_)
  refine G_iconst (v := 0) dX9_gives_0 (by decide) ?_
  refine G_istore dX9_gives_1 (Nat.le_of_ble_eq_true rfl) ?_
  refine G_lv (lv' := [(0, .ref (ad E 20 0 0)), (1, .int (nI x)), (2, .int (nI y)), (3, .int (nI s)), (4, .int (nI e)), (5, .int (nI 0))]) ⟨rfl, rfl, rfl, rfl, rfl, rfl, trivial⟩ ?_
  refine up0 (c := e) (H := fun i => ∀ M', MR M' o (A.sS (2 * y + s) (A.s (2 * y + s) ++ (A.s (2 * x + s)).take i)) → Fo o M M' → G E C RX9 cX9_gives zX9_gives P 0 0 M' 3 [(0, .ref (ad E 20 0 0)), (1, .int (nI x)), (2, .int (nI y)), (3, .int (nI s)), (4, .int (nI e)), (5, .int (nI i))] []) (fun M1 a1 hf => ?_) (fun i hi ih M1 a1 hf => ?_) M (by rw [List.take_zero, List.append_nil, sS_self]; exact hA) Fo.rfl
  · refine G_iload dX9_gives_3 rfl ?_
    refine G_iload dX9_gives_5 rfl ?_
    refine G_icmp_ge (tgt := 30) dX9_gives_7 (by decide) (fun c7 => ?_) (fun c7 => ?_)
    · refine G_aload_n dX9_gives_30 rfl ?_
      refine G_iload_n dX9_gives_31 rfl ?_
      refine G_iload_n dX9_gives_32 rfl ?_
      refine G_iload dX9_gives_33 rfl ?_
      refine cv_X9_78 (cs' := 0) (ss' := 0) dX9_gives_35  (Nat.le_of_ble_eq_true rfl) (Nat.le_of_ble_eq_true rfl) (Nat.le_of_ble_eq_true rfl) rfl rfl (Nat.le_of_ble_eq_true rfl) (Nat.le_of_ble_eq_true rfl) rfl ?_
      have ex : (A.sS (2 * y + s) (A.s (2 * y + s) ++ (A.s (2 * x + s)).take e)).s (2 * x + s) = A.s (2 * x + s) := sS_s hq
      refine s_X9_goes (hR.fo hf) a1 hx hs (by rw [ex]; exact he) (fun M2 a2 hf2 => hGo_v ?_)
      refine G_vret dX9_gives_38 rfl (Nat.le_of_ble_eq_true rfl) (Nat.le_of_ble_eq_true rfl) ?_
      rw [ex, sS_comm (fun z => hq z.symm)] at a2
      exact h M2 a2 (hf.trans hf2)
    · exact absurd (Int32.le_refl _) c7
  · refine G_iload dX9_gives_3 rfl ?_
    refine G_iload dX9_gives_5 rfl ?_
    refine G_icmp_ge (tgt := 30) dX9_gives_7 (by decide) (fun c7 => ?_) (fun c7 => ?_)
    · exact absurd c7 (nI_ge hi (by omega))
    · refine G_aload_n dX9_gives_10 rfl ?_
      refine G_iload_n dX9_gives_11 rfl ?_
      refine G_iload_n dX9_gives_12 rfl ?_
      refine G_aload_n dX9_gives_13 rfl ?_
      refine G_iload_n dX9_gives_14 rfl ?_
      refine G_iload_n dX9_gives_15 rfl ?_
      refine G_iload dX9_gives_16 rfl ?_
      refine cv_X9_71 (cs' := 0) (ss' := 0) dX9_gives_18  (Nat.le_of_ble_eq_true rfl) (Nat.le_of_ble_eq_true rfl) (Nat.le_of_ble_eq_true rfl) rfl rfl (Nat.le_of_ble_eq_true rfl) (Nat.le_of_ble_eq_true rfl) rfl ?_
      have ex : (A.sS (2 * y + s) (A.s (2 * y + s) ++ (A.s (2 * x + s)).take i)).s (2 * x + s) = A.s (2 * x + s) := sS_s hq
      have hmk := a1.mk (p := x) (s := s) (k := i) hx hs (by rw [ex]; omega)
      rw [ex] at hmk
      refine s_X9_makerAt (hR.fo hf) (by omega) hs (by omega) hmk (hGo_i ?_)
      refine cv_X9_75 (cs' := 0) (ss' := 0) dX9_gives_21  (Nat.le_of_ble_eq_true rfl) (Nat.le_of_ble_eq_true rfl) (Nat.le_of_ble_eq_true rfl) rfl rfl (Nat.le_of_ble_eq_true rfl) (Nat.le_of_ble_eq_true rfl) rfl ?_
      have ey : (A.sS (2 * y + s) (A.s (2 * y + s) ++ (A.s (2 * x + s)).take i)).s (2 * y + s) = A.s (2 * y + s) ++ (A.s (2 * x + s)).take i := sS_at
      refine s_X9_comes (hR.fo hf) a1 hy hs (by rw [ey, List.length_append, List.length_take]; omega) (fun M2 a2 hf2 => hGo_v ?_)
      refine G_iinc (v := 1) dX9_gives_24 rfl (Nat.le_of_ble_eq_true rfl) (by decide) ?_
      refine G_goto (tgt := 3) dX9_gives_27 (by decide) ?_
      rw [ey, sS_sS, List.append_assoc, ← take_s (by omega)] at a2
      exact G_lv2 (ih M2 a2 (hf.trans hf2)) ⟨rfl, rfl, rfl, rfl, rfl, lvi (nI_1 i), trivial⟩
-- debts
theorem s_X9_findDebt {x y s : Int32} (hR : Ro M o) (hA : MR M o A) (h : P (.inl (some (.int (fnd A.d x y s)))) M) : Sp E yX9_findDebt cX9_findDebt zX9_findDebt [.ref (ad E 20 0 0), .int x, .int y, .int s] M P := by
  have h30 := hA.d30
  refine Sp_of (own := RX9) (by decide) rfl rfl (Nat.le_of_ble_eq_true rfl) (fun C => ?_)
  refine G_iconst (v := 0) dX9_findDebt_0 (by decide) ?_
  refine G_istore dX9_findDebt_1 (Nat.le_of_ble_eq_true rfl) ?_
  refine G_lv (lv' := [(0, .ref (ad E 20 0 0)), (1, .int x), (2, .int y), (3, .int s), (4, .int (nI 0))]) ⟨rfl, rfl, rfl, rfl, rfl, trivial⟩ ?_
  refine up0 (c := A.d.length) (H := fun i => (∀ k, k < i → fP A.d x y s k = false) → G E C RX9 cX9_findDebt zX9_findDebt P 0 0 M 3 [(0, .ref (ad E 20 0 0)), (1, .int x), (2, .int y), (3, .int s), (4, .int (nI i))] []) (fun hno => ?_) (fun i hi ih hno => ?_) (fun k hk => absurd hk (Nat.not_lt_zero k))
  · refine G_iload dX9_findDebt_3 rfl ?_
    refine G_aload_n dX9_findDebt_5 rfl ?_
    refine G_bipush (v := 6) dX9_findDebt_6 (by decide) ?_
    refine cv_X9_50 (cs' := 0) (ss' := 0) dX9_findDebt_8  (Nat.le_of_ble_eq_true rfl) (Nat.le_of_ble_eq_true rfl) (Nat.le_of_ble_eq_true rfl) rfl rfl (Nat.le_of_ble_eq_true rfl) (Nat.le_of_ble_eq_true rfl) rfl ?_
    refine s_X9_get (w := 6) hR (by decide) hA.dn (hGo_i ?_)
    refine G_icmp_ge (tgt := 56) dX9_findDebt_11 (by decide) (fun c11 => ?_) (fun c11 => ?_)
    · refine G_iconst (v := (-1)) dX9_findDebt_56 (by decide) ?_
      refine G_iret dX9_findDebt_57 rfl rfl (Nat.le_of_ble_eq_true rfl) (Nat.le_of_ble_eq_true rfl) ?_
      unfold fnd at h
      rw [first_none hno] at h
      exact h
    · exact absurd (Int32.le_refl _) c11
  · have g50 : fP A.d x y s i = false → G E C RX9 cX9_findDebt zX9_findDebt P 0 0 M 50 [(0, .ref (ad E 20 0 0)), (1, .int x), (2, .int y), (3, .int s), (4, .int (nI i))] [] := fun hp => by
      refine G_iinc (v := 1) dX9_findDebt_50 rfl (Nat.le_of_ble_eq_true rfl) (by decide) ?_
      refine G_goto (tgt := 3) dX9_findDebt_53 (by decide) ?_
      refine G_lv2 (ih (fun k hk => ?_)) ⟨rfl, rfl, rfl, rfl, lvi (nI_1 i), trivial⟩
      by_cases e : k = i
      · rw [e]
        exact hp
      · exact hno k (by omega)
    refine G_iload dX9_findDebt_3 rfl ?_
    refine G_aload_n dX9_findDebt_5 rfl ?_
    refine G_bipush (v := 6) dX9_findDebt_6 (by decide) ?_
    refine cv_X9_50 (cs' := 0) (ss' := 0) dX9_findDebt_8  (Nat.le_of_ble_eq_true rfl) (Nat.le_of_ble_eq_true rfl) (Nat.le_of_ble_eq_true rfl) rfl rfl (Nat.le_of_ble_eq_true rfl) (Nat.le_of_ble_eq_true rfl) rfl ?_
    refine s_X9_get (w := 6) hR (by decide) hA.dn (hGo_i ?_)
    refine G_icmp_ge (tgt := 56) dX9_findDebt_11 (by decide) (fun c11 => ?_) (fun c11 => ?_)
    · exact absurd c11 (nI_ge hi (by omega))
    · refine G_aload_n dX9_findDebt_14 rfl ?_
      refine G_iload dX9_findDebt_15 rfl ?_
      refine G_iconst (v := 0) dX9_findDebt_17 (by decide) ?_
      refine cv_X9_84 (cs' := 0) (ss' := 0) dX9_findDebt_18  (Nat.le_of_ble_eq_true rfl) (Nat.le_of_ble_eq_true rfl) (Nat.le_of_ble_eq_true rfl) rfl rfl (Nat.le_of_ble_eq_true rfl) (Nat.le_of_ble_eq_true rfl) rfl ?_
      refine s_X9_db (t := 0) hR (by omega) (by decide) (hA.d hi (by decide)) (hGo_i ?_)
      refine G_iload_n dX9_findDebt_21 rfl ?_
      refine G_icmp_ne (tgt := 50) dX9_findDebt_22 (by decide) (fun c22 => ?_) (fun c22 => ?_)
      · exact g50 (decide_eq_false (fun q => c22 q.1))
      · refine G_aload_n dX9_findDebt_25 rfl ?_
        refine G_iload dX9_findDebt_26 rfl ?_
        refine G_iconst (v := 1) dX9_findDebt_28 (by decide) ?_
        refine cv_X9_84 (cs' := 0) (ss' := 0) dX9_findDebt_29  (Nat.le_of_ble_eq_true rfl) (Nat.le_of_ble_eq_true rfl) (Nat.le_of_ble_eq_true rfl) rfl rfl (Nat.le_of_ble_eq_true rfl) (Nat.le_of_ble_eq_true rfl) rfl ?_
        refine s_X9_db (t := 1) hR (by omega) (by decide) (hA.d hi (by decide)) (hGo_i ?_)
        refine G_iload_n dX9_findDebt_32 rfl ?_
        refine G_icmp_ne (tgt := 50) dX9_findDebt_33 (by decide) (fun c33 => ?_) (fun c33 => ?_)
        · exact g50 (decide_eq_false (fun q => c33 q.2.1))
        · refine G_aload_n dX9_findDebt_36 rfl ?_
          refine G_iload dX9_findDebt_37 rfl ?_
          refine G_iconst (v := 2) dX9_findDebt_39 (by decide) ?_
          refine cv_X9_84 (cs' := 0) (ss' := 0) dX9_findDebt_40  (Nat.le_of_ble_eq_true rfl) (Nat.le_of_ble_eq_true rfl) (Nat.le_of_ble_eq_true rfl) rfl rfl (Nat.le_of_ble_eq_true rfl) (Nat.le_of_ble_eq_true rfl) rfl ?_
          refine s_X9_db (t := 2) hR (by omega) (by decide) (hA.d hi (by decide)) (hGo_i ?_)
          refine G_iload_n dX9_findDebt_43 rfl ?_
          refine G_icmp_ne (tgt := 50) dX9_findDebt_44 (by decide) (fun c44 => ?_) (fun c44 => ?_)
          · exact g50 (decide_eq_false (fun q => c44 q.2.2))
          · refine G_iload dX9_findDebt_47 rfl ?_
            refine G_iret dX9_findDebt_49 rfl rfl (Nat.le_of_ble_eq_true rfl) (Nat.le_of_ble_eq_true rfl) ?_
            unfold fnd at h
            rw [first_at hi hno (decide_eq_true ⟨c22, c33, c44⟩)] at h
            exact h
theorem s_X9_owed {x y s : Int32} (hR : Ro M o) (hA : MR M o A) (h : P (.inl (some (.int (owedV A.d x y s)))) M) : Sp E yX9_owed cX9_owed zX9_owed [.ref (ad E 20 0 0), .int x, .int y, .int s] M P := by
  have h30 := hA.d30
  unfold owedV at h
  refine Sp_of (own := RX9) (by decide) rfl rfl (Nat.le_of_ble_eq_true rfl) (fun C => ?_)
  refine G_aload_n dX9_owed_0 rfl ?_
  refine G_iload_n dX9_owed_1 rfl ?_
  refine G_iload_n dX9_owed_2 rfl ?_
  refine G_iload_n dX9_owed_3 rfl ?_
  refine cv_X9_87 (cs' := 0) (ss' := 0) dX9_owed_4  (Nat.le_of_ble_eq_true rfl) (Nat.le_of_ble_eq_true rfl) (Nat.le_of_ble_eq_true rfl) rfl rfl (Nat.le_of_ble_eq_true rfl) (Nat.le_of_ble_eq_true rfl) rfl ?_
  refine s_X9_findDebt hR hA (hGo_i ?_)
  rcases fnd_cases A.d x y s with ⟨e, -⟩ | ⟨i, hi, e, -, -⟩
  · rw [e] at h ⊢
    rw [if_pos rfl] at h
    refine G_istore dX9_owed_7 (Nat.le_of_ble_eq_true rfl) ?_
    refine G_iload dX9_owed_9 rfl ?_
    refine G_iconst (v := (-1)) dX9_owed_11 (by decide) ?_
    refine G_icmp_ne (tgt := 19) dX9_owed_12 (by decide) (fun c12 => ?_) (fun c12 => ?_)
    · exact absurd rfl c12
    · refine G_iconst (v := 0) dX9_owed_15 (by decide) ?_
      refine G_goto (tgt := 26) dX9_owed_16 (by decide) ?_
      refine G_iret dX9_owed_26 rfl rfl (Nat.le_of_ble_eq_true rfl) (Nat.le_of_ble_eq_true rfl) ?_
      exact h
  · rw [e] at h ⊢
    rw [if_neg (nI_nm1 (by omega)), nI_clamp (by omega)] at h
    refine G_istore dX9_owed_7 (Nat.le_of_ble_eq_true rfl) ?_
    refine G_iload dX9_owed_9 rfl ?_
    refine G_iconst (v := (-1)) dX9_owed_11 (by decide) ?_
    refine G_icmp_ne (tgt := 19) dX9_owed_12 (by decide) (fun c12 => ?_) (fun c12 => ?_)
    · refine G_aload_n dX9_owed_19 rfl ?_
      refine G_iload dX9_owed_20 rfl ?_
      refine G_iconst (v := 3) dX9_owed_22 (by decide) ?_
      refine cv_X9_84 (cs' := 0) (ss' := 0) dX9_owed_23  (Nat.le_of_ble_eq_true rfl) (Nat.le_of_ble_eq_true rfl) (Nat.le_of_ble_eq_true rfl) rfl rfl (Nat.le_of_ble_eq_true rfl) (Nat.le_of_ble_eq_true rfl) rfl ?_
      refine s_X9_db (t := 3) hR (by omega) (by decide) (hA.d hi (by decide)) (hGo_i ?_)
      refine G_iret dX9_owed_26 rfl rfl (Nat.le_of_ble_eq_true rfl) (Nat.le_of_ble_eq_true rfl) ?_
      exact h
    · exact absurd c12 (nI_nm1 (by omega))
theorem s_X9_allOf {x : Int32} {t : Nat} (hR : Ro M o) (hA : MR M o A) (ht : t < 2) (h : P (.inl (some (.int (sm A.d.length (fun i => if dg A.d i t = x then dg A.d i 3 else 0))))) M) : Sp E yX9_allOf cX9_allOf zX9_allOf [.ref (ad E 20 0 0), .int x, .int (nI t)] M P := by
  have h30 := hA.d30
  refine Sp_of (own := RX9) (by decide) rfl rfl (Nat.le_of_ble_eq_true rfl) (fun C => ?_)
  refine G_iconst (v := 0) dX9_allOf_0 (by decide) ?_
  refine G_istore_n dX9_allOf_1 (Nat.le_of_ble_eq_true rfl) ?_
  refine G_iconst (v := 0) dX9_allOf_2 (by decide) ?_
  refine G_istore dX9_allOf_3 (Nat.le_of_ble_eq_true rfl) ?_
  refine G_lv (lv' := [(0, .ref (ad E 20 0 0)), (1, .int x), (2, .int (nI t)), (3, .int (sm 0 (fun i => if dg A.d i t = x then dg A.d i 3 else 0))), (4, .int (nI 0))]) ⟨rfl, rfl, rfl, rfl, rfl, trivial⟩ ?_
  refine up0 (c := A.d.length) (H := fun i => G E C RX9 cX9_allOf zX9_allOf P 0 0 M 5 [(0, .ref (ad E 20 0 0)), (1, .int x), (2, .int (nI t)), (3, .int (sm i (fun i => if dg A.d i t = x then dg A.d i 3 else 0))), (4, .int (nI i))] []) ?_ (fun i hi ih => ?_)
  · refine G_iload dX9_allOf_5 rfl ?_
    refine G_aload_n dX9_allOf_7 rfl ?_
    refine G_bipush (v := 6) dX9_allOf_8 (by decide) ?_
    refine cv_X9_50 (cs' := 0) (ss' := 0) dX9_allOf_10  (Nat.le_of_ble_eq_true rfl) (Nat.le_of_ble_eq_true rfl) (Nat.le_of_ble_eq_true rfl) rfl rfl (Nat.le_of_ble_eq_true rfl) (Nat.le_of_ble_eq_true rfl) rfl ?_
    refine s_X9_get (w := 6) hR (by decide) hA.dn (hGo_i ?_)
    refine G_icmp_ge (tgt := 47) dX9_allOf_13 (by decide) (fun c13 => ?_) (fun c13 => ?_)
    · refine G_iload_n dX9_allOf_47 rfl ?_
      refine G_iret dX9_allOf_48 rfl rfl (Nat.le_of_ble_eq_true rfl) (Nat.le_of_ble_eq_true rfl) ?_
      exact h
    · exact absurd (Int32.le_refl _) c13
  · refine G_iload dX9_allOf_5 rfl ?_
    refine G_aload_n dX9_allOf_7 rfl ?_
    refine G_bipush (v := 6) dX9_allOf_8 (by decide) ?_
    refine cv_X9_50 (cs' := 0) (ss' := 0) dX9_allOf_10  (Nat.le_of_ble_eq_true rfl) (Nat.le_of_ble_eq_true rfl) (Nat.le_of_ble_eq_true rfl) rfl rfl (Nat.le_of_ble_eq_true rfl) (Nat.le_of_ble_eq_true rfl) rfl ?_
    refine s_X9_get (w := 6) hR (by decide) hA.dn (hGo_i ?_)
    refine G_icmp_ge (tgt := 47) dX9_allOf_13 (by decide) (fun c13 => ?_) (fun c13 => ?_)
    · exact absurd c13 (nI_ge hi (by omega))
    · refine G_iload_n dX9_allOf_16 rfl ?_
      refine G_aload_n dX9_allOf_17 rfl ?_
      refine G_iload dX9_allOf_18 rfl ?_
      refine G_iload_n dX9_allOf_20 rfl ?_
      refine cv_X9_84 (cs' := 0) (ss' := 0) dX9_allOf_21  (Nat.le_of_ble_eq_true rfl) (Nat.le_of_ble_eq_true rfl) (Nat.le_of_ble_eq_true rfl) rfl rfl (Nat.le_of_ble_eq_true rfl) (Nat.le_of_ble_eq_true rfl) rfl ?_
      refine s_X9_db hR (by omega) (by omega) (hA.d hi (by omega)) (hGo_i ?_)
      refine G_iload_n dX9_allOf_24 rfl ?_
      refine G_icmp_ne (tgt := 38) dX9_allOf_25 (by decide) (fun c25 => ?_) (fun c25 => ?_)
      · refine G_iconst (v := 0) dX9_allOf_38 (by decide) ?_
        refine G_iadd dX9_allOf_39 ?_
        refine G_istore_n dX9_allOf_40 (Nat.le_of_ble_eq_true rfl) ?_
        refine G_iinc (v := 1) dX9_allOf_41 rfl (Nat.le_of_ble_eq_true rfl) (by decide) ?_
        refine G_goto (tgt := 5) dX9_allOf_44 (by decide) ?_
        exact G_lv2 ih ⟨rfl, rfl, rfl, lvi (sm_t (if_neg c25)), lvi (nI_1 i), trivial⟩
      · refine G_aload_n dX9_allOf_28 rfl ?_
        refine G_iload dX9_allOf_29 rfl ?_
        refine G_iconst (v := 3) dX9_allOf_31 (by decide) ?_
        refine cv_X9_84 (cs' := 0) (ss' := 0) dX9_allOf_32  (Nat.le_of_ble_eq_true rfl) (Nat.le_of_ble_eq_true rfl) (Nat.le_of_ble_eq_true rfl) rfl rfl (Nat.le_of_ble_eq_true rfl) (Nat.le_of_ble_eq_true rfl) rfl ?_
        refine s_X9_db (t := 3) hR (by omega) (by decide) (hA.d hi (by decide)) (hGo_i ?_)
        refine G_goto (tgt := 39) dX9_allOf_35 (by decide) ?_
        refine G_iadd dX9_allOf_39 ?_
        refine G_istore_n dX9_allOf_40 (Nat.le_of_ble_eq_true rfl) ?_
        refine G_iinc (v := 1) dX9_allOf_41 rfl (Nat.le_of_ble_eq_true rfl) (by decide) ?_
        refine G_goto (tgt := 5) dX9_allOf_44 (by decide) ?_
        exact G_lv2 ih ⟨rfl, rfl, rfl, lvi (sm_t (if_pos c25)), lvi (nI_1 i), trivial⟩
theorem s_X9_allOwed (hR : Ro M o) (hA : MR M o A) (h : P (.inl (some (.int (sm A.d.length (fun i => dg A.d i 3))))) M) : Sp E yX9_allOwed cX9_allOwed zX9_allOwed [.ref (ad E 20 0 0)] M P := by
  have h30 := hA.d30
  refine Sp_of (own := RX9) (by decide) rfl rfl (Nat.le_of_ble_eq_true rfl) (fun C => ?_)
  refine G_iconst (v := 0) dX9_allOwed_0 (by decide) ?_
  refine G_istore_n dX9_allOwed_1 (Nat.le_of_ble_eq_true rfl) ?_
  refine G_iconst (v := 0) dX9_allOwed_2 (by decide) ?_
  refine G_istore_n dX9_allOwed_3 (Nat.le_of_ble_eq_true rfl) ?_
  refine G_lv (lv' := [(0, .ref (ad E 20 0 0)), (1, .int (sm 0 (fun i => dg A.d i 3))), (2, .int (nI 0))]) ⟨rfl, rfl, rfl, trivial⟩ ?_
  refine up0 (c := A.d.length) (H := fun i => G E C RX9 cX9_allOwed zX9_allOwed P 0 0 M 4 [(0, .ref (ad E 20 0 0)), (1, .int (sm i (fun i => dg A.d i 3))), (2, .int (nI i))] []) ?_ (fun i hi ih => ?_)
  · refine G_iload_n dX9_allOwed_4 rfl ?_
    refine G_aload_n dX9_allOwed_5 rfl ?_
    refine G_bipush (v := 6) dX9_allOwed_6 (by decide) ?_
    refine cv_X9_50 (cs' := 0) (ss' := 0) dX9_allOwed_8  (Nat.le_of_ble_eq_true rfl) (Nat.le_of_ble_eq_true rfl) (Nat.le_of_ble_eq_true rfl) rfl rfl (Nat.le_of_ble_eq_true rfl) (Nat.le_of_ble_eq_true rfl) rfl ?_
    refine s_X9_get (w := 6) hR (by decide) hA.dn (hGo_i ?_)
    refine G_icmp_ge (tgt := 29) dX9_allOwed_11 (by decide) (fun c11 => ?_) (fun c11 => ?_)
    · refine G_iload_n dX9_allOwed_29 rfl ?_
      refine G_iret dX9_allOwed_30 rfl rfl (Nat.le_of_ble_eq_true rfl) (Nat.le_of_ble_eq_true rfl) ?_
      exact h
    · exact absurd (Int32.le_refl _) c11
  · refine G_iload_n dX9_allOwed_4 rfl ?_
    refine G_aload_n dX9_allOwed_5 rfl ?_
    refine G_bipush (v := 6) dX9_allOwed_6 (by decide) ?_
    refine cv_X9_50 (cs' := 0) (ss' := 0) dX9_allOwed_8  (Nat.le_of_ble_eq_true rfl) (Nat.le_of_ble_eq_true rfl) (Nat.le_of_ble_eq_true rfl) rfl rfl (Nat.le_of_ble_eq_true rfl) (Nat.le_of_ble_eq_true rfl) rfl ?_
    refine s_X9_get (w := 6) hR (by decide) hA.dn (hGo_i ?_)
    refine G_icmp_ge (tgt := 29) dX9_allOwed_11 (by decide) (fun c11 => ?_) (fun c11 => ?_)
    · exact absurd c11 (nI_ge hi (by omega))
    · refine G_iload_n dX9_allOwed_14 rfl ?_
      refine G_aload_n dX9_allOwed_15 rfl ?_
      refine G_iload_n dX9_allOwed_16 rfl ?_
      refine G_iconst (v := 3) dX9_allOwed_17 (by decide) ?_
      refine cv_X9_84 (cs' := 0) (ss' := 0) dX9_allOwed_18  (Nat.le_of_ble_eq_true rfl) (Nat.le_of_ble_eq_true rfl) (Nat.le_of_ble_eq_true rfl) rfl rfl (Nat.le_of_ble_eq_true rfl) (Nat.le_of_ble_eq_true rfl) rfl ?_
      refine s_X9_db (t := 3) hR (by omega) (by decide) (hA.d hi (by decide)) (hGo_i ?_)
      refine G_iadd dX9_allOwed_21 ?_
      refine G_istore_n dX9_allOwed_22 (Nat.le_of_ble_eq_true rfl) ?_
      refine G_iinc (v := 1) dX9_allOwed_23 rfl (Nat.le_of_ble_eq_true rfl) (by decide) ?_
      refine G_goto (tgt := 4) dX9_allOwed_26 (by decide) ?_
      exact G_lv2 ih ⟨rfl, rfl, lvi (nI_1 i), trivial⟩
theorem le1_lt2 (x : Int32) : x < 2 ↔ x ≤ 1 := by rw [Int32.lt_iff_toInt_lt, Int32.le_iff_toInt_le, show (2 : Int32).toInt = 2 from rfl, show (1 : Int32).toInt = 1 from rfl]; omega
theorem s_X9_isNearBench {p : Nat} {r t : Int32} (hR : Ro M o) (hA : MR M o A) (hp : p < A.n) (h : P (.inl (some (.int (if nrB A p r t = true then 1 else 0)))) M) : Sp E yX9_isNearBench cX9_isNearBench zX9_isNearBench [.ref (ad E 20 0 0), .int (nI p), .int r, .int t] M P := by
  have h12 := hA.n12
  refine Sp_of (own := RX9) (by decide) rfl rfl (Nat.le_of_ble_eq_true rfl) (fun C => ?_)
  refine G_aload_n dX9_isNearBench_0 rfl ?_
  refine G_iload_n dX9_isNearBench_1 rfl ?_
  refine G_iconst (v := 0) dX9_isNearBench_2 (by decide) ?_
  refine cv_X9_54 (cs' := 0) (ss' := 0) dX9_isNearBench_3  (Nat.le_of_ble_eq_true rfl) (Nat.le_of_ble_eq_true rfl) (Nat.le_of_ble_eq_true rfl) rfl rfl (Nat.le_of_ble_eq_true rfl) (Nat.le_of_ble_eq_true rfl) rfl ?_
  refine s_X9_pu (t := 0) hR (by omega) (by decide) (hA.f hp (by decide)) (hGo_i ?_)
  refine G_iload_n dX9_isNearBench_6 rfl ?_
  refine G_isub dX9_isNearBench_7 ?_
  refine G_mabs dX9_isNearBench_8 (hqx 1650 (by decide +kernel) rfl) (hqx 682 (by decide +kernel) rfl) (hqx 16 (by decide +kernel) rfl) (hqx 683 (by decide +kernel) rfl) (Nat.le_of_ble_eq_true rfl) (Nat.le_of_ble_eq_true rfl) (Nat.le_of_ble_eq_true rfl) (Nat.le_of_ble_eq_true rfl) ?_
  refine G_iconst (v := 2) dX9_isNearBench_11 (by decide) ?_
  refine G_icmp_ge (tgt := 34) dX9_isNearBench_12 (by decide) (fun c12 => ?_) (fun c12 => ?_)
  · have q : ¬ nrB A p r t = true := fun z => by
      have := (of_decide_eq_true z).1
      exact absurd ((le1_lt2 _).mpr this) (Int32.not_lt.mpr c12)
    rw [if_neg q] at h
    refine G_iconst (v := 0) dX9_isNearBench_34 (by decide) ?_
    refine G_iret dX9_isNearBench_35 rfl rfl (Nat.le_of_ble_eq_true rfl) (Nat.le_of_ble_eq_true rfl) ?_
    exact h
  · refine G_aload_n dX9_isNearBench_15 rfl ?_
    refine G_iload_n dX9_isNearBench_16 rfl ?_
    refine G_iconst (v := 1) dX9_isNearBench_17 (by decide) ?_
    refine cv_X9_54 (cs' := 0) (ss' := 0) dX9_isNearBench_18  (Nat.le_of_ble_eq_true rfl) (Nat.le_of_ble_eq_true rfl) (Nat.le_of_ble_eq_true rfl) rfl rfl (Nat.le_of_ble_eq_true rfl) (Nat.le_of_ble_eq_true rfl) rfl ?_
    refine s_X9_pu (t := 1) hR (by omega) (by decide) (hA.f hp (by decide)) (hGo_i ?_)
    refine G_iload_n dX9_isNearBench_21 rfl ?_
    refine G_isub dX9_isNearBench_22 ?_
    refine G_mabs dX9_isNearBench_23 (hqx 1650 (by decide +kernel) rfl) (hqx 682 (by decide +kernel) rfl) (hqx 16 (by decide +kernel) rfl) (hqx 683 (by decide +kernel) rfl) (Nat.le_of_ble_eq_true rfl) (Nat.le_of_ble_eq_true rfl) (Nat.le_of_ble_eq_true rfl) (Nat.le_of_ble_eq_true rfl) ?_
    refine G_iconst (v := 2) dX9_isNearBench_26 (by decide) ?_
    refine G_icmp_ge (tgt := 34) dX9_isNearBench_27 (by decide) (fun c27 => ?_) (fun c27 => ?_)
    · have q : ¬ nrB A p r t = true := fun z => by
        have := (of_decide_eq_true z).2
        exact absurd ((le1_lt2 _).mpr this) (Int32.not_lt.mpr c27)
      rw [if_neg q] at h
      refine G_iconst (v := 0) dX9_isNearBench_34 (by decide) ?_
      refine G_iret dX9_isNearBench_35 rfl rfl (Nat.le_of_ble_eq_true rfl) (Nat.le_of_ble_eq_true rfl) ?_
      exact h
    · have q : nrB A p r t = true := decide_eq_true ⟨(le1_lt2 _).mp (Int32.not_le.mp c12), (le1_lt2 _).mp (Int32.not_le.mp c27)⟩
      rw [if_pos q] at h
      refine G_iconst (v := 1) dX9_isNearBench_30 (by decide) ?_
      refine G_goto (tgt := 35) dX9_isNearBench_31 (by decide) ?_
      refine G_iret dX9_isNearBench_35 rfl rfl (Nat.le_of_ble_eq_true rfl) (Nat.le_of_ble_eq_true rfl) ?_
      exact h
theorem s_X9_areNear {p q : Nat} (hR : Ro M o) (hA : MR M o A) (hp : p < A.n) (hq : q < A.n) (h : P (.inl (some (.int (if nr A p q = true then 1 else 0)))) M) : Sp E yX9_areNear cX9_areNear zX9_areNear [.ref (ad E 20 0 0), .int (nI p), .int (nI q)] M P := by
  have h12 := hA.n12
  refine Sp_of (own := RX9) (by decide) rfl rfl (Nat.le_of_ble_eq_true rfl) (fun C => ?_)
  refine G_aload_n dX9_areNear_0 rfl ?_
  refine G_iload_n dX9_areNear_1 rfl ?_
  refine G_aload_n dX9_areNear_2 rfl ?_
  refine G_iload_n dX9_areNear_3 rfl ?_
  refine G_iconst (v := 0) dX9_areNear_4 (by decide) ?_
  refine cv_X9_54 (cs' := 0) (ss' := 0) dX9_areNear_5  (Nat.le_of_ble_eq_true rfl) (Nat.le_of_ble_eq_true rfl) (Nat.le_of_ble_eq_true rfl) rfl rfl (Nat.le_of_ble_eq_true rfl) (Nat.le_of_ble_eq_true rfl) rfl ?_
  refine s_X9_pu (t := 0) hR (by omega) (by decide) (hA.f hq (by decide)) (hGo_i ?_)
  refine G_aload_n dX9_areNear_8 rfl ?_
  refine G_iload_n dX9_areNear_9 rfl ?_
  refine G_iconst (v := 1) dX9_areNear_10 (by decide) ?_
  refine cv_X9_54 (cs' := 0) (ss' := 0) dX9_areNear_11  (Nat.le_of_ble_eq_true rfl) (Nat.le_of_ble_eq_true rfl) (Nat.le_of_ble_eq_true rfl) rfl rfl (Nat.le_of_ble_eq_true rfl) (Nat.le_of_ble_eq_true rfl) rfl ?_
  refine s_X9_pu (t := 1) hR (by omega) (by decide) (hA.f hq (by decide)) (hGo_i ?_)
  refine cv_X9_95 (cs' := 0) (ss' := 0) dX9_areNear_14  (Nat.le_of_ble_eq_true rfl) (Nat.le_of_ble_eq_true rfl) (Nat.le_of_ble_eq_true rfl) rfl rfl (Nat.le_of_ble_eq_true rfl) (Nat.le_of_ble_eq_true rfl) rfl ?_
  refine s_X9_isNearBench hR hA hp (hGo_i ?_)
  refine G_iret dX9_areNear_17 rfl (by split <;> rfl) (Nat.le_of_ble_eq_true rfl) (Nat.le_of_ble_eq_true rfl) ?_
  exact h
theorem s_X9_pupilOn {r t : Int32} (hR : Ro M o) (hA : MR M o A) (h : P (.inl (some (.int (onV A r t)))) M) : Sp E yX9_pupilOn cX9_pupilOn zX9_pupilOn [.ref (ad E 20 0 0), .int r, .int t] M P := by
  have h12 := hA.n12
  unfold onV at h
  refine Sp_of (own := RX9) (by decide) rfl rfl (Nat.le_of_ble_eq_true rfl) (fun C => ?_)
  refine G_iconst (v := 0) dX9_pupilOn_0 (by decide) ?_
  refine G_istore_n dX9_pupilOn_1 (Nat.le_of_ble_eq_true rfl) ?_
  refine G_lv (lv' := [(0, .ref (ad E 20 0 0)), (1, .int r), (2, .int t), (3, .int (nI 0))]) ⟨rfl, rfl, rfl, rfl, trivial⟩ ?_
  refine up0 (c := A.n) (H := fun i => (∀ k, k < i → decide (A.f k 0 = r ∧ A.f k 1 = t) = false) → G E C RX9 cX9_pupilOn zX9_pupilOn P 0 0 M 2 [(0, .ref (ad E 20 0 0)), (1, .int r), (2, .int t), (3, .int (nI i))] []) (fun hno => ?_) (fun i hi ih hno => ?_) (fun k hk => absurd hk (Nat.not_lt_zero k))
  · refine G_iload_n dX9_pupilOn_2 rfl ?_
    refine G_aload_n dX9_pupilOn_3 rfl ?_
    refine G_iconst (v := 0) dX9_pupilOn_4 (by decide) ?_
    refine cv_X9_50 (cs' := 0) (ss' := 0) dX9_pupilOn_5  (Nat.le_of_ble_eq_true rfl) (Nat.le_of_ble_eq_true rfl) (Nat.le_of_ble_eq_true rfl) rfl rfl (Nat.le_of_ble_eq_true rfl) (Nat.le_of_ble_eq_true rfl) rfl ?_
    refine s_X9_get (w := 0) hR (by decide) hA.n (hGo_i ?_)
    refine G_icmp_ge (tgt := 39) dX9_pupilOn_8 (by decide) (fun c8 => ?_) (fun c8 => ?_)
    · refine G_iconst (v := (-1)) dX9_pupilOn_39 (by decide) ?_
      refine G_iret dX9_pupilOn_40 rfl rfl (Nat.le_of_ble_eq_true rfl) (Nat.le_of_ble_eq_true rfl) ?_
      rw [first_none hno] at h
      exact h
    · exact absurd (Int32.le_refl _) c8
  · have g33 : decide (A.f i 0 = r ∧ A.f i 1 = t) = false → G E C RX9 cX9_pupilOn zX9_pupilOn P 0 0 M 33 [(0, .ref (ad E 20 0 0)), (1, .int r), (2, .int t), (3, .int (nI i))] [] := fun hp => by
      refine G_iinc (v := 1) dX9_pupilOn_33 rfl (Nat.le_of_ble_eq_true rfl) (by decide) ?_
      refine G_goto (tgt := 2) dX9_pupilOn_36 (by decide) ?_
      refine G_lv2 (ih (fun k hk => ?_)) ⟨rfl, rfl, rfl, lvi (nI_1 i), trivial⟩
      by_cases e : k = i
      · rw [e]
        exact hp
      · exact hno k (by omega)
    refine G_iload_n dX9_pupilOn_2 rfl ?_
    refine G_aload_n dX9_pupilOn_3 rfl ?_
    refine G_iconst (v := 0) dX9_pupilOn_4 (by decide) ?_
    refine cv_X9_50 (cs' := 0) (ss' := 0) dX9_pupilOn_5  (Nat.le_of_ble_eq_true rfl) (Nat.le_of_ble_eq_true rfl) (Nat.le_of_ble_eq_true rfl) rfl rfl (Nat.le_of_ble_eq_true rfl) (Nat.le_of_ble_eq_true rfl) rfl ?_
    refine s_X9_get (w := 0) hR (by decide) hA.n (hGo_i ?_)
    refine G_icmp_ge (tgt := 39) dX9_pupilOn_8 (by decide) (fun c8 => ?_) (fun c8 => ?_)
    · exact absurd c8 (nI_ge hi (by omega))
    · refine G_aload_n dX9_pupilOn_11 rfl ?_
      refine G_iload_n dX9_pupilOn_12 rfl ?_
      refine G_iconst (v := 0) dX9_pupilOn_13 (by decide) ?_
      refine cv_X9_54 (cs' := 0) (ss' := 0) dX9_pupilOn_14  (Nat.le_of_ble_eq_true rfl) (Nat.le_of_ble_eq_true rfl) (Nat.le_of_ble_eq_true rfl) rfl rfl (Nat.le_of_ble_eq_true rfl) (Nat.le_of_ble_eq_true rfl) rfl ?_
      refine s_X9_pu (t := 0) hR (by omega) (by decide) (hA.f hi (by decide)) (hGo_i ?_)
      refine G_iload_n dX9_pupilOn_17 rfl ?_
      refine G_icmp_ne (tgt := 33) dX9_pupilOn_18 (by decide) (fun c18 => ?_) (fun c18 => ?_)
      · exact g33 (decide_eq_false (fun q => c18 q.1))
      · refine G_aload_n dX9_pupilOn_21 rfl ?_
        refine G_iload_n dX9_pupilOn_22 rfl ?_
        refine G_iconst (v := 1) dX9_pupilOn_23 (by decide) ?_
        refine cv_X9_54 (cs' := 0) (ss' := 0) dX9_pupilOn_24  (Nat.le_of_ble_eq_true rfl) (Nat.le_of_ble_eq_true rfl) (Nat.le_of_ble_eq_true rfl) rfl rfl (Nat.le_of_ble_eq_true rfl) (Nat.le_of_ble_eq_true rfl) rfl ?_
        refine s_X9_pu (t := 1) hR (by omega) (by decide) (hA.f hi (by decide)) (hGo_i ?_)
        refine G_iload_n dX9_pupilOn_27 rfl ?_
        refine G_icmp_ne (tgt := 33) dX9_pupilOn_28 (by decide) (fun c28 => ?_) (fun c28 => ?_)
        · exact g33 (decide_eq_false (fun q => c28 q.2))
        · refine G_iload_n dX9_pupilOn_31 rfl ?_
          refine G_iret dX9_pupilOn_32 rfl rfl (Nat.le_of_ble_eq_true rfl) (Nat.le_of_ble_eq_true rfl) ?_
          rw [first_at hi hno (decide_eq_true ⟨c18, c28⟩)] at h
          exact h
end MONE
