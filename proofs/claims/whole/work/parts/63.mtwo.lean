/-! ===== HomeworkBarterModel: debts grow and shrink, spies ===== -/
section MTWO
variable {E : Ed} {M M' : Mm} {P : Res → Mm → Prop} {A B : Ab} {o : Nat}
theorem s_X9_owesMore {x y s m : Int32} (hR : Ro M o) (hA : MR M o A) (hc : canG A.d x y s m) (h : ∀ M', MR M' o (A.sD (lendD A.d x y s m)) → Fo o M M' → P (.inl none) M') : Sp E yX9_owesMore cX9_owesMore zX9_owesMore [.ref (ad E 20 0 0), .int x, .int y, .int s, .int m] M P := by
  have h30 := hA.d30
  unfold canG at hc
  unfold lendD at h
  refine Sp_of (own := RX9) (by decide) rfl rfl (Nat.le_of_ble_eq_true rfl) (fun C => ?_)
  refine G_aload_n dX9_owesMore_0 rfl ?_
  refine G_iload_n dX9_owesMore_1 rfl ?_
  refine G_iload_n dX9_owesMore_2 rfl ?_
  refine G_iload_n dX9_owesMore_3 rfl ?_
  refine cv_X9_87 (cs' := 0) (ss' := 0) dX9_owesMore_4  (Nat.le_of_ble_eq_true rfl) (Nat.le_of_ble_eq_true rfl) (Nat.le_of_ble_eq_true rfl) rfl rfl (Nat.le_of_ble_eq_true rfl) (Nat.le_of_ble_eq_true rfl) rfl ?_
  refine s_X9_findDebt hR hA (hGo_i ?_)
  rcases fnd_cases A.d x y s with ⟨e, -⟩ | ⟨i, hi, e, -, -⟩
  · rw [e] at h hc ⊢
    rw [if_pos rfl] at h hc
    refine G_istore dX9_owesMore_7 (Nat.le_of_ble_eq_true rfl) ?_
    refine G_iload dX9_owesMore_9 rfl ?_
    refine G_iconst (v := (-1)) dX9_owesMore_11 (by decide) ?_
    refine G_icmp_ne (tgt := 90) dX9_owesMore_12 (by decide) (fun c12 => ?_) (fun c12 => ?_)
    · exact absurd rfl c12
    · refine G_aload_n dX9_owesMore_15 rfl ?_
      refine G_bipush (v := 6) dX9_owesMore_16 (by decide) ?_
      refine cv_X9_50 (cs' := 0) (ss' := 0) dX9_owesMore_18  (Nat.le_of_ble_eq_true rfl) (Nat.le_of_ble_eq_true rfl) (Nat.le_of_ble_eq_true rfl) rfl rfl (Nat.le_of_ble_eq_true rfl) (Nat.le_of_ble_eq_true rfl) rfl ?_
      refine s_X9_get (w := 6) hR (by decide) hA.dn (hGo_i ?_)
      refine G_istore dX9_owesMore_21 (Nat.le_of_ble_eq_true rfl) ?_
      refine G_aload_n dX9_owesMore_23 rfl ?_
      refine G_sipush (v := 641) dX9_owesMore_24 (by decide) ?_
      refine G_iconst (v := 4) dX9_owesMore_27 (by decide) ?_
      refine G_iload dX9_owesMore_28 rfl ?_
      refine G_imul dX9_owesMore_30 ?_
      refine G_iadd dX9_owesMore_31 ?_
      refine G_iconst (v := 0) dX9_owesMore_32 (by decide) ?_
      refine G_iadd dX9_owesMore_33 ?_
      rw [show (641 : Int32) + 4 * nI A.d.length + 0 = nI (641 + 4 * A.d.length + 0) from ixD (t := 0)]
      refine G_iload_n dX9_owesMore_34 rfl ?_
      refine cv_X9_33 (cs' := 0) (ss' := 0) dX9_owesMore_35  (Nat.le_of_ble_eq_true rfl) (Nat.le_of_ble_eq_true rfl) (Nat.le_of_ble_eq_true rfl) rfl rfl (Nat.le_of_ble_eq_true rfl) (Nat.le_of_ble_eq_true rfl) rfl ?_
      refine s_X9_lay hR (by omega) (hGo_v ?_)
      refine G_aload_n dX9_owesMore_38 rfl ?_
      refine G_sipush (v := 641) dX9_owesMore_39 (by decide) ?_
      refine G_iconst (v := 4) dX9_owesMore_42 (by decide) ?_
      refine G_iload dX9_owesMore_43 rfl ?_
      refine G_imul dX9_owesMore_45 ?_
      refine G_iadd dX9_owesMore_46 ?_
      refine G_iconst (v := 1) dX9_owesMore_47 (by decide) ?_
      refine G_iadd dX9_owesMore_48 ?_
      rw [show (641 : Int32) + 4 * nI A.d.length + 1 = nI (641 + 4 * A.d.length + 1) from ixD (t := 1)]
      refine G_iload_n dX9_owesMore_49 rfl ?_
      refine cv_X9_33 (cs' := 0) (ss' := 0) dX9_owesMore_50  (Nat.le_of_ble_eq_true rfl) (Nat.le_of_ble_eq_true rfl) (Nat.le_of_ble_eq_true rfl) rfl rfl (Nat.le_of_ble_eq_true rfl) (Nat.le_of_ble_eq_true rfl) rfl ?_
      refine s_X9_lay hR.w (by omega) (hGo_v ?_)
      refine G_aload_n dX9_owesMore_53 rfl ?_
      refine G_sipush (v := 641) dX9_owesMore_54 (by decide) ?_
      refine G_iconst (v := 4) dX9_owesMore_57 (by decide) ?_
      refine G_iload dX9_owesMore_58 rfl ?_
      refine G_imul dX9_owesMore_60 ?_
      refine G_iadd dX9_owesMore_61 ?_
      refine G_iconst (v := 2) dX9_owesMore_62 (by decide) ?_
      refine G_iadd dX9_owesMore_63 ?_
      rw [show (641 : Int32) + 4 * nI A.d.length + 2 = nI (641 + 4 * A.d.length + 2) from ixD (t := 2)]
      refine G_iload_n dX9_owesMore_64 rfl ?_
      refine cv_X9_33 (cs' := 0) (ss' := 0) dX9_owesMore_65  (Nat.le_of_ble_eq_true rfl) (Nat.le_of_ble_eq_true rfl) (Nat.le_of_ble_eq_true rfl) rfl rfl (Nat.le_of_ble_eq_true rfl) (Nat.le_of_ble_eq_true rfl) rfl ?_
      refine s_X9_lay hR.w.w (by omega) (hGo_v ?_)
      refine G_aload_n dX9_owesMore_68 rfl ?_
      refine G_sipush (v := 641) dX9_owesMore_69 (by decide) ?_
      refine G_iconst (v := 4) dX9_owesMore_72 (by decide) ?_
      refine G_iload dX9_owesMore_73 rfl ?_
      refine G_imul dX9_owesMore_75 ?_
      refine G_iadd dX9_owesMore_76 ?_
      refine G_iconst (v := 3) dX9_owesMore_77 (by decide) ?_
      refine G_iadd dX9_owesMore_78 ?_
      rw [show (641 : Int32) + 4 * nI A.d.length + 3 = nI (641 + 4 * A.d.length + 3) from ixD (t := 3)]
      refine G_iconst (v := 0) dX9_owesMore_79 (by decide) ?_
      refine cv_X9_33 (cs' := 0) (ss' := 0) dX9_owesMore_80  (Nat.le_of_ble_eq_true rfl) (Nat.le_of_ble_eq_true rfl) (Nat.le_of_ble_eq_true rfl) rfl rfl (Nat.le_of_ble_eq_true rfl) (Nat.le_of_ble_eq_true rfl) rfl ?_
      refine s_X9_lay hR.w.w.w (by omega) (hGo_v ?_)
      refine G_aload_n dX9_owesMore_83 rfl ?_
      refine G_bipush (v := 6) dX9_owesMore_84 (by decide) ?_
      refine G_iconst (v := 1) dX9_owesMore_86 (by decide) ?_
      refine cv_X9_47 (cs' := 0) (ss' := 0) dX9_owesMore_87  (Nat.le_of_ble_eq_true rfl) (Nat.le_of_ble_eq_true rfl) (Nat.le_of_ble_eq_true rfl) rfl rfl (Nat.le_of_ble_eq_true rfl) (Nat.le_of_ble_eq_true rfl) rfl ?_
      refine s_X9_adds (w := 6) hR.w.w.w.w (by decide) ((cl_n (by omega)).trans ((cl_n (by omega)).trans ((cl_n (by omega)).trans ((cl_n (by omega)).trans hA.dn)))) (hGo_v ?_)
      refine G_aload_n dX9_owesMore_90 rfl ?_
      refine G_sipush (v := 641) dX9_owesMore_91 (by decide) ?_
      refine G_iconst (v := 4) dX9_owesMore_94 (by decide) ?_
      refine G_iload dX9_owesMore_95 rfl ?_
      refine G_imul dX9_owesMore_97 ?_
      refine G_iadd dX9_owesMore_98 ?_
      refine G_iconst (v := 3) dX9_owesMore_99 (by decide) ?_
      refine G_iadd dX9_owesMore_100 ?_
      rw [show (641 : Int32) + 4 * nI A.d.length + 3 = nI (641 + 4 * A.d.length + 3) from ixD (t := 3)]
      refine G_iload dX9_owesMore_101 rfl ?_
      refine cv_X9_47 (cs' := 0) (ss' := 0) dX9_owesMore_103  (Nat.le_of_ble_eq_true rfl) (Nat.le_of_ble_eq_true rfl) (Nat.le_of_ble_eq_true rfl) rfl rfl (Nat.le_of_ble_eq_true rfl) (Nat.le_of_ble_eq_true rfl) rfl ?_
      refine s_X9_adds (x := 0) hR.w.w.w.w.w (by omega) ((cl_n (by omega)).trans cl_at) (hGo_v ?_)
      refine G_vret dX9_owesMore_106 rfl (Nat.le_of_ble_eq_true rfl) (Nat.le_of_ble_eq_true rfl) ?_
      refine h _ (hA.upD (d := A.d ++ [(x, y, s, 0 + m)]) ((cl_n (by omega)).trans (cl_at.trans (by rw [List.length_append]; exact nI_1 _))) (by rw [List.length_append]; exact hc) (fun k hk t ht => ?_) (fun k hk h6 => ?_)) ((((((Fo.rfl.w (by omega)).w (by omega)).w (by omega)).w (by omega)).w (by omega)).w (by omega))
      · rw [List.length_append] at hk
        have hk' : k < A.d.length + 1 := hk
        rw [dg_app]
        by_cases q : k = A.d.length
        · rw [if_pos q, q]
          rcases (show t = 0 ∨ t = 1 ∨ t = 2 ∨ t = 3 by omega) with rfl | rfl | rfl | rfl
          · exact (cl_n (by omega)).trans ((cl_n (by omega)).trans ((cl_n (by omega)).trans ((cl_n (by omega)).trans ((cl_n (by omega)).trans cl_at))))
          · exact (cl_n (by omega)).trans ((cl_n (by omega)).trans ((cl_n (by omega)).trans ((cl_n (by omega)).trans cl_at)))
          · exact (cl_n (by omega)).trans ((cl_n (by omega)).trans ((cl_n (by omega)).trans cl_at))
          · exact cl_at
        · rw [if_neg q]
          exact (cl_n (by omega)).trans ((cl_n (by omega)).trans ((cl_n (by omega)).trans ((cl_n (by omega)).trans ((cl_n (by omega)).trans ((cl_n (by omega)).trans (hA.d (by omega) ht))))))
      · exact (cl_n (by omega)).trans ((cl_n (by omega)).trans ((cl_n (by omega)).trans ((cl_n (by omega)).trans ((cl_n (by omega)).trans (cl_n (by omega))))))
  · rw [e] at h hc ⊢
    rw [if_neg (nI_nm1 (by omega)), nI_clamp (by omega)] at h hc
    refine G_istore dX9_owesMore_7 (Nat.le_of_ble_eq_true rfl) ?_
    refine G_iload dX9_owesMore_9 rfl ?_
    refine G_iconst (v := (-1)) dX9_owesMore_11 (by decide) ?_
    refine G_icmp_ne (tgt := 90) dX9_owesMore_12 (by decide) (fun c12 => ?_) (fun c12 => ?_)
    · refine G_aload_n dX9_owesMore_90 rfl ?_
      refine G_sipush (v := 641) dX9_owesMore_91 (by decide) ?_
      refine G_iconst (v := 4) dX9_owesMore_94 (by decide) ?_
      refine G_iload dX9_owesMore_95 rfl ?_
      refine G_imul dX9_owesMore_97 ?_
      refine G_iadd dX9_owesMore_98 ?_
      refine G_iconst (v := 3) dX9_owesMore_99 (by decide) ?_
      refine G_iadd dX9_owesMore_100 ?_
      rw [show (641 : Int32) + 4 * nI i + 3 = nI (641 + 4 * i + 3) from ixD (t := 3)]
      refine G_iload dX9_owesMore_101 rfl ?_
      refine cv_X9_47 (cs' := 0) (ss' := 0) dX9_owesMore_103  (Nat.le_of_ble_eq_true rfl) (Nat.le_of_ble_eq_true rfl) (Nat.le_of_ble_eq_true rfl) rfl rfl (Nat.le_of_ble_eq_true rfl) (Nat.le_of_ble_eq_true rfl) rfl ?_
      refine s_X9_adds hR (by omega) (hA.d hi (t := 3) (by decide)) (hGo_v ?_)
      refine G_vret dX9_owesMore_106 rfl (Nat.le_of_ble_eq_true rfl) (Nat.le_of_ble_eq_true rfl) ?_
      refine h _ (hA.upD ((cl_n (by omega)).trans (hA.dn.trans (by rw [setP_len]))) (by rw [setP_len]; exact h30) (fun k hk t ht => ?_) (fun k hk h6 => cl_n (by omega))) (Fo.rfl.w (by omega))
      rw [setP_len] at hk
      rw [dg_setP hi ht]
      by_cases q : k = i ∧ t = 3
      · rw [if_pos q, q.1, q.2]
        exact cl_at
      · rw [if_neg q]
        exact (cl_n (by omega)).trans (hA.d hk ht)
    · exact absurd c12 (nI_nm1 (by omega))
theorem s_X9_owesLess {x y s m : Int32} {i : Nat} (hR : Ro M o) (hA : MR M o A) (hi : i < A.d.length) (hf : fnd A.d x y s = nI i) (h : ∀ M', MR M' o (A.sD (payD A.d x y s m)) → Fo o M M' → P (.inl none) M') : Sp E yX9_owesLess cX9_owesLess zX9_owesLess [.ref (ad E 20 0 0), .int (nI i), .int m] M P := by
  have h30 := hA.d30
  have eV : payV A.d x y s m = dg A.d i 3 - m := by unfold payV; rw [hf, nI_clamp (by omega)]
  unfold payD at h
  rw [eV, hf, nI_clamp (by omega)] at h
  refine Sp_of (own := RX9) (by decide) rfl rfl (Nat.le_of_ble_eq_true rfl) (fun C => ?_)
  refine G_aload_n dX9_owesLess_0 rfl ?_
  refine G_sipush (v := 641) dX9_owesLess_1 (by decide) ?_
  refine G_iconst (v := 4) dX9_owesLess_4 (by decide) ?_
  refine G_iload_n dX9_owesLess_5 rfl ?_
  refine G_imul dX9_owesLess_6 ?_
  refine G_iadd dX9_owesLess_7 ?_
  refine G_iconst (v := 3) dX9_owesLess_8 (by decide) ?_
  refine G_iadd dX9_owesLess_9 ?_
  rw [show (641 : Int32) + 4 * nI i + 3 = nI (641 + 4 * i + 3) from ixD (t := 3)]
  refine G_iload_n dX9_owesLess_10 rfl ?_
  refine G_ineg dX9_owesLess_11 ?_
  refine cv_X9_47 (cs' := 0) (ss' := 0) dX9_owesLess_12  (Nat.le_of_ble_eq_true rfl) (Nat.le_of_ble_eq_true rfl) (Nat.le_of_ble_eq_true rfl) rfl rfl (Nat.le_of_ble_eq_true rfl) (Nat.le_of_ble_eq_true rfl) rfl ?_
  refine s_X9_adds hR (by omega) (hA.d hi (t := 3) (by decide)) (hGo_v ?_)
  rw [← Int32.sub_eq_add_neg]
  refine G_aload_n dX9_owesLess_15 rfl ?_
  refine G_iload_n dX9_owesLess_16 rfl ?_
  refine G_iconst (v := 3) dX9_owesLess_17 (by decide) ?_
  refine cv_X9_84 (cs' := 0) (ss' := 0) dX9_owesLess_18  (Nat.le_of_ble_eq_true rfl) (Nat.le_of_ble_eq_true rfl) (Nat.le_of_ble_eq_true rfl) rfl rfl (Nat.le_of_ble_eq_true rfl) (Nat.le_of_ble_eq_true rfl) rfl ?_
  refine s_X9_db (t := 3) hR.w (by omega) (by decide) cl_at (hGo_i ?_)
  have hset : ∀ k t, k < A.d.length → t < 4 → cl (M.w o (641 + 4 * i + 3) (dg A.d i 3 - m)) o (641 + 4 * k + t) = dg (setP A.d i (dg A.d i 3 - m)) k t := fun k t hk ht => by
    rw [dg_setP hi ht]
    by_cases q : k = i ∧ t = 3
    · rw [if_pos q, q.1, q.2]
      exact cl_at
    · rw [if_neg q]
      exact (cl_n (by omega)).trans (hA.d hk ht)
  refine G_if_le (tgt := 25) dX9_owesLess_21 (by decide) (fun c21 => ?_) (fun c21 => ?_)
  · rw [if_pos c21] at h
    refine G_sipush (v := 641) dX9_owesLess_25 (by decide) ?_
    refine G_iconst (v := 4) dX9_owesLess_28 (by decide) ?_
    refine G_iload_n dX9_owesLess_29 rfl ?_
    refine G_imul dX9_owesLess_30 ?_
    refine G_iadd dX9_owesLess_31 ?_
    rw [show (641 : Int32) + 4 * nI i = nI (641 + 4 * i) by rw [show (641 : Int32) = nI 641 from rfl, show (4 : Int32) = nI 4 from rfl, pk_mul, nI_add]]
    refine G_istore_n dX9_owesLess_32 (Nat.le_of_ble_eq_true rfl) ?_
    have el : ((setP A.d i (dg A.d i 3 - m)).eraseIdx i).length = A.d.length - 1 := by rw [List.length_eraseIdx, setP_len, if_pos hi]
    refine G_lv (lv' := [(0, .ref (ad E 20 0 0)), (3, .int (nI (641 + 4 * i + 0)))]) ⟨rfl, rfl, trivial⟩ ?_
    refine up0 (c := 4 * (A.d.length - 1 - i)) (H := fun j => ∀ M', (∀ k, k < j → cl M' o (641 + 4 * i + k) = cl M o (641 + 4 * i + k + 4)) → (∀ k, k < 761 → ¬ (641 + 4 * i ≤ k ∧ k < 641 + 4 * i + j) → cl M' o k = cl (M.w o (641 + 4 * i + 3) (dg A.d i 3 - m)) o k) → Fo o M M' → G E C RX9 cX9_owesLess zX9_owesLess P 0 0 M' 33 [(0, .ref (ad E 20 0 0)), (3, .int (nI (641 + 4 * i + j)))] []) (fun M1 hd hk hF => ?_) (fun j hj ih M1 hd hk hF => ?_) _ (fun k hk => absurd hk (Nat.not_lt_zero k)) (fun _ _ _ => rfl) (Fo.rfl.w (by omega))
    · refine G_iload_n dX9_owesLess_33 rfl ?_
      refine G_sipush (v := 641) dX9_owesLess_34 (by decide) ?_
      refine G_iconst (v := 4) dX9_owesLess_37 (by decide) ?_
      refine G_aload_n dX9_owesLess_38 rfl ?_
      refine G_bipush (v := 6) dX9_owesLess_39 (by decide) ?_
      refine cv_X9_50 (cs' := 0) (ss' := 0) dX9_owesLess_41  (Nat.le_of_ble_eq_true rfl) (Nat.le_of_ble_eq_true rfl) (Nat.le_of_ble_eq_true rfl) rfl rfl (Nat.le_of_ble_eq_true rfl) (Nat.le_of_ble_eq_true rfl) rfl ?_
      refine s_X9_get (w := 6) (hR.fo hF) (by decide) ((hk 6 (by decide) (by omega)).trans ((cl_n (by omega)).trans hA.dn)) (hGo_i ?_)
      refine G_iconst (v := 1) dX9_owesLess_44 (by decide) ?_
      refine G_isub dX9_owesLess_45 ?_
      refine G_imul dX9_owesLess_46 ?_
      refine G_iadd dX9_owesLess_47 ?_
      rw [show (641 : Int32) + 4 * (nI A.d.length - 1) = nI (641 + 4 * (A.d.length - 1)) by rw [show (1 : Int32) = nI 1 from rfl, nI_subN (by omega), show (641 : Int32) = nI 641 from rfl, show (4 : Int32) = nI 4 from rfl, pk_mul, nI_add]]
      refine G_icmp_ge (tgt := 69) dX9_owesLess_48 (by decide) (fun c48 => ?_) (fun c48 => ?_)
      · refine G_aload_n dX9_owesLess_69 rfl ?_
        refine G_bipush (v := 6) dX9_owesLess_70 (by decide) ?_
        refine G_iconst (v := (-1)) dX9_owesLess_72 (by decide) ?_
        refine cv_X9_47 (cs' := 0) (ss' := 0) dX9_owesLess_73  (Nat.le_of_ble_eq_true rfl) (Nat.le_of_ble_eq_true rfl) (Nat.le_of_ble_eq_true rfl) rfl rfl (Nat.le_of_ble_eq_true rfl) (Nat.le_of_ble_eq_true rfl) rfl ?_
        refine s_X9_adds (w := 6) (hR.fo hF) (by decide) ((hk 6 (by decide) (by omega)).trans ((cl_n (by omega)).trans hA.dn)) (hGo_v ?_)
        refine G_vret dX9_owesLess_76 rfl (Nat.le_of_ble_eq_true rfl) (Nat.le_of_ble_eq_true rfl) ?_
        have em : nI A.d.length + -1 = nI (A.d.length - 1) := by
          have := pk_m1 (A.d.length - 1)
          rw [show A.d.length - 1 + 1 = A.d.length by omega] at this
          exact this
        refine h _ (hA.upD (cl_at.trans (by rw [em, el])) (by rw [el]; omega) (fun k hk2 t ht => ?_) (fun k hk2 h6 => (cl_n h6).trans ((hk k (by omega) (by omega)).trans (cl_n (by omega))))) (hF.w (by omega))
        rw [el] at hk2
        refine (cl_n (by omega)).trans ?_
        rw [dg_erase]
        by_cases q : k < i
        · rw [if_pos q]
          exact (hk _ (by omega) (by omega)).trans (hset k t (by omega) ht)
        · rw [if_neg q, dg_setP hi ht, if_neg (fun z => by omega)]
          have := hd (4 * (k - i) + t) (by omega)
          rw [show 641 + 4 * i + (4 * (k - i) + t) = 641 + 4 * k + t by omega, show 641 + 4 * k + t + 4 = 641 + 4 * (k + 1) + t by omega] at this
          exact this.trans (hA.d (by omega) ht)
      · exact absurd (nI_le (by omega) (by omega)) c48
    · refine G_iload_n dX9_owesLess_33 rfl ?_
      refine G_sipush (v := 641) dX9_owesLess_34 (by decide) ?_
      refine G_iconst (v := 4) dX9_owesLess_37 (by decide) ?_
      refine G_aload_n dX9_owesLess_38 rfl ?_
      refine G_bipush (v := 6) dX9_owesLess_39 (by decide) ?_
      refine cv_X9_50 (cs' := 0) (ss' := 0) dX9_owesLess_41  (Nat.le_of_ble_eq_true rfl) (Nat.le_of_ble_eq_true rfl) (Nat.le_of_ble_eq_true rfl) rfl rfl (Nat.le_of_ble_eq_true rfl) (Nat.le_of_ble_eq_true rfl) rfl ?_
      refine s_X9_get (w := 6) (hR.fo hF) (by decide) ((hk 6 (by decide) (by omega)).trans ((cl_n (by omega)).trans hA.dn)) (hGo_i ?_)
      refine G_iconst (v := 1) dX9_owesLess_44 (by decide) ?_
      refine G_isub dX9_owesLess_45 ?_
      refine G_imul dX9_owesLess_46 ?_
      refine G_iadd dX9_owesLess_47 ?_
      rw [show (641 : Int32) + 4 * (nI A.d.length - 1) = nI (641 + 4 * (A.d.length - 1)) by rw [show (1 : Int32) = nI 1 from rfl, nI_subN (by omega), show (641 : Int32) = nI 641 from rfl, show (4 : Int32) = nI 4 from rfl, pk_mul, nI_add]]
      refine G_icmp_ge (tgt := 69) dX9_owesLess_48 (by decide) (fun c48 => ?_) (fun c48 => ?_)
      · exact absurd c48 (nI_ge (by omega) (by omega))
      · refine G_aload_n dX9_owesLess_51 rfl ?_
        refine G_iload_n dX9_owesLess_52 rfl ?_
        refine G_aload_n dX9_owesLess_53 rfl ?_
        refine G_iload_n dX9_owesLess_54 rfl ?_
        refine G_iconst (v := 4) dX9_owesLess_55 (by decide) ?_
        refine G_iadd dX9_owesLess_56 ?_
        rw [show nI (641 + 4 * i + j) + 4 = nI (641 + 4 * i + j + 4) from nI_add _ 4]
        refine cv_X9_50 (cs' := 0) (ss' := 0) dX9_owesLess_57  (Nat.le_of_ble_eq_true rfl) (Nat.le_of_ble_eq_true rfl) (Nat.le_of_ble_eq_true rfl) rfl rfl (Nat.le_of_ble_eq_true rfl) (Nat.le_of_ble_eq_true rfl) rfl ?_
        refine s_X9_get (hR.fo hF) (by omega) ((hk _ (by omega) (by omega)).trans (cl_n (by omega))) (hGo_i ?_)
        refine cv_X9_33 (cs' := 0) (ss' := 0) dX9_owesLess_60  (Nat.le_of_ble_eq_true rfl) (Nat.le_of_ble_eq_true rfl) (Nat.le_of_ble_eq_true rfl) rfl rfl (Nat.le_of_ble_eq_true rfl) (Nat.le_of_ble_eq_true rfl) rfl ?_
        refine s_X9_lay (hR.fo hF) (by omega) (hGo_v ?_)
        refine G_iinc (v := 1) dX9_owesLess_63 rfl (Nat.le_of_ble_eq_true rfl) (by decide) ?_
        refine G_goto (tgt := 33) dX9_owesLess_66 (by decide) ?_
        refine G_lv2 (ih _ (fun k hk2 => ?_) (fun k hk2 h1 => (cl_n (by omega)).trans (hk k hk2 (by omega))) (hF.w (by omega))) ⟨rfl, lvi (nI_1 _), trivial⟩
        by_cases q : k = j
        · subst q
          exact cl_at
        · exact (cl_n (by omega)).trans (hd k (by omega))
  · rw [if_neg c21] at h
    refine G_vret dX9_owesLess_24 rfl (Nat.le_of_ble_eq_true rfl) (Nat.le_of_ble_eq_true rfl) ?_
    exact h _ (hA.upD ((cl_n (by omega)).trans (hA.dn.trans (by rw [setP_len]))) (by rw [setP_len]; exact h30) (fun k hk t ht => hset k t (by rw [setP_len] at hk; exact hk) ht) (fun k hk h6 => cl_n (by omega))) (Fo.rfl.w (by omega))
theorem s_X9_spies {k x y : Nat} (hR : Ro M o) (hA : MR M o A) (h4 : A.f k 4 = 0 ∨ A.f k 4 = 1) (h8 : 0 ≤ A.f k 8) (hk : k < A.n) (hx : x < A.n) (hy : y < A.n) (h : P (.inl (some (.int (if seeP A x y k = true then 1 else 0)))) M) : Sp E yX9_spies cX9_spies zX9_spies [.ref (ad E 20 0 0), .int (nI k), .int (nI x), .int (nI y)] M P := by
  have h12 := hA.n12
  have h1 : k ≠ x → k ≠ y → sp A k = true → (nr A k x = true ∨ nr A k y = true) → P (.inl (some (.int 1))) M := fun a b c d => by
    have : seeP A x y k = true := by
      unfold seeP
      rw [decide_eq_true a, decide_eq_true b, c, Bool.true_and, Bool.true_and, Bool.true_and, Bool.or_eq_true]
      exact d
    rw [if_pos this] at h
    exact h
  have h0 : ¬ (k ≠ x ∧ k ≠ y ∧ sp A k = true ∧ (nr A k x = true ∨ nr A k y = true)) → P (.inl (some (.int 0))) M := fun a => by
    have : ¬ seeP A x y k = true := fun z => by
      unfold seeP at z
      rw [Bool.and_eq_true, Bool.and_eq_true, Bool.and_eq_true, Bool.or_eq_true, decide_eq_true_eq, decide_eq_true_eq] at z
      exact a z
    rw [if_neg this] at h
    exact h
  clear h
  refine Sp_of (own := RX9) (by decide) rfl rfl (Nat.le_of_ble_eq_true rfl) (fun C => ?_)
  have g50 : ∀ lv, P (.inl (some (.int 0))) M → G E C RX9 cX9_spies zX9_spies P 0 0 M 50 lv [] := fun lv q => by
    refine G_iconst (v := 0) dX9_spies_50 (by decide) ?_
    refine G_iret dX9_spies_51 rfl rfl (Nat.le_of_ble_eq_true rfl) (Nat.le_of_ble_eq_true rfl) ?_
    exact q
  have g46 : ∀ lv, P (.inl (some (.int 1))) M → G E C RX9 cX9_spies zX9_spies P 0 0 M 46 lv [] := fun lv q => by
    refine G_iconst (v := 1) dX9_spies_46 (by decide) ?_
    refine G_goto (tgt := 51) dX9_spies_47 (by decide) ?_
    refine G_iret dX9_spies_51 rfl rfl (Nat.le_of_ble_eq_true rfl) (Nat.le_of_ble_eq_true rfl) ?_
    exact q
  refine G_aload_n dX9_spies_0 rfl ?_
  refine G_iload_n dX9_spies_1 rfl ?_
  refine G_iconst (v := 4) dX9_spies_2 (by decide) ?_
  refine cv_X9_54 (cs' := 0) (ss' := 0) dX9_spies_3  (Nat.le_of_ble_eq_true rfl) (Nat.le_of_ble_eq_true rfl) (Nat.le_of_ble_eq_true rfl) rfl rfl (Nat.le_of_ble_eq_true rfl) (Nat.le_of_ble_eq_true rfl) rfl ?_
  refine s_X9_pu (t := 4) hR (by omega) (by decide) (hA.f hk (by decide)) (hGo_i ?_)
  refine G_iconst (v := 1) dX9_spies_6 (by decide) ?_
  refine G_icmp_ne (tgt := 50) dX9_spies_7 (by decide) (fun c7 => ?_) (fun c7 => ?_)
  · refine g50 _ (h0 (fun q => c7 ?_))
    have := (of_decide_eq_true q.2.2.1).1
    exact h4.resolve_left this
  · refine G_aload_n dX9_spies_10 rfl ?_
    refine G_iload_n dX9_spies_11 rfl ?_
    refine cv_X9_99 (cs' := 0) (ss' := 0) dX9_spies_12  (Nat.le_of_ble_eq_true rfl) (Nat.le_of_ble_eq_true rfl) (Nat.le_of_ble_eq_true rfl) rfl rfl (Nat.le_of_ble_eq_true rfl) (Nat.le_of_ble_eq_true rfl) rfl ?_
    refine s_X9_isDetained hR (by omega) (hA.f hk (by decide)) (hGo_i ?_)
    by_cases c8 : 0 < A.f k 8
    · rw [if_pos c8]
      refine G_if_ne (tgt := 50) dX9_spies_15 (by decide) (fun c15 => ?_) (fun c15 => ?_)
      · refine g50 _ (h0 (fun q => ?_))
        rw [(of_decide_eq_true q.2.2.1).2] at c8
        exact absurd c8 (by decide)
      · exact absurd c15 (by decide)
    · rw [if_neg c8]
      refine G_if_ne (tgt := 50) dX9_spies_15 (by decide) (fun c15 => ?_) (fun c15 => ?_)
      · exact absurd rfl c15
      · have hsp : sp A k = true := decide_eq_true ⟨by rw [c7]; decide, Int32.le_antisymm (Int32.not_lt.mp c8) h8⟩
        refine G_iload_n dX9_spies_18 rfl ?_
        refine G_iload_n dX9_spies_19 rfl ?_
        refine G_icmp_eq (tgt := 50) dX9_spies_20 (by decide) (fun c20 => ?_) (fun c20 => ?_)
        · exact g50 _ (h0 (fun q => q.1 ((nI_eq (by omega) (by omega)).mp c20)))
        · have ex : k ≠ x := fun q => c20 (by rw [q])
          refine G_iload_n dX9_spies_23 rfl ?_
          refine G_iload_n dX9_spies_24 rfl ?_
          refine G_icmp_eq (tgt := 50) dX9_spies_25 (by decide) (fun c25 => ?_) (fun c25 => ?_)
          · exact g50 _ (h0 (fun q => q.2.1 ((nI_eq (by omega) (by omega)).mp c25)))
          · have ey : k ≠ y := fun q => c25 (by rw [q])
            refine G_aload_n dX9_spies_28 rfl ?_
            refine G_iload_n dX9_spies_29 rfl ?_
            refine G_iload_n dX9_spies_30 rfl ?_
            refine cv_X9_103 (cs' := 0) (ss' := 0) dX9_spies_31  (Nat.le_of_ble_eq_true rfl) (Nat.le_of_ble_eq_true rfl) (Nat.le_of_ble_eq_true rfl) rfl rfl (Nat.le_of_ble_eq_true rfl) (Nat.le_of_ble_eq_true rfl) rfl ?_
            refine s_X9_areNear hR hA hk hx (hGo_i ?_)
            by_cases n1 : nr A k x = true
            · rw [if_pos n1]
              refine G_if_ne (tgt := 46) dX9_spies_34 (by decide) (fun c34 => ?_) (fun c34 => ?_)
              · exact g46 _ (h1 ex ey hsp (Or.inl n1))
              · exact absurd c34 (by decide)
            · rw [if_neg n1]
              refine G_if_ne (tgt := 46) dX9_spies_34 (by decide) (fun c34 => ?_) (fun c34 => ?_)
              · exact absurd rfl c34
              · refine G_aload_n dX9_spies_37 rfl ?_
                refine G_iload_n dX9_spies_38 rfl ?_
                refine G_iload_n dX9_spies_39 rfl ?_
                refine cv_X9_103 (cs' := 0) (ss' := 0) dX9_spies_40  (Nat.le_of_ble_eq_true rfl) (Nat.le_of_ble_eq_true rfl) (Nat.le_of_ble_eq_true rfl) rfl rfl (Nat.le_of_ble_eq_true rfl) (Nat.le_of_ble_eq_true rfl) rfl ?_
                refine s_X9_areNear hR hA hk hy (hGo_i ?_)
                by_cases n2 : nr A k y = true
                · rw [if_pos n2]
                  refine G_if_eq (tgt := 50) dX9_spies_43 (by decide) (fun c43 => ?_) (fun c43 => ?_)
                  · exact absurd c43 (by decide)
                  · exact g46 _ (h1 ex ey hsp (Or.inr n2))
                · rw [if_neg n2]
                  refine G_if_eq (tgt := 50) dX9_spies_43 (by decide) (fun c43 => ?_) (fun c43 => ?_)
                  · exact g50 _ (h0 (fun q => q.2.2.2.elim n1 n2))
                  · exact absurd rfl c43
theorem s_X9_allSeers {x y : Nat} (hR : Ro M o) (hA : MR M o A) (hO : ∀ p, p < A.n → fOk A.n (A.f p)) (hx : x < A.n) (hy : y < A.n) (h : P (.inl (some (.int (bc (seersV A x y))))) M) : Sp E yX9_allSeers cX9_allSeers zX9_allSeers [.ref (ad E 20 0 0), .int (nI x), .int (nI y)] M P := by
  have h12 := hA.n12
  unfold seersV at h
  rw [bc_bs _ h12] at h
  refine Sp_of (own := RX9) (by decide) rfl rfl (Nat.le_of_ble_eq_true rfl) (fun C => ?_)
  refine G_iconst (v := 0) dX9_allSeers_0 (by decide) ?_
  refine G_istore_n dX9_allSeers_1 (Nat.le_of_ble_eq_true rfl) ?_
  refine G_iconst (v := 0) dX9_allSeers_2 (by decide) ?_
  refine G_istore dX9_allSeers_3 (Nat.le_of_ble_eq_true rfl) ?_
  refine G_lv (lv' := [(0, .ref (ad E 20 0 0)), (1, .int (nI x)), (2, .int (nI y)), (3, .int (sm 0 (fun k => if seeP A x y k = true then 1 else 0))), (4, .int (nI 0))]) ⟨rfl, rfl, rfl, rfl, rfl, trivial⟩ ?_
  refine up0 (c := A.n) (H := fun i => G E C RX9 cX9_allSeers zX9_allSeers P 0 0 M 5 [(0, .ref (ad E 20 0 0)), (1, .int (nI x)), (2, .int (nI y)), (3, .int (sm i (fun k => if seeP A x y k = true then 1 else 0))), (4, .int (nI i))] []) ?_ (fun i hi ih => ?_)
  · refine G_iload dX9_allSeers_5 rfl ?_
    refine G_aload_n dX9_allSeers_7 rfl ?_
    refine G_iconst (v := 0) dX9_allSeers_8 (by decide) ?_
    refine cv_X9_50 (cs' := 0) (ss' := 0) dX9_allSeers_9  (Nat.le_of_ble_eq_true rfl) (Nat.le_of_ble_eq_true rfl) (Nat.le_of_ble_eq_true rfl) rfl rfl (Nat.le_of_ble_eq_true rfl) (Nat.le_of_ble_eq_true rfl) rfl ?_
    refine s_X9_get (w := 0) hR (by decide) hA.n (hGo_i ?_)
    refine G_icmp_ge (tgt := 35) dX9_allSeers_12 (by decide) (fun c12 => ?_) (fun c12 => ?_)
    · refine G_iload_n dX9_allSeers_35 rfl ?_
      refine G_iret dX9_allSeers_36 rfl rfl (Nat.le_of_ble_eq_true rfl) (Nat.le_of_ble_eq_true rfl) ?_
      exact h
    · exact absurd (Int32.le_refl _) c12
  · refine G_iload dX9_allSeers_5 rfl ?_
    refine G_aload_n dX9_allSeers_7 rfl ?_
    refine G_iconst (v := 0) dX9_allSeers_8 (by decide) ?_
    refine cv_X9_50 (cs' := 0) (ss' := 0) dX9_allSeers_9  (Nat.le_of_ble_eq_true rfl) (Nat.le_of_ble_eq_true rfl) (Nat.le_of_ble_eq_true rfl) rfl rfl (Nat.le_of_ble_eq_true rfl) (Nat.le_of_ble_eq_true rfl) rfl ?_
    refine s_X9_get (w := 0) hR (by decide) hA.n (hGo_i ?_)
    refine G_icmp_ge (tgt := 35) dX9_allSeers_12 (by decide) (fun c12 => ?_) (fun c12 => ?_)
    · exact absurd c12 (nI_ge hi (by omega))
    · refine G_iload_n dX9_allSeers_15 rfl ?_
      refine G_aload_n dX9_allSeers_16 rfl ?_
      refine G_iload dX9_allSeers_17 rfl ?_
      refine G_iload_n dX9_allSeers_19 rfl ?_
      refine G_iload_n dX9_allSeers_20 rfl ?_
      refine cv_X9_107 (cs' := 0) (ss' := 0) dX9_allSeers_21  (Nat.le_of_ble_eq_true rfl) (Nat.le_of_ble_eq_true rfl) (Nat.le_of_ble_eq_true rfl) rfl rfl (Nat.le_of_ble_eq_true rfl) (Nat.le_of_ble_eq_true rfl) rfl ?_
      refine s_X9_spies hR hA (hO i hi).2.2.1 (hO i hi).2.2.2.1 hi hx hy (hGo_i ?_)
      refine cv_X9_110 (cs' := 0) (ss' := 0) dX9_allSeers_24  (Nat.le_of_ble_eq_true rfl) (Nat.le_of_ble_eq_true rfl) (Nat.le_of_ble_eq_true rfl) rfl rfl (Nat.le_of_ble_eq_true rfl) (Nat.le_of_ble_eq_true rfl) rfl ?_
      refine s_X9_one (by split <;> simp) (hGo_i ?_)
      refine G_iadd dX9_allSeers_27 ?_
      refine G_istore_n dX9_allSeers_28 (Nat.le_of_ble_eq_true rfl) ?_
      refine G_iinc (v := 1) dX9_allSeers_29 rfl (Nat.le_of_ble_eq_true rfl) (by decide) ?_
      refine G_goto (tgt := 5) dX9_allSeers_32 (by decide) ?_
      exact G_lv2 ih ⟨rfl, rfl, rfl, rfl, lvi (nI_1 i), trivial⟩
theorem s_X9_sees {k x : Nat} (hR : Ro M o) (hA : MR M o A) (hx : x < A.n) (h : ∀ M', MR M' o ((A.sF x 6 (A.f x 6 + 1)).sF x 9 (A.f x 9 ||| (1 <<< (nI k &&& 31)))) → Fo o M M' → P (.inl none) M') : Sp E yX9_sees cX9_sees zX9_sees [.ref (ad E 20 0 0), .int (nI k), .int (nI x)] M P := by
  have h12 := hA.n12
  refine Sp_of (own := RX9) (by decide) rfl rfl (Nat.le_of_ble_eq_true rfl) (fun C => ?_)
  refine G_aload_n dX9_sees_0 rfl ?_
  refine G_iload_n dX9_sees_1 rfl ?_
  refine G_bipush (v := 6) dX9_sees_2 (by decide) ?_
  refine G_iconst (v := 1) dX9_sees_4 (by decide) ?_
  refine cv_X9_68 (cs' := 0) (ss' := 0) dX9_sees_5  (Nat.le_of_ble_eq_true rfl) (Nat.le_of_ble_eq_true rfl) (Nat.le_of_ble_eq_true rfl) rfl rfl (Nat.le_of_ble_eq_true rfl) (Nat.le_of_ble_eq_true rfl) rfl ?_
  refine s_X9_addsPupil (t := 6) hR (by omega) (by decide) (hA.f hx (by decide)) (hGo_v ?_)
  have a1 := hA.wF (p := x) (t := 6) (v := A.f x 6 + 1) (by omega) (by decide)
  refine G_aload_n dX9_sees_8 rfl ?_
  refine G_iload_n dX9_sees_9 rfl ?_
  refine G_bipush (v := 9) dX9_sees_10 (by decide) ?_
  refine G_aload_n dX9_sees_12 rfl ?_
  refine G_iload_n dX9_sees_13 rfl ?_
  refine G_bipush (v := 9) dX9_sees_14 (by decide) ?_
  refine cv_X9_54 (cs' := 0) (ss' := 0) dX9_sees_16  (Nat.le_of_ble_eq_true rfl) (Nat.le_of_ble_eq_true rfl) (Nat.le_of_ble_eq_true rfl) rfl rfl (Nat.le_of_ble_eq_true rfl) (Nat.le_of_ble_eq_true rfl) rfl ?_
  refine s_X9_pu (t := 9) hR.w (by omega) (by decide) (a1.f hx (by decide)) (hGo_i ?_)
  refine G_iconst (v := 1) dX9_sees_19 (by decide) ?_
  refine G_iload_n dX9_sees_20 rfl ?_
  refine G_ishl dX9_sees_21 ?_
  refine G_ior dX9_sees_22 ?_
  refine cv_X9_58 (cs' := 0) (ss' := 0) dX9_sees_23  (Nat.le_of_ble_eq_true rfl) (Nat.le_of_ble_eq_true rfl) (Nat.le_of_ble_eq_true rfl) rfl rfl (Nat.le_of_ble_eq_true rfl) (Nat.le_of_ble_eq_true rfl) rfl ?_
  refine s_X9_layPupil (t := 9) hR.w (by omega) (by decide) (hGo_v ?_)
  refine G_vret dX9_sees_26 rfl (Nat.le_of_ble_eq_true rfl) (Nat.le_of_ble_eq_true rfl) ?_
  rw [show (A.sF x 6 (A.f x 6 + 1)).f x 9 = A.f x 9 from if_neg (by simp)]
  exact h _ (a1.wF (by omega) (by decide)) ((Fo.rfl.w (by omega)).w (by omega))
/-- others' fields in A's place -/
def Ab.wf (A : Ab) (f : Nat → Nat → Int32) : Ab := (A.n, A.g, f, A.s, A.d)
theorem MR.cf {f : Nat → Nat → Int32} (h : MR M o A) (hf : ∀ p, p < A.n → ∀ t, t < 10 → A.f p t = f p t) : MR M o (A.wf f) := by
  obtain ⟨h1, h2, h3, h4, h5, h6, h7, h8⟩ := h
  exact ⟨h1, h2, h3, fun p hp t ht => (h4 p hp t ht).trans (hf p hp t ht), h5, h6, h7, h8⟩
theorem see4 {f : Nat → Nat → Int32} {x y p t : Nat} {a b c d : Int32} (hne : x ≠ y) : (if p = y ∧ t = 9 then d else if p = y ∧ t = 6 then c else if p = x ∧ t = 9 then b else if p = x ∧ t = 6 then a else f p t) = if p = x then (if t = 6 then a else if t = 9 then b else f p t) else if p = y then (if t = 6 then c else if t = 9 then d else f p t) else f p t := by
  by_cases hx : p = x
  · subst hx
    by_cases t6 : t = 6
    · simp [hne, t6]
    · by_cases t9 : t = 9
      · simp [hne, t9]
      · simp [t6, t9]
  · by_cases hy : p = y
    · subst hy
      by_cases t6 : t = 6
      · simp [hx, t6]
      · by_cases t9 : t = 9
        · simp [hx, t9]
        · simp [hx, t6, t9]
    · simp [hx, hy]
/-- what a barter that the set w of c spies saw does -/
def seeF (A : Ab) (x y : Nat) (c w : Int32) (p t : Nat) : Int32 := if p = x then (if t = 6 then A.f x 6 + c else if t = 9 then A.f x 9 ||| w else A.f p t) else if p = y then (if t = 6 then A.f y 6 + c else if t = 9 then A.f y 9 ||| w else A.f p t) else A.f p t
theorem seeF_n {x y p t : Nat} {c w : Int32} (h6 : t ≠ 6) (h9 : t ≠ 9) : seeF A x y c w p t = A.f p t := by
  unfold seeF
  rw [if_neg h6, if_neg h9, if_neg h6, if_neg h9, ite_self, ite_self]
theorem seeF_0 {x y p t : Nat} : seeF A x y 0 0 p t = A.f p t := by
  unfold seeF
  by_cases hx : p = x
  · subst hx
    by_cases t6 : t = 6
    · simp [t6]
    · by_cases t9 : t = 9
      · simp [t9]
      · simp [t6, t9]
  · by_cases hy : p = y
    · subst hy
      by_cases t6 : t = 6
      · simp [hx, t6]
      · by_cases t9 : t = 9
        · simp [hx, t9]
        · simp [hx, t6, t9]
    · simp [hx, hy]
theorem seeF_x6 {x y : Nat} {c w : Int32} : seeF A x y c w x 6 = A.f x 6 + c := by simp [seeF]
theorem seeF_x9 {x y : Nat} {c w : Int32} : seeF A x y c w x 9 = A.f x 9 ||| w := by simp [seeF]
theorem seeF_y6 {x y : Nat} {c w : Int32} (h : x ≠ y) : seeF A x y c w y 6 = A.f y 6 + c := by simp [seeF, h.symm]
theorem seeF_y9 {x y : Nat} {c w : Int32} (h : x ≠ y) : seeF A x y c w y 9 = A.f y 9 ||| w := by simp [seeF, h.symm]
theorem seeF_s {x y p t : Nat} {c w z : Int32} (hne : x ≠ y) : (if p = y ∧ t = 9 then (A.f y 9 ||| w) ||| z else if p = y ∧ t = 6 then A.f y 6 + c + 1 else if p = x ∧ t = 9 then (A.f x 9 ||| w) ||| z else if p = x ∧ t = 6 then A.f x 6 + c + 1 else seeF A x y c w p t) = seeF A x y (c + 1) (w ||| z) p t := by
  rw [see4 hne, Int32.or_assoc, Int32.or_assoc, Int32.add_assoc, Int32.add_assoc]
  unfold seeF
  by_cases hx : p = x
  · subst hx
    by_cases t6 : t = 6
    · simp [t6]
    · by_cases t9 : t = 9
      · simp [t9]
      · simp [t6, t9]
  · by_cases hy : p = y
    · subst hy
      by_cases t6 : t = 6
      · simp [hx, t6]
      · by_cases t9 : t = 9
        · simp [hx, t9]
        · simp [hx, t6, t9]
    · simp [hx, hy]
theorem seeP_cong {x y k : Nat} (h : ∀ p t, t ≠ 6 → t ≠ 9 → A.f p t = B.f p t) : seeP A x y k = seeP B x y k := by
  unfold seeP sp nr
  rw [h k 4 (by decide) (by decide), h k 8 (by decide) (by decide), h k 0 (by decide) (by decide), h k 1 (by decide) (by decide), h x 0 (by decide) (by decide), h x 1 (by decide) (by decide), h y 0 (by decide) (by decide), h y 1 (by decide) (by decide)]
theorem s_X9_seen {x y : Nat} (hR : Ro M o) (hA : MR M o A) (hO : ∀ p, p < A.n → fOk A.n (A.f p)) (hx : x < A.n) (hy : y < A.n) (hne : x ≠ y) (h : ∀ M', MR M' o (seeA A x y) → Fo o M M' → P (.inl (some (.int (bc (seersV A x y))))) M') : Sp E yX9_seen cX9_seen zX9_seen [.ref (ad E 20 0 0), .int (nI x), .int (nI y)] M P := by
  have h12 := hA.n12
  have hbc : bc (seersV A x y) = sm A.n (fun k => if seeP A x y k = true then 1 else 0) := bc_bs _ h12
  refine Sp_of (own := RX9) (by decide) rfl rfl (Nat.le_of_ble_eq_true rfl) (fun C => ?_)
  refine G_iconst (v := 0) dX9_seen_0 (by decide) ?_
  refine G_istore_n dX9_seen_1 (Nat.le_of_ble_eq_true rfl) ?_
  refine G_iconst (v := 0) dX9_seen_2 (by decide) ?_
  refine G_istore dX9_seen_3 (Nat.le_of_ble_eq_true rfl) ?_
  refine G_lv (lv' := [(0, .ref (ad E 20 0 0)), (1, .int (nI x)), (2, .int (nI y)), (3, .int (sm 0 (fun k => if seeP A x y k = true then 1 else 0))), (4, .int (nI 0))]) ⟨rfl, rfl, rfl, rfl, rfl, trivial⟩ ?_
  refine up0 (c := A.n) (H := fun i => ∀ M', MR M' o (A.wf (seeF A x y (sm i (fun k => if seeP A x y k = true then 1 else 0)) (bs (seeP A x y) i))) → Fo o M M' → G E C RX9 cX9_seen zX9_seen P 0 0 M' 5 [(0, .ref (ad E 20 0 0)), (1, .int (nI x)), (2, .int (nI y)), (3, .int (sm i (fun k => if seeP A x y k = true then 1 else 0))), (4, .int (nI i))] []) (fun M1 a1 hf => ?_) (fun i hi ih M1 a1 hf => ?_) M (hA.cf (fun p _ t _ => seeF_0.symm)) Fo.rfl
  · have hR1 := hR.fo hf
    refine G_iload dX9_seen_5 rfl ?_
    refine G_aload_n dX9_seen_7 rfl ?_
    refine G_iconst (v := 0) dX9_seen_8 (by decide) ?_
    refine cv_X9_50 (cs' := 0) (ss' := 0) dX9_seen_9  (Nat.le_of_ble_eq_true rfl) (Nat.le_of_ble_eq_true rfl) (Nat.le_of_ble_eq_true rfl) rfl rfl (Nat.le_of_ble_eq_true rfl) (Nat.le_of_ble_eq_true rfl) rfl ?_
    refine s_X9_get (w := 0) hR1 (by decide) a1.n (hGo_i ?_)
    refine G_icmp_ge (tgt := 52) dX9_seen_12 (by decide) (fun c12 => ?_) (fun c12 => ?_)
    · refine G_aload_n dX9_seen_52 rfl ?_
      refine G_bipush (v := 7) dX9_seen_53 (by decide) ?_
      refine G_iload_n dX9_seen_55 rfl ?_
      refine cv_X9_117 (cs' := 0) (ss' := 0) dX9_seen_56  (Nat.le_of_ble_eq_true rfl) (Nat.le_of_ble_eq_true rfl) (Nat.le_of_ble_eq_true rfl) rfl rfl (Nat.le_of_ble_eq_true rfl) (Nat.le_of_ble_eq_true rfl) rfl ?_
      refine s_X9_tallies (t := 7) hR1 (by decide) (a1.tl (t := 7) (by decide)) (hGo_v ?_)
      rw [← hbc]
      refine G_iload_n dX9_seen_59 rfl ?_
      refine G_iret dX9_seen_60 rfl rfl (Nat.le_of_ble_eq_true rfl) (Nat.le_of_ble_eq_true rfl) ?_
      refine h _ ?_ (hf.w (by omega))
      rw [← hbc] at a1
      have a2 := a1.wG (t := 14) (v := A.g 14 + bc (seersV A x y)) (by omega)
      exact a2.cf (f := (seeA A x y).f) (fun p hp t ht => (see4 hne).symm)
    · exact absurd (Int32.le_refl _) c12
  · have hR1 := hR.fo hf
    generalize hc : sm i (fun k => if seeP A x y k = true then 1 else 0) = c at a1 ⊢
    generalize hw : bs (seeP A x y) i = w at a1
    have hB : ∀ p t, t ≠ 6 → t ≠ 9 → (A.wf (seeF A x y c w)).f p t = A.f p t := fun p t h6 h9 => seeF_n h6 h9
    have e4 := hB i 4 (by decide) (by decide)
    have e8 := hB i 8 (by decide) (by decide)
    have hi4 := (hO i hi).2.2.1
    have hi8 := (hO i hi).2.2.2.1
    refine G_iload dX9_seen_5 rfl ?_
    refine G_aload_n dX9_seen_7 rfl ?_
    refine G_iconst (v := 0) dX9_seen_8 (by decide) ?_
    refine cv_X9_50 (cs' := 0) (ss' := 0) dX9_seen_9  (Nat.le_of_ble_eq_true rfl) (Nat.le_of_ble_eq_true rfl) (Nat.le_of_ble_eq_true rfl) rfl rfl (Nat.le_of_ble_eq_true rfl) (Nat.le_of_ble_eq_true rfl) rfl ?_
    refine s_X9_get (w := 0) hR1 (by decide) a1.n (hGo_i ?_)
    refine G_icmp_ge (tgt := 52) dX9_seen_12 (by decide) (fun c12 => ?_) (fun c12 => ?_)
    · exact absurd c12 (nI_ge (b := A.n) hi (by omega))
    · refine G_aload_n dX9_seen_15 rfl ?_
      refine G_iload dX9_seen_16 rfl ?_
      refine G_iload_n dX9_seen_18 rfl ?_
      refine G_iload_n dX9_seen_19 rfl ?_
      refine cv_X9_107 (cs' := 0) (ss' := 0) dX9_seen_20  (Nat.le_of_ble_eq_true rfl) (Nat.le_of_ble_eq_true rfl) (Nat.le_of_ble_eq_true rfl) rfl rfl (Nat.le_of_ble_eq_true rfl) (Nat.le_of_ble_eq_true rfl) rfl ?_
      refine s_X9_spies hR1 a1 (by rw [e4]; exact hi4) (by rw [e8]; exact hi8) hi hx hy (hGo_i ?_)
      rw [seeP_cong (B := A) hB]
      by_cases q : seeP A x y i = true
      · rw [if_pos q]
        refine G_if_ne (tgt := 29) dX9_seen_23 (by decide) (fun c23 => ?_) (fun c23 => ?_)
        · refine G_aload_n dX9_seen_29 rfl ?_
          refine G_iload dX9_seen_30 rfl ?_
          refine G_iload_n dX9_seen_32 rfl ?_
          refine cv_X9_114 (cs' := 0) (ss' := 0) dX9_seen_33  (Nat.le_of_ble_eq_true rfl) (Nat.le_of_ble_eq_true rfl) (Nat.le_of_ble_eq_true rfl) rfl rfl (Nat.le_of_ble_eq_true rfl) (Nat.le_of_ble_eq_true rfl) rfl ?_
          refine s_X9_sees hR1 a1 hx (fun M2 a2 hf2 => hGo_v ?_)
          refine G_aload_n dX9_seen_36 rfl ?_
          refine G_iload dX9_seen_37 rfl ?_
          refine G_iload_n dX9_seen_39 rfl ?_
          refine cv_X9_114 (cs' := 0) (ss' := 0) dX9_seen_40  (Nat.le_of_ble_eq_true rfl) (Nat.le_of_ble_eq_true rfl) (Nat.le_of_ble_eq_true rfl) rfl rfl (Nat.le_of_ble_eq_true rfl) (Nat.le_of_ble_eq_true rfl) rfl ?_
          refine s_X9_sees (hR1.fo hf2) a2 hy (fun M3 a3 hf3 => hGo_v ?_)
          refine G_iinc (v := 1) dX9_seen_43 rfl (Nat.le_of_ble_eq_true rfl) (by decide) ?_
          refine G_iinc (v := 1) dX9_seen_46 rfl (Nat.le_of_ble_eq_true rfl) (by decide) ?_
          refine G_goto (tgt := 5) dX9_seen_49 (by decide) ?_
          refine G_lv2 (ih M3 ?_ ((hf.trans hf2).trans hf3)) ⟨rfl, rfl, rfl, lvi ?_, lvi (nI_1 i), trivial⟩
          · have e1 : sm (i + 1) (fun k => if seeP A x y k = true then (1 : Int32) else 0) = c + 1 := by
              show sm i _ + (if seeP A x y i = true then (1 : Int32) else 0) = c + 1
              rw [hc, if_pos q]
            have e2 : bs (seeP A x y) (i + 1) = w ||| (1 <<< (nI i &&& 31)) := by
              show (if seeP A x y i = true then bs (seeP A x y) i ||| (1 <<< (nI i &&& 31)) else bs (seeP A x y) i) = _
              rw [hw, if_pos q]
            rw [e1, e2]
            refine a3.cf (f := seeF A x y (c + 1) (w ||| (1 <<< (nI i &&& 31)))) (fun p hp t ht => ?_)
            rw [← seeF_s hne]
            have f1 : (A.wf (seeF A x y c w)).f x 6 = A.f x 6 + c := seeF_x6
            have f2 : (A.wf (seeF A x y c w)).f x 9 = A.f x 9 ||| w := seeF_x9
            have f3 : (((A.wf (seeF A x y c w)).sF x 6 ((A.wf (seeF A x y c w)).f x 6 + 1)).sF x 9 ((A.wf (seeF A x y c w)).f x 9 ||| (1 <<< (nI i &&& 31)))).f y 6 = A.f y 6 + c := (if_neg (fun z => hne z.1.symm)).trans ((if_neg (fun z => hne z.1.symm)).trans (seeF_y6 hne))
            have f4 : (((A.wf (seeF A x y c w)).sF x 6 ((A.wf (seeF A x y c w)).f x 6 + 1)).sF x 9 ((A.wf (seeF A x y c w)).f x 9 ||| (1 <<< (nI i &&& 31)))).f y 9 = A.f y 9 ||| w := (if_neg (fun z => hne z.1.symm)).trans ((if_neg (fun z => hne z.1.symm)).trans (seeF_y9 hne))
            rw [f3, f4, f1, f2]
            rfl
          · show c + 1 = sm i _ + (if seeP A x y i = true then (1 : Int32) else 0)
            rw [hc, if_pos q]
        · exact absurd c23 (by decide)
      · rw [if_neg q]
        refine G_if_ne (tgt := 29) dX9_seen_23 (by decide) (fun c23 => ?_) (fun c23 => ?_)
        · exact absurd rfl c23
        · refine G_goto (tgt := 46) dX9_seen_26 (by decide) ?_
          refine G_iinc (v := 1) dX9_seen_46 rfl (Nat.le_of_ble_eq_true rfl) (by decide) ?_
          refine G_goto (tgt := 5) dX9_seen_49 (by decide) ?_
          refine G_lv2 (ih M1 ?_ hf) ⟨rfl, rfl, rfl, lvi ?_, lvi (nI_1 i), trivial⟩
          · have e1 : sm (i + 1) (fun k => if seeP A x y k = true then (1 : Int32) else 0) = c := by
              show sm i _ + (if seeP A x y i = true then (1 : Int32) else 0) = c
              rw [hc, if_neg q, Int32.add_zero]
            have e2 : bs (seeP A x y) (i + 1) = w := by
              show (if seeP A x y i = true then bs (seeP A x y) i ||| (1 <<< (nI i &&& 31)) else bs (seeP A x y) i) = _
              rw [hw, if_neg q]
            rw [e1, e2]
            exact a1
          · show c = sm i _ + (if seeP A x y i = true then (1 : Int32) else 0)
            rw [hc, if_neg q, Int32.add_zero]
end MTWO
