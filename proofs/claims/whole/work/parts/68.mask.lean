/-! ===== HomeworkBarterModel: what is asked, its bars and accounts ===== -/
section MASK
variable {E : Ed} {M M' : Mm} {P : Res → Mm → Prop} {A : Ab} {o : Nat} {g : Gs}
theorem m_ranked {x y : Int32} (hG : MG M g) (hO : Okg g) (h : ∀ M' v, MG M' g → Fm M M' → M'.1 20 0 0 5 = nI (qRanked g x y).1 → ((qRanked g x y).1 = 0 → v = (qRanked g x y).2) → P (.inl (some (.int v))) M') : Sp E yX9_ranked cX9_ranked zX9_ranked [.ref (ad E 20 0 0), .int x, .int y] M P := by
  unfold qRanked at h
  refine Sp_of (own := RX9) (by decide) rfl rfl (Nat.le_of_ble_eq_true rfl) (fun C => ?_)
  refine G_aload_n dX9_ranked_0 rfl ?_
  refine G_iconst (v := 0) dX9_ranked_1 (by decide) ?_
  refine pf_X9_41 dX9_ranked_2  ?_
  have hG1 : MG (M.up 20 0 0 5 0) g := hG.thr
  have hT : (M.up 20 0 0 5 0).1 20 0 0 5 = 0 := up_at
  have hF : Fm M (M.up 20 0 0 5 0) := Fm.rfl.up ⟨by decide, by decide⟩
  generalize M.up 20 0 0 5 0 = M1 at hG1 hT hF ⊢
  have hR := hG1.1
  have hA := hG1.2.1
  have h12 := hA.n12
  refine G_aload_n dX9_ranked_5 rfl ?_
  refine G_iload_n dX9_ranked_6 rfl ?_
  refine G_iconst (v := 0) dX9_ranked_7 (by decide) ?_
  refine G_iconst (v := 1) dX9_ranked_8 (by decide) ?_
  refine cv_X9_162 (cs' := 0) (ss' := 0) dX9_ranked_9  (Nat.le_of_ble_eq_true rfl) (Nat.le_of_ble_eq_true rfl) (Nat.le_of_ble_eq_true rfl) rfl rfl (Nat.le_of_ble_eq_true rfl) (Nat.le_of_ble_eq_true rfl) rfl ?_
  refine s_X9_in (hGo_i ?_)
  by_cases q00 : inR x 0 1
  rotate_left
  · rw [if_neg q00]
    refine G_iconst (v := 1) dX9_ranked_12 (by decide) ?_
    refine cv_X9_158 (cs' := 0) (ss' := 0) dX9_ranked_13  (Nat.le_of_ble_eq_true rfl) (Nat.le_of_ble_eq_true rfl) (Nat.le_of_ble_eq_true rfl) rfl rfl (Nat.le_of_ble_eq_true rfl) (Nat.le_of_ble_eq_true rfl) rfl ?_
    refine s_X9_holds0 hT (by decide) (hGo_i ?_)
    refine G_if_ne (tgt := 21) dX9_ranked_16 (by decide) (fun c16 => ?_) (fun c16 => ?_)
    · exact absurd rfl c16
    · refine G_iconst (v := 0) dX9_ranked_19 (by decide) ?_
      refine G_iret dX9_ranked_20 rfl rfl (Nat.le_of_ble_eq_true rfl) (Nat.le_of_ble_eq_true rfl) ?_
      rw [if_neg q00] at h
      exact h _ _ hG1.thr (hF.up ⟨by decide, by decide⟩) up_at (fun z => absurd z (by decide))
  rw [if_pos q00]
  refine G_iconst (v := 1) dX9_ranked_12 (by decide) ?_
  refine cv_X9_158 (cs' := 0) (ss' := 0) dX9_ranked_13  (Nat.le_of_ble_eq_true rfl) (Nat.le_of_ble_eq_true rfl) (Nat.le_of_ble_eq_true rfl) rfl rfl (Nat.le_of_ble_eq_true rfl) (Nat.le_of_ble_eq_true rfl) rfl ?_
  rw [if_pos q00] at h
  refine s_X9_holds1 hT (hGo_i ?_)
  refine G_if_ne (tgt := 21) dX9_ranked_16 (by decide) (fun c16 => ?_) (fun c16 => ?_)
  rotate_left
  · exact absurd c16 (by decide)
  obtain ⟨s, ls, hs, rfl, es⟩ := inR_ix (i := 0) (k := 1) (by decide) (by decide) q00
  rw [es] at h
  have inner : ∀ i, i < g.A.n → G E C RX9 cX9_ranked zX9_ranked P 0 0 M1 113 [(0, .ref (ad E 20 0 0)), (1, .int (nI s)), (2, .int y), (3, .int (nI i)), (4, .int (rankV g.A i s))] [] → G E C RX9 cX9_ranked zX9_ranked P 0 0 M1 32 [(0, .ref (ad E 20 0 0)), (1, .int (nI s)), (2, .int y), (3, .int (nI i))] [] := fun i hi k => by
    refine G_iconst (v := 0) dX9_ranked_32 (by decide) ?_
    refine G_istore dX9_ranked_33 (Nat.le_of_ble_eq_true rfl) ?_
    refine G_iconst (v := 0) dX9_ranked_35 (by decide) ?_
    refine G_istore dX9_ranked_36 (Nat.le_of_ble_eq_true rfl) ?_
    refine G_lv (lv' := [(0, .ref (ad E 20 0 0)), (1, .int (nI s)), (2, .int y), (3, .int (nI i)), (4, .int (sm 0 (fun j => if rkP g.A i s j = true then 1 else 0))), (5, .int (nI 0))]) ⟨rfl, rfl, rfl, rfl, rfl, rfl, trivial⟩ ?_
    refine up0 (c := g.A.n) (H := fun j => G E C RX9 cX9_ranked zX9_ranked P 0 0 M1 38 [(0, .ref (ad E 20 0 0)), (1, .int (nI s)), (2, .int y), (3, .int (nI i)), (4, .int (sm j (fun j => if rkP g.A i s j = true then 1 else 0))), (5, .int (nI j))] []) ?_ (fun j hj ih => ?_)
    · refine G_iload dX9_ranked_38 rfl ?_
      refine G_aload_n dX9_ranked_40 rfl ?_
      refine G_iconst (v := 0) dX9_ranked_41 (by decide) ?_
      refine cv_X9_50 (cs' := 0) (ss' := 0) dX9_ranked_42  (Nat.le_of_ble_eq_true rfl) (Nat.le_of_ble_eq_true rfl) (Nat.le_of_ble_eq_true rfl) rfl rfl (Nat.le_of_ble_eq_true rfl) (Nat.le_of_ble_eq_true rfl) rfl ?_
      refine s_X9_get (w := 0) hR (by decide) hA.n (hGo_i ?_)
      refine G_icmp_ge (tgt := 113) dX9_ranked_45 (by decide) (fun c45 => ?_) (fun c45 => ?_)
      · exact G_lv2 k ⟨rfl, rfl, rfl, rfl, rfl, trivial⟩
      · exact absurd (Int32.le_refl _) c45
    · have g101 : ∀ v : Int32, (v = if rkP g.A i s j = true then 1 else 0) → G E C RX9 cX9_ranked zX9_ranked P 0 0 M1 101 [(0, .ref (ad E 20 0 0)), (1, .int (nI s)), (2, .int y), (3, .int (nI i)), (4, .int (sm j (fun j => if rkP g.A i s j = true then 1 else 0))), (5, .int (nI j))] [.int v, .int (sm j (fun j => if rkP g.A i s j = true then 1 else 0))] := fun v hv => by
        refine cv_X9_110 (cs' := 0) (ss' := 0) dX9_ranked_101  (Nat.le_of_ble_eq_true rfl) (Nat.le_of_ble_eq_true rfl) (Nat.le_of_ble_eq_true rfl) rfl rfl (Nat.le_of_ble_eq_true rfl) (Nat.le_of_ble_eq_true rfl) rfl ?_
        refine s_X9_one (by rw [hv]; split <;> simp) (hGo_i ?_)
        refine G_iadd dX9_ranked_104 ?_
        refine G_istore dX9_ranked_105 (Nat.le_of_ble_eq_true rfl) ?_
        refine G_iinc (v := 1) dX9_ranked_107 rfl (Nat.le_of_ble_eq_true rfl) (by decide) ?_
        refine G_goto (tgt := 38) dX9_ranked_110 (by decide) ?_
        exact G_lv2 ih ⟨rfl, rfl, rfl, rfl, lvi (by rw [hv]; rfl), lvi (nI_1 j), trivial⟩
      have gy : rkP g.A i s j = true → G E C RX9 cX9_ranked zX9_ranked P 0 0 M1 96 [(0, .ref (ad E 20 0 0)), (1, .int (nI s)), (2, .int y), (3, .int (nI i)), (4, .int (sm j (fun j => if rkP g.A i s j = true then 1 else 0))), (5, .int (nI j))] [.int (sm j (fun j => if rkP g.A i s j = true then 1 else 0))] := fun q => by
        refine G_iconst (v := 1) dX9_ranked_96 (by decide) ?_
        refine G_goto (tgt := 101) dX9_ranked_97 (by decide) ?_
        exact G_lv2 (g101 1 (by rw [if_pos q])) ⟨rfl, rfl, rfl, rfl, rfl, rfl, trivial⟩
      have gn : ¬ rkP g.A i s j = true → G E C RX9 cX9_ranked zX9_ranked P 0 0 M1 100 [(0, .ref (ad E 20 0 0)), (1, .int (nI s)), (2, .int y), (3, .int (nI i)), (4, .int (sm j (fun j => if rkP g.A i s j = true then 1 else 0))), (5, .int (nI j))] [.int (sm j (fun j => if rkP g.A i s j = true then 1 else 0))] := fun q => by
        refine G_iconst (v := 0) dX9_ranked_100 (by decide) ?_
        exact G_lv2 (g101 0 (by rw [if_neg q])) ⟨rfl, rfl, rfl, rfl, rfl, rfl, trivial⟩
      have ej : (2 : Int32) + nI s = nI (2 + s) := nI_add 2 s
      refine G_iload dX9_ranked_38 rfl ?_
      refine G_aload_n dX9_ranked_40 rfl ?_
      refine G_iconst (v := 0) dX9_ranked_41 (by decide) ?_
      refine cv_X9_50 (cs' := 0) (ss' := 0) dX9_ranked_42  (Nat.le_of_ble_eq_true rfl) (Nat.le_of_ble_eq_true rfl) (Nat.le_of_ble_eq_true rfl) rfl rfl (Nat.le_of_ble_eq_true rfl) (Nat.le_of_ble_eq_true rfl) rfl ?_
      refine s_X9_get (w := 0) hR (by decide) hA.n (hGo_i ?_)
      refine G_icmp_ge (tgt := 113) dX9_ranked_45 (by decide) (fun c45 => ?_) (fun c45 => ?_)
      · exact absurd c45 (nI_ge hj (by omega))
      · refine G_iload dX9_ranked_48 rfl ?_
        refine G_aload_n dX9_ranked_50 rfl ?_
        refine G_iload dX9_ranked_51 rfl ?_
        refine G_iconst (v := 2) dX9_ranked_53 (by decide) ?_
        refine G_iload_n dX9_ranked_54 rfl ?_
        refine G_iadd dX9_ranked_55 ?_
        rw [ej]
        refine cv_X9_54 (cs' := 0) (ss' := 0) dX9_ranked_56  (Nat.le_of_ble_eq_true rfl) (Nat.le_of_ble_eq_true rfl) (Nat.le_of_ble_eq_true rfl) rfl rfl (Nat.le_of_ble_eq_true rfl) (Nat.le_of_ble_eq_true rfl) rfl ?_
        refine s_X9_pu (t := 2 + s) hR (by omega) (by omega) (hA.f hj (by omega)) (hGo_i ?_)
        refine G_aload_n dX9_ranked_59 rfl ?_
        refine G_iload_n dX9_ranked_60 rfl ?_
        refine G_iconst (v := 2) dX9_ranked_61 (by decide) ?_
        refine G_iload_n dX9_ranked_62 rfl ?_
        refine G_iadd dX9_ranked_63 ?_
        rw [ej]
        refine cv_X9_54 (cs' := 0) (ss' := 0) dX9_ranked_64  (Nat.le_of_ble_eq_true rfl) (Nat.le_of_ble_eq_true rfl) (Nat.le_of_ble_eq_true rfl) rfl rfl (Nat.le_of_ble_eq_true rfl) (Nat.le_of_ble_eq_true rfl) rfl ?_
        refine s_X9_pu (t := 2 + s) hR (by omega) (by omega) (hA.f hi (by omega)) (hGo_i ?_)
        refine G_icmp_gt (tgt := 96) dX9_ranked_67 (by decide) (fun c67 => ?_) (fun c67 => ?_)
        · exact G_lv2 (gy (decide_eq_true (Or.inl c67))) ⟨rfl, rfl, rfl, rfl, rfl, rfl, trivial⟩
        · refine G_aload_n dX9_ranked_70 rfl ?_
          refine G_iload dX9_ranked_71 rfl ?_
          refine G_iconst (v := 2) dX9_ranked_73 (by decide) ?_
          refine G_iload_n dX9_ranked_74 rfl ?_
          refine G_iadd dX9_ranked_75 ?_
          rw [ej]
          refine cv_X9_54 (cs' := 0) (ss' := 0) dX9_ranked_76  (Nat.le_of_ble_eq_true rfl) (Nat.le_of_ble_eq_true rfl) (Nat.le_of_ble_eq_true rfl) rfl rfl (Nat.le_of_ble_eq_true rfl) (Nat.le_of_ble_eq_true rfl) rfl ?_
          refine s_X9_pu (t := 2 + s) hR (by omega) (by omega) (hA.f hj (by omega)) (hGo_i ?_)
          refine G_aload_n dX9_ranked_79 rfl ?_
          refine G_iload_n dX9_ranked_80 rfl ?_
          refine G_iconst (v := 2) dX9_ranked_81 (by decide) ?_
          refine G_iload_n dX9_ranked_82 rfl ?_
          refine G_iadd dX9_ranked_83 ?_
          rw [ej]
          refine cv_X9_54 (cs' := 0) (ss' := 0) dX9_ranked_84  (Nat.le_of_ble_eq_true rfl) (Nat.le_of_ble_eq_true rfl) (Nat.le_of_ble_eq_true rfl) rfl rfl (Nat.le_of_ble_eq_true rfl) (Nat.le_of_ble_eq_true rfl) rfl ?_
          refine s_X9_pu (t := 2 + s) hR (by omega) (by omega) (hA.f hi (by omega)) (hGo_i ?_)
          refine G_icmp_ne (tgt := 100) dX9_ranked_87 (by decide) (fun c87 => ?_) (fun c87 => ?_)
          · refine G_lv2 (gn (fun q => ?_)) ⟨rfl, rfl, rfl, rfl, rfl, rfl, trivial⟩
            rcases of_decide_eq_true q with z | z
            · exact c67 z
            · exact c87 z.1
          · refine G_iload dX9_ranked_90 rfl ?_
            refine G_iload_n dX9_ranked_92 rfl ?_
            refine G_icmp_ge (tgt := 100) dX9_ranked_93 (by decide) (fun c93 => ?_) (fun c93 => ?_)
            · refine G_lv2 (gn (fun q => ?_)) ⟨rfl, rfl, rfl, rfl, rfl, rfl, trivial⟩
              rcases of_decide_eq_true q with z | z
              · exact c67 z
              · exact absurd c93 (nI_ge z.2 (by omega))
            · refine G_lv2 (gy (decide_eq_true (Or.inr ⟨c87, ?_⟩))) ⟨rfl, rfl, rfl, rfl, rfl, rfl, trivial⟩
              rcases Nat.lt_or_ge j i with z | z
              · exact z
              · exact absurd (nI_le z (by omega)) c93
  refine G_iconst (v := 0) dX9_ranked_21 (by decide) ?_
  refine G_istore_n dX9_ranked_22 (Nat.le_of_ble_eq_true rfl) ?_
  refine G_lv (lv' := [(0, .ref (ad E 20 0 0)), (1, .int (nI s)), (2, .int y), (3, .int (nI 0))]) ⟨rfl, rfl, rfl, rfl, trivial⟩ ?_
  refine up0 (c := g.A.n) (H := fun i => (∀ k, k < i → decide (rankV g.A k s = y) = false) → G E C RX9 cX9_ranked zX9_ranked P 0 0 M1 23 [(0, .ref (ad E 20 0 0)), (1, .int (nI s)), (2, .int y), (3, .int (nI i))] []) (fun hno => ?_) (fun i hi ih hno => ?_) (fun k hk => absurd hk (Nat.not_lt_zero k))
  · refine G_iload_n dX9_ranked_23 rfl ?_
    refine G_aload_n dX9_ranked_24 rfl ?_
    refine G_iconst (v := 0) dX9_ranked_25 (by decide) ?_
    refine cv_X9_50 (cs' := 0) (ss' := 0) dX9_ranked_26  (Nat.le_of_ble_eq_true rfl) (Nat.le_of_ble_eq_true rfl) (Nat.le_of_ble_eq_true rfl) rfl rfl (Nat.le_of_ble_eq_true rfl) (Nat.le_of_ble_eq_true rfl) rfl ?_
    refine s_X9_get (w := 0) hR (by decide) hA.n (hGo_i ?_)
    refine G_icmp_ge (tgt := 127) dX9_ranked_29 (by decide) (fun c29 => ?_) (fun c29 => ?_)
    · refine G_iconst (v := (-1)) dX9_ranked_127 (by decide) ?_
      refine G_iret dX9_ranked_128 rfl rfl (Nat.le_of_ble_eq_true rfl) (Nat.le_of_ble_eq_true rfl) ?_
      rw [first_none hno] at h
      exact h M1 _ hG1 hF hT (fun _ => rfl)
    · exact absurd (Int32.le_refl _) c29
  · refine G_iload_n dX9_ranked_23 rfl ?_
    refine G_aload_n dX9_ranked_24 rfl ?_
    refine G_iconst (v := 0) dX9_ranked_25 (by decide) ?_
    refine cv_X9_50 (cs' := 0) (ss' := 0) dX9_ranked_26  (Nat.le_of_ble_eq_true rfl) (Nat.le_of_ble_eq_true rfl) (Nat.le_of_ble_eq_true rfl) rfl rfl (Nat.le_of_ble_eq_true rfl) (Nat.le_of_ble_eq_true rfl) rfl ?_
    refine s_X9_get (w := 0) hR (by decide) hA.n (hGo_i ?_)
    refine G_icmp_ge (tgt := 127) dX9_ranked_29 (by decide) (fun c29 => ?_) (fun c29 => ?_)
    · exact absurd c29 (nI_ge hi (by omega))
    · refine G_lv2 (inner i hi ?_) ⟨rfl, rfl, rfl, rfl, trivial⟩
      refine G_iload dX9_ranked_113 rfl ?_
      refine G_iload_n dX9_ranked_115 rfl ?_
      refine G_icmp_ne (tgt := 121) dX9_ranked_116 (by decide) (fun c116 => ?_) (fun c116 => ?_)
      · refine G_iinc (v := 1) dX9_ranked_121 rfl (Nat.le_of_ble_eq_true rfl) (by decide) ?_
        refine G_goto (tgt := 23) dX9_ranked_124 (by decide) ?_
        refine G_lv2 (ih (fun k hk => ?_)) ⟨rfl, rfl, rfl, lvi (nI_1 i), trivial⟩
        by_cases e : k = i
        · subst e
          exact decide_eq_false c116
        · exact hno k (by omega)
      · refine G_iload_n dX9_ranked_119 rfl ?_
        refine G_iret dX9_ranked_120 rfl rfl (Nat.le_of_ble_eq_true rfl) (Nat.le_of_ble_eq_true rfl) ?_
        rw [first_at hi hno (decide_eq_true c116)] at h
        exact h M1 _ hG1 hF hT (fun _ => rfl)
theorem barG_c {x y s n : Nat} : (barG A x y s n = 4 ∧ nI (A.s (2 * x + s)).length < nI n) ∨ (barG A x y s n = 0 ∧ ¬ nI (A.s (2 * x + s)).length < nI n ∧ nI n ≤ 20 - nI (A.s (2 * y + s)).length) ∨ (barG A x y s n = 3 ∧ ¬ nI (A.s (2 * x + s)).length < nI n ∧ ¬ nI n ≤ 20 - nI (A.s (2 * y + s)).length) := by
  unfold barG
  by_cases p : nI (A.s (2 * x + s)).length < nI n
  · exact Or.inl ⟨if_pos p, p⟩
  · rw [if_neg p]
    by_cases q : nI n ≤ 20 - nI (A.s (2 * y + s)).length
    · exact Or.inr (Or.inl ⟨if_pos q, p, q⟩)
    · exact Or.inr (Or.inr ⟨if_neg q, p, q⟩)
theorem s_X9_barsSwap {x y n m : Nat} (hR : Ro M o) (hA : MR M o A) (hx : x < A.n) (hy : y < A.n) (hn : n ≤ 20) (hm : m ≤ 20) (h : P (.inl (some (.int (rSwap A x y n m)))) M) : Sp E yX9_barsSwap cX9_barsSwap zX9_barsSwap [.ref (ad E 20 0 0), .int (nI x), .int (nI y), .int (nI n), .int (nI m)] M P := by
  have h12 := hA.n12
  unfold rSwap at h
  refine Sp_of (own := RX9) (by decide) rfl rfl (Nat.le_of_ble_eq_true rfl) (fun C => ?_)
  refine G_iload_n dX9_barsSwap_0 rfl ?_
  refine G_iload_n dX9_barsSwap_1 rfl ?_
  refine G_icmp_ne (tgt := 7) dX9_barsSwap_2 (by decide) (fun c2 => ?_) (fun c2 => ?_)
  rotate_left
  · have e : x = y := (nI_eq (by omega) (by omega)).mp c2
    rw [if_pos e] at h
    refine G_iconst (v := 5) dX9_barsSwap_5 (by decide) ?_
    refine G_iret dX9_barsSwap_6 rfl rfl (Nat.le_of_ble_eq_true rfl) (Nat.le_of_ble_eq_true rfl) ?_
    exact h
  have e : x ≠ y := fun q => c2 (by rw [q])
  rw [if_neg e] at h
  refine G_aload_n dX9_barsSwap_7 rfl ?_
  refine G_iload_n dX9_barsSwap_8 rfl ?_
  refine G_iload_n dX9_barsSwap_9 rfl ?_
  refine cv_X9_351 (cs' := 0) (ss' := 0) dX9_barsSwap_10  (Nat.le_of_ble_eq_true rfl) (Nat.le_of_ble_eq_true rfl) (Nat.le_of_ble_eq_true rfl) rfl rfl (Nat.le_of_ble_eq_true rfl) (Nat.le_of_ble_eq_true rfl) rfl ?_
  refine s_X9_isEither hR hA hx hy (hGo_i ?_)
  by_cases c : 0 < A.f x 8 ∨ 0 < A.f y 8
  · rw [if_pos c] at h ⊢
    refine G_if_eq (tgt := 18) dX9_barsSwap_13 (by decide) (fun c13 => ?_) (fun c13 => ?_)
    · exact absurd c13 (by decide)
    · refine G_iconst (v := 1) dX9_barsSwap_16 (by decide) ?_
      refine G_iret dX9_barsSwap_17 rfl rfl (Nat.le_of_ble_eq_true rfl) (Nat.le_of_ble_eq_true rfl) ?_
      exact h
  rw [if_neg c] at h ⊢
  refine G_if_eq (tgt := 18) dX9_barsSwap_13 (by decide) (fun c13 => ?_) (fun c13 => ?_)
  rotate_left
  · exact absurd rfl c13
  refine G_aload_n dX9_barsSwap_18 rfl ?_
  refine G_iload_n dX9_barsSwap_19 rfl ?_
  refine G_iload_n dX9_barsSwap_20 rfl ?_
  refine G_iconst (v := 0) dX9_barsSwap_21 (by decide) ?_
  refine G_iload_n dX9_barsSwap_22 rfl ?_
  refine cv_X9_354 (cs' := 0) (ss' := 0) dX9_barsSwap_23  (Nat.le_of_ble_eq_true rfl) (Nat.le_of_ble_eq_true rfl) (Nat.le_of_ble_eq_true rfl) rfl rfl (Nat.le_of_ble_eq_true rfl) (Nat.le_of_ble_eq_true rfl) rfl ?_
  refine s_X9_barsGiving (s := 0) hR hA hx hy (by decide) hn (hGo_i ?_)
  refine G_istore dX9_barsSwap_26 (Nat.le_of_ble_eq_true rfl) ?_
  refine G_aload_n dX9_barsSwap_28 rfl ?_
  refine G_iload_n dX9_barsSwap_29 rfl ?_
  refine G_iload_n dX9_barsSwap_30 rfl ?_
  refine G_iconst (v := 1) dX9_barsSwap_31 (by decide) ?_
  refine G_iload dX9_barsSwap_32 rfl ?_
  refine cv_X9_354 (cs' := 0) (ss' := 0) dX9_barsSwap_34  (Nat.le_of_ble_eq_true rfl) (Nat.le_of_ble_eq_true rfl) (Nat.le_of_ble_eq_true rfl) rfl rfl (Nat.le_of_ble_eq_true rfl) (Nat.le_of_ble_eq_true rfl) rfl ?_
  refine s_X9_barsGiving (s := 1) hR hA hy hx (by decide) hm (hGo_i ?_)
  have ha : (barG A x y 0 n = 4 ∧ nI (A.s (2 * x)).length < nI n) ∨ (barG A x y 0 n = 0 ∧ ¬ nI (A.s (2 * x)).length < nI n ∧ nI n ≤ 20 - nI (A.s (2 * y)).length) ∨ (barG A x y 0 n = 3 ∧ ¬ nI (A.s (2 * x)).length < nI n ∧ ¬ nI n ≤ 20 - nI (A.s (2 * y)).length) := barG_c
  have hb := barG_c (A := A) (x := y) (y := x) (s := 1) (n := m)
  generalize barG A x y 0 n = a at ha ⊢
  generalize barG A y x 1 m = b at hb ⊢
  rcases ha with ⟨rfl, p1⟩ | ⟨rfl, p1, p3⟩ | ⟨rfl, p1, p3⟩
  · rw [if_pos (Or.inl p1)] at h
    refine G_istore dX9_barsSwap_37 (Nat.le_of_ble_eq_true rfl) ?_
    refine G_iload dX9_barsSwap_39 rfl ?_
    refine G_iconst (v := 4) dX9_barsSwap_41 (by decide) ?_
    refine G_icmp_eq (tgt := 51) dX9_barsSwap_42 (by decide) (fun c42 => ?_) (fun c42 => ?_)
    · refine G_iconst (v := 4) dX9_barsSwap_51 (by decide) ?_
      refine G_iret dX9_barsSwap_52 rfl rfl (Nat.le_of_ble_eq_true rfl) (Nat.le_of_ble_eq_true rfl) ?_
      exact h
    · exact absurd rfl c42
  · rcases hb with ⟨rfl, p2⟩ | ⟨rfl, p2, p4⟩ | ⟨rfl, p2, p4⟩
    · rw [if_pos (Or.inr p2)] at h
      refine G_istore dX9_barsSwap_37 (Nat.le_of_ble_eq_true rfl) ?_
      refine G_iload dX9_barsSwap_39 rfl ?_
      refine G_iconst (v := 4) dX9_barsSwap_41 (by decide) ?_
      refine G_icmp_eq (tgt := 51) dX9_barsSwap_42 (by decide) (fun c42 => ?_) (fun c42 => ?_)
      · exact absurd c42 (by decide)
      · refine G_iload dX9_barsSwap_45 rfl ?_
        refine G_iconst (v := 4) dX9_barsSwap_47 (by decide) ?_
        refine G_icmp_ne (tgt := 53) dX9_barsSwap_48 (by decide) (fun c48 => ?_) (fun c48 => ?_)
        · exact absurd rfl c48
        · refine G_iconst (v := 4) dX9_barsSwap_51 (by decide) ?_
          refine G_iret dX9_barsSwap_52 rfl rfl (Nat.le_of_ble_eq_true rfl) (Nat.le_of_ble_eq_true rfl) ?_
          exact h
    · rw [if_neg (fun q => q.elim p1 p2), if_pos ⟨p3, p4⟩] at h
      refine G_istore dX9_barsSwap_37 (Nat.le_of_ble_eq_true rfl) ?_
      refine G_iload dX9_barsSwap_39 rfl ?_
      refine G_iconst (v := 4) dX9_barsSwap_41 (by decide) ?_
      refine G_icmp_eq (tgt := 51) dX9_barsSwap_42 (by decide) (fun c42 => ?_) (fun c42 => ?_)
      · exact absurd c42 (by decide)
      · refine G_iload dX9_barsSwap_45 rfl ?_
        refine G_iconst (v := 4) dX9_barsSwap_47 (by decide) ?_
        refine G_icmp_ne (tgt := 53) dX9_barsSwap_48 (by decide) (fun c48 => ?_) (fun c48 => ?_)
        · refine G_iload dX9_barsSwap_53 rfl ?_
          refine G_iload dX9_barsSwap_55 rfl ?_
          refine G_mmax dX9_barsSwap_57 (hqx 1621 (by decide +kernel) rfl) (hqx 604 (by decide +kernel) rfl) (hqx 16 (by decide +kernel) rfl) (hqx 605 (by decide +kernel) rfl) (Nat.le_of_ble_eq_true rfl) (Nat.le_of_ble_eq_true rfl) (Nat.le_of_ble_eq_true rfl) (Nat.le_of_ble_eq_true rfl) ?_
          refine G_iret dX9_barsSwap_60 rfl rfl (Nat.le_of_ble_eq_true rfl) (Nat.le_of_ble_eq_true rfl) ?_
          exact h
        · exact absurd c48 (by decide)
    · rw [if_neg (fun q => q.elim p1 p2), if_neg (fun q => p4 q.2)] at h
      refine G_istore dX9_barsSwap_37 (Nat.le_of_ble_eq_true rfl) ?_
      refine G_iload dX9_barsSwap_39 rfl ?_
      refine G_iconst (v := 4) dX9_barsSwap_41 (by decide) ?_
      refine G_icmp_eq (tgt := 51) dX9_barsSwap_42 (by decide) (fun c42 => ?_) (fun c42 => ?_)
      · exact absurd c42 (by decide)
      · refine G_iload dX9_barsSwap_45 rfl ?_
        refine G_iconst (v := 4) dX9_barsSwap_47 (by decide) ?_
        refine G_icmp_ne (tgt := 53) dX9_barsSwap_48 (by decide) (fun c48 => ?_) (fun c48 => ?_)
        · refine G_iload dX9_barsSwap_53 rfl ?_
          refine G_iload dX9_barsSwap_55 rfl ?_
          refine G_mmax dX9_barsSwap_57 (hqx 1621 (by decide +kernel) rfl) (hqx 604 (by decide +kernel) rfl) (hqx 16 (by decide +kernel) rfl) (hqx 605 (by decide +kernel) rfl) (Nat.le_of_ble_eq_true rfl) (Nat.le_of_ble_eq_true rfl) (Nat.le_of_ble_eq_true rfl) (Nat.le_of_ble_eq_true rfl) ?_
          refine G_iret dX9_barsSwap_60 rfl rfl (Nat.le_of_ble_eq_true rfl) (Nat.le_of_ble_eq_true rfl) ?_
          exact h
        · exact absurd c48 (by decide)
  · rcases hb with ⟨rfl, p2⟩ | ⟨rfl, p2, p4⟩ | ⟨rfl, p2, p4⟩
    · rw [if_pos (Or.inr p2)] at h
      refine G_istore dX9_barsSwap_37 (Nat.le_of_ble_eq_true rfl) ?_
      refine G_iload dX9_barsSwap_39 rfl ?_
      refine G_iconst (v := 4) dX9_barsSwap_41 (by decide) ?_
      refine G_icmp_eq (tgt := 51) dX9_barsSwap_42 (by decide) (fun c42 => ?_) (fun c42 => ?_)
      · exact absurd c42 (by decide)
      · refine G_iload dX9_barsSwap_45 rfl ?_
        refine G_iconst (v := 4) dX9_barsSwap_47 (by decide) ?_
        refine G_icmp_ne (tgt := 53) dX9_barsSwap_48 (by decide) (fun c48 => ?_) (fun c48 => ?_)
        · exact absurd rfl c48
        · refine G_iconst (v := 4) dX9_barsSwap_51 (by decide) ?_
          refine G_iret dX9_barsSwap_52 rfl rfl (Nat.le_of_ble_eq_true rfl) (Nat.le_of_ble_eq_true rfl) ?_
          exact h
    · rw [if_neg (fun q => q.elim p1 p2), if_neg (fun q => p3 q.1)] at h
      refine G_istore dX9_barsSwap_37 (Nat.le_of_ble_eq_true rfl) ?_
      refine G_iload dX9_barsSwap_39 rfl ?_
      refine G_iconst (v := 4) dX9_barsSwap_41 (by decide) ?_
      refine G_icmp_eq (tgt := 51) dX9_barsSwap_42 (by decide) (fun c42 => ?_) (fun c42 => ?_)
      · exact absurd c42 (by decide)
      · refine G_iload dX9_barsSwap_45 rfl ?_
        refine G_iconst (v := 4) dX9_barsSwap_47 (by decide) ?_
        refine G_icmp_ne (tgt := 53) dX9_barsSwap_48 (by decide) (fun c48 => ?_) (fun c48 => ?_)
        · refine G_iload dX9_barsSwap_53 rfl ?_
          refine G_iload dX9_barsSwap_55 rfl ?_
          refine G_mmax dX9_barsSwap_57 (hqx 1621 (by decide +kernel) rfl) (hqx 604 (by decide +kernel) rfl) (hqx 16 (by decide +kernel) rfl) (hqx 605 (by decide +kernel) rfl) (Nat.le_of_ble_eq_true rfl) (Nat.le_of_ble_eq_true rfl) (Nat.le_of_ble_eq_true rfl) (Nat.le_of_ble_eq_true rfl) ?_
          refine G_iret dX9_barsSwap_60 rfl rfl (Nat.le_of_ble_eq_true rfl) (Nat.le_of_ble_eq_true rfl) ?_
          exact h
        · exact absurd c48 (by decide)
    · rw [if_neg (fun q => q.elim p1 p2), if_neg (fun q => p3 q.1)] at h
      refine G_istore dX9_barsSwap_37 (Nat.le_of_ble_eq_true rfl) ?_
      refine G_iload dX9_barsSwap_39 rfl ?_
      refine G_iconst (v := 4) dX9_barsSwap_41 (by decide) ?_
      refine G_icmp_eq (tgt := 51) dX9_barsSwap_42 (by decide) (fun c42 => ?_) (fun c42 => ?_)
      · exact absurd c42 (by decide)
      · refine G_iload dX9_barsSwap_45 rfl ?_
        refine G_iconst (v := 4) dX9_barsSwap_47 (by decide) ?_
        refine G_icmp_ne (tgt := 53) dX9_barsSwap_48 (by decide) (fun c48 => ?_) (fun c48 => ?_)
        · refine G_iload dX9_barsSwap_53 rfl ?_
          refine G_iload dX9_barsSwap_55 rfl ?_
          refine G_mmax dX9_barsSwap_57 (hqx 1621 (by decide +kernel) rfl) (hqx 604 (by decide +kernel) rfl) (hqx 16 (by decide +kernel) rfl) (hqx 605 (by decide +kernel) rfl) (Nat.le_of_ble_eq_true rfl) (Nat.le_of_ble_eq_true rfl) (Nat.le_of_ble_eq_true rfl) (Nat.le_of_ble_eq_true rfl) ?_
          refine G_iret dX9_barsSwap_60 rfl rfl (Nat.le_of_ble_eq_true rfl) (Nat.le_of_ble_eq_true rfl) ?_
          exact h
        · exact absurd c48 (by decide)
theorem s_X9_barsLending {x y s n : Nat} (hR : Ro M o) (hA : MR M o A) (hx : x < A.n) (hy : y < A.n) (hs : s < 2) (hn : n ≤ 20) (h : P (.inl (some (.int (rLend A x y s n)))) M) : Sp E yX9_barsLending cX9_barsLending zX9_barsLending [.ref (ad E 20 0 0), .int (nI x), .int (nI y), .int (nI s), .int (nI n)] M P := by
  have h12 := hA.n12
  unfold rLend at h
  refine Sp_of (own := RX9) (by decide) rfl rfl (Nat.le_of_ble_eq_true rfl) (fun C => ?_)
  refine G_iload_n dX9_barsLending_0 rfl ?_
  refine G_iload_n dX9_barsLending_1 rfl ?_
  refine G_icmp_ne (tgt := 7) dX9_barsLending_2 (by decide) (fun c2 => ?_) (fun c2 => ?_)
  rotate_left
  · have e : x = y := (nI_eq (by omega) (by omega)).mp c2
    rw [if_pos e] at h
    refine G_iconst (v := 5) dX9_barsLending_5 (by decide) ?_
    refine G_iret dX9_barsLending_6 rfl rfl (Nat.le_of_ble_eq_true rfl) (Nat.le_of_ble_eq_true rfl) ?_
    exact h
  have e : x ≠ y := fun q => c2 (by rw [q])
  rw [if_neg e] at h
  refine G_aload_n dX9_barsLending_7 rfl ?_
  refine G_iload_n dX9_barsLending_8 rfl ?_
  refine G_iload_n dX9_barsLending_9 rfl ?_
  refine cv_X9_351 (cs' := 0) (ss' := 0) dX9_barsLending_10  (Nat.le_of_ble_eq_true rfl) (Nat.le_of_ble_eq_true rfl) (Nat.le_of_ble_eq_true rfl) rfl rfl (Nat.le_of_ble_eq_true rfl) (Nat.le_of_ble_eq_true rfl) rfl ?_
  refine s_X9_isEither hR hA hx hy (hGo_i ?_)
  by_cases c : 0 < A.f x 8 ∨ 0 < A.f y 8
  · rw [show rGive A x y s n = 1 from if_pos c, if_pos (by decide)] at h
    rw [if_pos c]
    refine G_if_eq (tgt := 18) dX9_barsLending_13 (by decide) (fun c13 => ?_) (fun c13 => ?_)
    · exact absurd c13 (by decide)
    · refine G_iconst (v := 1) dX9_barsLending_16 (by decide) ?_
      refine G_iret dX9_barsLending_17 rfl rfl (Nat.le_of_ble_eq_true rfl) (Nat.le_of_ble_eq_true rfl) ?_
      exact h
  rw [show rGive A x y s n = barG A x y s n from if_neg c] at h
  rw [if_neg c]
  refine G_if_eq (tgt := 18) dX9_barsLending_13 (by decide) (fun c13 => ?_) (fun c13 => ?_)
  rotate_left
  · exact absurd rfl c13
  have h30 := hA.d30
  have e1 : (1 : Int32) - nI s = nI (1 - s) := nI_subN (a := s) (b := 1) (by omega)
  refine G_aload_n dX9_barsLending_18 rfl ?_
  refine G_iload_n dX9_barsLending_19 rfl ?_
  refine G_iload_n dX9_barsLending_20 rfl ?_
  refine G_iload_n dX9_barsLending_21 rfl ?_
  refine G_iload dX9_barsLending_22 rfl ?_
  refine cv_X9_354 (cs' := 0) (ss' := 0) dX9_barsLending_24  (Nat.le_of_ble_eq_true rfl) (Nat.le_of_ble_eq_true rfl) (Nat.le_of_ble_eq_true rfl) rfl rfl (Nat.le_of_ble_eq_true rfl) (Nat.le_of_ble_eq_true rfl) rfl ?_
  refine s_X9_barsGiving hR hA hx hy hs hn (hGo_i ?_)
  have ha := barG_c (A := A) (x := x) (y := y) (s := s) (n := n)
  generalize barG A x y s n = a at ha h ⊢
  by_cases qa : a = 0
  rotate_left
  · rw [if_pos qa] at h
    refine G_istore dX9_barsLending_27 (Nat.le_of_ble_eq_true rfl) ?_
    refine G_iload dX9_barsLending_29 rfl ?_
    refine G_if_le (tgt := 37) dX9_barsLending_31 (by decide) (fun c31 => ?_) (fun c31 => ?_)
    · rcases ha with ⟨rfl, _⟩ | ⟨rfl, _⟩ | ⟨rfl, _⟩
      · exact absurd c31 (by decide)
      · exact absurd rfl qa
      · exact absurd c31 (by decide)
    · refine G_iload dX9_barsLending_34 rfl ?_
      refine G_iret dX9_barsLending_36 rfl rfl (Nat.le_of_ble_eq_true rfl) (Nat.le_of_ble_eq_true rfl) ?_
      exact h
  rw [if_neg (fun z => z qa)] at h
  subst qa
  refine G_istore dX9_barsLending_27 (Nat.le_of_ble_eq_true rfl) ?_
  refine G_iload dX9_barsLending_29 rfl ?_
  refine G_if_le (tgt := 37) dX9_barsLending_31 (by decide) (fun c31 => ?_) (fun c31 => ?_)
  rotate_left
  · exact absurd (Int32.le_refl 0) c31
  refine G_aload_n dX9_barsLending_37 rfl ?_
  refine G_iload_n dX9_barsLending_38 rfl ?_
  refine G_iload_n dX9_barsLending_39 rfl ?_
  refine G_iconst (v := 1) dX9_barsLending_40 (by decide) ?_
  refine G_iload_n dX9_barsLending_41 rfl ?_
  refine G_isub dX9_barsLending_42 ?_
  rw [e1]
  refine cv_X9_87 (cs' := 0) (ss' := 0) dX9_barsLending_43  (Nat.le_of_ble_eq_true rfl) (Nat.le_of_ble_eq_true rfl) (Nat.le_of_ble_eq_true rfl) rfl rfl (Nat.le_of_ble_eq_true rfl) (Nat.le_of_ble_eq_true rfl) rfl ?_
  refine s_X9_findDebt hR hA (hGo_i ?_)
  by_cases cf : fnd A.d (nI y) (nI x) (nI (1 - s)) = -1
  · rw [if_pos cf] at h
    have eo : owedV A.d (nI y) (nI x) (nI (1 - s)) = 0 := if_pos cf
    rw [cf]
    refine G_iconst (v := (-1)) dX9_barsLending_46 (by decide) ?_
    refine G_icmp_ne (tgt := 54) dX9_barsLending_47 (by decide) (fun c47 => ?_) (fun c47 => ?_)
    · exact absurd rfl c47
    · refine G_iconst (v := 1) dX9_barsLending_50 (by decide) ?_
      refine G_goto (tgt := 55) dX9_barsLending_51 (by decide) ?_
      refine G_istore dX9_barsLending_55 (Nat.le_of_ble_eq_true rfl) ?_
      refine G_aload_n dX9_barsLending_57 rfl ?_
      refine G_iload_n dX9_barsLending_58 rfl ?_
      refine G_iload_n dX9_barsLending_59 rfl ?_
      refine G_iconst (v := 1) dX9_barsLending_60 (by decide) ?_
      refine G_iload_n dX9_barsLending_61 rfl ?_
      refine G_isub dX9_barsLending_62 ?_
      rw [e1]
      refine cv_X9_306 (cs' := 0) (ss' := 0) dX9_barsLending_63  (Nat.le_of_ble_eq_true rfl) (Nat.le_of_ble_eq_true rfl) (Nat.le_of_ble_eq_true rfl) rfl rfl (Nat.le_of_ble_eq_true rfl) (Nat.le_of_ble_eq_true rfl) rfl ?_
      refine s_X9_owed hR hA (hGo_i ?_)
      rw [eo]
      refine G_iload dX9_barsLending_66 rfl ?_
      refine G_iadd dX9_barsLending_68 ?_
      rw [Int32.zero_add]
      refine G_bipush (v := 99) dX9_barsLending_69 (by decide) ?_
      refine G_icmp_gt (tgt := 90) dX9_barsLending_71 (by decide) (fun c71 => ?_) (fun c71 => ?_)
      · exact absurd c71 (show ¬ nI 99 < nI n from nI_nlt (by omega) (by decide))
      · refine G_iload dX9_barsLending_74 rfl ?_
        refine G_if_eq (tgt := 95) dX9_barsLending_76 (by decide) (fun c76 => ?_) (fun c76 => ?_)
        · exact absurd c76 (by decide)
        · refine G_aload_n dX9_barsLending_79 rfl ?_
          refine G_bipush (v := 6) dX9_barsLending_80 (by decide) ?_
          refine cv_X9_50 (cs' := 0) (ss' := 0) dX9_barsLending_82  (Nat.le_of_ble_eq_true rfl) (Nat.le_of_ble_eq_true rfl) (Nat.le_of_ble_eq_true rfl) rfl rfl (Nat.le_of_ble_eq_true rfl) (Nat.le_of_ble_eq_true rfl) rfl ?_
          refine s_X9_get (w := 6) hR (by decide) hA.dn (hGo_i ?_)
          refine G_bipush (v := 30) dX9_barsLending_85 (by decide) ?_
          refine G_icmp_ne (tgt := 95) dX9_barsLending_87 (by decide) (fun c87 => ?_) (fun c87 => ?_)
          · rw [if_pos (show A.d.length < 30 by
              rcases Nat.lt_or_ge A.d.length 30 with q | q
              · exact q
              · exact absurd (show nI A.d.length = 30 by rw [show A.d.length = 30 by omega]; rfl) c87)] at h
            refine G_iconst (v := 0) dX9_barsLending_95 (by decide) ?_
            refine G_iret dX9_barsLending_96 rfl rfl (Nat.le_of_ble_eq_true rfl) (Nat.le_of_ble_eq_true rfl) ?_
            exact h
          · rw [if_neg (show ¬ A.d.length < 30 from fun q => by
              have := (nI_eq (b := 30) (by omega) (by decide)).mp c87
              omega)] at h
            refine G_bipush (v := 9) dX9_barsLending_90 (by decide) ?_
            refine G_goto (tgt := 96) dX9_barsLending_92 (by decide) ?_
            refine G_iret dX9_barsLending_96 rfl rfl (Nat.le_of_ble_eq_true rfl) (Nat.le_of_ble_eq_true rfl) ?_
            exact h
  · rw [if_neg cf] at h
    have eo : owedV A.d (nI y) (nI x) (nI (1 - s)) = dg A.d (fnd A.d (nI y) (nI x) (nI (1 - s))).toNatClampNeg 3 := if_neg cf
    refine G_iconst (v := (-1)) dX9_barsLending_46 (by decide) ?_
    refine G_icmp_ne (tgt := 54) dX9_barsLending_47 (by decide) (fun c47 => ?_) (fun c47 => ?_)
    · refine G_iconst (v := 0) dX9_barsLending_54 (by decide) ?_
      refine G_istore dX9_barsLending_55 (Nat.le_of_ble_eq_true rfl) ?_
      refine G_aload_n dX9_barsLending_57 rfl ?_
      refine G_iload_n dX9_barsLending_58 rfl ?_
      refine G_iload_n dX9_barsLending_59 rfl ?_
      refine G_iconst (v := 1) dX9_barsLending_60 (by decide) ?_
      refine G_iload_n dX9_barsLending_61 rfl ?_
      refine G_isub dX9_barsLending_62 ?_
      rw [e1]
      refine cv_X9_306 (cs' := 0) (ss' := 0) dX9_barsLending_63  (Nat.le_of_ble_eq_true rfl) (Nat.le_of_ble_eq_true rfl) (Nat.le_of_ble_eq_true rfl) rfl rfl (Nat.le_of_ble_eq_true rfl) (Nat.le_of_ble_eq_true rfl) rfl ?_
      refine s_X9_owed hR hA (hGo_i ?_)
      rw [eo]
      refine G_iload dX9_barsLending_66 rfl ?_
      refine G_iadd dX9_barsLending_68 ?_
      refine G_bipush (v := 99) dX9_barsLending_69 (by decide) ?_
      refine G_icmp_gt (tgt := 90) dX9_barsLending_71 (by decide) (fun c71 => ?_) (fun c71 => ?_)
      · rw [if_neg (Int32.not_le.mpr c71)] at h
        refine G_bipush (v := 9) dX9_barsLending_90 (by decide) ?_
        refine G_goto (tgt := 96) dX9_barsLending_92 (by decide) ?_
        refine G_iret dX9_barsLending_96 rfl rfl (Nat.le_of_ble_eq_true rfl) (Nat.le_of_ble_eq_true rfl) ?_
        exact h
      · rw [if_pos (Int32.not_lt.mp c71)] at h
        refine G_iload dX9_barsLending_74 rfl ?_
        refine G_if_eq (tgt := 95) dX9_barsLending_76 (by decide) (fun c76 => ?_) (fun c76 => ?_)
        · refine G_iconst (v := 0) dX9_barsLending_95 (by decide) ?_
          refine G_iret dX9_barsLending_96 rfl rfl (Nat.le_of_ble_eq_true rfl) (Nat.le_of_ble_eq_true rfl) ?_
          exact h
        · exact absurd rfl c76
    · exact absurd c47 cf
theorem s_X9_barsPaying {x y s n : Nat} (hR : Ro M o) (hA : MR M o A) (hx : x < A.n) (hy : y < A.n) (hs : s < 2) (hn : n ≤ 20) (h : P (.inl (some (.int (rPay A x y s n)))) M) : Sp E yX9_barsPaying cX9_barsPaying zX9_barsPaying [.ref (ad E 20 0 0), .int (nI x), .int (nI y), .int (nI s), .int (nI n)] M P := by
  have h12 := hA.n12
  unfold rPay at h
  refine Sp_of (own := RX9) (by decide) rfl rfl (Nat.le_of_ble_eq_true rfl) (fun C => ?_)
  refine G_iload_n dX9_barsPaying_0 rfl ?_
  refine G_iload_n dX9_barsPaying_1 rfl ?_
  refine G_icmp_ne (tgt := 7) dX9_barsPaying_2 (by decide) (fun c2 => ?_) (fun c2 => ?_)
  rotate_left
  · have e : x = y := (nI_eq (by omega) (by omega)).mp c2
    rw [if_pos e] at h
    refine G_iconst (v := 5) dX9_barsPaying_5 (by decide) ?_
    refine G_iret dX9_barsPaying_6 rfl rfl (Nat.le_of_ble_eq_true rfl) (Nat.le_of_ble_eq_true rfl) ?_
    exact h
  have e : x ≠ y := fun q => c2 (by rw [q])
  rw [if_neg e] at h
  refine G_aload_n dX9_barsPaying_7 rfl ?_
  refine G_iload_n dX9_barsPaying_8 rfl ?_
  refine G_iload_n dX9_barsPaying_9 rfl ?_
  refine G_iload_n dX9_barsPaying_10 rfl ?_
  refine cv_X9_306 (cs' := 0) (ss' := 0) dX9_barsPaying_11  (Nat.le_of_ble_eq_true rfl) (Nat.le_of_ble_eq_true rfl) (Nat.le_of_ble_eq_true rfl) rfl rfl (Nat.le_of_ble_eq_true rfl) (Nat.le_of_ble_eq_true rfl) rfl ?_
  refine s_X9_owed hR hA (hGo_i ?_)
  refine G_iload dX9_barsPaying_14 rfl ?_
  refine G_icmp_ge (tgt := 22) dX9_barsPaying_16 (by decide) (fun c16 => ?_) (fun c16 => ?_)
  rotate_left
  · rw [if_pos (Int32.not_le.mp c16)] at h
    refine G_bipush (v := 6) dX9_barsPaying_19 (by decide) ?_
    refine G_iret dX9_barsPaying_21 rfl rfl (Nat.le_of_ble_eq_true rfl) (Nat.le_of_ble_eq_true rfl) ?_
    exact h
  rw [if_neg (Int32.not_lt.mpr c16)] at h
  refine G_aload_n dX9_barsPaying_22 rfl ?_
  refine G_iload_n dX9_barsPaying_23 rfl ?_
  refine G_iload_n dX9_barsPaying_24 rfl ?_
  refine cv_X9_351 (cs' := 0) (ss' := 0) dX9_barsPaying_25  (Nat.le_of_ble_eq_true rfl) (Nat.le_of_ble_eq_true rfl) (Nat.le_of_ble_eq_true rfl) rfl rfl (Nat.le_of_ble_eq_true rfl) (Nat.le_of_ble_eq_true rfl) rfl ?_
  refine s_X9_isEither hR hA hx hy (hGo_i ?_)
  by_cases c : 0 < A.f x 8 ∨ 0 < A.f y 8
  · rw [show rGive A x y s n = 1 from if_pos c] at h
    rw [if_pos c]
    refine G_if_eq (tgt := 35) dX9_barsPaying_28 (by decide) (fun c28 => ?_) (fun c28 => ?_)
    · exact absurd c28 (by decide)
    · refine G_iconst (v := 1) dX9_barsPaying_31 (by decide) ?_
      refine G_goto (tgt := 44) dX9_barsPaying_32 (by decide) ?_
      refine G_iret dX9_barsPaying_44 rfl rfl (Nat.le_of_ble_eq_true rfl) (Nat.le_of_ble_eq_true rfl) ?_
      exact h
  rw [show rGive A x y s n = barG A x y s n from if_neg c] at h
  rw [if_neg c]
  refine G_if_eq (tgt := 35) dX9_barsPaying_28 (by decide) (fun c28 => ?_) (fun c28 => ?_)
  rotate_left
  · exact absurd rfl c28
  refine G_aload_n dX9_barsPaying_35 rfl ?_
  refine G_iload_n dX9_barsPaying_36 rfl ?_
  refine G_iload_n dX9_barsPaying_37 rfl ?_
  refine G_iload_n dX9_barsPaying_38 rfl ?_
  refine G_iload dX9_barsPaying_39 rfl ?_
  refine cv_X9_354 (cs' := 0) (ss' := 0) dX9_barsPaying_41  (Nat.le_of_ble_eq_true rfl) (Nat.le_of_ble_eq_true rfl) (Nat.le_of_ble_eq_true rfl) rfl rfl (Nat.le_of_ble_eq_true rfl) (Nat.le_of_ble_eq_true rfl) rfl ?_
  refine s_X9_barsGiving hR hA hx hy hs hn (hGo_i ?_)
  refine G_iret dX9_barsPaying_44 rfl rfl (Nat.le_of_ble_eq_true rfl) (Nat.le_of_ble_eq_true rfl) ?_
  exact h
theorem m_canPay {x : Int32} (hG : MG M g) (hO : Okg g) (h : ∀ M' v, MG M' g → Fm M M' → M'.1 20 0 0 5 = nI (qCanPay g x).1 → ((qCanPay g x).1 = 0 → v = (qCanPay g x).2) → P (.inl (some (.int v))) M') : Sp E yX9_canPay cX9_canPay zX9_canPay [.ref (ad E 20 0 0), .int x] M P := by
  unfold qCanPay at h
  refine Sp_of (own := RX9) (by decide) rfl rfl (Nat.le_of_ble_eq_true rfl) (fun C => ?_)
  refine G_aload_n dX9_canPay_0 rfl ?_
  refine G_iconst (v := 0) dX9_canPay_1 (by decide) ?_
  refine pf_X9_41 dX9_canPay_2  ?_
  have hG1 : MG (M.up 20 0 0 5 0) g := hG.thr
  have hT : (M.up 20 0 0 5 0).1 20 0 0 5 = 0 := up_at
  have hF : Fm M (M.up 20 0 0 5 0) := Fm.rfl.up ⟨by decide, by decide⟩
  generalize M.up 20 0 0 5 0 = M1 at hG1 hT hF ⊢
  have hR := hG1.1
  have hA := hG1.2.1
  have h12 := hA.n12
  have h30 := hA.d30
  refine G_aload_n dX9_canPay_5 rfl ?_
  refine G_iload_n dX9_canPay_6 rfl ?_
  refine G_iconst (v := 0) dX9_canPay_7 (by decide) ?_
  refine G_aload_n dX9_canPay_8 rfl ?_
  refine G_bipush (v := 6) dX9_canPay_9 (by decide) ?_
  refine cv_X9_50 (cs' := 0) (ss' := 0) dX9_canPay_11  (Nat.le_of_ble_eq_true rfl) (Nat.le_of_ble_eq_true rfl) (Nat.le_of_ble_eq_true rfl) rfl rfl (Nat.le_of_ble_eq_true rfl) (Nat.le_of_ble_eq_true rfl) rfl ?_
  refine s_X9_get (w := 6) hR (by decide) hA.dn (hGo_i ?_)
  refine G_iconst (v := 1) dX9_canPay_14 (by decide) ?_
  refine G_isub dX9_canPay_15 ?_
  refine cv_X9_162 (cs' := 0) (ss' := 0) dX9_canPay_16  (Nat.le_of_ble_eq_true rfl) (Nat.le_of_ble_eq_true rfl) (Nat.le_of_ble_eq_true rfl) rfl rfl (Nat.le_of_ble_eq_true rfl) (Nat.le_of_ble_eq_true rfl) rfl ?_
  refine s_X9_in (hGo_i ?_)
  by_cases q00 : inD g.A x
  rotate_left
  · rw [if_neg (fun z => q00 ((inDm (by omega)).mp z))]
    rw [if_neg q00] at h
    refine G_iconst (v := 1) dX9_canPay_19 (by decide) ?_
    refine cv_X9_158 (cs' := 0) (ss' := 0) dX9_canPay_20  (Nat.le_of_ble_eq_true rfl) (Nat.le_of_ble_eq_true rfl) (Nat.le_of_ble_eq_true rfl) rfl rfl (Nat.le_of_ble_eq_true rfl) (Nat.le_of_ble_eq_true rfl) rfl ?_
    refine s_X9_holds0 hT (by decide) (hGo_i ?_)
    refine G_if_eq (tgt := 37) dX9_canPay_23 (by decide) (fun c23 => ?_) (fun c23 => ?_)
    · refine G_iconst (v := 0) dX9_canPay_37 (by decide) ?_
      refine G_iret dX9_canPay_38 rfl rfl (Nat.le_of_ble_eq_true rfl) (Nat.le_of_ble_eq_true rfl) ?_
      exact h _ _ hG1.thr (hF.up ⟨by decide, by decide⟩) up_at (fun z => absurd z (by decide))
    · exact absurd rfl c23
  rw [if_pos ((inDm (by omega)).mpr q00)]
  rw [if_pos q00] at h
  refine G_iconst (v := 1) dX9_canPay_19 (by decide) ?_
  refine cv_X9_158 (cs' := 0) (ss' := 0) dX9_canPay_20  (Nat.le_of_ble_eq_true rfl) (Nat.le_of_ble_eq_true rfl) (Nat.le_of_ble_eq_true rfl) rfl rfl (Nat.le_of_ble_eq_true rfl) (Nat.le_of_ble_eq_true rfl) rfl ?_
  refine s_X9_holds1 hT (hGo_i ?_)
  refine G_if_eq (tgt := 37) dX9_canPay_23 (by decide) (fun c23 => ?_) (fun c23 => ?_)
  · exact absurd c23 (by decide)
  obtain ⟨i, hi, rfl, ep⟩ := in_ix q00 (by omega)
  rw [ep] at h
  unfold canPayV at h
  obtain ⟨⟨x, hx, ex⟩, ⟨y, hy, ey⟩, ⟨s, hs, es⟩, ⟨v, hv1, hv2, ev⟩⟩ := hO.1.2.2.2.2.2.1 i hi
  rw [ex, ey, es, ev] at h
  rw [show tn (nI x) = x from nI_clamp (by omega), show tn (nI y) = y from nI_clamp (by omega), show tn (nI s) = s from nI_clamp (by omega), show tn (nI v) = v from nI_clamp (by omega)] at h
  have k0 := hA.d hi (t := 0) (by decide)
  have k1 := hA.d hi (t := 1) (by decide)
  have k2 := hA.d hi (t := 2) (by decide)
  have k3 := hA.d hi (t := 3) (by decide)
  rw [ex] at k0
  rw [ey] at k1
  rw [es] at k2
  rw [ev] at k3
  refine G_aload_n dX9_canPay_26 rfl ?_
  refine G_iload_n dX9_canPay_27 rfl ?_
  refine G_iconst (v := 3) dX9_canPay_28 (by decide) ?_
  refine cv_X9_84 (cs' := 0) (ss' := 0) dX9_canPay_29  (Nat.le_of_ble_eq_true rfl) (Nat.le_of_ble_eq_true rfl) (Nat.le_of_ble_eq_true rfl) rfl rfl (Nat.le_of_ble_eq_true rfl) (Nat.le_of_ble_eq_true rfl) rfl ?_
  refine s_X9_db (t := 3) hR (by omega) (by decide) k3 (hGo_i ?_)
  refine G_bipush (v := 20) dX9_canPay_32 (by decide) ?_
  refine G_icmp_le (tgt := 39) dX9_canPay_34 (by decide) (fun c34 => ?_) (fun c34 => ?_)
  rotate_left
  · rw [if_neg (fun q => c34 q.1)] at h
    refine G_iconst (v := 0) dX9_canPay_37 (by decide) ?_
    refine G_iret dX9_canPay_38 rfl rfl (Nat.le_of_ble_eq_true rfl) (Nat.le_of_ble_eq_true rfl) ?_
    exact h M1 _ hG1 hF hT (fun _ => rfl)
  have v20 : v ≤ 20 := (nI_leI (b := 20) (by omega) (by decide)).mp c34
  refine G_aload_n dX9_canPay_39 rfl ?_
  refine G_aload_n dX9_canPay_40 rfl ?_
  refine G_iload_n dX9_canPay_41 rfl ?_
  refine G_iconst (v := 0) dX9_canPay_42 (by decide) ?_
  refine cv_X9_84 (cs' := 0) (ss' := 0) dX9_canPay_43  (Nat.le_of_ble_eq_true rfl) (Nat.le_of_ble_eq_true rfl) (Nat.le_of_ble_eq_true rfl) rfl rfl (Nat.le_of_ble_eq_true rfl) (Nat.le_of_ble_eq_true rfl) rfl ?_
  refine s_X9_db (t := 0) hR (by omega) (by decide) k0 (hGo_i ?_)
  refine G_aload_n dX9_canPay_46 rfl ?_
  refine G_iload_n dX9_canPay_47 rfl ?_
  refine G_iconst (v := 1) dX9_canPay_48 (by decide) ?_
  refine cv_X9_84 (cs' := 0) (ss' := 0) dX9_canPay_49  (Nat.le_of_ble_eq_true rfl) (Nat.le_of_ble_eq_true rfl) (Nat.le_of_ble_eq_true rfl) rfl rfl (Nat.le_of_ble_eq_true rfl) (Nat.le_of_ble_eq_true rfl) rfl ?_
  refine s_X9_db (t := 1) hR (by omega) (by decide) k1 (hGo_i ?_)
  refine G_aload_n dX9_canPay_52 rfl ?_
  refine G_iload_n dX9_canPay_53 rfl ?_
  refine G_iconst (v := 2) dX9_canPay_54 (by decide) ?_
  refine cv_X9_84 (cs' := 0) (ss' := 0) dX9_canPay_55  (Nat.le_of_ble_eq_true rfl) (Nat.le_of_ble_eq_true rfl) (Nat.le_of_ble_eq_true rfl) rfl rfl (Nat.le_of_ble_eq_true rfl) (Nat.le_of_ble_eq_true rfl) rfl ?_
  refine s_X9_db (t := 2) hR (by omega) (by decide) k2 (hGo_i ?_)
  refine G_aload_n dX9_canPay_58 rfl ?_
  refine G_iload_n dX9_canPay_59 rfl ?_
  refine G_iconst (v := 3) dX9_canPay_60 (by decide) ?_
  refine cv_X9_84 (cs' := 0) (ss' := 0) dX9_canPay_61  (Nat.le_of_ble_eq_true rfl) (Nat.le_of_ble_eq_true rfl) (Nat.le_of_ble_eq_true rfl) rfl rfl (Nat.le_of_ble_eq_true rfl) (Nat.le_of_ble_eq_true rfl) rfl ?_
  refine s_X9_db (t := 3) hR (by omega) (by decide) k3 (hGo_i ?_)
  refine cv_X9_321 (cs' := 0) (ss' := 0) dX9_canPay_64  (Nat.le_of_ble_eq_true rfl) (Nat.le_of_ble_eq_true rfl) (Nat.le_of_ble_eq_true rfl) rfl rfl (Nat.le_of_ble_eq_true rfl) (Nat.le_of_ble_eq_true rfl) rfl ?_
  refine s_X9_barsPaying hR hA hx hy hs v20 (hGo_i ?_)
  refine G_if_ne (tgt := 74) dX9_canPay_67 (by decide) (fun c67 => ?_) (fun c67 => ?_)
  · rw [if_neg (fun q => c67 q.2)] at h
    refine G_iconst (v := 0) dX9_canPay_74 (by decide) ?_
    refine G_iret dX9_canPay_75 rfl rfl (Nat.le_of_ble_eq_true rfl) (Nat.le_of_ble_eq_true rfl) ?_
    exact h M1 _ hG1 hF hT (fun _ => rfl)
  · rw [if_pos ⟨c34, c67⟩] at h
    refine G_iconst (v := 1) dX9_canPay_70 (by decide) ?_
    refine G_goto (tgt := 75) dX9_canPay_71 (by decide) ?_
    refine G_iret dX9_canPay_75 rfl rfl (Nat.le_of_ble_eq_true rfl) (Nat.le_of_ble_eq_true rfl) ?_
    exact h M1 _ hG1 hF hT (fun _ => rfl)
theorem m_whySwap {x y n' m' : Int32} (hG : MG M g) (hO : Okg g) (h : ∀ M' v, MG M' g → Fm M M' → M'.1 20 0 0 5 = nI (qWhySwap g x y n' m').1 → ((qWhySwap g x y n' m').1 = 0 → v = (qWhySwap g x y n' m').2) → P (.inl (some (.int v))) M') : Sp E yX9_whySwap cX9_whySwap zX9_whySwap [.ref (ad E 20 0 0), .int x, .int y, .int n', .int m'] M P := by
  unfold qWhySwap at h
  refine Sp_of (own := RX9) (by decide) rfl rfl (Nat.le_of_ble_eq_true rfl) (fun C => ?_)
  refine G_aload_n dX9_whySwap_0 rfl ?_
  refine G_iconst (v := 0) dX9_whySwap_1 (by decide) ?_
  refine pf_X9_41 dX9_whySwap_2  ?_
  have hG1 : MG (M.up 20 0 0 5 0) g := hG.thr
  have hT : (M.up 20 0 0 5 0).1 20 0 0 5 = 0 := up_at
  have hF : Fm M (M.up 20 0 0 5 0) := Fm.rfl.up ⟨by decide, by decide⟩
  generalize M.up 20 0 0 5 0 = M1 at hG1 hT hF ⊢
  have hR := hG1.1
  have hA := hG1.2.1
  have h12 := hA.n12
  refine G_aload_n dX9_whySwap_5 rfl ?_
  refine G_aload_n dX9_whySwap_6 rfl ?_
  refine G_iload_n dX9_whySwap_7 rfl ?_
  refine cv_X9_297 (cs' := 0) (ss' := 0) dX9_whySwap_8  (Nat.le_of_ble_eq_true rfl) (Nat.le_of_ble_eq_true rfl) (Nat.le_of_ble_eq_true rfl) rfl rfl (Nat.le_of_ble_eq_true rfl) (Nat.le_of_ble_eq_true rfl) rfl ?_
  refine s_X9_isPupil hR hA (hGo_i ?_)
  by_cases q00 : inP g.A x
  rotate_left
  · rw [if_neg q00]
    refine G_if_eq (tgt := 26) dX9_whySwap_11 (by decide) (fun c11 => ?_) (fun c11 => ?_)
    rotate_left
    · exact absurd rfl c11
    refine G_iconst (v := 0) dX9_whySwap_26 (by decide) ?_
    refine G_iconst (v := 1) dX9_whySwap_27 (by decide) ?_
    refine cv_X9_158 (cs' := 0) (ss' := 0) dX9_whySwap_28  (Nat.le_of_ble_eq_true rfl) (Nat.le_of_ble_eq_true rfl) (Nat.le_of_ble_eq_true rfl) rfl rfl (Nat.le_of_ble_eq_true rfl) (Nat.le_of_ble_eq_true rfl) rfl ?_
    refine s_X9_holds0 hT (by decide) (hGo_i ?_)
    refine G_if_eq (tgt := 68) dX9_whySwap_31 (by decide) (fun c31 => ?_) (fun c31 => ?_)
    · refine G_iconst (v := 0) dX9_whySwap_68 (by decide) ?_
      refine G_iret dX9_whySwap_69 rfl rfl (Nat.le_of_ble_eq_true rfl) (Nat.le_of_ble_eq_true rfl) ?_
      rw [if_neg (fun z => q00 z.1)] at h
      exact h _ _ hG1.thr (hF.up ⟨by decide, by decide⟩) up_at (fun z => absurd z (by decide))
    · exact absurd rfl c31
  rw [if_pos q00]
  refine G_if_eq (tgt := 26) dX9_whySwap_11 (by decide) (fun c11 => ?_) (fun c11 => ?_)
  · exact absurd c11 (by decide)
  refine G_aload_n dX9_whySwap_14 rfl ?_
  refine G_iload_n dX9_whySwap_15 rfl ?_
  refine cv_X9_297 (cs' := 0) (ss' := 0) dX9_whySwap_16  (Nat.le_of_ble_eq_true rfl) (Nat.le_of_ble_eq_true rfl) (Nat.le_of_ble_eq_true rfl) rfl rfl (Nat.le_of_ble_eq_true rfl) (Nat.le_of_ble_eq_true rfl) rfl ?_
  refine s_X9_isPupil hR hA (hGo_i ?_)
  by_cases q01 : inP g.A y
  rotate_left
  · rw [if_neg q01]
    refine G_if_eq (tgt := 26) dX9_whySwap_19 (by decide) (fun c19 => ?_) (fun c19 => ?_)
    rotate_left
    · exact absurd rfl c19
    refine G_iconst (v := 0) dX9_whySwap_26 (by decide) ?_
    refine G_iconst (v := 1) dX9_whySwap_27 (by decide) ?_
    refine cv_X9_158 (cs' := 0) (ss' := 0) dX9_whySwap_28  (Nat.le_of_ble_eq_true rfl) (Nat.le_of_ble_eq_true rfl) (Nat.le_of_ble_eq_true rfl) rfl rfl (Nat.le_of_ble_eq_true rfl) (Nat.le_of_ble_eq_true rfl) rfl ?_
    refine s_X9_holds0 hT (by decide) (hGo_i ?_)
    refine G_if_eq (tgt := 68) dX9_whySwap_31 (by decide) (fun c31 => ?_) (fun c31 => ?_)
    · refine G_iconst (v := 0) dX9_whySwap_68 (by decide) ?_
      refine G_iret dX9_whySwap_69 rfl rfl (Nat.le_of_ble_eq_true rfl) (Nat.le_of_ble_eq_true rfl) ?_
      rw [if_neg (fun z => q01 z.2)] at h
      exact h _ _ hG1.thr (hF.up ⟨by decide, by decide⟩) up_at (fun z => absurd z (by decide))
    · exact absurd rfl c31
  rw [if_pos q01]
  refine G_if_eq (tgt := 26) dX9_whySwap_19 (by decide) (fun c19 => ?_) (fun c19 => ?_)
  · exact absurd c19 (by decide)
  refine G_iconst (v := 1) dX9_whySwap_22 (by decide) ?_
  refine G_goto (tgt := 27) dX9_whySwap_23 (by decide) ?_
  refine G_iconst (v := 1) dX9_whySwap_27 (by decide) ?_
  refine cv_X9_158 (cs' := 0) (ss' := 0) dX9_whySwap_28  (Nat.le_of_ble_eq_true rfl) (Nat.le_of_ble_eq_true rfl) (Nat.le_of_ble_eq_true rfl) rfl rfl (Nat.le_of_ble_eq_true rfl) (Nat.le_of_ble_eq_true rfl) rfl ?_
  rw [if_pos ⟨q00, q01⟩] at h
  refine s_X9_holds1 hT (hGo_i ?_)
  refine G_if_eq (tgt := 68) dX9_whySwap_31 (by decide) (fun c31 => ?_) (fun c31 => ?_)
  · exact absurd c31 (by decide)
  refine G_aload_n dX9_whySwap_34 rfl ?_
  refine G_iload_n dX9_whySwap_35 rfl ?_
  refine G_iconst (v := 0) dX9_whySwap_36 (by decide) ?_
  refine G_bipush (v := 20) dX9_whySwap_37 (by decide) ?_
  refine cv_X9_162 (cs' := 0) (ss' := 0) dX9_whySwap_39  (Nat.le_of_ble_eq_true rfl) (Nat.le_of_ble_eq_true rfl) (Nat.le_of_ble_eq_true rfl) rfl rfl (Nat.le_of_ble_eq_true rfl) (Nat.le_of_ble_eq_true rfl) rfl ?_
  refine s_X9_in (hGo_i ?_)
  by_cases q10 : inR n' 0 20
  rotate_left
  · rw [if_neg q10]
    refine G_if_eq (tgt := 60) dX9_whySwap_42 (by decide) (fun c42 => ?_) (fun c42 => ?_)
    rotate_left
    · exact absurd rfl c42
    refine G_iconst (v := 0) dX9_whySwap_60 (by decide) ?_
    refine G_iconst (v := 2) dX9_whySwap_61 (by decide) ?_
    refine cv_X9_158 (cs' := 0) (ss' := 0) dX9_whySwap_62  (Nat.le_of_ble_eq_true rfl) (Nat.le_of_ble_eq_true rfl) (Nat.le_of_ble_eq_true rfl) rfl rfl (Nat.le_of_ble_eq_true rfl) (Nat.le_of_ble_eq_true rfl) rfl ?_
    refine s_X9_holds0 hT (by decide) (hGo_i ?_)
    refine G_if_ne (tgt := 70) dX9_whySwap_65 (by decide) (fun c65 => ?_) (fun c65 => ?_)
    · exact absurd rfl c65
    · refine G_iconst (v := 0) dX9_whySwap_68 (by decide) ?_
      refine G_iret dX9_whySwap_69 rfl rfl (Nat.le_of_ble_eq_true rfl) (Nat.le_of_ble_eq_true rfl) ?_
      rw [if_neg (fun z => q10 z.1)] at h
      exact h _ _ hG1.thr (hF.up ⟨by decide, by decide⟩) up_at (fun z => absurd z (by decide))
  rw [if_pos q10]
  refine G_if_eq (tgt := 60) dX9_whySwap_42 (by decide) (fun c42 => ?_) (fun c42 => ?_)
  · exact absurd c42 (by decide)
  refine G_iload dX9_whySwap_45 rfl ?_
  refine G_iconst (v := 0) dX9_whySwap_47 (by decide) ?_
  refine G_bipush (v := 20) dX9_whySwap_48 (by decide) ?_
  refine cv_X9_162 (cs' := 0) (ss' := 0) dX9_whySwap_50  (Nat.le_of_ble_eq_true rfl) (Nat.le_of_ble_eq_true rfl) (Nat.le_of_ble_eq_true rfl) rfl rfl (Nat.le_of_ble_eq_true rfl) (Nat.le_of_ble_eq_true rfl) rfl ?_
  refine s_X9_in (hGo_i ?_)
  by_cases q11 : inR m' 0 20
  rotate_left
  · rw [if_neg q11]
    refine G_if_eq (tgt := 60) dX9_whySwap_53 (by decide) (fun c53 => ?_) (fun c53 => ?_)
    rotate_left
    · exact absurd rfl c53
    refine G_iconst (v := 0) dX9_whySwap_60 (by decide) ?_
    refine G_iconst (v := 2) dX9_whySwap_61 (by decide) ?_
    refine cv_X9_158 (cs' := 0) (ss' := 0) dX9_whySwap_62  (Nat.le_of_ble_eq_true rfl) (Nat.le_of_ble_eq_true rfl) (Nat.le_of_ble_eq_true rfl) rfl rfl (Nat.le_of_ble_eq_true rfl) (Nat.le_of_ble_eq_true rfl) rfl ?_
    refine s_X9_holds0 hT (by decide) (hGo_i ?_)
    refine G_if_ne (tgt := 70) dX9_whySwap_65 (by decide) (fun c65 => ?_) (fun c65 => ?_)
    · exact absurd rfl c65
    · refine G_iconst (v := 0) dX9_whySwap_68 (by decide) ?_
      refine G_iret dX9_whySwap_69 rfl rfl (Nat.le_of_ble_eq_true rfl) (Nat.le_of_ble_eq_true rfl) ?_
      rw [if_neg (fun z => q11 z.2)] at h
      exact h _ _ hG1.thr (hF.up ⟨by decide, by decide⟩) up_at (fun z => absurd z (by decide))
  rw [if_pos q11]
  refine G_if_eq (tgt := 60) dX9_whySwap_53 (by decide) (fun c53 => ?_) (fun c53 => ?_)
  · exact absurd c53 (by decide)
  refine G_iconst (v := 1) dX9_whySwap_56 (by decide) ?_
  refine G_goto (tgt := 61) dX9_whySwap_57 (by decide) ?_
  refine G_iconst (v := 2) dX9_whySwap_61 (by decide) ?_
  refine cv_X9_158 (cs' := 0) (ss' := 0) dX9_whySwap_62  (Nat.le_of_ble_eq_true rfl) (Nat.le_of_ble_eq_true rfl) (Nat.le_of_ble_eq_true rfl) rfl rfl (Nat.le_of_ble_eq_true rfl) (Nat.le_of_ble_eq_true rfl) rfl ?_
  rw [if_pos ⟨q10, q11⟩] at h
  refine s_X9_holds1 hT (hGo_i ?_)
  refine G_if_ne (tgt := 70) dX9_whySwap_65 (by decide) (fun c65 => ?_) (fun c65 => ?_)
  rotate_left
  · exact absurd c65 (by decide)
  obtain ⟨p, hp, rfl, ep⟩ := in_ix q00 (by omega)
  rw [ep] at h
  obtain ⟨p2, hp2, rfl, ep2⟩ := in_ix q01 (by omega)
  rw [ep2] at h
  obtain ⟨n, ln, hn, rfl, en⟩ := inR_ix (i := 0) (k := 20) (by decide) (by decide) q10
  rw [en] at h
  obtain ⟨m, lm, hm, rfl, em⟩ := inR_ix (i := 0) (k := 20) (by decide) (by decide) q11
  rw [em] at h
  refine G_aload_n dX9_whySwap_70 rfl ?_
  refine G_iload_n dX9_whySwap_71 rfl ?_
  refine G_iload_n dX9_whySwap_72 rfl ?_
  refine G_iload_n dX9_whySwap_73 rfl ?_
  refine G_iload dX9_whySwap_74 rfl ?_
  refine cv_X9_324 (cs' := 0) (ss' := 0) dX9_whySwap_76  (Nat.le_of_ble_eq_true rfl) (Nat.le_of_ble_eq_true rfl) (Nat.le_of_ble_eq_true rfl) rfl rfl (Nat.le_of_ble_eq_true rfl) (Nat.le_of_ble_eq_true rfl) rfl ?_
  refine s_X9_barsSwap hR hA hp hp2 hn hm (hGo_i ?_)
  refine G_iret dX9_whySwap_79 rfl rfl (Nat.le_of_ble_eq_true rfl) (Nat.le_of_ble_eq_true rfl) ?_
  exact h M1 _ hG1 hF hT (fun _ => rfl)
theorem m_whyLend {x y n' m' : Int32} (hG : MG M g) (hO : Okg g) (h : ∀ M' v, MG M' g → Fm M M' → M'.1 20 0 0 5 = nI (qWhyLend g x y n' m').1 → ((qWhyLend g x y n' m').1 = 0 → v = (qWhyLend g x y n' m').2) → P (.inl (some (.int v))) M') : Sp E yX9_whyLend cX9_whyLend zX9_whyLend [.ref (ad E 20 0 0), .int x, .int y, .int n', .int m'] M P := by
  unfold qWhyLend at h
  refine Sp_of (own := RX9) (by decide) rfl rfl (Nat.le_of_ble_eq_true rfl) (fun C => ?_)
  refine G_aload_n dX9_whyLend_0 rfl ?_
  refine G_iconst (v := 0) dX9_whyLend_1 (by decide) ?_
  refine pf_X9_41 dX9_whyLend_2  ?_
  have hG1 : MG (M.up 20 0 0 5 0) g := hG.thr
  have hT : (M.up 20 0 0 5 0).1 20 0 0 5 = 0 := up_at
  have hF : Fm M (M.up 20 0 0 5 0) := Fm.rfl.up ⟨by decide, by decide⟩
  generalize M.up 20 0 0 5 0 = M1 at hG1 hT hF ⊢
  have hR := hG1.1
  have hA := hG1.2.1
  have h12 := hA.n12
  refine G_aload_n dX9_whyLend_5 rfl ?_
  refine G_aload_n dX9_whyLend_6 rfl ?_
  refine G_iload_n dX9_whyLend_7 rfl ?_
  refine cv_X9_297 (cs' := 0) (ss' := 0) dX9_whyLend_8  (Nat.le_of_ble_eq_true rfl) (Nat.le_of_ble_eq_true rfl) (Nat.le_of_ble_eq_true rfl) rfl rfl (Nat.le_of_ble_eq_true rfl) (Nat.le_of_ble_eq_true rfl) rfl ?_
  refine s_X9_isPupil hR hA (hGo_i ?_)
  by_cases q00 : inP g.A x
  rotate_left
  · rw [if_neg q00]
    refine G_if_eq (tgt := 26) dX9_whyLend_11 (by decide) (fun c11 => ?_) (fun c11 => ?_)
    rotate_left
    · exact absurd rfl c11
    refine G_iconst (v := 0) dX9_whyLend_26 (by decide) ?_
    refine G_iconst (v := 1) dX9_whyLend_27 (by decide) ?_
    refine cv_X9_158 (cs' := 0) (ss' := 0) dX9_whyLend_28  (Nat.le_of_ble_eq_true rfl) (Nat.le_of_ble_eq_true rfl) (Nat.le_of_ble_eq_true rfl) rfl rfl (Nat.le_of_ble_eq_true rfl) (Nat.le_of_ble_eq_true rfl) rfl ?_
    refine s_X9_holds0 hT (by decide) (hGo_i ?_)
    refine G_if_eq (tgt := 67) dX9_whyLend_31 (by decide) (fun c31 => ?_) (fun c31 => ?_)
    · refine G_iconst (v := 0) dX9_whyLend_67 (by decide) ?_
      refine G_iret dX9_whyLend_68 rfl rfl (Nat.le_of_ble_eq_true rfl) (Nat.le_of_ble_eq_true rfl) ?_
      rw [if_neg (fun z => q00 z.1)] at h
      exact h _ _ hG1.thr (hF.up ⟨by decide, by decide⟩) up_at (fun z => absurd z (by decide))
    · exact absurd rfl c31
  rw [if_pos q00]
  refine G_if_eq (tgt := 26) dX9_whyLend_11 (by decide) (fun c11 => ?_) (fun c11 => ?_)
  · exact absurd c11 (by decide)
  refine G_aload_n dX9_whyLend_14 rfl ?_
  refine G_iload_n dX9_whyLend_15 rfl ?_
  refine cv_X9_297 (cs' := 0) (ss' := 0) dX9_whyLend_16  (Nat.le_of_ble_eq_true rfl) (Nat.le_of_ble_eq_true rfl) (Nat.le_of_ble_eq_true rfl) rfl rfl (Nat.le_of_ble_eq_true rfl) (Nat.le_of_ble_eq_true rfl) rfl ?_
  refine s_X9_isPupil hR hA (hGo_i ?_)
  by_cases q01 : inP g.A y
  rotate_left
  · rw [if_neg q01]
    refine G_if_eq (tgt := 26) dX9_whyLend_19 (by decide) (fun c19 => ?_) (fun c19 => ?_)
    rotate_left
    · exact absurd rfl c19
    refine G_iconst (v := 0) dX9_whyLend_26 (by decide) ?_
    refine G_iconst (v := 1) dX9_whyLend_27 (by decide) ?_
    refine cv_X9_158 (cs' := 0) (ss' := 0) dX9_whyLend_28  (Nat.le_of_ble_eq_true rfl) (Nat.le_of_ble_eq_true rfl) (Nat.le_of_ble_eq_true rfl) rfl rfl (Nat.le_of_ble_eq_true rfl) (Nat.le_of_ble_eq_true rfl) rfl ?_
    refine s_X9_holds0 hT (by decide) (hGo_i ?_)
    refine G_if_eq (tgt := 67) dX9_whyLend_31 (by decide) (fun c31 => ?_) (fun c31 => ?_)
    · refine G_iconst (v := 0) dX9_whyLend_67 (by decide) ?_
      refine G_iret dX9_whyLend_68 rfl rfl (Nat.le_of_ble_eq_true rfl) (Nat.le_of_ble_eq_true rfl) ?_
      rw [if_neg (fun z => q01 z.2)] at h
      exact h _ _ hG1.thr (hF.up ⟨by decide, by decide⟩) up_at (fun z => absurd z (by decide))
    · exact absurd rfl c31
  rw [if_pos q01]
  refine G_if_eq (tgt := 26) dX9_whyLend_19 (by decide) (fun c19 => ?_) (fun c19 => ?_)
  · exact absurd c19 (by decide)
  refine G_iconst (v := 1) dX9_whyLend_22 (by decide) ?_
  refine G_goto (tgt := 27) dX9_whyLend_23 (by decide) ?_
  refine G_iconst (v := 1) dX9_whyLend_27 (by decide) ?_
  refine cv_X9_158 (cs' := 0) (ss' := 0) dX9_whyLend_28  (Nat.le_of_ble_eq_true rfl) (Nat.le_of_ble_eq_true rfl) (Nat.le_of_ble_eq_true rfl) rfl rfl (Nat.le_of_ble_eq_true rfl) (Nat.le_of_ble_eq_true rfl) rfl ?_
  rw [if_pos ⟨q00, q01⟩] at h
  refine s_X9_holds1 hT (hGo_i ?_)
  refine G_if_eq (tgt := 67) dX9_whyLend_31 (by decide) (fun c31 => ?_) (fun c31 => ?_)
  · exact absurd c31 (by decide)
  refine G_aload_n dX9_whyLend_34 rfl ?_
  refine G_iload_n dX9_whyLend_35 rfl ?_
  refine G_iconst (v := 0) dX9_whyLend_36 (by decide) ?_
  refine G_iconst (v := 1) dX9_whyLend_37 (by decide) ?_
  refine cv_X9_162 (cs' := 0) (ss' := 0) dX9_whyLend_38  (Nat.le_of_ble_eq_true rfl) (Nat.le_of_ble_eq_true rfl) (Nat.le_of_ble_eq_true rfl) rfl rfl (Nat.le_of_ble_eq_true rfl) (Nat.le_of_ble_eq_true rfl) rfl ?_
  refine s_X9_in (hGo_i ?_)
  by_cases q10 : inR n' 0 1
  rotate_left
  · rw [if_neg q10]
    refine G_if_eq (tgt := 59) dX9_whyLend_41 (by decide) (fun c41 => ?_) (fun c41 => ?_)
    rotate_left
    · exact absurd rfl c41
    refine G_iconst (v := 0) dX9_whyLend_59 (by decide) ?_
    refine G_iconst (v := 2) dX9_whyLend_60 (by decide) ?_
    refine cv_X9_158 (cs' := 0) (ss' := 0) dX9_whyLend_61  (Nat.le_of_ble_eq_true rfl) (Nat.le_of_ble_eq_true rfl) (Nat.le_of_ble_eq_true rfl) rfl rfl (Nat.le_of_ble_eq_true rfl) (Nat.le_of_ble_eq_true rfl) rfl ?_
    refine s_X9_holds0 hT (by decide) (hGo_i ?_)
    refine G_if_ne (tgt := 69) dX9_whyLend_64 (by decide) (fun c64 => ?_) (fun c64 => ?_)
    · exact absurd rfl c64
    · refine G_iconst (v := 0) dX9_whyLend_67 (by decide) ?_
      refine G_iret dX9_whyLend_68 rfl rfl (Nat.le_of_ble_eq_true rfl) (Nat.le_of_ble_eq_true rfl) ?_
      rw [if_neg (fun z => q10 z.1)] at h
      exact h _ _ hG1.thr (hF.up ⟨by decide, by decide⟩) up_at (fun z => absurd z (by decide))
  rw [if_pos q10]
  refine G_if_eq (tgt := 59) dX9_whyLend_41 (by decide) (fun c41 => ?_) (fun c41 => ?_)
  · exact absurd c41 (by decide)
  refine G_iload dX9_whyLend_44 rfl ?_
  refine G_iconst (v := 1) dX9_whyLend_46 (by decide) ?_
  refine G_bipush (v := 20) dX9_whyLend_47 (by decide) ?_
  refine cv_X9_162 (cs' := 0) (ss' := 0) dX9_whyLend_49  (Nat.le_of_ble_eq_true rfl) (Nat.le_of_ble_eq_true rfl) (Nat.le_of_ble_eq_true rfl) rfl rfl (Nat.le_of_ble_eq_true rfl) (Nat.le_of_ble_eq_true rfl) rfl ?_
  refine s_X9_in (hGo_i ?_)
  by_cases q11 : inR m' 1 20
  rotate_left
  · rw [if_neg q11]
    refine G_if_eq (tgt := 59) dX9_whyLend_52 (by decide) (fun c52 => ?_) (fun c52 => ?_)
    rotate_left
    · exact absurd rfl c52
    refine G_iconst (v := 0) dX9_whyLend_59 (by decide) ?_
    refine G_iconst (v := 2) dX9_whyLend_60 (by decide) ?_
    refine cv_X9_158 (cs' := 0) (ss' := 0) dX9_whyLend_61  (Nat.le_of_ble_eq_true rfl) (Nat.le_of_ble_eq_true rfl) (Nat.le_of_ble_eq_true rfl) rfl rfl (Nat.le_of_ble_eq_true rfl) (Nat.le_of_ble_eq_true rfl) rfl ?_
    refine s_X9_holds0 hT (by decide) (hGo_i ?_)
    refine G_if_ne (tgt := 69) dX9_whyLend_64 (by decide) (fun c64 => ?_) (fun c64 => ?_)
    · exact absurd rfl c64
    · refine G_iconst (v := 0) dX9_whyLend_67 (by decide) ?_
      refine G_iret dX9_whyLend_68 rfl rfl (Nat.le_of_ble_eq_true rfl) (Nat.le_of_ble_eq_true rfl) ?_
      rw [if_neg (fun z => q11 z.2)] at h
      exact h _ _ hG1.thr (hF.up ⟨by decide, by decide⟩) up_at (fun z => absurd z (by decide))
  rw [if_pos q11]
  refine G_if_eq (tgt := 59) dX9_whyLend_52 (by decide) (fun c52 => ?_) (fun c52 => ?_)
  · exact absurd c52 (by decide)
  refine G_iconst (v := 1) dX9_whyLend_55 (by decide) ?_
  refine G_goto (tgt := 60) dX9_whyLend_56 (by decide) ?_
  refine G_iconst (v := 2) dX9_whyLend_60 (by decide) ?_
  refine cv_X9_158 (cs' := 0) (ss' := 0) dX9_whyLend_61  (Nat.le_of_ble_eq_true rfl) (Nat.le_of_ble_eq_true rfl) (Nat.le_of_ble_eq_true rfl) rfl rfl (Nat.le_of_ble_eq_true rfl) (Nat.le_of_ble_eq_true rfl) rfl ?_
  rw [if_pos ⟨q10, q11⟩] at h
  refine s_X9_holds1 hT (hGo_i ?_)
  refine G_if_ne (tgt := 69) dX9_whyLend_64 (by decide) (fun c64 => ?_) (fun c64 => ?_)
  rotate_left
  · exact absurd c64 (by decide)
  obtain ⟨p, hp, rfl, ep⟩ := in_ix q00 (by omega)
  rw [ep] at h
  obtain ⟨p2, hp2, rfl, ep2⟩ := in_ix q01 (by omega)
  rw [ep2] at h
  obtain ⟨n, ln, hn, rfl, en⟩ := inR_ix (i := 0) (k := 1) (by decide) (by decide) q10
  rw [en] at h
  obtain ⟨m, lm, hm, rfl, em⟩ := inR_ix (i := 1) (k := 20) (by decide) (by decide) q11
  rw [em] at h
  refine G_aload_n dX9_whyLend_69 rfl ?_
  refine G_iload_n dX9_whyLend_70 rfl ?_
  refine G_iload_n dX9_whyLend_71 rfl ?_
  refine G_iload_n dX9_whyLend_72 rfl ?_
  refine G_iload dX9_whyLend_73 rfl ?_
  refine cv_X9_327 (cs' := 0) (ss' := 0) dX9_whyLend_75  (Nat.le_of_ble_eq_true rfl) (Nat.le_of_ble_eq_true rfl) (Nat.le_of_ble_eq_true rfl) rfl rfl (Nat.le_of_ble_eq_true rfl) (Nat.le_of_ble_eq_true rfl) rfl ?_
  refine s_X9_barsLending hR hA hp hp2 (by omega) hm (hGo_i ?_)
  refine G_iret dX9_whyLend_78 rfl rfl (Nat.le_of_ble_eq_true rfl) (Nat.le_of_ble_eq_true rfl) ?_
  exact h M1 _ hG1 hF hT (fun _ => rfl)
end MASK
