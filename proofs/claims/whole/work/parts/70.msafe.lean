/-! ===== HomeworkBarterModel: what is safest, when debts drown ===== -/
section MSAFE
variable {E : Ed} {M M' : Mm} {P : Res → Mm → Prop} {A : Ab} {o : Nat} {g : Gs}
theorem sN_lt {f : Nat → Nat} (hf : ∀ k, f k ≤ 1) {x : Nat} (h0 : f x = 0) : ∀ n, x < n → sN n f < n
  | 0, h => absurd h (Nat.not_lt_zero _)
  | n + 1, h => by
    show sN n f + f n < n + 1
    by_cases e : x = n
    · have := sN_le hf n
      rw [← e, h0, e]
      omega
    · have := sN_lt hf h0 n (by omega)
      have := hf n
      omega
theorem sm_lt12 {W : Nat → Bool} {x n : Nat} (hx : x < n) (hn : n ≤ 12) (h0 : W x = false) : sm n (fun k => if W k = true then 1 else 0) < (12 : Int32) := by
  have e : sm n (fun k => if W k = true then (1 : Int32) else 0) = nI (sN n (fun k => if W k = true then 1 else 0)) := by
    rw [← sN_sm]
    exact sm_cong (fun k _ => by split <;> rfl)
  rw [e]
  have := sN_lt (f := fun k => if W k = true then 1 else 0) (fun k => by split <;> omega) (x := x) (by rw [h0]; rfl) n hx
  exact nI_lt (b := 12) (by omega) (by decide)
theorem m_safestBench {x : Int32} (hG : MG M g) (hO : Okg g) (h : ∀ M' v, MG M' g → Fm M M' → M'.1 20 0 0 5 = nI (qSafestBench g x).1 → ((qSafestBench g x).1 = 0 → v = (qSafestBench g x).2) → P (.inl (some (.int v))) M') : Sp E yX9_safestBench cX9_safestBench zX9_safestBench [.ref (ad E 20 0 0), .int x] M P := by
  unfold qSafestBench at h
  refine Sp_of (own := RX9) (by decide) rfl rfl (Nat.le_of_ble_eq_true rfl) (fun C => ?_)
  refine G_aload_n dX9_safestBench_0 rfl ?_
  refine G_iconst (v := 0) dX9_safestBench_1 (by decide) ?_
  refine pf_X9_41 dX9_safestBench_2  ?_
  have hG1 : MG (M.up 20 0 0 5 0) g := hG.thr
  have hT : (M.up 20 0 0 5 0).1 20 0 0 5 = 0 := up_at
  have hF : Fm M (M.up 20 0 0 5 0) := Fm.rfl.up ⟨by decide, by decide⟩
  generalize M.up 20 0 0 5 0 = M1 at hG1 hT hF ⊢
  have hR := hG1.1
  have hA := hG1.2.1
  have h12 := hA.n12
  refine G_aload_n dX9_safestBench_5 rfl ?_
  refine G_aload_n dX9_safestBench_6 rfl ?_
  refine G_iload_n dX9_safestBench_7 rfl ?_
  refine cv_X9_297 (cs' := 0) (ss' := 0) dX9_safestBench_8  (Nat.le_of_ble_eq_true rfl) (Nat.le_of_ble_eq_true rfl) (Nat.le_of_ble_eq_true rfl) rfl rfl (Nat.le_of_ble_eq_true rfl) (Nat.le_of_ble_eq_true rfl) rfl ?_
  refine s_X9_isPupil hR hA (hGo_i ?_)
  by_cases q00 : inP g.A x
  rotate_left
  · rw [if_neg q00]
    refine G_iconst (v := 1) dX9_safestBench_11 (by decide) ?_
    refine cv_X9_158 (cs' := 0) (ss' := 0) dX9_safestBench_12  (Nat.le_of_ble_eq_true rfl) (Nat.le_of_ble_eq_true rfl) (Nat.le_of_ble_eq_true rfl) rfl rfl (Nat.le_of_ble_eq_true rfl) (Nat.le_of_ble_eq_true rfl) rfl ?_
    refine s_X9_holds0 hT (by decide) (hGo_i ?_)
    refine G_if_ne (tgt := 20) dX9_safestBench_15 (by decide) (fun c15 => ?_) (fun c15 => ?_)
    · exact absurd rfl c15
    · refine G_iconst (v := 0) dX9_safestBench_18 (by decide) ?_
      refine G_iret dX9_safestBench_19 rfl rfl (Nat.le_of_ble_eq_true rfl) (Nat.le_of_ble_eq_true rfl) ?_
      rw [if_neg q00] at h
      exact h _ _ hG1.thr (hF.up ⟨by decide, by decide⟩) up_at (fun z => absurd z (by decide))
  rw [if_pos q00]
  refine G_iconst (v := 1) dX9_safestBench_11 (by decide) ?_
  refine cv_X9_158 (cs' := 0) (ss' := 0) dX9_safestBench_12  (Nat.le_of_ble_eq_true rfl) (Nat.le_of_ble_eq_true rfl) (Nat.le_of_ble_eq_true rfl) rfl rfl (Nat.le_of_ble_eq_true rfl) (Nat.le_of_ble_eq_true rfl) rfl ?_
  rw [if_pos q00] at h
  refine s_X9_holds1 hT (hGo_i ?_)
  refine G_if_ne (tgt := 20) dX9_safestBench_15 (by decide) (fun c15 => ?_) (fun c15 => ?_)
  rotate_left
  · exact absurd c15 (by decide)
  obtain ⟨p, hp, rfl, ep⟩ := in_ix q00 (by omega)
  rw [ep] at h
  have h48 : ∀ p, p < g.A.n → fOk g.A.n (g.A.f p) := hO.1.2.2.1
  refine G_iconst (v := (-1)) dX9_safestBench_20 (by decide) ?_
  refine G_istore_n dX9_safestBench_21 (Nat.le_of_ble_eq_true rfl) ?_
  refine G_bipush (v := 13) dX9_safestBench_22 (by decide) ?_
  refine G_istore_n dX9_safestBench_24 (Nat.le_of_ble_eq_true rfl) ?_
  refine G_iconst (v := 0) dX9_safestBench_25 (by decide) ?_
  refine G_istore dX9_safestBench_26 (Nat.le_of_ble_eq_true rfl) ?_
  refine G_lv (lv' := [(0, .ref (ad E 20 0 0)), (1, .int (nI p)), (2, .int (sbF g.A p 0).1), (3, .int 13), (4, .int (nI 0))]) ⟨rfl, rfl, rfl, rfl, rfl, trivial⟩ ?_
  refine up0 (c := 36) (H := fun i => ∀ m, (∀ z : Int32, z < 12 → (z < m ↔ z < (sbF g.A p i).2)) → G E C RX9 cX9_safestBench zX9_safestBench P 0 0 M1 28 [(0, .ref (ad E 20 0 0)), (1, .int (nI p)), (2, .int (sbF g.A p i).1), (3, .int m), (4, .int (nI i))] []) (fun m hm => ?_) (fun i hi ih m hm => ?_) 13 (fun z hz => ⟨fun _ => hz, fun _ => Int32.lt_trans hz (by decide)⟩)
  · refine G_iload dX9_safestBench_28 rfl ?_
    refine G_bipush (v := 36) dX9_safestBench_30 (by decide) ?_
    refine G_icmp_ge (tgt := 91) dX9_safestBench_32 (by decide) (fun c32 => ?_) (fun c32 => ?_)
    · refine G_iload_n dX9_safestBench_91 rfl ?_
      refine G_iret dX9_safestBench_92 rfl rfl (Nat.le_of_ble_eq_true rfl) (Nat.le_of_ble_eq_true rfl) ?_
      exact h M1 _ hG1 hF hT (fun _ => rfl)
    · exact absurd (show (36 : Int32) ≤ nI 36 from Int32.le_refl _) c32
  · refine G_iload dX9_safestBench_28 rfl ?_
    refine G_bipush (v := 36) dX9_safestBench_30 (by decide) ?_
    refine G_icmp_ge (tgt := 91) dX9_safestBench_32 (by decide) (fun c32 => ?_) (fun c32 => ?_)
    · exact absurd (show nI 36 ≤ nI i from c32) (nI_ge hi (by decide))
    · have eS : sbF g.A p (i + 1) = if onV g.A (nI (i / 6)) (nI (i % 6)) = -1 ∧ spNearV g.A p (nI (i / 6)) (nI (i % 6)) < (sbF g.A p i).2 then (nI i, spNearV g.A p (nI (i / 6)) (nI (i % 6))) else sbF g.A p i := rfl
      have eD : nI i / 6 = nI (i / 6) := pk_div (d := 6) (by omega) (by decide) (by decide)
      have hz : spNearV g.A p (nI (i / 6)) (nI (i % 6)) < 12 := sm_lt12 hp h12 (by unfold spNearP; rw [decide_eq_false (fun q => q rfl)]; rfl)
      have g85 : ∀ (x y : Int32) (lv : List (Nat × Value)), x = (sbF g.A p (i + 1)).1 → (∀ z : Int32, z < 12 → (z < y ↔ z < (sbF g.A p (i + 1)).2)) → lvf lv 0 = some (.ref (ad E 20 0 0)) → lvf lv 1 = some (.int (nI p)) → lvf lv 2 = some (.int x) → lvf lv 3 = some (.int y) → lvf lv 4 = some (.int (nI i)) → G E C RX9 cX9_safestBench zX9_safestBench P 0 0 M1 85 lv [] := fun x y lv hx hy a0 a1 a2 a3 a4 => by
        refine G_lv (lv' := [(0, .ref (ad E 20 0 0)), (1, .int (nI p)), (2, .int x), (3, .int y), (4, .int (nI i))]) ⟨a0, a1, a2, a3, a4, trivial⟩ ?_
        refine G_iinc (v := 1) dX9_safestBench_85 rfl (Nat.le_of_ble_eq_true rfl) (by decide) ?_
        refine G_goto (tgt := 28) dX9_safestBench_88 (by decide) ?_
        subst hx
        exact G_lv2 (ih y hy) ⟨rfl, rfl, rfl, rfl, lvi (nI_1 i), trivial⟩
      refine G_aload_n dX9_safestBench_35 rfl ?_
      refine G_iload_n dX9_safestBench_36 rfl ?_
      refine G_iload dX9_safestBench_37 rfl ?_
      refine G_bipush (v := 6) dX9_safestBench_39 (by decide) ?_
      refine G_idiv dX9_safestBench_41 (by decide) ?_
      rw [eD]
      refine G_iload dX9_safestBench_42 rfl ?_
      refine G_bipush (v := 6) dX9_safestBench_44 (by decide) ?_
      refine G_irem dX9_safestBench_46 (by decide) ?_
      rw [six (by omega)]
      refine cv_X9_342 (cs' := 0) (ss' := 0) dX9_safestBench_47  (Nat.le_of_ble_eq_true rfl) (Nat.le_of_ble_eq_true rfl) (Nat.le_of_ble_eq_true rfl) rfl rfl (Nat.le_of_ble_eq_true rfl) (Nat.le_of_ble_eq_true rfl) rfl ?_
      refine s_X9_spiesNear hR hA h48 hp (hGo_i ?_)
      refine G_istore dX9_safestBench_50 (Nat.le_of_ble_eq_true rfl) ?_
      refine G_aload_n dX9_safestBench_52 rfl ?_
      refine G_iload dX9_safestBench_53 rfl ?_
      refine G_bipush (v := 6) dX9_safestBench_55 (by decide) ?_
      refine G_idiv dX9_safestBench_57 (by decide) ?_
      rw [eD]
      refine G_iload dX9_safestBench_58 rfl ?_
      refine G_bipush (v := 6) dX9_safestBench_60 (by decide) ?_
      refine G_irem dX9_safestBench_62 (by decide) ?_
      rw [six (by omega)]
      refine cv_X9_214 (cs' := 0) (ss' := 0) dX9_safestBench_63  (Nat.le_of_ble_eq_true rfl) (Nat.le_of_ble_eq_true rfl) (Nat.le_of_ble_eq_true rfl) rfl rfl (Nat.le_of_ble_eq_true rfl) (Nat.le_of_ble_eq_true rfl) rfl ?_
      refine s_X9_pupilOn hR hA (hGo_i ?_)
      refine G_iconst (v := (-1)) dX9_safestBench_66 (by decide) ?_
      refine G_icmp_ne (tgt := 85) dX9_safestBench_67 (by decide) (fun c67 => ?_) (fun c67 => ?_)
      · have e := eS.trans (if_neg (fun q => c67 q.1))
        exact g85 _ _ _ (by rw [e]) (by rw [e]; exact hm) rfl rfl rfl rfl rfl
      · refine G_iload dX9_safestBench_70 rfl ?_
        refine G_iload_n dX9_safestBench_72 rfl ?_
        refine G_icmp_lt (tgt := 79) dX9_safestBench_73 (by decide) (fun c73 => ?_) (fun c73 => ?_)
        · have e := eS.trans (if_pos ⟨c67, (hm _ hz).mp c73⟩)
          refine G_iload dX9_safestBench_79 rfl ?_
          refine G_istore_n dX9_safestBench_81 (Nat.le_of_ble_eq_true rfl) ?_
          refine G_iload dX9_safestBench_82 rfl ?_
          refine G_istore_n dX9_safestBench_84 (Nat.le_of_ble_eq_true rfl) ?_
          exact g85 _ _ _ (by rw [e]) (by rw [e]; exact fun z _ => Iff.rfl) rfl rfl rfl rfl rfl
        · have e := eS.trans (if_neg (fun q => c73 ((hm _ hz).mpr q.2)))
          refine G_goto (tgt := 85) dX9_safestBench_76 (by decide) ?_
          exact g85 _ _ _ (by rw [e]) (by rw [e]; exact hm) rfl rfl rfl rfl rfl
theorem m_safestPartner {x : Int32} (hG : MG M g) (hO : Okg g) (h : ∀ M' v, MG M' g → Fm M M' → M'.1 20 0 0 5 = nI (qSafestPartner g x).1 → ((qSafestPartner g x).1 = 0 → v = (qSafestPartner g x).2) → P (.inl (some (.int v))) M') : Sp E yX9_safestPartner cX9_safestPartner zX9_safestPartner [.ref (ad E 20 0 0), .int x] M P := by
  unfold qSafestPartner at h
  refine Sp_of (own := RX9) (by decide) rfl rfl (Nat.le_of_ble_eq_true rfl) (fun C => ?_)
  refine G_aload_n dX9_safestPartner_0 rfl ?_
  refine G_iconst (v := 0) dX9_safestPartner_1 (by decide) ?_
  refine pf_X9_41 dX9_safestPartner_2  ?_
  have hG1 : MG (M.up 20 0 0 5 0) g := hG.thr
  have hT : (M.up 20 0 0 5 0).1 20 0 0 5 = 0 := up_at
  have hF : Fm M (M.up 20 0 0 5 0) := Fm.rfl.up ⟨by decide, by decide⟩
  generalize M.up 20 0 0 5 0 = M1 at hG1 hT hF ⊢
  have hR := hG1.1
  have hA := hG1.2.1
  have h12 := hA.n12
  refine G_aload_n dX9_safestPartner_5 rfl ?_
  refine G_aload_n dX9_safestPartner_6 rfl ?_
  refine G_iload_n dX9_safestPartner_7 rfl ?_
  refine cv_X9_297 (cs' := 0) (ss' := 0) dX9_safestPartner_8  (Nat.le_of_ble_eq_true rfl) (Nat.le_of_ble_eq_true rfl) (Nat.le_of_ble_eq_true rfl) rfl rfl (Nat.le_of_ble_eq_true rfl) (Nat.le_of_ble_eq_true rfl) rfl ?_
  refine s_X9_isPupil hR hA (hGo_i ?_)
  by_cases q00 : inP g.A x
  rotate_left
  · rw [if_neg q00]
    refine G_iconst (v := 1) dX9_safestPartner_11 (by decide) ?_
    refine cv_X9_158 (cs' := 0) (ss' := 0) dX9_safestPartner_12  (Nat.le_of_ble_eq_true rfl) (Nat.le_of_ble_eq_true rfl) (Nat.le_of_ble_eq_true rfl) rfl rfl (Nat.le_of_ble_eq_true rfl) (Nat.le_of_ble_eq_true rfl) rfl ?_
    refine s_X9_holds0 hT (by decide) (hGo_i ?_)
    refine G_if_ne (tgt := 20) dX9_safestPartner_15 (by decide) (fun c15 => ?_) (fun c15 => ?_)
    · exact absurd rfl c15
    · refine G_iconst (v := 0) dX9_safestPartner_18 (by decide) ?_
      refine G_iret dX9_safestPartner_19 rfl rfl (Nat.le_of_ble_eq_true rfl) (Nat.le_of_ble_eq_true rfl) ?_
      rw [if_neg q00] at h
      exact h _ _ hG1.thr (hF.up ⟨by decide, by decide⟩) up_at (fun z => absurd z (by decide))
  rw [if_pos q00]
  refine G_iconst (v := 1) dX9_safestPartner_11 (by decide) ?_
  refine cv_X9_158 (cs' := 0) (ss' := 0) dX9_safestPartner_12  (Nat.le_of_ble_eq_true rfl) (Nat.le_of_ble_eq_true rfl) (Nat.le_of_ble_eq_true rfl) rfl rfl (Nat.le_of_ble_eq_true rfl) (Nat.le_of_ble_eq_true rfl) rfl ?_
  rw [if_pos q00] at h
  refine s_X9_holds1 hT (hGo_i ?_)
  refine G_if_ne (tgt := 20) dX9_safestPartner_15 (by decide) (fun c15 => ?_) (fun c15 => ?_)
  rotate_left
  · exact absurd c15 (by decide)
  obtain ⟨p, hp, rfl, ep⟩ := in_ix q00 (by omega)
  rw [ep] at h
  have h48 : ∀ p, p < g.A.n → fOk g.A.n (g.A.f p) := hO.1.2.2.1
  refine G_iconst (v := (-1)) dX9_safestPartner_20 (by decide) ?_
  refine G_istore_n dX9_safestPartner_21 (Nat.le_of_ble_eq_true rfl) ?_
  refine G_iconst (v := 0) dX9_safestPartner_22 (by decide) ?_
  refine G_istore_n dX9_safestPartner_23 (Nat.le_of_ble_eq_true rfl) ?_
  refine G_lv (lv' := [(0, .ref (ad E 20 0 0)), (1, .int (nI p)), (2, .int (-1)), (3, .int (nI 0))]) ⟨rfl, rfl, rfl, rfl, trivial⟩ ?_
  refine up0 (c := g.A.n) (H := fun i => ∀ b, (b = -1 ∧ spF g.A p i = (-1, 12)) ∨ (∃ k, k < g.A.n ∧ b = nI k ∧ spF g.A p i = (nI k, bc (seersV g.A p k))) → G E C RX9 cX9_safestPartner zX9_safestPartner P 0 0 M1 24 [(0, .ref (ad E 20 0 0)), (1, .int (nI p)), (2, .int b), (3, .int (nI i))] []) (fun b hb => ?_) (fun i hi ih b hb => ?_) (-1) (Or.inl ⟨rfl, rfl⟩)
  · refine G_iload_n dX9_safestPartner_24 rfl ?_
    refine G_aload_n dX9_safestPartner_25 rfl ?_
    refine G_iconst (v := 0) dX9_safestPartner_26 (by decide) ?_
    refine cv_X9_50 (cs' := 0) (ss' := 0) dX9_safestPartner_27  (Nat.le_of_ble_eq_true rfl) (Nat.le_of_ble_eq_true rfl) (Nat.le_of_ble_eq_true rfl) rfl rfl (Nat.le_of_ble_eq_true rfl) (Nat.le_of_ble_eq_true rfl) rfl ?_
    refine s_X9_get (w := 0) hR (by decide) hA.n (hGo_i ?_)
    refine G_icmp_ge (tgt := 74) dX9_safestPartner_30 (by decide) (fun c30 => ?_) (fun c30 => ?_)
    · have eb : b = (spF g.A p g.A.n).1 := by
        rcases hb with ⟨rfl, e⟩ | ⟨k, hk, rfl, e⟩ <;> rw [e]
      refine G_iload_n dX9_safestPartner_74 rfl ?_
      refine G_iret dX9_safestPartner_75 rfl rfl (Nat.le_of_ble_eq_true rfl) (Nat.le_of_ble_eq_true rfl) ?_
      subst eb
      exact h M1 _ hG1 hF hT (fun _ => rfl)
    · exact absurd (Int32.le_refl _) c30
  · have eS : spF g.A p (i + 1) = if i ≠ p ∧ ¬ 0 < g.A.f i 8 ∧ bc (seersV g.A p i) < (spF g.A p i).2 then (nI i, bc (seersV g.A p i)) else spF g.A p i := rfl
    have hz : bc (seersV g.A p i) < 12 := by
      rw [show seersV g.A p i = bs (seeP g.A p i) g.A.n from rfl, bc_bs _ h12]
      exact sm_lt12 hp h12 (by unfold seeP; rw [decide_eq_false (fun q => q rfl)]; rfl)
    have g68 : ∀ (x : Int32) (lv : List (Nat × Value)), ((x = -1 ∧ spF g.A p (i + 1) = (-1, 12)) ∨ (∃ k, k < g.A.n ∧ x = nI k ∧ spF g.A p (i + 1) = (nI k, bc (seersV g.A p k)))) → lvf lv 0 = some (.ref (ad E 20 0 0)) → lvf lv 1 = some (.int (nI p)) → lvf lv 2 = some (.int x) → lvf lv 3 = some (.int (nI i)) → G E C RX9 cX9_safestPartner zX9_safestPartner P 0 0 M1 68 lv [] := fun x lv hx a0 a1 a2 a3 => by
      refine G_lv (lv' := [(0, .ref (ad E 20 0 0)), (1, .int (nI p)), (2, .int x), (3, .int (nI i))]) ⟨a0, a1, a2, a3, trivial⟩ ?_
      refine G_iinc (v := 1) dX9_safestPartner_68 rfl (Nat.le_of_ble_eq_true rfl) (by decide) ?_
      refine G_goto (tgt := 24) dX9_safestPartner_71 (by decide) ?_
      exact G_lv2 (ih x hx) ⟨rfl, rfl, rfl, lvi (nI_1 i), trivial⟩
    refine G_iload_n dX9_safestPartner_24 rfl ?_
    refine G_aload_n dX9_safestPartner_25 rfl ?_
    refine G_iconst (v := 0) dX9_safestPartner_26 (by decide) ?_
    refine cv_X9_50 (cs' := 0) (ss' := 0) dX9_safestPartner_27  (Nat.le_of_ble_eq_true rfl) (Nat.le_of_ble_eq_true rfl) (Nat.le_of_ble_eq_true rfl) rfl rfl (Nat.le_of_ble_eq_true rfl) (Nat.le_of_ble_eq_true rfl) rfl ?_
    refine s_X9_get (w := 0) hR (by decide) hA.n (hGo_i ?_)
    refine G_icmp_ge (tgt := 74) dX9_safestPartner_30 (by decide) (fun c30 => ?_) (fun c30 => ?_)
    · exact absurd c30 (nI_ge hi (by omega))
    · refine G_iload_n dX9_safestPartner_33 rfl ?_
      refine G_iload_n dX9_safestPartner_34 rfl ?_
      refine G_icmp_eq (tgt := 68) dX9_safestPartner_35 (by decide) (fun c35 => ?_) (fun c35 => ?_)
      · exact g68 _ _ (by rw [eS, if_neg (fun q => q.1 ((nI_eq (by omega) (by omega)).mp c35))]; exact hb) rfl rfl rfl rfl
      · have e : i ≠ p := fun q => c35 (by rw [q])
        refine G_aload_n dX9_safestPartner_38 rfl ?_
        refine G_iload_n dX9_safestPartner_39 rfl ?_
        refine cv_X9_99 (cs' := 0) (ss' := 0) dX9_safestPartner_40  (Nat.le_of_ble_eq_true rfl) (Nat.le_of_ble_eq_true rfl) (Nat.le_of_ble_eq_true rfl) rfl rfl (Nat.le_of_ble_eq_true rfl) (Nat.le_of_ble_eq_true rfl) rfl ?_
        refine s_X9_isDetained hR (by omega) (hA.f hi (by decide)) (hGo_i ?_)
        by_cases c : 0 < g.A.f i 8
        · rw [if_pos c]
          refine G_if_ne (tgt := 68) dX9_safestPartner_43 (by decide) (fun c43 => ?_) (fun c43 => ?_)
          · exact g68 _ _ (by rw [eS, if_neg (fun q => q.2.1 c)]; exact hb) rfl rfl rfl rfl
          · exact absurd c43 (by decide)
        · rw [if_neg c]
          refine G_if_ne (tgt := 68) dX9_safestPartner_43 (by decide) (fun c43 => ?_) (fun c43 => ?_)
          · exact absurd rfl c43
          · rcases hb with ⟨rfl, eb⟩ | ⟨k, hk, rfl, eb⟩
            · refine G_iload_n dX9_safestPartner_46 rfl ?_
              refine G_iconst (v := (-1)) dX9_safestPartner_47 (by decide) ?_
              refine G_icmp_eq (tgt := 66) dX9_safestPartner_48 (by decide) (fun c48 => ?_) (fun c48 => ?_)
              · refine G_iload_n dX9_safestPartner_66 rfl ?_
                refine G_istore_n dX9_safestPartner_67 (Nat.le_of_ble_eq_true rfl) ?_
                exact g68 _ _ (Or.inr ⟨i, hi, rfl, by rw [eS, if_pos ⟨e, c, by rw [eb]; exact hz⟩]⟩) rfl rfl rfl rfl
              · exact absurd rfl c48
            · refine G_iload_n dX9_safestPartner_46 rfl ?_
              refine G_iconst (v := (-1)) dX9_safestPartner_47 (by decide) ?_
              refine G_icmp_eq (tgt := 66) dX9_safestPartner_48 (by decide) (fun c48 => ?_) (fun c48 => ?_)
              · exact absurd c48 (nI_nm1 (by omega))
              · refine G_aload_n dX9_safestPartner_51 rfl ?_
                refine G_iload_n dX9_safestPartner_52 rfl ?_
                refine G_iload_n dX9_safestPartner_53 rfl ?_
                refine cv_X9_309 (cs' := 0) (ss' := 0) dX9_safestPartner_54  (Nat.le_of_ble_eq_true rfl) (Nat.le_of_ble_eq_true rfl) (Nat.le_of_ble_eq_true rfl) rfl rfl (Nat.le_of_ble_eq_true rfl) (Nat.le_of_ble_eq_true rfl) rfl ?_
                refine s_X9_allSeers hR hA h48 hp hi (hGo_i ?_)
                refine G_aload_n dX9_safestPartner_57 rfl ?_
                refine G_iload_n dX9_safestPartner_58 rfl ?_
                refine G_iload_n dX9_safestPartner_59 rfl ?_
                refine cv_X9_309 (cs' := 0) (ss' := 0) dX9_safestPartner_60  (Nat.le_of_ble_eq_true rfl) (Nat.le_of_ble_eq_true rfl) (Nat.le_of_ble_eq_true rfl) rfl rfl (Nat.le_of_ble_eq_true rfl) (Nat.le_of_ble_eq_true rfl) rfl ?_
                refine s_X9_allSeers hR hA h48 hp hk (hGo_i ?_)
                refine G_icmp_ge (tgt := 68) dX9_safestPartner_63 (by decide) (fun c63 => ?_) (fun c63 => ?_)
                · exact g68 _ _ (Or.inr ⟨k, hk, rfl, by rw [eS, if_neg (fun q => by
                    have q := q.2.2
                    rw [eb] at q
                    exact absurd q (Int32.not_lt.mpr c63)), eb]⟩) rfl rfl rfl rfl
                · refine G_iload_n dX9_safestPartner_66 rfl ?_
                  refine G_istore_n dX9_safestPartner_67 (Nat.le_of_ble_eq_true rfl) ?_
                  exact g68 _ _ (Or.inr ⟨i, hi, rfl, by rw [eS, if_pos ⟨e, c, by rw [eb]; exact Int32.not_le.mp c63⟩]⟩) rfl rfl rfl rfl
def drA (B : Nat → Bool) (v : Nat → Nat) (k n : Nat) : Nat := sN n (fun i => if B i = true then min (v i + k) 99 else 0)
def drS (B : Nat → Bool) (v : Nat → Nat) (n : Nat) : Nat := sN n (fun i => if B i = true then v i else 0)
def drC (B : Nat → Bool) (n : Nat) : Nat := sN n (fun i => if B i = true then 1 else 0)
theorem dr1 {B : Nat → Bool} {v : Nat → Nat} {k : Nat} : ∀ n, drA B v k n ≤ drS B v n + k * drC B n
  | 0 => Nat.zero_le _
  | n + 1 => by
    have := dr1 (B := B) (v := v) (k := k) n
    show drA B v k n + (if B n = true then min (v n + k) 99 else 0) ≤ drS B v n + (if B n = true then v n else 0) + k * (drC B n + (if B n = true then 1 else 0))
    rw [Nat.mul_add]
    by_cases h : B n = true
    · rw [if_pos h, if_pos h, if_pos h]
      omega
    · rw [if_neg h, if_neg h, if_neg h]
      omega
theorem dr2 {B : Nat → Bool} {v : Nat → Nat} {k : Nat} : ∀ n, drA B v k n = drS B v n + k * drC B n ∨ 99 ≤ drA B v k n
  | 0 => Or.inl rfl
  | n + 1 => by
    have := dr2 (B := B) (v := v) (k := k) n
    show drA B v k n + (if B n = true then min (v n + k) 99 else 0) = drS B v n + (if B n = true then v n else 0) + k * (drC B n + (if B n = true then 1 else 0)) ∨ 99 ≤ drA B v k n + (if B n = true then min (v n + k) 99 else 0)
    rw [Nat.mul_add]
    by_cases h : B n = true
    · rw [if_pos h, if_pos h, if_pos h]
      omega
    · rw [if_neg h, if_neg h, if_neg h]
      omega
theorem dr3 {B : Nat → Bool} {v : Nat → Nat} : ∀ n, (∀ i, i < n → 1 ≤ v i) → drC B n ≤ drS B v n
  | 0, _ => Nat.le_refl _
  | n + 1, hv => by
    have := dr3 (B := B) (v := v) n (fun i hi => hv i (by omega))
    have := hv n (by omega)
    show drC B n + (if B n = true then 1 else 0) ≤ drS B v n + (if B n = true then v n else 0)
    by_cases h : B n = true
    · rw [if_pos h, if_pos h]
      omega
    · rw [if_neg h, if_neg h]
      omega
theorem dr4 {B : Nat → Bool} {v : Nat → Nat} : ∀ n, (∀ i, i < n → v i ≤ 99) → drA B v 0 n = drS B v n ∧ drS B v n ≤ 99 * drC B n
  | 0, _ => ⟨rfl, Nat.le_refl _⟩
  | n + 1, hv => by
    have := dr4 (B := B) (v := v) n (fun i hi => hv i (by omega))
    have := hv n (by omega)
    show drA B v 0 n + (if B n = true then min (v n + 0) 99 else 0) = drS B v n + (if B n = true then v n else 0) ∧ drS B v n + (if B n = true then v n else 0) ≤ 99 * (drC B n + (if B n = true then 1 else 0))
    by_cases h : B n = true
    · rw [if_pos h, if_pos h, if_pos h]
      omega
    · rw [if_neg h, if_neg h, if_neg h]
      omega
theorem drC_le {B : Nat → Bool} (n : Nat) : drC B n ≤ n := by
  have := sN_le (f := fun i => if B i = true then 1 else 0) (c := 1) (fun k => by split <;> omega) n
  unfold drC
  omega
theorem m_drownsIn {x y : Int32} (hG : MG M g) (hO : Okg g) (h : ∀ M' v, MG M' g → Fm M M' → M'.1 20 0 0 5 = nI (qDrownsIn g x y).1 → ((qDrownsIn g x y).1 = 0 → v = (qDrownsIn g x y).2) → P (.inl (some (.int v))) M') : Sp E yX9_drownsIn cX9_drownsIn zX9_drownsIn [.ref (ad E 20 0 0), .int x, .int y] M P := by
  unfold qDrownsIn at h
  refine Sp_of (own := RX9) (by decide) rfl rfl (Nat.le_of_ble_eq_true rfl) (fun C => ?_)
  refine G_aload_n dX9_drownsIn_0 rfl ?_
  refine G_iconst (v := 0) dX9_drownsIn_1 (by decide) ?_
  refine pf_X9_41 dX9_drownsIn_2  ?_
  have hG1 : MG (M.up 20 0 0 5 0) g := hG.thr
  have hT : (M.up 20 0 0 5 0).1 20 0 0 5 = 0 := up_at
  have hF : Fm M (M.up 20 0 0 5 0) := Fm.rfl.up ⟨by decide, by decide⟩
  generalize M.up 20 0 0 5 0 = M1 at hG1 hT hF ⊢
  have hR := hG1.1
  have hA := hG1.2.1
  have h12 := hA.n12
  refine G_aload_n dX9_drownsIn_5 rfl ?_
  refine G_aload_n dX9_drownsIn_6 rfl ?_
  refine G_iload_n dX9_drownsIn_7 rfl ?_
  refine cv_X9_297 (cs' := 0) (ss' := 0) dX9_drownsIn_8  (Nat.le_of_ble_eq_true rfl) (Nat.le_of_ble_eq_true rfl) (Nat.le_of_ble_eq_true rfl) rfl rfl (Nat.le_of_ble_eq_true rfl) (Nat.le_of_ble_eq_true rfl) rfl ?_
  refine s_X9_isPupil hR hA (hGo_i ?_)
  by_cases q00 : inP g.A x
  rotate_left
  · rw [if_neg q00]
    refine G_iconst (v := 1) dX9_drownsIn_11 (by decide) ?_
    refine cv_X9_158 (cs' := 0) (ss' := 0) dX9_drownsIn_12  (Nat.le_of_ble_eq_true rfl) (Nat.le_of_ble_eq_true rfl) (Nat.le_of_ble_eq_true rfl) rfl rfl (Nat.le_of_ble_eq_true rfl) (Nat.le_of_ble_eq_true rfl) rfl ?_
    refine s_X9_holds0 hT (by decide) (hGo_i ?_)
    refine G_if_eq (tgt := 32) dX9_drownsIn_15 (by decide) (fun c15 => ?_) (fun c15 => ?_)
    · refine G_iconst (v := 0) dX9_drownsIn_32 (by decide) ?_
      refine G_iret dX9_drownsIn_33 rfl rfl (Nat.le_of_ble_eq_true rfl) (Nat.le_of_ble_eq_true rfl) ?_
      rw [if_neg q00] at h
      exact h _ _ hG1.thr (hF.up ⟨by decide, by decide⟩) up_at (fun z => absurd z (by decide))
    · exact absurd rfl c15
  rw [if_pos q00]
  refine G_iconst (v := 1) dX9_drownsIn_11 (by decide) ?_
  refine cv_X9_158 (cs' := 0) (ss' := 0) dX9_drownsIn_12  (Nat.le_of_ble_eq_true rfl) (Nat.le_of_ble_eq_true rfl) (Nat.le_of_ble_eq_true rfl) rfl rfl (Nat.le_of_ble_eq_true rfl) (Nat.le_of_ble_eq_true rfl) rfl ?_
  rw [if_pos q00] at h
  refine s_X9_holds1 hT (hGo_i ?_)
  refine G_if_eq (tgt := 32) dX9_drownsIn_15 (by decide) (fun c15 => ?_) (fun c15 => ?_)
  · exact absurd c15 (by decide)
  refine G_aload_n dX9_drownsIn_18 rfl ?_
  refine G_iload_n dX9_drownsIn_19 rfl ?_
  refine G_iconst (v := 0) dX9_drownsIn_20 (by decide) ?_
  refine G_iconst (v := 1) dX9_drownsIn_21 (by decide) ?_
  refine cv_X9_162 (cs' := 0) (ss' := 0) dX9_drownsIn_22  (Nat.le_of_ble_eq_true rfl) (Nat.le_of_ble_eq_true rfl) (Nat.le_of_ble_eq_true rfl) rfl rfl (Nat.le_of_ble_eq_true rfl) (Nat.le_of_ble_eq_true rfl) rfl ?_
  refine s_X9_in (hGo_i ?_)
  by_cases q10 : inR y 0 1
  rotate_left
  · rw [if_neg q10]
    refine G_iconst (v := 2) dX9_drownsIn_25 (by decide) ?_
    refine cv_X9_158 (cs' := 0) (ss' := 0) dX9_drownsIn_26  (Nat.le_of_ble_eq_true rfl) (Nat.le_of_ble_eq_true rfl) (Nat.le_of_ble_eq_true rfl) rfl rfl (Nat.le_of_ble_eq_true rfl) (Nat.le_of_ble_eq_true rfl) rfl ?_
    refine s_X9_holds0 hT (by decide) (hGo_i ?_)
    refine G_if_ne (tgt := 34) dX9_drownsIn_29 (by decide) (fun c29 => ?_) (fun c29 => ?_)
    · exact absurd rfl c29
    · refine G_iconst (v := 0) dX9_drownsIn_32 (by decide) ?_
      refine G_iret dX9_drownsIn_33 rfl rfl (Nat.le_of_ble_eq_true rfl) (Nat.le_of_ble_eq_true rfl) ?_
      rw [if_neg q10] at h
      exact h _ _ hG1.thr (hF.up ⟨by decide, by decide⟩) up_at (fun z => absurd z (by decide))
  rw [if_pos q10]
  refine G_iconst (v := 2) dX9_drownsIn_25 (by decide) ?_
  refine cv_X9_158 (cs' := 0) (ss' := 0) dX9_drownsIn_26  (Nat.le_of_ble_eq_true rfl) (Nat.le_of_ble_eq_true rfl) (Nat.le_of_ble_eq_true rfl) rfl rfl (Nat.le_of_ble_eq_true rfl) (Nat.le_of_ble_eq_true rfl) rfl ?_
  rw [if_pos q10] at h
  refine s_X9_holds1 hT (hGo_i ?_)
  refine G_if_ne (tgt := 34) dX9_drownsIn_29 (by decide) (fun c29 => ?_) (fun c29 => ?_)
  rotate_left
  · exact absurd c29 (by decide)
  obtain ⟨p, hp, rfl, ep⟩ := in_ix q00 (by omega)
  obtain ⟨s, ls, hs, rfl, es⟩ := inR_ix (i := 0) (k := 1) (by decide) (by decide) q10
  have h30 := hA.d30
  unfold drV at h
  have hv : ∀ i, i < g.A.d.length → dg g.A.d i 3 = nI (tn (dg g.A.d i 3)) ∧ 1 ≤ tn (dg g.A.d i 3) ∧ tn (dg g.A.d i 3) ≤ 99 := fun i hi => by
    obtain ⟨v, v1, v2, ev⟩ := (hO.1.2.2.2.2.2.1 i hi).2.2.2
    rw [ev, tn_nI (by omega)]
    exact ⟨rfl, v1, v2⟩
  generalize hB : (fun i => decide (dg g.A.d i 0 = nI p ∧ dg g.A.d i 2 = nI s)) = B
  generalize hW : (fun i => tn (dg g.A.d i 3)) = v
  have eB : ∀ i, B i = true ↔ (dg g.A.d i 0 = nI p ∧ dg g.A.d i 2 = nI s) := fun i => by
    rw [← hB]
    exact decide_eq_true_iff
  have ev : ∀ i, v i = tn (dg g.A.d i 3) := fun i => by rw [← hW]
  have eS : ∀ n, n ≤ g.A.d.length → sm n (fun i => if dg g.A.d i 0 = nI p ∧ dg g.A.d i 2 = nI s then dg g.A.d i 3 else 0) = nI (drS B v n) := fun n hn => by
    unfold drS
    rw [← sN_sm]
    refine sm_cong (fun i hi => ?_)
    by_cases q : dg g.A.d i 0 = nI p ∧ dg g.A.d i 2 = nI s
    · rw [if_pos q, if_pos ((eB i).mpr q), ev, ← (hv i (by omega)).1]
    · rw [if_neg q, if_neg (fun z => q ((eB i).mp z))]
      rfl
  have eC : ∀ n, n ≤ g.A.d.length → sm n (fun i => if dg g.A.d i 0 = nI p ∧ dg g.A.d i 2 = nI s then (1 : Int32) else 0) = nI (drC B n) := fun n hn => by
    unfold drC
    rw [← sN_sm]
    refine sm_cong (fun i hi => ?_)
    by_cases q : dg g.A.d i 0 = nI p ∧ dg g.A.d i 2 = nI s
    · rw [if_pos q, if_pos ((eB i).mpr q)]
      rfl
    · rw [if_neg q, if_neg (fun z => q ((eB i).mp z))]
      rfl
  have eA : ∀ k, k ≤ 20 → owedInV g.A.d (nI p) (nI s) (nI k) = nI (drA B v k g.A.d.length) := fun k hk => by
    unfold owedInV drA
    rw [← sN_sm]
    refine sm_cong (fun i hi => ?_)
    by_cases q : dg g.A.d i 0 = nI p ∧ dg g.A.d i 2 = nI s
    · have := (hv i hi).2
      rw [if_pos q, if_pos ((eB i).mpr q), (hv i hi).1, ev, nI_add]
      unfold imin
      by_cases z : tn (dg g.A.d i 3) + k ≤ 99
      · rw [if_neg (show ¬ (99 : Int32) < nI (tn (dg g.A.d i 3) + k) from nI_nlt (a := 99) z (by decide)), Nat.min_eq_left z]
      · rw [if_pos (show (99 : Int32) < nI (tn (dg g.A.d i 3) + k) from nI_lt (a := 99) (by omega) (by omega)), Nat.min_eq_right (by omega)]
        rfl
    · rw [if_neg q, if_neg (fun z => q ((eB i).mp z))]
      rfl
  have b1 : ∀ i, i < g.A.d.length → 1 ≤ v i := fun i hi => by rw [ev]; exact (hv i hi).2.1
  have b2 : ∀ i, i < g.A.d.length → v i ≤ 99 := fun i hi => by rw [ev]; exact (hv i hi).2.2
  have d3 := dr3 (B := B) g.A.d.length b1
  have d4 := dr4 (B := B) g.A.d.length b2
  have d5 := drC_le (B := B) g.A.d.length
  have eK : ∀ k, k ≤ 20 → ((20 : Int32) < owedInV g.A.d (nI p) (nI s) (nI k) ↔ 20 < drS B v g.A.d.length + k * drC B g.A.d.length) := fun k hk => by
    have d1 := dr1 (B := B) (v := v) (k := k) g.A.d.length
    have d2 := dr2 (B := B) (v := v) (k := k) g.A.d.length
    have dm : k * drC B g.A.d.length ≤ 20 * 30 := Nat.mul_le_mul hk (by omega)
    rw [eA k hk]
    exact (nI_ltI (a := 20) (by decide) (by omega)).trans (by omega)
  have e0 : owedInV g.A.d (nI p) (nI s) 0 = nI (drS B v g.A.d.length) := by
    have := eA 0 (by decide)
    rw [d4.1] at this
    exact this
  refine G_iconst (v := 0) dX9_drownsIn_34 (by decide) ?_
  refine G_istore_n dX9_drownsIn_35 (Nat.le_of_ble_eq_true rfl) ?_
  refine G_iconst (v := 0) dX9_drownsIn_36 (by decide) ?_
  refine G_istore dX9_drownsIn_37 (Nat.le_of_ble_eq_true rfl) ?_
  refine G_iconst (v := 0) dX9_drownsIn_39 (by decide) ?_
  refine G_istore dX9_drownsIn_40 (Nat.le_of_ble_eq_true rfl) ?_
  refine G_lv (lv' := [(0, .ref (ad E 20 0 0)), (1, .int (nI p)), (2, .int (nI s)), (3, .int (sm 0 (fun i => if dg g.A.d i 0 = nI p ∧ dg g.A.d i 2 = nI s then dg g.A.d i 3 else 0))), (4, .int (sm 0 (fun i => if dg g.A.d i 0 = nI p ∧ dg g.A.d i 2 = nI s then (1 : Int32) else 0))), (5, .int (nI 0))]) ⟨rfl, rfl, rfl, rfl, rfl, rfl, trivial⟩ ?_
  refine up0 (c := g.A.d.length) (H := fun i => G E C RX9 cX9_drownsIn zX9_drownsIn P 0 0 M1 42 [(0, .ref (ad E 20 0 0)), (1, .int (nI p)), (2, .int (nI s)), (3, .int (sm i (fun i => if dg g.A.d i 0 = nI p ∧ dg g.A.d i 2 = nI s then dg g.A.d i 3 else 0))), (4, .int (sm i (fun i => if dg g.A.d i 0 = nI p ∧ dg g.A.d i 2 = nI s then (1 : Int32) else 0))), (5, .int (nI i))] []) ?_ (fun i hi ih => ?_)
  · rw [eS _ (Nat.le_refl _), eC _ (Nat.le_refl _)]
    refine G_iload dX9_drownsIn_42 rfl ?_
    refine G_aload_n dX9_drownsIn_44 rfl ?_
    refine G_bipush (v := 6) dX9_drownsIn_45 (by decide) ?_
    refine cv_X9_50 (cs' := 0) (ss' := 0) dX9_drownsIn_47  (Nat.le_of_ble_eq_true rfl) (Nat.le_of_ble_eq_true rfl) (Nat.le_of_ble_eq_true rfl) rfl rfl (Nat.le_of_ble_eq_true rfl) (Nat.le_of_ble_eq_true rfl) rfl ?_
    refine s_X9_get (w := 6) hR (by decide) hA.dn (hGo_i ?_)
    refine G_icmp_ge (tgt := 97) dX9_drownsIn_50 (by decide) (fun c50 => ?_) (fun c50 => ?_)
    rotate_left
    · exact absurd (Int32.le_refl _) c50
    rw [e0] at h
    refine G_iload dX9_drownsIn_97 rfl ?_
    refine G_if_ne (tgt := 104) dX9_drownsIn_99 (by decide) (fun c99 => ?_) (fun c99 => ?_)
    rotate_left
    · have z : drC B g.A.d.length = 0 := (nI_eq (b := 0) (by omega) (by decide)).mp c99
      rw [if_pos (show nI (drS B v g.A.d.length) = 0 by rw [show drS B v g.A.d.length = 0 by omega]; rfl)] at h
      refine G_iconst (v := (-1)) dX9_drownsIn_102 (by decide) ?_
      refine G_iret dX9_drownsIn_103 rfl rfl (Nat.le_of_ble_eq_true rfl) (Nat.le_of_ble_eq_true rfl) ?_
      exact h M1 _ hG1 hF hT (fun _ => rfl)
    have z : ¬ drC B g.A.d.length = 0 := fun q => c99 (by rw [q]; rfl)
    rw [if_neg (fun q => by
      have := (nI_eq (b := 0) (by omega) (by decide)).mp q
      omega)] at h
    refine G_iconst (v := 0) dX9_drownsIn_104 (by decide) ?_
    refine G_istore dX9_drownsIn_105 (Nat.le_of_ble_eq_true rfl) ?_
    refine G_lv (lv' := [(0, .ref (ad E 20 0 0)), (1, .int (nI p)), (2, .int (nI s)), (3, .int (nI (drS B v g.A.d.length))), (4, .int (nI (drC B g.A.d.length))), (5, .int (nI 0))]) ⟨rfl, rfl, rfl, rfl, rfl, rfl, trivial⟩ ?_
    refine up0 (c := 21) (H := fun i => (∀ k, k < i → decide (20 < owedInV g.A.d (nI p) (nI s) (nI k)) = false) → G E C RX9 cX9_drownsIn zX9_drownsIn P 0 0 M1 107 [(0, .ref (ad E 20 0 0)), (1, .int (nI p)), (2, .int (nI s)), (3, .int (nI (drS B v g.A.d.length))), (4, .int (nI (drC B g.A.d.length))), (5, .int (nI i))] []) (fun hno => ?_) (fun i hi ih hno => ?_) (fun k hk => absurd hk (Nat.not_lt_zero k))
    · have q := of_decide_eq_false (hno 20 (by decide))
      rw [eK 20 (by decide)] at q
      omega
    · have dm : i * drC B g.A.d.length ≤ 20 * 30 := Nat.mul_le_mul (by omega) (by omega)
      refine G_iload_n dX9_drownsIn_107 rfl ?_
      refine G_iload dX9_drownsIn_108 rfl ?_
      refine G_iload dX9_drownsIn_110 rfl ?_
      refine G_imul dX9_drownsIn_112 ?_
      rw [pk_mul]
      refine G_iadd dX9_drownsIn_113 ?_
      rw [nI_add]
      refine G_bipush (v := 20) dX9_drownsIn_114 (by decide) ?_
      refine G_icmp_gt (tgt := 125) dX9_drownsIn_116 (by decide) (fun c116 => ?_) (fun c116 => ?_)
      · have c : 20 < drS B v g.A.d.length + i * drC B g.A.d.length := (nI_ltI (a := 20) (by decide) (by omega)).mp c116
        rw [first_at hi hno (decide_eq_true ((eK i (by omega)).mpr c))] at h
        refine G_iload dX9_drownsIn_125 rfl ?_
        refine G_iret dX9_drownsIn_127 rfl rfl (Nat.le_of_ble_eq_true rfl) (Nat.le_of_ble_eq_true rfl) ?_
        exact h M1 _ hG1 hF hT (fun _ => rfl)
      · refine G_iinc (v := 1) dX9_drownsIn_119 rfl (Nat.le_of_ble_eq_true rfl) (by decide) ?_
        refine G_goto (tgt := 107) dX9_drownsIn_122 (by decide) ?_
        refine G_lv2 (ih (fun k hk => ?_)) ⟨rfl, rfl, rfl, rfl, rfl, lvi (nI_1 i), trivial⟩
        by_cases e : k = i
        · subst e
          exact decide_eq_false (fun q => c116 ((nI_ltI (a := 20) (by decide) (by omega)).mpr ((eK k (by omega)).mp q)))
        · exact hno k (by omega)
  · have g91 : ∀ (x y : Int32) (lv : List (Nat × Value)), x = sm (i + 1) (fun i => if dg g.A.d i 0 = nI p ∧ dg g.A.d i 2 = nI s then dg g.A.d i 3 else 0) → y = sm (i + 1) (fun i => if dg g.A.d i 0 = nI p ∧ dg g.A.d i 2 = nI s then (1 : Int32) else 0) → lvf lv 0 = some (.ref (ad E 20 0 0)) → lvf lv 1 = some (.int (nI p)) → lvf lv 2 = some (.int (nI s)) → lvf lv 3 = some (.int x) → lvf lv 4 = some (.int y) → lvf lv 5 = some (.int (nI i)) → G E C RX9 cX9_drownsIn zX9_drownsIn P 0 0 M1 91 lv [] := fun x y lv hx hy a0 a1 a2 a3 a4 a5 => by
      refine G_lv (lv' := [(0, .ref (ad E 20 0 0)), (1, .int (nI p)), (2, .int (nI s)), (3, .int x), (4, .int y), (5, .int (nI i))]) ⟨a0, a1, a2, a3, a4, a5, trivial⟩ ?_
      refine G_iinc (v := 1) dX9_drownsIn_91 rfl (Nat.le_of_ble_eq_true rfl) (by decide) ?_
      refine G_goto (tgt := 42) dX9_drownsIn_94 (by decide) ?_
      subst hx
      subst hy
      exact G_lv2 ih ⟨rfl, rfl, rfl, rfl, rfl, lvi (nI_1 i), trivial⟩
    have k0 : ¬ (dg g.A.d i 0 = nI p ∧ dg g.A.d i 2 = nI s) → sm i (fun i => if dg g.A.d i 0 = nI p ∧ dg g.A.d i 2 = nI s then dg g.A.d i 3 else 0) = sm (i + 1) (fun i => if dg g.A.d i 0 = nI p ∧ dg g.A.d i 2 = nI s then dg g.A.d i 3 else 0) ∧ sm i (fun i => if dg g.A.d i 0 = nI p ∧ dg g.A.d i 2 = nI s then (1 : Int32) else 0) = sm (i + 1) (fun i => if dg g.A.d i 0 = nI p ∧ dg g.A.d i 2 = nI s then (1 : Int32) else 0) := fun q => by
      constructor
      · show _ = sm i (fun i => if dg g.A.d i 0 = nI p ∧ dg g.A.d i 2 = nI s then dg g.A.d i 3 else 0) + (if dg g.A.d i 0 = nI p ∧ dg g.A.d i 2 = nI s then dg g.A.d i 3 else 0)
        rw [if_neg q, Int32.add_zero]
      · show _ = sm i (fun i => if dg g.A.d i 0 = nI p ∧ dg g.A.d i 2 = nI s then (1 : Int32) else 0) + (if dg g.A.d i 0 = nI p ∧ dg g.A.d i 2 = nI s then 1 else 0)
        rw [if_neg q, Int32.add_zero]
    refine G_iload dX9_drownsIn_42 rfl ?_
    refine G_aload_n dX9_drownsIn_44 rfl ?_
    refine G_bipush (v := 6) dX9_drownsIn_45 (by decide) ?_
    refine cv_X9_50 (cs' := 0) (ss' := 0) dX9_drownsIn_47  (Nat.le_of_ble_eq_true rfl) (Nat.le_of_ble_eq_true rfl) (Nat.le_of_ble_eq_true rfl) rfl rfl (Nat.le_of_ble_eq_true rfl) (Nat.le_of_ble_eq_true rfl) rfl ?_
    refine s_X9_get (w := 6) hR (by decide) hA.dn (hGo_i ?_)
    refine G_icmp_ge (tgt := 97) dX9_drownsIn_50 (by decide) (fun c50 => ?_) (fun c50 => ?_)
    · exact absurd c50 (nI_ge hi (by omega))
    · refine G_aload_n dX9_drownsIn_53 rfl ?_
      refine G_iload dX9_drownsIn_54 rfl ?_
      refine G_iconst (v := 0) dX9_drownsIn_56 (by decide) ?_
      refine cv_X9_84 (cs' := 0) (ss' := 0) dX9_drownsIn_57  (Nat.le_of_ble_eq_true rfl) (Nat.le_of_ble_eq_true rfl) (Nat.le_of_ble_eq_true rfl) rfl rfl (Nat.le_of_ble_eq_true rfl) (Nat.le_of_ble_eq_true rfl) rfl ?_
      refine s_X9_db (t := 0) hR (by omega) (by decide) (hA.d hi (by decide)) (hGo_i ?_)
      refine G_iload_n dX9_drownsIn_60 rfl ?_
      refine G_icmp_ne (tgt := 91) dX9_drownsIn_61 (by decide) (fun c61 => ?_) (fun c61 => ?_)
      · have k := k0 (fun q => c61 q.1)
        exact g91 _ _ _ k.1 k.2 rfl rfl rfl rfl rfl rfl
      · refine G_aload_n dX9_drownsIn_64 rfl ?_
        refine G_iload dX9_drownsIn_65 rfl ?_
        refine G_iconst (v := 2) dX9_drownsIn_67 (by decide) ?_
        refine cv_X9_84 (cs' := 0) (ss' := 0) dX9_drownsIn_68  (Nat.le_of_ble_eq_true rfl) (Nat.le_of_ble_eq_true rfl) (Nat.le_of_ble_eq_true rfl) rfl rfl (Nat.le_of_ble_eq_true rfl) (Nat.le_of_ble_eq_true rfl) rfl ?_
        refine s_X9_db (t := 2) hR (by omega) (by decide) (hA.d hi (by decide)) (hGo_i ?_)
        refine G_iload_n dX9_drownsIn_71 rfl ?_
        refine G_icmp_eq (tgt := 78) dX9_drownsIn_72 (by decide) (fun c72 => ?_) (fun c72 => ?_)
        · have q : dg g.A.d i 0 = nI p ∧ dg g.A.d i 2 = nI s := ⟨c61, c72⟩
          refine G_iload_n dX9_drownsIn_78 rfl ?_
          refine G_aload_n dX9_drownsIn_79 rfl ?_
          refine G_iload dX9_drownsIn_80 rfl ?_
          refine G_iconst (v := 3) dX9_drownsIn_82 (by decide) ?_
          refine cv_X9_84 (cs' := 0) (ss' := 0) dX9_drownsIn_83  (Nat.le_of_ble_eq_true rfl) (Nat.le_of_ble_eq_true rfl) (Nat.le_of_ble_eq_true rfl) rfl rfl (Nat.le_of_ble_eq_true rfl) (Nat.le_of_ble_eq_true rfl) rfl ?_
          refine s_X9_db (t := 3) hR (by omega) (by decide) (hA.d hi (by decide)) (hGo_i ?_)
          refine G_iadd dX9_drownsIn_86 ?_
          refine G_istore_n dX9_drownsIn_87 (Nat.le_of_ble_eq_true rfl) ?_
          refine G_iinc (v := 1) dX9_drownsIn_88 rfl (Nat.le_of_ble_eq_true rfl) (by decide) ?_
          refine g91 _ _ _ ?_ ?_ rfl rfl rfl rfl rfl rfl
          · show _ = sm i (fun i => if dg g.A.d i 0 = nI p ∧ dg g.A.d i 2 = nI s then dg g.A.d i 3 else 0) + (if dg g.A.d i 0 = nI p ∧ dg g.A.d i 2 = nI s then dg g.A.d i 3 else 0)
            rw [if_pos q]
          · show _ = sm i (fun i => if dg g.A.d i 0 = nI p ∧ dg g.A.d i 2 = nI s then (1 : Int32) else 0) + (if dg g.A.d i 0 = nI p ∧ dg g.A.d i 2 = nI s then 1 else 0)
            rw [if_pos q]
        · have k := k0 (fun q => c72 q.2)
          refine G_goto (tgt := 91) dX9_drownsIn_75 (by decide) ?_
          exact g91 _ _ _ k.1 k.2 rfl rfl rfl rfl rfl rfl
end MSAFE
