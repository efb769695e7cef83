/-! ===== HomeworkBarterModel: commands done ===== -/
section MACT
variable {E : Ed} {M M' M0 M1 : Mm} {P : Res → Mm → Prop} {L : List Int32} {T T' : Tks} {g : Gs}
def Rl (q : Gs × Qq) (s : Gs × Int32) : Prop := q = ans s ∨ (q.1 = s.1 ∧ (1 ≤ q.2.1 ∧ q.2.1 < 100) ∧ s.2 = -1)
theorem s_X9_acts {Cs : List Cmd} {i : Nat} (hG : MG M g) (hO : Okg g) (hS : Sc M Cs) (hi : i < Cs.length) (hc : cOk (cg Cs i)) (h : ∀ M' v, MG M' (sPerf g (cg Cs i)).1 → Fm M M' → ((v < 0 ∨ M'.1 20 0 0 5 ≠ 0) ↔ (sPerf g (cg Cs i)).2 < 0) → P (.inl (some (.int v))) M') : Sp E yX9_acts cX9_acts zX9_acts [.ref (ad E 20 0 0), .int (nI (5 * i))] M P := by
  obtain ⟨s1, s2, s3⟩ := hS
  obtain ⟨u1, u2, u3, u4⟩ := s3 i hi
  generalize hcc : cg Cs i = c at *
  have fin : ∀ q, Rl q (sPerf g c) → ∀ M' v, MG M' q.1 → Fm M M' → M'.1 20 0 0 5 = nI q.2.1 → (q.2.1 = 0 → v = q.2.2) → P (.inl (some (.int v))) M' := fun q hq M' v gg f t e => by
    rcases hq with rfl | ⟨e1, e2, e3⟩
    · refine h M' v gg f ?_
      have e : v = (sPerf g c).2 := e rfl
      have t : M'.1 20 0 0 5 = 0 := t
      rw [e, t]
      exact ⟨fun z => z.resolve_right (fun y => y rfl), Or.inl⟩
    · refine h M' v (e1 ▸ gg) f ?_
      rw [t, e3]
      exact ⟨fun _ => by decide, fun _ => Or.inr (nI_ne0 (by omega) (by omega))⟩
  have ca : ∀ t, t < c.2.length → M.1 25 0 0 (5 * i + 1 + t) = cA c t := u4
  obtain ⟨k1, k2⟩ := hc
  refine Sp_of (own := RX9) (by decide) rfl rfl (Nat.le_of_ble_eq_true rfl) (fun C => ?_)
  refine G_aload_n dX9_acts_0 rfl ?_
  refine gf_X9_27 dX9_acts_1  ?_
  refine G_iload_n dX9_acts_4 rfl ?_
  refine G_iconst (v := 1) dX9_acts_5 (by decide) ?_
  refine G_iadd dX9_acts_6 ?_
  rw [show nI (5 * i) + (1 : Int32) = nI (5 * i + 1) from nI_add _ 1]
  refine G_iald dX9_acts_7 ⟨by decide, rfl, rfl⟩ rfl rfl (show 5 * i + 1 < 125 by omega) (by decide) ?_
  refine G_istore_n dX9_acts_8 (Nat.le_of_ble_eq_true rfl) ?_
  refine G_aload_n dX9_acts_9 rfl ?_
  refine gf_X9_27 dX9_acts_10  ?_
  refine G_iload_n dX9_acts_13 rfl ?_
  refine G_iconst (v := 2) dX9_acts_14 (by decide) ?_
  refine G_iadd dX9_acts_15 ?_
  rw [show nI (5 * i) + (2 : Int32) = nI (5 * i + 2) from nI_add _ 2]
  refine G_iald dX9_acts_16 ⟨by decide, rfl, rfl⟩ rfl rfl (show 5 * i + 2 < 125 by omega) (by decide) ?_
  refine G_istore_n dX9_acts_17 (Nat.le_of_ble_eq_true rfl) ?_
  refine G_aload_n dX9_acts_18 rfl ?_
  refine gf_X9_27 dX9_acts_19  ?_
  refine G_iload_n dX9_acts_22 rfl ?_
  refine G_iconst (v := 3) dX9_acts_23 (by decide) ?_
  refine G_iadd dX9_acts_24 ?_
  rw [show nI (5 * i) + (3 : Int32) = nI (5 * i + 3) from nI_add _ 3]
  refine G_iald dX9_acts_25 ⟨by decide, rfl, rfl⟩ rfl rfl (show 5 * i + 3 < 125 by omega) (by decide) ?_
  refine G_istore dX9_acts_26 (Nat.le_of_ble_eq_true rfl) ?_
  refine G_aload_n dX9_acts_28 rfl ?_
  refine gf_X9_27 dX9_acts_29  ?_
  refine G_iload_n dX9_acts_32 rfl ?_
  refine G_iald dX9_acts_33 ⟨by decide, rfl, rfl⟩ rfl rfl (show 5 * i < 125 by omega) (by decide) ?_
  rw [u1]
  have sp : sPerf g c = sPerfV g c.1 (cA c 0) (cA c 1) (cA c 2) (cA c 3) := rfl
  rcases (show c.1 = 0 ∨ c.1 = 1 ∨ c.1 = 2 ∨ c.1 = 3 ∨ c.1 = 4 ∨ c.1 = 5 ∨ c.1 = 6 by omega) with hv | hv | hv | hv | hv | hv | hv <;> rw [hv] at k2 sp ⊢
  · obtain ⟨a0, a1, a2, a3⟩ := args_a0 k2
    have e0 : M.1 25 0 0 (5 * i + 1) = cA c 0 := ca 0 (by omega)
    have e1 : M.1 25 0 0 (5 * i + 2) = cA c 1 := ca 1 (by omega)
    have e2 : M.1 25 0 0 (5 * i + 3) = cA c 2 := ca 2 (by omega)
    have hr : Rl (qWork g (M.1 25 0 0 (5 * i + 1)) (M.1 25 0 0 (5 * i + 2)) (M.1 25 0 0 (5 * i + 3))) (sPerf g c) := by
      rw [sp, sPerfV_0, e0, e1, e2]
      unfold qWork
      by_cases q : inP g.A (cA c 0)
      · rw [if_pos q, if_pos ⟨a1, a2⟩, if_pos q]
        exact Or.inl rfl
      · rw [if_neg q, if_neg q]
        exact Or.inr ⟨rfl, ⟨Nat.le_refl _, (show (1 : Nat) < 100 by decide)⟩, rfl⟩
    refine G_tIn (off := 38) (tgt := 72) dX9_acts_34 (by decide) (by decide) rfl (by decide) ?_
    refine G_aload_n dX9_acts_72 rfl ?_
    refine G_iload_n dX9_acts_73 rfl ?_
    refine G_iload_n dX9_acts_74 rfl ?_
    refine G_iload dX9_acts_75 rfl ?_
    refine cv_X9_267 (cs' := 0) (ss' := 0) dX9_acts_77  (Nat.le_of_ble_eq_true rfl) (Nat.le_of_ble_eq_true rfl) (Nat.le_of_ble_eq_true rfl) rfl rfl (Nat.le_of_ble_eq_true rfl) (Nat.le_of_ble_eq_true rfl) rfl ?_
    refine m_work hG hO (fun M2 v g2 f2 t2 w2 => hGo_i ?_)
    refine G_iret dX9_acts_80 rfl rfl (Nat.le_of_ble_eq_true rfl) (Nat.le_of_ble_eq_true rfl) ?_
    exact fin _ hr M2 v g2 f2 t2 w2
  · obtain ⟨a0, a1, a2, a3, a4⟩ := args_a1 k2
    have e0 : M.1 25 0 0 (5 * i + 1) = cA c 0 := ca 0 (by omega)
    have e1 : M.1 25 0 0 (5 * i + 2) = cA c 1 := ca 1 (by omega)
    have e2 : M.1 25 0 0 (5 * i + 3) = cA c 2 := ca 2 (by omega)
    have e3 : M.1 25 0 0 (5 * i + 4) = cA c 3 := ca 3 (by omega)
    have hr : Rl (qSwap g (M.1 25 0 0 (5 * i + 1)) (M.1 25 0 0 (5 * i + 2)) (M.1 25 0 0 (5 * i + 3)) (M.1 25 0 0 (5 * i + 4))) (sPerf g c) := by
      rw [sp, sPerfV_1, e0, e1, e2, e3]
      unfold qSwap
      by_cases q : inP g.A (cA c 0) ∧ inP g.A (cA c 1)
      · rw [if_pos q, if_pos ⟨a2, a3⟩, if_pos q]
        exact Or.inl rfl
      · rw [if_neg q, if_neg q]
        exact Or.inr ⟨rfl, ⟨Nat.le_refl _, (show (1 : Nat) < 100 by decide)⟩, rfl⟩
    refine G_tIn (off := 47) (tgt := 81) dX9_acts_34 (by decide) (by decide) rfl (by decide) ?_
    refine G_aload_n dX9_acts_81 rfl ?_
    refine G_iload_n dX9_acts_82 rfl ?_
    refine G_iload_n dX9_acts_83 rfl ?_
    refine G_iload dX9_acts_84 rfl ?_
    refine G_aload_n dX9_acts_86 rfl ?_
    refine gf_X9_27 dX9_acts_87  ?_
    refine G_iload_n dX9_acts_90 rfl ?_
    refine G_iconst (v := 4) dX9_acts_91 (by decide) ?_
    refine G_iadd dX9_acts_92 ?_
    rw [show nI (5 * i) + (4 : Int32) = nI (5 * i + 4) from nI_add _ 4]
    refine G_iald dX9_acts_93 ⟨by decide, rfl, rfl⟩ rfl rfl (show 5 * i + 4 < 125 by omega) (by decide) ?_
    refine cv_X9_269 (cs' := 0) (ss' := 0) dX9_acts_94  (Nat.le_of_ble_eq_true rfl) (Nat.le_of_ble_eq_true rfl) (Nat.le_of_ble_eq_true rfl) rfl rfl (Nat.le_of_ble_eq_true rfl) (Nat.le_of_ble_eq_true rfl) rfl ?_
    refine m_swap hG hO (fun M2 v g2 f2 t2 w2 => hGo_i ?_)
    refine G_iret dX9_acts_97 rfl rfl (Nat.le_of_ble_eq_true rfl) (Nat.le_of_ble_eq_true rfl) ?_
    exact fin _ hr M2 v g2 f2 t2 w2
  · obtain ⟨a0, a1, a2, a3, a4⟩ := args_a2 k2
    have e0 : M.1 25 0 0 (5 * i + 1) = cA c 0 := ca 0 (by omega)
    have e1 : M.1 25 0 0 (5 * i + 2) = cA c 1 := ca 1 (by omega)
    have e2 : M.1 25 0 0 (5 * i + 3) = cA c 2 := ca 2 (by omega)
    have e3 : M.1 25 0 0 (5 * i + 4) = cA c 3 := ca 3 (by omega)
    have hr : Rl (qLend g (M.1 25 0 0 (5 * i + 1)) (M.1 25 0 0 (5 * i + 2)) (M.1 25 0 0 (5 * i + 3)) (M.1 25 0 0 (5 * i + 4))) (sPerf g c) := by
      rw [sp, sPerfV_2, e0, e1, e2, e3]
      unfold qLend
      by_cases q : inP g.A (cA c 0) ∧ inP g.A (cA c 1)
      · rw [if_pos q, if_pos ⟨a2, a3⟩, if_pos q]
        exact Or.inl rfl
      · rw [if_neg q, if_neg q]
        exact Or.inr ⟨rfl, ⟨Nat.le_refl _, (show (1 : Nat) < 100 by decide)⟩, rfl⟩
    refine G_tIn (off := 64) (tgt := 98) dX9_acts_34 (by decide) (by decide) rfl (by decide) ?_
    refine G_aload_n dX9_acts_98 rfl ?_
    refine G_iload_n dX9_acts_99 rfl ?_
    refine G_iload_n dX9_acts_100 rfl ?_
    refine G_iload dX9_acts_101 rfl ?_
    refine G_aload_n dX9_acts_103 rfl ?_
    refine gf_X9_27 dX9_acts_104  ?_
    refine G_iload_n dX9_acts_107 rfl ?_
    refine G_iconst (v := 4) dX9_acts_108 (by decide) ?_
    refine G_iadd dX9_acts_109 ?_
    rw [show nI (5 * i) + (4 : Int32) = nI (5 * i + 4) from nI_add _ 4]
    refine G_iald dX9_acts_110 ⟨by decide, rfl, rfl⟩ rfl rfl (show 5 * i + 4 < 125 by omega) (by decide) ?_
    refine cv_X9_271 (cs' := 0) (ss' := 0) dX9_acts_111  (Nat.le_of_ble_eq_true rfl) (Nat.le_of_ble_eq_true rfl) (Nat.le_of_ble_eq_true rfl) rfl rfl (Nat.le_of_ble_eq_true rfl) (Nat.le_of_ble_eq_true rfl) rfl ?_
    refine m_lend hG hO (fun M2 v g2 f2 t2 w2 => hGo_i ?_)
    refine G_iret dX9_acts_114 rfl rfl (Nat.le_of_ble_eq_true rfl) (Nat.le_of_ble_eq_true rfl) ?_
    exact fin _ hr M2 v g2 f2 t2 w2
  · obtain ⟨a0, a1, a2, a3, a4⟩ := args_a2 k2
    have e0 : M.1 25 0 0 (5 * i + 1) = cA c 0 := ca 0 (by omega)
    have e1 : M.1 25 0 0 (5 * i + 2) = cA c 1 := ca 1 (by omega)
    have e2 : M.1 25 0 0 (5 * i + 3) = cA c 2 := ca 2 (by omega)
    have e3 : M.1 25 0 0 (5 * i + 4) = cA c 3 := ca 3 (by omega)
    have hr : Rl (qPay g (M.1 25 0 0 (5 * i + 1)) (M.1 25 0 0 (5 * i + 2)) (M.1 25 0 0 (5 * i + 3)) (M.1 25 0 0 (5 * i + 4))) (sPerf g c) := by
      rw [sp, sPerfV_3, e0, e1, e2, e3]
      unfold qPay
      by_cases q : inP g.A (cA c 0) ∧ inP g.A (cA c 1)
      · rw [if_pos q, if_pos ⟨a2, a3⟩, if_pos q]
        exact Or.inl rfl
      · rw [if_neg q, if_neg q]
        exact Or.inr ⟨rfl, ⟨Nat.le_refl _, (show (1 : Nat) < 100 by decide)⟩, rfl⟩
    refine G_tIn (off := 81) (tgt := 115) dX9_acts_34 (by decide) (by decide) rfl (by decide) ?_
    refine G_aload_n dX9_acts_115 rfl ?_
    refine G_iload_n dX9_acts_116 rfl ?_
    refine G_iload_n dX9_acts_117 rfl ?_
    refine G_iload dX9_acts_118 rfl ?_
    refine G_aload_n dX9_acts_120 rfl ?_
    refine gf_X9_27 dX9_acts_121  ?_
    refine G_iload_n dX9_acts_124 rfl ?_
    refine G_iconst (v := 4) dX9_acts_125 (by decide) ?_
    refine G_iadd dX9_acts_126 ?_
    rw [show nI (5 * i) + (4 : Int32) = nI (5 * i + 4) from nI_add _ 4]
    refine G_iald dX9_acts_127 ⟨by decide, rfl, rfl⟩ rfl rfl (show 5 * i + 4 < 125 by omega) (by decide) ?_
    refine cv_X9_273 (cs' := 0) (ss' := 0) dX9_acts_128  (Nat.le_of_ble_eq_true rfl) (Nat.le_of_ble_eq_true rfl) (Nat.le_of_ble_eq_true rfl) rfl rfl (Nat.le_of_ble_eq_true rfl) (Nat.le_of_ble_eq_true rfl) rfl ?_
    refine m_payBack hG hO (fun M2 v g2 f2 t2 w2 => hGo_i ?_)
    refine G_iret dX9_acts_131 rfl rfl (Nat.le_of_ble_eq_true rfl) (Nat.le_of_ble_eq_true rfl) ?_
    exact fin _ hr M2 v g2 f2 t2 w2
  · obtain ⟨a0, a1, a2, a3⟩ := args_a4 k2
    have e0 : M.1 25 0 0 (5 * i + 1) = cA c 0 := ca 0 (by omega)
    have e1 : M.1 25 0 0 (5 * i + 2) = cA c 1 := ca 1 (by omega)
    have e2 : M.1 25 0 0 (5 * i + 3) = cA c 2 := ca 2 (by omega)
    have hr : Rl (qMove g (M.1 25 0 0 (5 * i + 1)) (M.1 25 0 0 (5 * i + 2)) (M.1 25 0 0 (5 * i + 3))) (sPerf g c) := by
      rw [sp, sPerfV_4, e0, e1, e2]
      unfold qMove
      by_cases q : inP g.A (cA c 0)
      · rw [if_pos q, if_pos ⟨a1, a2⟩, if_pos q]
        exact Or.inl rfl
      · rw [if_neg q, if_neg q]
        exact Or.inr ⟨rfl, ⟨Nat.le_refl _, (show (1 : Nat) < 100 by decide)⟩, rfl⟩
    refine G_tIn (off := 98) (tgt := 132) dX9_acts_34 (by decide) (by decide) rfl (by decide) ?_
    refine G_aload_n dX9_acts_132 rfl ?_
    refine G_iload_n dX9_acts_133 rfl ?_
    refine G_iload_n dX9_acts_134 rfl ?_
    refine G_iload dX9_acts_135 rfl ?_
    refine cv_X9_276 (cs' := 0) (ss' := 0) dX9_acts_137  (Nat.le_of_ble_eq_true rfl) (Nat.le_of_ble_eq_true rfl) (Nat.le_of_ble_eq_true rfl) rfl rfl (Nat.le_of_ble_eq_true rfl) (Nat.le_of_ble_eq_true rfl) rfl ?_
    refine m_move hG hO (fun M2 v g2 f2 t2 w2 => hGo_i ?_)
    refine G_iret dX9_acts_140 rfl rfl (Nat.le_of_ble_eq_true rfl) (Nat.le_of_ble_eq_true rfl) ?_
    exact fin _ hr M2 v g2 f2 t2 w2
  · obtain ⟨a0, a1⟩ := args_a5 k2
    have e0 : M.1 25 0 0 (5 * i + 1) = cA c 0 := ca 0 (by omega)
    have hr : Rl (qConfess g (M.1 25 0 0 (5 * i + 1))) (sPerf g c) := by
      rw [sp, sPerfV_5, e0]
      unfold qConfess
      by_cases q : inP g.A (cA c 0)
      · rw [if_pos q, if_pos q]
        exact Or.inl rfl
      · rw [if_neg q, if_neg q]
        exact Or.inr ⟨rfl, ⟨Nat.le_refl _, (show (1 : Nat) < 100 by decide)⟩, rfl⟩
    refine G_tIn (off := 107) (tgt := 141) dX9_acts_34 (by decide) (by decide) rfl (by decide) ?_
    refine G_aload_n dX9_acts_141 rfl ?_
    refine G_iload_n dX9_acts_142 rfl ?_
    refine cv_X9_278 (cs' := 0) (ss' := 0) dX9_acts_143  (Nat.le_of_ble_eq_true rfl) (Nat.le_of_ble_eq_true rfl) (Nat.le_of_ble_eq_true rfl) rfl rfl (Nat.le_of_ble_eq_true rfl) (Nat.le_of_ble_eq_true rfl) rfl ?_
    refine m_confess hG hO (fun M2 v g2 f2 t2 w2 => hGo_i ?_)
    refine G_iret dX9_acts_146 rfl rfl (Nat.le_of_ble_eq_true rfl) (Nat.le_of_ble_eq_true rfl) ?_
    exact fin _ hr M2 v g2 f2 t2 w2
  · obtain ⟨a0, a1⟩ := args_a6 k2
    have e0 : M.1 25 0 0 (5 * i + 1) = cA c 0 := ca 0 (by omega)
    have hr : Rl (qPass g (M.1 25 0 0 (5 * i + 1))) (sPerf g c) := by
      rw [sp, sPerfV_6, e0]
      unfold qPass
      rw [if_pos (show inR (cA c 0) 1 10 from a0)]
      exact Or.inl rfl
    refine G_tOut (tgt := 147) dX9_acts_34 (by decide) (by decide) ?_
    refine G_aload_n dX9_acts_147 rfl ?_
    refine G_iload_n dX9_acts_148 rfl ?_
    refine cv_X9_280 (cs' := 0) (ss' := 0) dX9_acts_149  (Nat.le_of_ble_eq_true rfl) (Nat.le_of_ble_eq_true rfl) (Nat.le_of_ble_eq_true rfl) rfl rfl (Nat.le_of_ble_eq_true rfl) (Nat.le_of_ble_eq_true rfl) rfl ?_
    refine m_pass hG hO (fun M2 v g2 f2 t2 w2 => hGo_i ?_)
    refine G_iret dX9_acts_152 rfl rfl (Nat.le_of_ble_eq_true rfl) (Nat.le_of_ble_eq_true rfl) ?_
    exact fin _ hr M2 v g2 f2 t2 w2
end MACT
