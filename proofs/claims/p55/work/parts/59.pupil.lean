/-! ===== the law's isPupil ===== -/
section LPUPIL
/-- what holds of every school that the law reaches: nobody owes himself, benches, nobody shares one, pieces made are in satchels, handed in or burnt -/
def Gd (A : Ab) : Prop := (∀ i, i < A.d.length → dg A.d i 0 ≠ dg A.d i 1) ∧ (∀ p, p < A.n → ∃ r t, r ≤ 5 ∧ t ≤ 5 ∧ A.f p 0 = nI r ∧ A.f p 1 = nI t) ∧ (∀ p q, p < A.n → q < A.n → A.f p 0 = A.f q 0 → A.f p 1 = A.f q 1 → p = q) ∧ A.g 7 + A.g 8 - piecesV A 0 - piecesV A 1 - (A.g 12 + A.g 13) = 0 ∧ ∀ p, p < A.n → A.f p 8 ≤ 9
variable {E : Ed} {M : Mm} {P : Res → Mm → Prop} {g : Gs} {C : Cx}
theorem pupV_s {A : Ab} {x s : Nat} (hs : s ≤ 1) : pupV A x (9 + s) = nI (A.s (2 * x + s)).length := by
  rcases (show s = 0 ∨ s = 1 by omega) with rfl | rfl <;> rfl
theorem cntV_s {s : Nat} (hs : s ≤ 1) : cntV g (4 + s) = g.A.g (4 + s) := by
  rcases (show s = 0 ∨ s = 1 by omega) with rfl | rfl <;> rfl
theorem pupV_k {A : Ab} {x s : Nat} (hs : s ≤ 1) : pupV A x (2 + s) = A.f x (2 + s) := by
  rcases (show s = 0 ∨ s = 1 by omega) with rfl | rfl <;> rfl
theorem ip_A {x : Nat} (hx : x < g.A.n) (hC : CG M g) (hO : Okg g) (hG : Gd g.A) (k : G E C RL cL_isPupil zL_isPupil P 0 0 M 212 [(0, .ref (ad E 0 0 0)), (1, .int (nI x)), (4, .int (beyV g.A x))] []) : G E C RL cL_isPupil zL_isPupil P 0 0 M 10 [(0, .ref (ad E 0 0 0)), (1, .int (nI x)), (2, .int (0)), (3, .int (0)), (4, .int (-1)), (5, .int (0))] [] := by
  have h12 := hC.1.n12
  have h30 := hC.1.d.2.1
  have hD := hO.1.2.2.2.2
  refine G_lv (lv' := [(0, .ref (ad E 0 0 0)), (1, .int (nI x)), (2, .int (sm 0 (fun k => if dg g.A.d k 0 = nI x then dg g.A.d k 3 else 0))), (3, .int (sm 0 (fun k => if dg g.A.d k 1 = nI x then dg g.A.d k 3 else 0))), (4, .int (first 0 (beyP g.A x))), (5, .int (nI 0))]) ⟨rfl, rfl, rfl, rfl, rfl, rfl, trivial⟩ ?_
  refine up0 (c := g.A.d.length) (H := fun i => G E C RL cL_isPupil zL_isPupil P 0 0 M 10 [(0, .ref (ad E 0 0 0)), (1, .int (nI x)), (2, .int (sm i (fun k => if dg g.A.d k 0 = nI x then dg g.A.d k 3 else 0))), (3, .int (sm i (fun k => if dg g.A.d k 1 = nI x then dg g.A.d k 3 else 0))), (4, .int (first i (beyP g.A x))), (5, .int (nI i))] []) ?_ (fun i hi ih => ?_)
  · refine G_iload dL_isPupil_10 rfl ?_
    refine G_aload_n dL_isPupil_12 rfl ?_
    refine G_bipush (v := 8) dL_isPupil_13 (by decide) ?_
    refine cv_L_68 (cs' := 0) (ss' := 0) dL_isPupil_15  (Nat.le_of_ble_eq_true rfl) (Nat.le_of_ble_eq_true rfl) (Nat.le_of_ble_eq_true rfl) rfl rfl (Nat.le_of_ble_eq_true rfl) (Nat.le_of_ble_eq_true rfl) rfl ?_
    refine u_count (k := 8) (by first | decide | assumption | omega) hC (hGo_i ?_)
    refine G_icmp_ge (tgt := 188) dL_isPupil_18 (by decide) (fun c18 => ?_) (fun c18 => ?_)
    · refine G_aload_n dL_isPupil_188 rfl ?_
      refine G_iload_n dL_isPupil_189 rfl ?_
      refine G_bipush (v := 11) dL_isPupil_190 (by decide) ?_
      refine cv_L_59 (cs' := 0) (ss' := 0) dL_isPupil_192  (Nat.le_of_ble_eq_true rfl) (Nat.le_of_ble_eq_true rfl) (Nat.le_of_ble_eq_true rfl) rfl rfl (Nat.le_of_ble_eq_true rfl) (Nat.le_of_ble_eq_true rfl) rfl ?_
      refine u_pupil (k := 11) (by first | assumption | omega) (by first | decide | assumption | omega) hC hO (hGo_i ?_)
      refine G_iload_n dL_isPupil_195 rfl ?_
      refine G_icmp_ne (tgt := 210) dL_isPupil_196 (by decide) (fun c196 => ?_) (fun c196 => ?_)
      · exact absurd rfl c196
      · refine G_aload_n dL_isPupil_199 rfl ?_
        refine G_iload_n dL_isPupil_200 rfl ?_
        refine G_bipush (v := 12) dL_isPupil_201 (by decide) ?_
        refine cv_L_59 (cs' := 0) (ss' := 0) dL_isPupil_203  (Nat.le_of_ble_eq_true rfl) (Nat.le_of_ble_eq_true rfl) (Nat.le_of_ble_eq_true rfl) rfl rfl (Nat.le_of_ble_eq_true rfl) (Nat.le_of_ble_eq_true rfl) rfl ?_
        refine u_pupil (k := 12) (by first | assumption | omega) (by first | decide | assumption | omega) hC hO (hGo_i ?_)
        refine G_iload_n dL_isPupil_206 rfl ?_
        refine G_icmp_eq (tgt := 212) dL_isPupil_207 (by decide) (fun c207 => ?_) (fun c207 => ?_)
        · exact G_lv2 k ⟨rfl, rfl, rfl, trivial⟩
        · exact absurd rfl c207
    · exact absurd (show nI g.A.d.length ≤ nI g.A.d.length from Int32.le_refl _) c18
  · obtain ⟨⟨a, ha, ea⟩, ⟨b, hb, eb⟩, ⟨s, hs2, es⟩, v, hv1, hv2, ev⟩ := hD.2.1 i hi
    have hs : s ≤ 1 := by omega
    have ho : owedV g.A.d (nI a) (nI b) (nI s) = dg g.A.d i 3 := by
      rw [← ea, ← eb, ← es]
      exact owed_at hD hi
    have ebey : beyP g.A x i = decide (dg g.A.d i 0 = nI x ∧ nI (g.A.s (2 * x + s)).length < dg g.A.d i 3) := by
      unfold beyP
      rw [es, nI_clamp (by omega)]
    have j182 : ∀ u : Int32, u = first (i + 1) (beyP g.A x) → G E C RL cL_isPupil zL_isPupil P 0 0 M 182 [(0, .ref (ad E 0 0 0)), (1, .int (nI x)), (2, .int (sm (i + 1) (fun k => if dg g.A.d k 0 = nI x then dg g.A.d k 3 else 0))), (3, .int (sm (i + 1) (fun k => if dg g.A.d k 1 = nI x then dg g.A.d k 3 else 0))), (4, .int (u)), (5, .int (nI i))] [] := fun u eu => by
      refine G_iinc (v := 1) dL_isPupil_182 rfl (Nat.le_of_ble_eq_true rfl) (by decide) ?_
      refine G_goto (tgt := 10) dL_isPupil_185 (by decide) ?_
      exact G_lv2 ih ⟨rfl, rfl, rfl, rfl, lvi eu, lvi (nI_1 i), trivial⟩
    have j136 : G E C RL cL_isPupil zL_isPupil P 0 0 M 136 [(0, .ref (ad E 0 0 0)), (1, .int (nI x)), (2, .int (sm (i + 1) (fun k => if dg g.A.d k 0 = nI x then dg g.A.d k 3 else 0))), (3, .int (sm (i + 1) (fun k => if dg g.A.d k 1 = nI x then dg g.A.d k 3 else 0))), (4, .int (first i (beyP g.A x))), (5, .int (nI i))] [] := by
      refine G_iload dL_isPupil_136 rfl ?_
      refine G_iconst (v := (-1)) dL_isPupil_138 (by decide) ?_
      refine G_icmp_ne (tgt := 182) dL_isPupil_139 (by decide) (fun c139 => ?_) (fun c139 => ?_)
      · exact j182 _ (by rw [first_S (by omega), if_neg c139])
      · have c4 : first i (beyP g.A x) = -1 := c139
        have jn : beyP g.A x i = false → G E C RL cL_isPupil zL_isPupil P 0 0 M 182 [(0, .ref (ad E 0 0 0)), (1, .int (nI x)), (2, .int (sm (i + 1) (fun k => if dg g.A.d k 0 = nI x then dg g.A.d k 3 else 0))), (3, .int (sm (i + 1) (fun k => if dg g.A.d k 1 = nI x then dg g.A.d k 3 else 0))), (4, .int (first i (beyP g.A x))), (5, .int (nI i))] [] := fun q => j182 _ (by rw [first_S (by omega), if_pos c4, q, if_neg (by decide), c4])
        refine G_aload_n dL_isPupil_142 rfl ?_
        refine G_iload dL_isPupil_143 rfl ?_
        refine G_iconst (v := 0) dL_isPupil_145 (by decide) ?_
        refine cv_L_91 (cs' := 0) (ss' := 0) dL_isPupil_146  (Nat.le_of_ble_eq_true rfl) (Nat.le_of_ble_eq_true rfl) (Nat.le_of_ble_eq_true rfl) rfl rfl (Nat.le_of_ble_eq_true rfl) (Nat.le_of_ble_eq_true rfl) rfl ?_
        refine u_debt (k := 0) (by first | assumption | omega) (by first | decide | assumption | omega) hC (hGo_i ?_)
        refine G_iload_n dL_isPupil_149 rfl ?_
        refine G_icmp_ne (tgt := 182) dL_isPupil_150 (by decide) (fun c150 => ?_) (fun c150 => ?_)
        · exact jn (by rw [ebey]; exact decide_eq_false (fun q => c150 q.1))
        · have c0 : dg g.A.d i 0 = nI x := c150
          refine G_aload_n dL_isPupil_153 rfl ?_
          refine G_iload dL_isPupil_154 rfl ?_
          refine G_iconst (v := 3) dL_isPupil_156 (by decide) ?_
          refine cv_L_91 (cs' := 0) (ss' := 0) dL_isPupil_157  (Nat.le_of_ble_eq_true rfl) (Nat.le_of_ble_eq_true rfl) (Nat.le_of_ble_eq_true rfl) rfl rfl (Nat.le_of_ble_eq_true rfl) (Nat.le_of_ble_eq_true rfl) rfl ?_
          refine u_debt (k := 3) (by first | assumption | omega) (by first | decide | assumption | omega) hC (hGo_i ?_)
          refine G_aload_n dL_isPupil_160 rfl ?_
          refine G_iload_n dL_isPupil_161 rfl ?_
          refine G_bipush (v := 9) dL_isPupil_162 (by decide) ?_
          refine G_aload_n dL_isPupil_164 rfl ?_
          refine G_iload dL_isPupil_165 rfl ?_
          refine G_iconst (v := 2) dL_isPupil_167 (by decide) ?_
          refine cv_L_91 (cs' := 0) (ss' := 0) dL_isPupil_168  (Nat.le_of_ble_eq_true rfl) (Nat.le_of_ble_eq_true rfl) (Nat.le_of_ble_eq_true rfl) rfl rfl (Nat.le_of_ble_eq_true rfl) (Nat.le_of_ble_eq_true rfl) rfl ?_
          refine u_debt (k := 2) (by first | assumption | omega) (by first | decide | assumption | omega) hC (hGo_i ?_)
          refine G_iadd dL_isPupil_171 ?_
          rw [es, show (9 : Int32) + nI s = nI (9 + s) from nI_add 9 s]
          refine cv_L_59 (cs' := 0) (ss' := 0) dL_isPupil_172  (Nat.le_of_ble_eq_true rfl) (Nat.le_of_ble_eq_true rfl) (Nat.le_of_ble_eq_true rfl) rfl rfl (Nat.le_of_ble_eq_true rfl) (Nat.le_of_ble_eq_true rfl) rfl ?_
          refine u_pupil (k := 9 + s) (by assumption) (by omega) hC hO (hGo_i ?_)
          rw [pupV_s hs]
          refine G_icmp_le (tgt := 182) dL_isPupil_175 (by decide) (fun c175 => ?_) (fun c175 => ?_)
          · exact jn (by rw [ebey]; exact decide_eq_false (fun q => absurd q.2 (Int32.not_lt.mpr c175)))
          · refine G_iload dL_isPupil_178 rfl ?_
            refine G_istore dL_isPupil_180 (Nat.le_of_ble_eq_true rfl) ?_
            exact G_lv2 (j182 (nI i) (by rw [first_S (by omega), if_pos c4, ebey, if_pos (decide_eq_true ⟨c0, Int32.not_le.mp c175⟩)])) ⟨rfl, rfl, rfl, rfl, rfl, rfl, trivial⟩
    have j71 : G E C RL cL_isPupil zL_isPupil P 0 0 M 71 [(0, .ref (ad E 0 0 0)), (1, .int (nI x)), (2, .int (sm (i + 1) (fun k => if dg g.A.d k 0 = nI x then dg g.A.d k 3 else 0))), (3, .int (sm (i + 1) (fun k => if dg g.A.d k 1 = nI x then dg g.A.d k 3 else 0))), (4, .int (first i (beyP g.A x))), (5, .int (nI i))] [] := by
      refine G_aload_n dL_isPupil_71 rfl ?_
      refine G_aload_n dL_isPupil_72 rfl ?_
      refine G_iload dL_isPupil_73 rfl ?_
      refine G_iconst (v := 0) dL_isPupil_75 (by decide) ?_
      refine cv_L_91 (cs' := 0) (ss' := 0) dL_isPupil_76  (Nat.le_of_ble_eq_true rfl) (Nat.le_of_ble_eq_true rfl) (Nat.le_of_ble_eq_true rfl) rfl rfl (Nat.le_of_ble_eq_true rfl) (Nat.le_of_ble_eq_true rfl) rfl ?_
      refine u_debt (k := 0) (by first | assumption | omega) (by first | decide | assumption | omega) hC (hGo_i ?_)
      refine G_aload_n dL_isPupil_79 rfl ?_
      refine G_iload dL_isPupil_80 rfl ?_
      refine G_iconst (v := 1) dL_isPupil_82 (by decide) ?_
      refine cv_L_91 (cs' := 0) (ss' := 0) dL_isPupil_83  (Nat.le_of_ble_eq_true rfl) (Nat.le_of_ble_eq_true rfl) (Nat.le_of_ble_eq_true rfl) rfl rfl (Nat.le_of_ble_eq_true rfl) (Nat.le_of_ble_eq_true rfl) rfl ?_
      refine u_debt (k := 1) (by first | assumption | omega) (by first | decide | assumption | omega) hC (hGo_i ?_)
      refine G_aload_n dL_isPupil_86 rfl ?_
      refine G_iload dL_isPupil_87 rfl ?_
      refine G_iconst (v := 2) dL_isPupil_89 (by decide) ?_
      refine cv_L_91 (cs' := 0) (ss' := 0) dL_isPupil_90  (Nat.le_of_ble_eq_true rfl) (Nat.le_of_ble_eq_true rfl) (Nat.le_of_ble_eq_true rfl) rfl rfl (Nat.le_of_ble_eq_true rfl) (Nat.le_of_ble_eq_true rfl) rfl ?_
      refine u_debt (k := 2) (by first | assumption | omega) (by first | decide | assumption | omega) hC (hGo_i ?_)
      rw [ea, eb, es]
      refine cv_L_94 (cs' := 0) (ss' := 0) dL_isPupil_93  (Nat.le_of_ble_eq_true rfl) (Nat.le_of_ble_eq_true rfl) (Nat.le_of_ble_eq_true rfl) rfl rfl (Nat.le_of_ble_eq_true rfl) (Nat.le_of_ble_eq_true rfl) rfl ?_
      refine u_owes (by first | assumption | omega) (by first | assumption | omega) (by first | assumption | omega) hC (hGo_i ?_)
      rw [ho]
      refine G_aload_n dL_isPupil_96 rfl ?_
      refine G_iload dL_isPupil_97 rfl ?_
      refine G_iconst (v := 3) dL_isPupil_99 (by decide) ?_
      refine cv_L_91 (cs' := 0) (ss' := 0) dL_isPupil_100  (Nat.le_of_ble_eq_true rfl) (Nat.le_of_ble_eq_true rfl) (Nat.le_of_ble_eq_true rfl) rfl rfl (Nat.le_of_ble_eq_true rfl) (Nat.le_of_ble_eq_true rfl) rfl ?_
      refine u_debt (k := 3) (by first | assumption | omega) (by first | decide | assumption | omega) hC (hGo_i ?_)
      refine G_icmp_ne (tgt := 134) dL_isPupil_103 (by decide) (fun c103 => ?_) (fun c103 => ?_)
      · exact absurd rfl c103
      · refine G_aload_n dL_isPupil_106 rfl ?_
        refine G_iload dL_isPupil_107 rfl ?_
        refine G_iconst (v := 0) dL_isPupil_109 (by decide) ?_
        refine cv_L_91 (cs' := 0) (ss' := 0) dL_isPupil_110  (Nat.le_of_ble_eq_true rfl) (Nat.le_of_ble_eq_true rfl) (Nat.le_of_ble_eq_true rfl) rfl rfl (Nat.le_of_ble_eq_true rfl) (Nat.le_of_ble_eq_true rfl) rfl ?_
        refine u_debt (k := 0) (by first | assumption | omega) (by first | decide | assumption | omega) hC (hGo_i ?_)
        refine G_aload_n dL_isPupil_113 rfl ?_
        refine G_iload dL_isPupil_114 rfl ?_
        refine G_iconst (v := 1) dL_isPupil_116 (by decide) ?_
        refine cv_L_91 (cs' := 0) (ss' := 0) dL_isPupil_117  (Nat.le_of_ble_eq_true rfl) (Nat.le_of_ble_eq_true rfl) (Nat.le_of_ble_eq_true rfl) rfl rfl (Nat.le_of_ble_eq_true rfl) (Nat.le_of_ble_eq_true rfl) rfl ?_
        refine u_debt (k := 1) (by first | assumption | omega) (by first | decide | assumption | omega) hC (hGo_i ?_)
        refine G_icmp_eq (tgt := 134) dL_isPupil_120 (by decide) (fun c120 => ?_) (fun c120 => ?_)
        · exact absurd c120 (hG.1 i hi)
        · refine G_aload_n dL_isPupil_123 rfl ?_
          refine G_iload dL_isPupil_124 rfl ?_
          refine G_iconst (v := 3) dL_isPupil_126 (by decide) ?_
          refine cv_L_91 (cs' := 0) (ss' := 0) dL_isPupil_127  (Nat.le_of_ble_eq_true rfl) (Nat.le_of_ble_eq_true rfl) (Nat.le_of_ble_eq_true rfl) rfl rfl (Nat.le_of_ble_eq_true rfl) (Nat.le_of_ble_eq_true rfl) rfl ?_
          refine u_debt (k := 3) (by first | assumption | omega) (by first | decide | assumption | omega) hC (hGo_i ?_)
          refine G_iconst (v := 1) dL_isPupil_130 (by decide) ?_
          refine G_icmp_ge (tgt := 136) dL_isPupil_131 (by decide) (fun c131 => ?_) (fun c131 => ?_)
          · exact j136
          · rw [show dg g.A.d i 3 = nI v from ev] at c131
            exact absurd (show nI 1 ≤ nI v from nI_le hv1 (by omega)) c131
    have j69 : ∀ u : Int32, (if dg g.A.d i 1 = nI x then dg g.A.d i 3 else 0) = u → G E C RL cL_isPupil zL_isPupil P 0 0 M 69 [(0, .ref (ad E 0 0 0)), (1, .int (nI x)), (2, .int (sm (i + 1) (fun k => if dg g.A.d k 0 = nI x then dg g.A.d k 3 else 0))), (3, .int (sm i (fun k => if dg g.A.d k 1 = nI x then dg g.A.d k 3 else 0))), (4, .int (first i (beyP g.A x))), (5, .int (nI i))] [.int u, .int (sm i (fun k => if dg g.A.d k 1 = nI x then dg g.A.d k 3 else 0))] := fun u eu => by
      refine G_iadd dL_isPupil_69 ?_
      refine G_istore_n dL_isPupil_70 (Nat.le_of_ble_eq_true rfl) ?_
      exact G_lv2 j71 ⟨rfl, rfl, rfl, lvi (sm_t eu), rfl, rfl, trivial⟩
    have j46 : G E C RL cL_isPupil zL_isPupil P 0 0 M 46 [(0, .ref (ad E 0 0 0)), (1, .int (nI x)), (2, .int (sm (i + 1) (fun k => if dg g.A.d k 0 = nI x then dg g.A.d k 3 else 0))), (3, .int (sm i (fun k => if dg g.A.d k 1 = nI x then dg g.A.d k 3 else 0))), (4, .int (first i (beyP g.A x))), (5, .int (nI i))] [] := by
      refine G_iload_n dL_isPupil_46 rfl ?_
      refine G_aload_n dL_isPupil_47 rfl ?_
      refine G_iload dL_isPupil_48 rfl ?_
      refine G_iconst (v := 1) dL_isPupil_50 (by decide) ?_
      refine cv_L_91 (cs' := 0) (ss' := 0) dL_isPupil_51  (Nat.le_of_ble_eq_true rfl) (Nat.le_of_ble_eq_true rfl) (Nat.le_of_ble_eq_true rfl) rfl rfl (Nat.le_of_ble_eq_true rfl) (Nat.le_of_ble_eq_true rfl) rfl ?_
      refine u_debt (k := 1) (by first | assumption | omega) (by first | decide | assumption | omega) hC (hGo_i ?_)
      refine G_iload_n dL_isPupil_54 rfl ?_
      refine G_icmp_ne (tgt := 68) dL_isPupil_55 (by decide) (fun c55 => ?_) (fun c55 => ?_)
      · refine G_iconst (v := 0) dL_isPupil_68 (by decide) ?_
        exact j69 0 (if_neg c55)
      · refine G_aload_n dL_isPupil_58 rfl ?_
        refine G_iload dL_isPupil_59 rfl ?_
        refine G_iconst (v := 3) dL_isPupil_61 (by decide) ?_
        refine cv_L_91 (cs' := 0) (ss' := 0) dL_isPupil_62  (Nat.le_of_ble_eq_true rfl) (Nat.le_of_ble_eq_true rfl) (Nat.le_of_ble_eq_true rfl) rfl rfl (Nat.le_of_ble_eq_true rfl) (Nat.le_of_ble_eq_true rfl) rfl ?_
        refine u_debt (k := 3) (by first | assumption | omega) (by first | decide | assumption | omega) hC (hGo_i ?_)
        refine G_goto (tgt := 69) dL_isPupil_65 (by decide) ?_
        exact j69 _ (if_pos c55)
    have j44 : ∀ u : Int32, (if dg g.A.d i 0 = nI x then dg g.A.d i 3 else 0) = u → G E C RL cL_isPupil zL_isPupil P 0 0 M 44 [(0, .ref (ad E 0 0 0)), (1, .int (nI x)), (2, .int (sm i (fun k => if dg g.A.d k 0 = nI x then dg g.A.d k 3 else 0))), (3, .int (sm i (fun k => if dg g.A.d k 1 = nI x then dg g.A.d k 3 else 0))), (4, .int (first i (beyP g.A x))), (5, .int (nI i))] [.int u, .int (sm i (fun k => if dg g.A.d k 0 = nI x then dg g.A.d k 3 else 0))] := fun u eu => by
      refine G_iadd dL_isPupil_44 ?_
      refine G_istore_n dL_isPupil_45 (Nat.le_of_ble_eq_true rfl) ?_
      exact G_lv2 j46 ⟨rfl, rfl, lvi (sm_t eu), rfl, rfl, rfl, trivial⟩
    refine G_iload dL_isPupil_10 rfl ?_
    refine G_aload_n dL_isPupil_12 rfl ?_
    refine G_bipush (v := 8) dL_isPupil_13 (by decide) ?_
    refine cv_L_68 (cs' := 0) (ss' := 0) dL_isPupil_15  (Nat.le_of_ble_eq_true rfl) (Nat.le_of_ble_eq_true rfl) (Nat.le_of_ble_eq_true rfl) rfl rfl (Nat.le_of_ble_eq_true rfl) (Nat.le_of_ble_eq_true rfl) rfl ?_
    refine u_count (k := 8) (by first | decide | assumption | omega) hC (hGo_i ?_)
    refine G_icmp_ge (tgt := 188) dL_isPupil_18 (by decide) (fun c18 => ?_) (fun c18 => ?_)
    · exact absurd (show nI g.A.d.length ≤ nI i from c18) (nI_ge hi (by omega))
    · refine G_iload_n dL_isPupil_21 rfl ?_
      refine G_aload_n dL_isPupil_22 rfl ?_
      refine G_iload dL_isPupil_23 rfl ?_
      refine G_iconst (v := 0) dL_isPupil_25 (by decide) ?_
      refine cv_L_91 (cs' := 0) (ss' := 0) dL_isPupil_26  (Nat.le_of_ble_eq_true rfl) (Nat.le_of_ble_eq_true rfl) (Nat.le_of_ble_eq_true rfl) rfl rfl (Nat.le_of_ble_eq_true rfl) (Nat.le_of_ble_eq_true rfl) rfl ?_
      refine u_debt (k := 0) (by first | assumption | omega) (by first | decide | assumption | omega) hC (hGo_i ?_)
      refine G_iload_n dL_isPupil_29 rfl ?_
      refine G_icmp_ne (tgt := 43) dL_isPupil_30 (by decide) (fun c30 => ?_) (fun c30 => ?_)
      · refine G_iconst (v := 0) dL_isPupil_43 (by decide) ?_
        exact j44 0 (if_neg c30)
      · refine G_aload_n dL_isPupil_33 rfl ?_
        refine G_iload dL_isPupil_34 rfl ?_
        refine G_iconst (v := 3) dL_isPupil_36 (by decide) ?_
        refine cv_L_91 (cs' := 0) (ss' := 0) dL_isPupil_37  (Nat.le_of_ble_eq_true rfl) (Nat.le_of_ble_eq_true rfl) (Nat.le_of_ble_eq_true rfl) rfl rfl (Nat.le_of_ble_eq_true rfl) (Nat.le_of_ble_eq_true rfl) rfl ?_
        refine u_debt (k := 3) (by first | assumption | omega) (by first | decide | assumption | omega) hC (hGo_i ?_)
        refine G_goto (tgt := 44) dL_isPupil_40 (by decide) ?_
        exact j44 _ (if_pos c30)
theorem ofM_eq {L : List Int32} {x : Int32} : sm L.length (fun k => if L.getD k 0 = x then 1 else 0) = nI (cN L x L.length) := ofM_c
theorem ip_B1 {x j : Nat} (hx : x < g.A.n) (hj : j ≤ 1) (hC : CG M g) (hO : Okg g) (k : G E C RL cL_isPupil zL_isPupil P 0 0 M 318 [(0, .ref (ad E 0 0 0)), (1, .int (nI x)), (4, .int (beyV g.A x)), (5, .int (sm j (fun s => ownN (g.A.s (2 * x + s)) (nI x)))), (6, .int (nI j)), (7, .int ((nI (g.A.s (2 * x + j)).length)))] []) : G E C RL cL_isPupil zL_isPupil P 0 0 M 224 [(0, .ref (ad E 0 0 0)), (1, .int (nI x)), (4, .int (beyV g.A x)), (5, .int (sm j (fun s => ownN (g.A.s (2 * x + s)) (nI x)))), (6, .int (nI j))] [] := by
  have h12 := hC.1.n12
  have hm := hO.1.2.2.2.1 (2 * x + j) (by omega)
  have hl := hm.1
  have e9 : (9 : Int32) + nI j = nI (9 + j) := nI_add 9 j
  have hsum : sm g.A.n (fun m => nI (cN (g.A.s (2 * x + j)) (nI m) (g.A.s (2 * x + j)).length)) = (nI (g.A.s (2 * x + j)).length) := by rw [sN_sm, sN_all h12 hm.2]
  refine G_aload_n dL_isPupil_224 rfl ?_
  refine G_iload_n dL_isPupil_225 rfl ?_
  refine G_bipush (v := 9) dL_isPupil_226 (by decide) ?_
  refine G_iload dL_isPupil_228 rfl ?_
  refine G_iadd dL_isPupil_230 ?_
  rw [e9]
  refine cv_L_59 (cs' := 0) (ss' := 0) dL_isPupil_231  (Nat.le_of_ble_eq_true rfl) (Nat.le_of_ble_eq_true rfl) (Nat.le_of_ble_eq_true rfl) rfl rfl (Nat.le_of_ble_eq_true rfl) (Nat.le_of_ble_eq_true rfl) rfl ?_
  refine u_pupil (k := 9 + j) (by assumption) (by omega) hC hO (hGo_i ?_)
  rw [pupV_s hj]
  refine G_istore dL_isPupil_234 (Nat.le_of_ble_eq_true rfl) ?_
  refine G_iconst (v := 0) dL_isPupil_236 (by decide) ?_
  refine G_istore dL_isPupil_237 (Nat.le_of_ble_eq_true rfl) ?_
  refine G_iconst (v := 0) dL_isPupil_239 (by decide) ?_
  refine G_istore dL_isPupil_240 (Nat.le_of_ble_eq_true rfl) ?_
  refine G_lv (lv' := [(0, .ref (ad E 0 0 0)), (1, .int (nI x)), (4, .int (beyV g.A x)), (5, .int (sm j (fun s => ownN (g.A.s (2 * x + s)) (nI x)))), (6, .int (nI j)), (7, .int ((nI (g.A.s (2 * x + j)).length))), (8, .int (sm 0 (fun m => nI (cN (g.A.s (2 * x + j)) (nI m) (g.A.s (2 * x + j)).length)))), (9, .int (nI 0))]) ⟨rfl, rfl, rfl, rfl, rfl, rfl, rfl, rfl, trivial⟩ ?_
  refine up0 (c := g.A.n) (H := fun i => G E C RL cL_isPupil zL_isPupil P 0 0 M 242 [(0, .ref (ad E 0 0 0)), (1, .int (nI x)), (4, .int (beyV g.A x)), (5, .int (sm j (fun s => ownN (g.A.s (2 * x + s)) (nI x)))), (6, .int (nI j)), (7, .int ((nI (g.A.s (2 * x + j)).length))), (8, .int (sm i (fun m => nI (cN (g.A.s (2 * x + j)) (nI m) (g.A.s (2 * x + j)).length)))), (9, .int (nI i))] []) ?_ (fun i hi ih => ?_)
  · refine G_iload dL_isPupil_242 rfl ?_
    refine G_aload_n dL_isPupil_244 rfl ?_
    refine G_iconst (v := 0) dL_isPupil_245 (by decide) ?_
    refine cv_L_68 (cs' := 0) (ss' := 0) dL_isPupil_246  (Nat.le_of_ble_eq_true rfl) (Nat.le_of_ble_eq_true rfl) (Nat.le_of_ble_eq_true rfl) rfl rfl (Nat.le_of_ble_eq_true rfl) (Nat.le_of_ble_eq_true rfl) rfl ?_
    refine u_count (k := 0) (by first | decide | assumption | omega) hC (hGo_i ?_)
    refine G_icmp_ge (tgt := 272) dL_isPupil_249 (by decide) (fun c249 => ?_) (fun c249 => ?_)
    · rw [hsum]
      refine G_iload dL_isPupil_272 rfl ?_
      refine G_bipush (v := 20) dL_isPupil_274 (by decide) ?_
      refine G_icmp_gt (tgt := 316) dL_isPupil_276 (by decide) (fun c276 => ?_) (fun c276 => ?_)
      · exact absurd (show nI 20 < nI (g.A.s (2 * x + j)).length from c276) (nI_nlt (by omega) (by decide))
      · refine G_iload dL_isPupil_279 rfl ?_
        refine G_iload dL_isPupil_281 rfl ?_
        refine G_icmp_ne (tgt := 316) dL_isPupil_283 (by decide) (fun c283 => ?_) (fun c283 => ?_)
        · exact absurd rfl c283
        · refine G_aload_n dL_isPupil_286 rfl ?_
          refine G_iload_n dL_isPupil_287 rfl ?_
          refine G_iload dL_isPupil_288 rfl ?_
          refine G_iload dL_isPupil_290 rfl ?_
          refine cv_L_80 (cs' := 0) (ss' := 0) dL_isPupil_292  (Nat.le_of_ble_eq_true rfl) (Nat.le_of_ble_eq_true rfl) (Nat.le_of_ble_eq_true rfl) rfl rfl (Nat.le_of_ble_eq_true rfl) (Nat.le_of_ble_eq_true rfl) rfl ?_
          refine u_piece (by first | assumption | omega) (by first | assumption | omega) hC (hGo_i ?_)
          rw [show atL (g.A.s (2 * x + j)) (nI (g.A.s (2 * x + j)).length) = -1 from if_pos (Or.inr (Int32.le_refl _))]
          refine G_iconst (v := (-1)) dL_isPupil_295 (by decide) ?_
          refine G_icmp_ne (tgt := 316) dL_isPupil_296 (by decide) (fun c296 => ?_) (fun c296 => ?_)
          · exact absurd rfl c296
          · refine G_iload dL_isPupil_299 rfl ?_
            refine G_if_le (tgt := 318) dL_isPupil_301 (by decide) (fun c301 => ?_) (fun c301 => ?_)
            · exact G_lv2 k ⟨rfl, rfl, rfl, rfl, rfl, rfl, trivial⟩
            · have l0 : 0 < (g.A.s (2 * x + j)).length := by
                rcases Nat.eq_zero_or_pos (g.A.s (2 * x + j)).length with q | q
                · exact absurd (show nI (g.A.s (2 * x + j)).length ≤ 0 by rw [q]; exact Int32.le_refl _) c301
                · exact q
              refine G_aload_n dL_isPupil_304 rfl ?_
              refine G_iload_n dL_isPupil_305 rfl ?_
              refine G_iload dL_isPupil_306 rfl ?_
              refine G_iconst (v := 0) dL_isPupil_308 (by decide) ?_
              refine cv_L_80 (cs' := 0) (ss' := 0) dL_isPupil_309  (Nat.le_of_ble_eq_true rfl) (Nat.le_of_ble_eq_true rfl) (Nat.le_of_ble_eq_true rfl) rfl rfl (Nat.le_of_ble_eq_true rfl) (Nat.le_of_ble_eq_true rfl) rfl ?_
              refine u_piece (by first | assumption | omega) (by first | assumption | omega) hC (hGo_i ?_)
              rw [show atL (g.A.s (2 * x + j)) 0 = (g.A.s (2 * x + j)).getD 0 0 from atL_in (a := 0) l0 (by omega)]
              obtain ⟨m0, hm0, e0⟩ := hm.2 0 l0
              rw [e0]
              refine G_iconst (v := (-1)) dL_isPupil_312 (by decide) ?_
              refine G_icmp_ne (tgt := 318) dL_isPupil_313 (by decide) (fun c313 => ?_) (fun c313 => ?_)
              · exact G_lv2 k ⟨rfl, rfl, rfl, rfl, rfl, rfl, trivial⟩
              · exact absurd c313 (nI_nm1 (by omega))
    · exact absurd (show nI g.A.n ≤ nI g.A.n from Int32.le_refl _) c249
  · refine G_iload dL_isPupil_242 rfl ?_
    refine G_aload_n dL_isPupil_244 rfl ?_
    refine G_iconst (v := 0) dL_isPupil_245 (by decide) ?_
    refine cv_L_68 (cs' := 0) (ss' := 0) dL_isPupil_246  (Nat.le_of_ble_eq_true rfl) (Nat.le_of_ble_eq_true rfl) (Nat.le_of_ble_eq_true rfl) rfl rfl (Nat.le_of_ble_eq_true rfl) (Nat.le_of_ble_eq_true rfl) rfl ?_
    refine u_count (k := 0) (by first | decide | assumption | omega) hC (hGo_i ?_)
    refine G_icmp_ge (tgt := 272) dL_isPupil_249 (by decide) (fun c249 => ?_) (fun c249 => ?_)
    · exact absurd (show nI g.A.n ≤ nI i from c249) (nI_ge hi (by omega))
    · refine G_iload dL_isPupil_252 rfl ?_
      refine G_aload_n dL_isPupil_254 rfl ?_
      refine G_iload_n dL_isPupil_255 rfl ?_
      refine G_iload dL_isPupil_256 rfl ?_
      refine G_iload dL_isPupil_258 rfl ?_
      refine cv_L_97 (cs' := 0) (ss' := 0) dL_isPupil_260  (Nat.le_of_ble_eq_true rfl) (Nat.le_of_ble_eq_true rfl) (Nat.le_of_ble_eq_true rfl) rfl rfl (Nat.le_of_ble_eq_true rfl) (Nat.le_of_ble_eq_true rfl) rfl ?_
      refine u_madeBy (by first | assumption | omega) (by first | assumption | omega) (by first | assumption | omega) hC (hGo_i ?_)
      rw [ofM_eq]
      refine G_iadd dL_isPupil_263 ?_
      refine G_istore dL_isPupil_264 (Nat.le_of_ble_eq_true rfl) ?_
      refine G_iinc (v := 1) dL_isPupil_266 rfl (Nat.le_of_ble_eq_true rfl) (by decide) ?_
      refine G_goto (tgt := 242) dL_isPupil_269 (by decide) ?_
      exact G_lv2 ih ⟨rfl, rfl, rfl, rfl, rfl, rfl, lvi (sm_t rfl), lvi (nI_1 i), trivial⟩
theorem ip_B2 {x j : Nat} (hx : x < g.A.n) (hj : j ≤ 1) (hC : CG M g) (hO : Okg g) (k : G E C RL cL_isPupil zL_isPupil P 0 0 M 421 [(0, .ref (ad E 0 0 0)), (1, .int (nI x)), (4, .int (beyV g.A x)), (5, .int (sm j (fun s => ownN (g.A.s (2 * x + s)) (nI x)))), (6, .int (nI j)), (7, .int ((nI (g.A.s (2 * x + j)).length)))] []) : G E C RL cL_isPupil zL_isPupil P 0 0 M 318 [(0, .ref (ad E 0 0 0)), (1, .int (nI x)), (4, .int (beyV g.A x)), (5, .int (sm j (fun s => ownN (g.A.s (2 * x + s)) (nI x)))), (6, .int (nI j)), (7, .int ((nI (g.A.s (2 * x + j)).length)))] [] := by
  have h12 := hC.1.n12
  have hm := hO.1.2.2.2.1 (2 * x + j) (by omega)
  have hl := hm.1
  have e9 : (9 : Int32) + nI j = nI (9 + j) := nI_add 9 j
  have e4 : (4 : Int32) + nI j = nI (4 + j) := nI_add 4 j
  have hmk : bc (bitsL (g.A.s (2 * x + j)) (-1) (g.A.s (2 * x + j)).length) = sm g.A.n (fun m => if 0 < cN (g.A.s (2 * x + j)) (nI m) (g.A.s (2 * x + j)).length then 1 else 0) := mk_law h12 hm.2
  have hg : 0 ≤ g.A.g (4 + j) := by
    rcases (show j = 0 ∨ j = 1 by omega) with rfl | rfl
    · exact hO.1.2.1.2.1
    · exact hO.1.2.1.2.2
  refine G_iconst (v := 0) dL_isPupil_318 (by decide) ?_
  refine G_istore dL_isPupil_319 (Nat.le_of_ble_eq_true rfl) ?_
  refine G_iconst (v := 0) dL_isPupil_321 (by decide) ?_
  refine G_istore dL_isPupil_322 (Nat.le_of_ble_eq_true rfl) ?_
  refine G_lv (lv' := [(0, .ref (ad E 0 0 0)), (1, .int (nI x)), (4, .int (beyV g.A x)), (5, .int (sm j (fun s => ownN (g.A.s (2 * x + s)) (nI x)))), (6, .int (nI j)), (7, .int ((nI (g.A.s (2 * x + j)).length))), (9, .int (sm 0 (fun m => if 0 < cN (g.A.s (2 * x + j)) (nI m) (g.A.s (2 * x + j)).length then 1 else 0))), (10, .int (nI 0))]) ⟨rfl, rfl, rfl, rfl, rfl, rfl, rfl, rfl, trivial⟩ ?_
  refine up0 (c := g.A.n) (H := fun i => G E C RL cL_isPupil zL_isPupil P 0 0 M 324 [(0, .ref (ad E 0 0 0)), (1, .int (nI x)), (4, .int (beyV g.A x)), (5, .int (sm j (fun s => ownN (g.A.s (2 * x + s)) (nI x)))), (6, .int (nI j)), (7, .int ((nI (g.A.s (2 * x + j)).length))), (9, .int (sm i (fun m => if 0 < cN (g.A.s (2 * x + j)) (nI m) (g.A.s (2 * x + j)).length then 1 else 0))), (10, .int (nI i))] []) ?_ (fun i hi ih => ?_)
  · refine G_iload dL_isPupil_324 rfl ?_
    refine G_aload_n dL_isPupil_326 rfl ?_
    refine G_iconst (v := 0) dL_isPupil_327 (by decide) ?_
    refine cv_L_68 (cs' := 0) (ss' := 0) dL_isPupil_328  (Nat.le_of_ble_eq_true rfl) (Nat.le_of_ble_eq_true rfl) (Nat.le_of_ble_eq_true rfl) rfl rfl (Nat.le_of_ble_eq_true rfl) (Nat.le_of_ble_eq_true rfl) rfl ?_
    refine u_count (k := 0) (by first | decide | assumption | omega) hC (hGo_i ?_)
    refine G_icmp_ge (tgt := 362) dL_isPupil_331 (by decide) (fun c331 => ?_) (fun c331 => ?_)
    · refine G_aload_n dL_isPupil_362 rfl ?_
      refine G_iload_n dL_isPupil_363 rfl ?_
      refine G_iload dL_isPupil_364 rfl ?_
      refine cv_L_100 (cs' := 0) (ss' := 0) dL_isPupil_366  (Nat.le_of_ble_eq_true rfl) (Nat.le_of_ble_eq_true rfl) (Nat.le_of_ble_eq_true rfl) rfl rfl (Nat.le_of_ble_eq_true rfl) (Nat.le_of_ble_eq_true rfl) rfl ?_
      refine u_makers (by first | assumption | omega) (by first | assumption | omega) hC (hGo_i ?_)
      rw [hmk]
      refine G_iload dL_isPupil_369 rfl ?_
      refine G_icmp_ne (tgt := 419) dL_isPupil_371 (by decide) (fun c371 => ?_) (fun c371 => ?_)
      · exact absurd rfl c371
      · refine G_aload_n dL_isPupil_374 rfl ?_
        refine G_iload_n dL_isPupil_375 rfl ?_
        refine G_iload dL_isPupil_376 rfl ?_
        refine cv_L_103 (cs' := 0) (ss' := 0) dL_isPupil_378  (Nat.le_of_ble_eq_true rfl) (Nat.le_of_ble_eq_true rfl) (Nat.le_of_ble_eq_true rfl) rfl rfl (Nat.le_of_ble_eq_true rfl) (Nat.le_of_ble_eq_true rfl) rfl ?_
        refine u_needs (by first | assumption | omega) (by first | assumption | omega) hC (hGo_i ?_)
        refine G_iconst (v := 0) dL_isPupil_381 (by decide) ?_
        refine G_aload_n dL_isPupil_382 rfl ?_
        refine G_iconst (v := 4) dL_isPupil_383 (by decide) ?_
        refine G_iload dL_isPupil_384 rfl ?_
        refine G_iadd dL_isPupil_386 ?_
        rw [e4]
        refine cv_L_68 (cs' := 0) (ss' := 0) dL_isPupil_387  (Nat.le_of_ble_eq_true rfl) (Nat.le_of_ble_eq_true rfl) (Nat.le_of_ble_eq_true rfl) rfl rfl (Nat.le_of_ble_eq_true rfl) (Nat.le_of_ble_eq_true rfl) rfl ?_
        refine u_count (k := 4 + j) (by omega) hC (hGo_i ?_)
        rw [cntV_s hj]
        refine G_iload dL_isPupil_390 rfl ?_
        refine G_isub dL_isPupil_392 ?_
        refine G_mmax dL_isPupil_393 (hqx 1031 (by decide +kernel) rfl) (hqx 674 (by decide +kernel) rfl) (hqx 15 (by decide +kernel) rfl) (hqx 675 (by decide +kernel) rfl) (Nat.le_of_ble_eq_true rfl) (Nat.le_of_ble_eq_true rfl) (Nat.le_of_ble_eq_true rfl) (Nat.le_of_ble_eq_true rfl) ?_
        rw [show (if 0 < g.A.g (4 + j) - (nI (g.A.s (2 * x + j)).length) then g.A.g (4 + j) - (nI (g.A.s (2 * x + j)).length) else 0) = g.A.g (4 + j) - hdV g.A x j from max_sub hg hl]
        refine G_icmp_ne (tgt := 419) dL_isPupil_396 (by decide) (fun c396 => ?_) (fun c396 => ?_)
        · exact absurd rfl c396
        · have hb := bestV_lt (f := fun p => nI (g.A.s (2 * p + j)).length) (k := g.A.n) (by omega)
          have hbm := bestV_max (f := fun p => nI (g.A.s (2 * p + j)).length) g.A.n x hx
          refine G_aload_n dL_isPupil_399 rfl ?_
          refine G_aload_n dL_isPupil_400 rfl ?_
          refine G_iload dL_isPupil_401 rfl ?_
          refine cv_L_106 (cs' := 0) (ss' := 0) dL_isPupil_403  (Nat.le_of_ble_eq_true rfl) (Nat.le_of_ble_eq_true rfl) (Nat.le_of_ble_eq_true rfl) rfl rfl (Nat.le_of_ble_eq_true rfl) (Nat.le_of_ble_eq_true rfl) rfl ?_
          refine u_mostOf (by first | assumption | omega) hC hO (hGo_i ?_)
          refine G_bipush (v := 9) dL_isPupil_406 (by decide) ?_
          refine G_iload dL_isPupil_408 rfl ?_
          refine G_iadd dL_isPupil_410 ?_
          rw [e9]
          refine cv_L_59 (cs' := 0) (ss' := 0) dL_isPupil_411  (Nat.le_of_ble_eq_true rfl) (Nat.le_of_ble_eq_true rfl) (Nat.le_of_ble_eq_true rfl) rfl rfl (Nat.le_of_ble_eq_true rfl) (Nat.le_of_ble_eq_true rfl) rfl ?_
          refine u_pupil (k := 9 + j) hb (by omega) hC hO (hGo_i ?_)
          rw [pupV_s hj]
          refine G_iload dL_isPupil_414 rfl ?_
          refine G_icmp_ge (tgt := 421) dL_isPupil_416 (by decide) (fun c416 => ?_) (fun c416 => ?_)
          · exact G_lv2 k ⟨rfl, rfl, rfl, rfl, rfl, rfl, trivial⟩
          · exact absurd hbm c416
    · exact absurd (show nI g.A.n ≤ nI g.A.n from Int32.le_refl _) c331
  · refine G_iload dL_isPupil_324 rfl ?_
    refine G_aload_n dL_isPupil_326 rfl ?_
    refine G_iconst (v := 0) dL_isPupil_327 (by decide) ?_
    refine cv_L_68 (cs' := 0) (ss' := 0) dL_isPupil_328  (Nat.le_of_ble_eq_true rfl) (Nat.le_of_ble_eq_true rfl) (Nat.le_of_ble_eq_true rfl) rfl rfl (Nat.le_of_ble_eq_true rfl) (Nat.le_of_ble_eq_true rfl) rfl ?_
    refine u_count (k := 0) (by first | decide | assumption | omega) hC (hGo_i ?_)
    refine G_icmp_ge (tgt := 362) dL_isPupil_331 (by decide) (fun c331 => ?_) (fun c331 => ?_)
    · exact absurd (show nI g.A.n ≤ nI i from c331) (nI_ge hi (by omega))
    · have cle := cN_le (L := (g.A.s (2 * x + j))) (x := nI i) (h := (g.A.s (2 * x + j)).length)
      refine G_iload dL_isPupil_334 rfl ?_
      refine G_aload_n dL_isPupil_336 rfl ?_
      refine G_iload_n dL_isPupil_337 rfl ?_
      refine G_iload dL_isPupil_338 rfl ?_
      refine G_iload dL_isPupil_340 rfl ?_
      refine cv_L_97 (cs' := 0) (ss' := 0) dL_isPupil_342  (Nat.le_of_ble_eq_true rfl) (Nat.le_of_ble_eq_true rfl) (Nat.le_of_ble_eq_true rfl) rfl rfl (Nat.le_of_ble_eq_true rfl) (Nat.le_of_ble_eq_true rfl) rfl ?_
      refine u_madeBy (by first | assumption | omega) (by first | assumption | omega) (by first | assumption | omega) hC (hGo_i ?_)
      rw [ofM_eq]
      refine G_if_le (tgt := 352) dL_isPupil_345 (by decide) (fun c345 => ?_) (fun c345 => ?_)
      · have c0 : ¬ 0 < cN (g.A.s (2 * x + j)) (nI i) (g.A.s (2 * x + j)).length := fun q => absurd (show nI (cN (g.A.s (2 * x + j)) (nI i) (g.A.s (2 * x + j)).length) ≤ 0 from c345) (nI_nle q (by omega))
        refine G_iconst (v := 0) dL_isPupil_352 (by decide) ?_
        refine G_iadd dL_isPupil_353 ?_
        refine G_istore dL_isPupil_354 (Nat.le_of_ble_eq_true rfl) ?_
        refine G_iinc (v := 1) dL_isPupil_356 rfl (Nat.le_of_ble_eq_true rfl) (by decide) ?_
        refine G_goto (tgt := 324) dL_isPupil_359 (by decide) ?_
        exact G_lv2 ih ⟨rfl, rfl, rfl, rfl, rfl, rfl, lvi (sm_t (if_neg c0)), lvi (nI_1 i), trivial⟩
      · have c0 : 0 < cN (g.A.s (2 * x + j)) (nI i) (g.A.s (2 * x + j)).length := by
          rcases Nat.eq_zero_or_pos (cN (g.A.s (2 * x + j)) (nI i) (g.A.s (2 * x + j)).length) with q | q
          · exact absurd (show nI (cN (g.A.s (2 * x + j)) (nI i) (g.A.s (2 * x + j)).length) ≤ 0 by rw [q]; exact Int32.le_refl _) c345
          · exact q
        refine G_iconst (v := 1) dL_isPupil_348 (by decide) ?_
        refine G_goto (tgt := 353) dL_isPupil_349 (by decide) ?_
        refine G_iadd dL_isPupil_353 ?_
        refine G_istore dL_isPupil_354 (Nat.le_of_ble_eq_true rfl) ?_
        refine G_iinc (v := 1) dL_isPupil_356 rfl (Nat.le_of_ble_eq_true rfl) (by decide) ?_
        refine G_goto (tgt := 324) dL_isPupil_359 (by decide) ?_
        exact G_lv2 ih ⟨rfl, rfl, rfl, rfl, rfl, rfl, lvi (sm_t (if_pos c0)), lvi (nI_1 i), trivial⟩
theorem could_law {A : Ab} {x j : Nat} (h1 : 1 ≤ A.f x (2 + j)) (h9 : A.f x (2 + j) ≤ 9) : couldV A x j = A.f x 5 / (10 - A.f x (2 + j)) ∧ ¬ 10 - A.f x (2 + j) = 0 := by
  obtain ⟨k, hk, e⟩ := nI_of (x := A.f x (2 + j)) (Int32.not_lt.mpr (Int32.le_trans (by decide) h1))
  rw [e] at h9
  have hk9 : k ≤ 9 := (nI_leI hk (by decide)).mp (show nI k ≤ nI 9 from h9)
  have e2 : (10 : Int32) - A.f x (2 + j) = nI (10 - k) := by rw [e]; exact pk_sub (a := 10) (by omega)
  unfold couldV
  rw [e2, if_pos (show (0 : Int32) < nI (10 - k) from nI_lt (a := 0) (by omega) (by omega))]
  exact ⟨rfl, nI_ne0 (by omega) (by omega)⟩
theorem ip_B3 {x j : Nat} (hx : x < g.A.n) (hj : j ≤ 1) (hC : CG M g) (hO : Okg g) (k : G E C RL cL_isPupil zL_isPupil P 0 0 M 218 [(0, .ref (ad E 0 0 0)), (1, .int (nI x)), (4, .int (beyV g.A x)), (5, .int (sm (j + 1) (fun s => ownN (g.A.s (2 * x + s)) (nI x)))), (6, .int (nI (j + 1)))] []) : G E C RL cL_isPupil zL_isPupil P 0 0 M 421 [(0, .ref (ad E 0 0 0)), (1, .int (nI x)), (4, .int (beyV g.A x)), (5, .int (sm j (fun s => ownN (g.A.s (2 * x + s)) (nI x)))), (6, .int (nI j)), (7, .int ((nI (g.A.s (2 * x + j)).length)))] [] := by
  have h12 := hC.1.n12
  have hf := hO.1.2.2.1 x hx
  have e2 : (2 : Int32) + nI j = nI (2 + j) := nI_add 2 j
  have hc := could_law (A := g.A) (x := x) (j := j) (by rcases (show j = 0 ∨ j = 1 by omega) with rfl | rfl; exact hf.1.1; exact hf.2.1.1) (by rcases (show j = 0 ∨ j = 1 by omega) with rfl | rfl; exact hf.1.2; exact hf.2.1.2)
  refine G_iload dL_isPupil_421 rfl ?_
  refine G_aload_n dL_isPupil_423 rfl ?_
  refine G_iload_n dL_isPupil_424 rfl ?_
  refine G_iload dL_isPupil_425 rfl ?_
  refine G_iload_n dL_isPupil_427 rfl ?_
  refine cv_L_97 (cs' := 0) (ss' := 0) dL_isPupil_428  (Nat.le_of_ble_eq_true rfl) (Nat.le_of_ble_eq_true rfl) (Nat.le_of_ble_eq_true rfl) rfl rfl (Nat.le_of_ble_eq_true rfl) (Nat.le_of_ble_eq_true rfl) rfl ?_
  refine u_madeBy (by first | assumption | omega) (by first | assumption | omega) (by first | assumption | omega) hC (hGo_i ?_)
  refine G_iadd dL_isPupil_431 ?_
  refine G_istore dL_isPupil_432 (Nat.le_of_ble_eq_true rfl) ?_
  refine G_aload_n dL_isPupil_434 rfl ?_
  refine G_iload_n dL_isPupil_435 rfl ?_
  refine G_iload dL_isPupil_436 rfl ?_
  refine cv_L_109 (cs' := 0) (ss' := 0) dL_isPupil_438  (Nat.le_of_ble_eq_true rfl) (Nat.le_of_ble_eq_true rfl) (Nat.le_of_ble_eq_true rfl) rfl rfl (Nat.le_of_ble_eq_true rfl) (Nat.le_of_ble_eq_true rfl) rfl ?_
  refine u_couldMake (by first | assumption | omega) (by first | assumption | omega) hC (hGo_i ?_)
  rw [hc.1]
  refine G_aload_n dL_isPupil_441 rfl ?_
  refine G_iload_n dL_isPupil_442 rfl ?_
  refine G_iconst (v := 5) dL_isPupil_443 (by decide) ?_
  refine cv_L_59 (cs' := 0) (ss' := 0) dL_isPupil_444  (Nat.le_of_ble_eq_true rfl) (Nat.le_of_ble_eq_true rfl) (Nat.le_of_ble_eq_true rfl) rfl rfl (Nat.le_of_ble_eq_true rfl) (Nat.le_of_ble_eq_true rfl) rfl ?_
  refine u_pupil (k := 5) (by first | assumption | omega) (by first | decide | assumption | omega) hC hO (hGo_i ?_)
  refine G_bipush (v := 10) dL_isPupil_447 (by decide) ?_
  refine G_aload_n dL_isPupil_449 rfl ?_
  refine G_iload_n dL_isPupil_450 rfl ?_
  refine G_iconst (v := 2) dL_isPupil_451 (by decide) ?_
  refine G_iload dL_isPupil_452 rfl ?_
  refine G_iadd dL_isPupil_454 ?_
  rw [e2]
  refine cv_L_59 (cs' := 0) (ss' := 0) dL_isPupil_455  (Nat.le_of_ble_eq_true rfl) (Nat.le_of_ble_eq_true rfl) (Nat.le_of_ble_eq_true rfl) rfl rfl (Nat.le_of_ble_eq_true rfl) (Nat.le_of_ble_eq_true rfl) rfl ?_
  refine u_pupil (k := 2 + j) (by assumption) (by omega) hC hO (hGo_i ?_)
  rw [pupV_k hj]
  refine G_isub dL_isPupil_458 ?_
  refine G_idiv dL_isPupil_459 hc.2 ?_
  refine G_icmp_eq (tgt := 465) dL_isPupil_460 (by decide) (fun c460 => ?_) (fun c460 => ?_)
  · refine G_iinc (v := 1) dL_isPupil_465 rfl (Nat.le_of_ble_eq_true rfl) (by decide) ?_
    refine G_goto (tgt := 218) dL_isPupil_468 (by decide) ?_
    exact G_lv2 k ⟨rfl, rfl, rfl, lvi (sm_t rfl), lvi (nI_1 j), trivial⟩
  · exact absurd rfl c460
theorem ip_B {x : Nat} (hx : x < g.A.n) (hC : CG M g) (hO : Okg g) (k : G E C RL cL_isPupil zL_isPupil P 0 0 M 471 [(0, .ref (ad E 0 0 0)), (1, .int (nI x)), (4, .int (beyV g.A x)), (5, .int (sm 2 (fun s => ownN (g.A.s (2 * x + s)) (nI x))))] []) : G E C RL cL_isPupil zL_isPupil P 0 0 M 212 [(0, .ref (ad E 0 0 0)), (1, .int (nI x)), (4, .int (beyV g.A x))] [] := by
  refine G_iconst (v := 0) dL_isPupil_212 (by decide) ?_
  refine G_istore dL_isPupil_213 (Nat.le_of_ble_eq_true rfl) ?_
  refine G_iconst (v := 0) dL_isPupil_215 (by decide) ?_
  refine G_istore dL_isPupil_216 (Nat.le_of_ble_eq_true rfl) ?_
  refine G_lv (lv' := [(0, .ref (ad E 0 0 0)), (1, .int (nI x)), (4, .int (beyV g.A x)), (5, .int (sm 0 (fun s => ownN (g.A.s (2 * x + s)) (nI x)))), (6, .int (nI 0))]) ⟨rfl, rfl, rfl, rfl, rfl, trivial⟩ ?_
  refine up0 (c := 2) (H := fun j => G E C RL cL_isPupil zL_isPupil P 0 0 M 218 [(0, .ref (ad E 0 0 0)), (1, .int (nI x)), (4, .int (beyV g.A x)), (5, .int (sm j (fun s => ownN (g.A.s (2 * x + s)) (nI x)))), (6, .int (nI j))] []) ?_ (fun j hj ih => ?_)
  · refine G_iload dL_isPupil_218 rfl ?_
    refine G_iconst (v := 2) dL_isPupil_220 (by decide) ?_
    refine G_icmp_ge (tgt := 471) dL_isPupil_221 (by decide) (fun c221 => ?_) (fun c221 => ?_)
    · exact G_lv2 k ⟨rfl, rfl, rfl, rfl, trivial⟩
    · exact absurd (show nI 2 ≤ nI 2 from Int32.le_refl _) c221
  · refine G_iload dL_isPupil_218 rfl ?_
    refine G_iconst (v := 2) dL_isPupil_220 (by decide) ?_
    refine G_icmp_ge (tgt := 471) dL_isPupil_221 (by decide) (fun c221 => ?_) (fun c221 => ?_)
    · exact absurd (show nI 2 ≤ nI j from c221) (nI_ge hj (by decide))
    · exact ip_B1 hx (by omega) hC hO (ip_B2 hx (by omega) hC hO (ip_B3 hx (by omega) hC hO ih))
theorem ip_C {x : Nat} (hx : x < g.A.n) (hC : CG M g) (hO : Okg g) (k : G E C RL cL_isPupil zL_isPupil P 0 0 M 525 [(0, .ref (ad E 0 0 0)), (1, .int (nI x)), (4, .int (beyV g.A x)), (5, .int (sm 2 (fun s => ownN (g.A.s (2 * x + s)) (nI x)))), (6, .int (nI (pcn (fun i => decide (dg g.A.d i 0 = nI x)) g.A.d.length)))] []) : G E C RL cL_isPupil zL_isPupil P 0 0 M 471 [(0, .ref (ad E 0 0 0)), (1, .int (nI x)), (4, .int (beyV g.A x)), (5, .int (sm 2 (fun s => ownN (g.A.s (2 * x + s)) (nI x))))] [] := by
  have h12 := hC.1.n12
  have h30 := hC.1.d.2.1
  refine G_iconst (v := 0) dL_isPupil_471 (by decide) ?_
  refine G_istore dL_isPupil_472 (Nat.le_of_ble_eq_true rfl) ?_
  refine G_iconst (v := 0) dL_isPupil_474 (by decide) ?_
  refine G_istore dL_isPupil_475 (Nat.le_of_ble_eq_true rfl) ?_
  refine G_lv (lv' := [(0, .ref (ad E 0 0 0)), (1, .int (nI x)), (4, .int (beyV g.A x)), (5, .int (sm 2 (fun s => ownN (g.A.s (2 * x + s)) (nI x)))), (6, .int (nI (pcn (fun i => decide (dg g.A.d i 0 = nI x)) 0))), (7, .int (nI 0))]) ⟨rfl, rfl, rfl, rfl, rfl, rfl, trivial⟩ ?_
  refine up0 (c := g.A.d.length) (H := fun i => G E C RL cL_isPupil zL_isPupil P 0 0 M 477 [(0, .ref (ad E 0 0 0)), (1, .int (nI x)), (4, .int (beyV g.A x)), (5, .int (sm 2 (fun s => ownN (g.A.s (2 * x + s)) (nI x)))), (6, .int (nI (pcn (fun i => decide (dg g.A.d i 0 = nI x)) i))), (7, .int (nI i))] []) ?_ (fun i hi ih => ?_)
  · refine G_iload dL_isPupil_477 rfl ?_
    refine G_aload_n dL_isPupil_479 rfl ?_
    refine G_bipush (v := 8) dL_isPupil_480 (by decide) ?_
    refine cv_L_68 (cs' := 0) (ss' := 0) dL_isPupil_482  (Nat.le_of_ble_eq_true rfl) (Nat.le_of_ble_eq_true rfl) (Nat.le_of_ble_eq_true rfl) rfl rfl (Nat.le_of_ble_eq_true rfl) (Nat.le_of_ble_eq_true rfl) rfl ?_
    refine u_count (k := 8) (by first | decide | assumption | omega) hC (hGo_i ?_)
    refine G_icmp_ge (tgt := 525) dL_isPupil_485 (by decide) (fun c485 => ?_) (fun c485 => ?_)
    · exact G_lv2 k ⟨rfl, rfl, rfl, rfl, rfl, trivial⟩
    · exact absurd (show nI g.A.d.length ≤ nI g.A.d.length from Int32.le_refl _) c485
  · refine G_iload dL_isPupil_477 rfl ?_
    refine G_aload_n dL_isPupil_479 rfl ?_
    refine G_bipush (v := 8) dL_isPupil_480 (by decide) ?_
    refine cv_L_68 (cs' := 0) (ss' := 0) dL_isPupil_482  (Nat.le_of_ble_eq_true rfl) (Nat.le_of_ble_eq_true rfl) (Nat.le_of_ble_eq_true rfl) rfl rfl (Nat.le_of_ble_eq_true rfl) (Nat.le_of_ble_eq_true rfl) rfl ?_
    refine u_count (k := 8) (by first | decide | assumption | omega) hC (hGo_i ?_)
    refine G_icmp_ge (tgt := 525) dL_isPupil_485 (by decide) (fun c485 => ?_) (fun c485 => ?_)
    · exact absurd (show nI g.A.d.length ≤ nI i from c485) (nI_ge hi (by omega))
    · refine G_aload_n dL_isPupil_488 rfl ?_
      refine G_iload dL_isPupil_489 rfl ?_
      refine G_iconst (v := 0) dL_isPupil_491 (by decide) ?_
      refine cv_L_91 (cs' := 0) (ss' := 0) dL_isPupil_492  (Nat.le_of_ble_eq_true rfl) (Nat.le_of_ble_eq_true rfl) (Nat.le_of_ble_eq_true rfl) rfl rfl (Nat.le_of_ble_eq_true rfl) (Nat.le_of_ble_eq_true rfl) rfl ?_
      refine u_debt (k := 0) (by first | assumption | omega) (by first | decide | assumption | omega) hC (hGo_i ?_)
      refine G_iload_n dL_isPupil_495 rfl ?_
      refine G_icmp_eq (tgt := 502) dL_isPupil_496 (by decide) (fun c496 => ?_) (fun c496 => ?_)
      · have hp : (fun i => decide (dg g.A.d i 0 = nI x)) i = true := decide_eq_true c496
        refine G_aload_n dL_isPupil_502 rfl ?_
        refine G_iload_n dL_isPupil_503 rfl ?_
        refine G_iload dL_isPupil_504 rfl ?_
        refine cv_L_112 (cs' := 0) (ss' := 0) dL_isPupil_506  (Nat.le_of_ble_eq_true rfl) (Nat.le_of_ble_eq_true rfl) (Nat.le_of_ble_eq_true rfl) rfl rfl (Nat.le_of_ble_eq_true rfl) (Nat.le_of_ble_eq_true rfl) rfl ?_
        refine u_debtOf (by first | assumption | omega) hC (hGo_i ?_)
        rw [show debtOfV g.A.d (nI x) (nI (pcn (fun i => decide (dg g.A.d i 0 = nI x)) i)) = nI i from nth_at hi (by omega) hp]
        refine G_iload dL_isPupil_509 rfl ?_
        refine G_icmp_eq (tgt := 516) dL_isPupil_511 (by decide) (fun c511 => ?_) (fun c511 => ?_)
        · refine G_iinc (v := 1) dL_isPupil_516 rfl (Nat.le_of_ble_eq_true rfl) (by decide) ?_
          refine G_iinc (v := 1) dL_isPupil_519 rfl (Nat.le_of_ble_eq_true rfl) (by decide) ?_
          refine G_goto (tgt := 477) dL_isPupil_522 (by decide) ?_
          exact G_lv2 ih ⟨rfl, rfl, rfl, rfl, lvi (by rw [pcn_t hp]; exact nI_1 _), lvi (nI_1 i), trivial⟩
        · exact absurd rfl c511
      · have hp : ¬ (fun i => decide (dg g.A.d i 0 = nI x)) i = true := fun q => c496 (of_decide_eq_true q)
        refine G_goto (tgt := 519) dL_isPupil_499 (by decide) ?_
        refine G_iinc (v := 1) dL_isPupil_519 rfl (Nat.le_of_ble_eq_true rfl) (by decide) ?_
        refine G_goto (tgt := 477) dL_isPupil_522 (by decide) ?_
        exact G_lv2 ih ⟨rfl, rfl, rfl, rfl, lvi (by rw [pcn_f hp]), lvi (nI_1 i), trivial⟩
theorem ip_D {x : Nat} (hx : x < g.A.n) (hC : CG M g) (hO : Okg g) (k : G E C RL cL_isPupil zL_isPupil P 0 0 M 607 [(0, .ref (ad E 0 0 0)), (1, .int (nI x)), (4, .int (beyV g.A x)), (5, .int (sm 2 (fun s => ownN (g.A.s (2 * x + s)) (nI x))))] []) : G E C RL cL_isPupil zL_isPupil P 0 0 M 525 [(0, .ref (ad E 0 0 0)), (1, .int (nI x)), (4, .int (beyV g.A x)), (5, .int (sm 2 (fun s => ownN (g.A.s (2 * x + s)) (nI x)))), (6, .int (nI (pcn (fun i => decide (dg g.A.d i 0 = nI x)) g.A.d.length)))] [] := by
  have h12 := hC.1.n12
  have h30 := hC.1.d.2.1
  have hlow : ∀ y, lowV (nearsV g.A x) y = nth (fun i => decide (i ≠ x) && nr g.A i x) g.A.n 0 y := fun y => lowV_bs _ h12 y
  refine G_iconst (v := 0) dL_isPupil_525 (by decide) ?_
  refine G_istore dL_isPupil_526 (Nat.le_of_ble_eq_true rfl) ?_
  refine G_iconst (v := 0) dL_isPupil_528 (by decide) ?_
  refine G_istore dL_isPupil_529 (Nat.le_of_ble_eq_true rfl) ?_
  refine G_lv (lv' := [(0, .ref (ad E 0 0 0)), (1, .int (nI x)), (4, .int (beyV g.A x)), (5, .int (sm 2 (fun s => ownN (g.A.s (2 * x + s)) (nI x)))), (6, .int (nI (pcn (fun i => decide (dg g.A.d i 0 = nI x)) g.A.d.length))), (7, .int (nI (pcn (fun i => decide (i ≠ x) && nr g.A i x) 0))), (8, .int (nI 0))]) ⟨rfl, rfl, rfl, rfl, rfl, rfl, rfl, trivial⟩ ?_
  refine up0 (c := g.A.n) (H := fun i => G E C RL cL_isPupil zL_isPupil P 0 0 M 531 [(0, .ref (ad E 0 0 0)), (1, .int (nI x)), (4, .int (beyV g.A x)), (5, .int (sm 2 (fun s => ownN (g.A.s (2 * x + s)) (nI x)))), (6, .int (nI (pcn (fun i => decide (dg g.A.d i 0 = nI x)) g.A.d.length))), (7, .int (nI (pcn (fun i => decide (i ≠ x) && nr g.A i x) i))), (8, .int (nI i))] []) ?_ (fun i hi ih => ?_)
  · refine G_iload dL_isPupil_531 rfl ?_
    refine G_aload_n dL_isPupil_533 rfl ?_
    refine G_iconst (v := 0) dL_isPupil_534 (by decide) ?_
    refine cv_L_68 (cs' := 0) (ss' := 0) dL_isPupil_535  (Nat.le_of_ble_eq_true rfl) (Nat.le_of_ble_eq_true rfl) (Nat.le_of_ble_eq_true rfl) rfl rfl (Nat.le_of_ble_eq_true rfl) (Nat.le_of_ble_eq_true rfl) rfl ?_
    refine u_count (k := 0) (by first | decide | assumption | omega) hC (hGo_i ?_)
    refine G_icmp_ge (tgt := 583) dL_isPupil_538 (by decide) (fun c538 => ?_) (fun c538 => ?_)
    · refine G_aload_n dL_isPupil_583 rfl ?_
      refine G_iload_n dL_isPupil_584 rfl ?_
      refine G_iload dL_isPupil_585 rfl ?_
      refine cv_L_112 (cs' := 0) (ss' := 0) dL_isPupil_587  (Nat.le_of_ble_eq_true rfl) (Nat.le_of_ble_eq_true rfl) (Nat.le_of_ble_eq_true rfl) rfl rfl (Nat.le_of_ble_eq_true rfl) (Nat.le_of_ble_eq_true rfl) rfl ?_
      refine u_debtOf (by first | assumption | omega) hC (hGo_i ?_)
      rw [show debtOfV g.A.d (nI x) (nI (pcn (fun i => decide (dg g.A.d i 0 = nI x)) g.A.d.length)) = -1 from nth_end (by omega)]
      refine G_iconst (v := (-1)) dL_isPupil_590 (by decide) ?_
      refine G_icmp_ne (tgt := 605) dL_isPupil_591 (by decide) (fun c591 => ?_) (fun c591 => ?_)
      · exact absurd rfl c591
      · refine G_aload_n dL_isPupil_594 rfl ?_
        refine G_iload_n dL_isPupil_595 rfl ?_
        refine G_iload dL_isPupil_596 rfl ?_
        refine cv_L_115 (cs' := 0) (ss' := 0) dL_isPupil_598  (Nat.le_of_ble_eq_true rfl) (Nat.le_of_ble_eq_true rfl) (Nat.le_of_ble_eq_true rfl) rfl rfl (Nat.le_of_ble_eq_true rfl) (Nat.le_of_ble_eq_true rfl) rfl ?_
        refine u_nearTo (by first | assumption | omega) hC (hGo_i ?_)
        rw [hlow, nth_end (by omega)]
        refine G_iconst (v := (-1)) dL_isPupil_601 (by decide) ?_
        refine G_icmp_eq (tgt := 607) dL_isPupil_602 (by decide) (fun c602 => ?_) (fun c602 => ?_)
        · exact G_lv2 k ⟨rfl, rfl, rfl, rfl, trivial⟩
        · exact absurd rfl c602
    · exact absurd (show nI g.A.n ≤ nI g.A.n from Int32.le_refl _) c538
  · have jn : ¬ (fun i => decide (i ≠ x) && nr g.A i x) i = true → G E C RL cL_isPupil zL_isPupil P 0 0 M 577 [(0, .ref (ad E 0 0 0)), (1, .int (nI x)), (4, .int (beyV g.A x)), (5, .int (sm 2 (fun s => ownN (g.A.s (2 * x + s)) (nI x)))), (6, .int (nI (pcn (fun i => decide (dg g.A.d i 0 = nI x)) g.A.d.length))), (7, .int (nI (pcn (fun i => decide (i ≠ x) && nr g.A i x) i))), (8, .int (nI i))] [] := fun hp => by
      refine G_iinc (v := 1) dL_isPupil_577 rfl (Nat.le_of_ble_eq_true rfl) (by decide) ?_
      refine G_goto (tgt := 531) dL_isPupil_580 (by decide) ?_
      exact G_lv2 ih ⟨rfl, rfl, rfl, rfl, rfl, lvi (by rw [pcn_f hp]), lvi (nI_1 i), trivial⟩
    refine G_iload dL_isPupil_531 rfl ?_
    refine G_aload_n dL_isPupil_533 rfl ?_
    refine G_iconst (v := 0) dL_isPupil_534 (by decide) ?_
    refine cv_L_68 (cs' := 0) (ss' := 0) dL_isPupil_535  (Nat.le_of_ble_eq_true rfl) (Nat.le_of_ble_eq_true rfl) (Nat.le_of_ble_eq_true rfl) rfl rfl (Nat.le_of_ble_eq_true rfl) (Nat.le_of_ble_eq_true rfl) rfl ?_
    refine u_count (k := 0) (by first | decide | assumption | omega) hC (hGo_i ?_)
    refine G_icmp_ge (tgt := 583) dL_isPupil_538 (by decide) (fun c538 => ?_) (fun c538 => ?_)
    · exact absurd (show nI g.A.n ≤ nI i from c538) (nI_ge hi (by omega))
    · refine G_iload dL_isPupil_541 rfl ?_
      refine G_iload_n dL_isPupil_543 rfl ?_
      refine G_icmp_eq (tgt := 577) dL_isPupil_544 (by decide) (fun c544 => ?_) (fun c544 => ?_)
      · exact jn (by
          rw [show i = x from (nI_eq (by omega) (by omega)).mp c544]
          simp)
      · have n1 : i ≠ x := fun q => c544 (by rw [q])
        refine G_aload_n dL_isPupil_547 rfl ?_
        refine G_iload dL_isPupil_548 rfl ?_
        refine G_iload_n dL_isPupil_550 rfl ?_
        refine cv_L_71 (cs' := 0) (ss' := 0) dL_isPupil_551  (Nat.le_of_ble_eq_true rfl) (Nat.le_of_ble_eq_true rfl) (Nat.le_of_ble_eq_true rfl) rfl rfl (Nat.le_of_ble_eq_true rfl) (Nat.le_of_ble_eq_true rfl) rfl ?_
        refine l_areNear (by first | assumption | omega) (by first | assumption | omega) hC hO (hGo_i ?_)
        by_cases q : nr g.A i x = true
        · have hp : (fun i => decide (i ≠ x) && nr g.A i x) i = true := by
            show (decide (i ≠ x) && nr g.A i x) = true
            rw [decide_eq_true n1, q]
            rfl
          rw [if_pos q]
          refine G_if_ne (tgt := 560) dL_isPupil_554 (by decide) (fun c554 => ?_) (fun c554 => ?_)
          · refine G_aload_n dL_isPupil_560 rfl ?_
            refine G_iload_n dL_isPupil_561 rfl ?_
            refine G_iload dL_isPupil_562 rfl ?_
            refine cv_L_115 (cs' := 0) (ss' := 0) dL_isPupil_564  (Nat.le_of_ble_eq_true rfl) (Nat.le_of_ble_eq_true rfl) (Nat.le_of_ble_eq_true rfl) rfl rfl (Nat.le_of_ble_eq_true rfl) (Nat.le_of_ble_eq_true rfl) rfl ?_
            refine u_nearTo (by first | assumption | omega) hC (hGo_i ?_)
            rw [hlow, nth_at hi (by omega) hp]
            refine G_iload dL_isPupil_567 rfl ?_
            refine G_icmp_eq (tgt := 574) dL_isPupil_569 (by decide) (fun c569 => ?_) (fun c569 => ?_)
            · refine G_iinc (v := 1) dL_isPupil_574 rfl (Nat.le_of_ble_eq_true rfl) (by decide) ?_
              refine G_iinc (v := 1) dL_isPupil_577 rfl (Nat.le_of_ble_eq_true rfl) (by decide) ?_
              refine G_goto (tgt := 531) dL_isPupil_580 (by decide) ?_
              exact G_lv2 ih ⟨rfl, rfl, rfl, rfl, rfl, lvi (by rw [pcn_t hp]; exact nI_1 _), lvi (nI_1 i), trivial⟩
            · exact absurd rfl c569
          · exact absurd c554 (by decide)
        · have hp : ¬ (fun i => decide (i ≠ x) && nr g.A i x) i = true := fun z => q (by
            have z2 : (decide (i ≠ x) && nr g.A i x) = true := z
            rw [Bool.and_eq_true] at z2
            exact z2.2)
          rw [if_neg q]
          refine G_if_ne (tgt := 560) dL_isPupil_554 (by decide) (fun c554 => ?_) (fun c554 => ?_)
          · exact absurd rfl c554
          · refine G_goto (tgt := 577) dL_isPupil_557 (by decide) ?_
            exact jn hp
theorem G_fcmpS {own : String} {b : ByteArray} {z : Zd} {cs ss pc : Nat} {lv : List (Nat × Value)} {st : List Value} {op : CmpOp} {v w : UInt32} (d : decode b pc = .ok (.fcmp op, 1)) (e : v = w) (hn : Jvm.FP.Core.fIsNaN v = false) (k : G E C own b z P cs ss M (pc + 1) lv (.int 0 :: st)) : G E C own b z P cs ss M pc lv (.float w :: .float v :: st) := by
  subst e
  obtain ⟨p', l, e, s, m, args, below, meth, c, Q⟩ := C
  intro K H locs ls hP hS hl
  refine lv_fcmp K.1 K.2.1 d ?_
  have h0 : FP.fcmp v v = some .eq := Jvm.FP.Core.fcmp_self ((Jvm.FP.Core.notNaN_iff32 v).mp hn)
  rw [h0]
  exact k K H locs ls hP hS hl
theorem fc0_no : Jvm.FP.Core.fIsNaN FP.fconst0 = false := by decide +kernel
theorem own_law {A : Ab} {x : Nat} (h : ¬ nI ((A.s (2 * x)).length + (A.s (2 * x + 1)).length) = 0) : ownV A x = FP.fdiv (FP.i2f (sm 2 (fun s => ownN (A.s (2 * x + s)) (nI x)))) (FP.i2f (nI ((A.s (2 * x)).length + (A.s (2 * x + 1)).length))) := by
  unfold ownV
  rw [if_neg (fun q => h (by rw [q]; rfl))]
  show FP.fdiv (FP.i2f (ownN (A.s (2 * x)) (nI x) + ownN (A.s (2 * x + 1)) (nI x))) _ = FP.fdiv (FP.i2f (0 + ownN (A.s (2 * x + 0)) (nI x) + ownN (A.s (2 * x + 1)) (nI x))) _
  rw [Int32.zero_add]
  rfl
theorem own_no {A : Ab} {x : Nat} (h : ¬ nI ((A.s (2 * x)).length + (A.s (2 * x + 1)).length) = 0) : Jvm.FP.Core.fIsNaN (ownV A x) = false := by
  rw [own_law h]
  refine Jvm.FP.Core.fdiv_out ?_ (Jvm.FP.Core.i2f_fin _) ?_
  · rw [Jvm.FP.Core.notNaN_iff32]
    exact (Jvm.FP.Core.i2f_fin _).ne_nan
  · rw [Jvm.FP.Core.zero_bits232]
    exact fun q => Jvm.FP.Core.i2f_ne_zero h q
theorem ip_F6 {x : Nat} (hx : x < g.A.n) (hC : CG M g) (hO : Okg g) (hG : Gd g.A) (h : P (.inl (some (.int 1))) M) : G E C RL cL_isPupil zL_isPupil P 3 36 M 862 [(0, .ref (ad E 0 0 0)), (1, .int (nI x))] [] := by
  have h12 := hC.1.n12
  obtain ⟨r, t, hr, ht, er, et⟩ := hG.2.1 x hx
  have hon : onV g.A (nI r) (nI t) = nI x := by
    refine first_at hx (fun k hk => ?_) (decide_eq_true ⟨er, et⟩)
    refine decide_eq_false (fun q => ?_)
    have := hG.2.2.1 k x (by omega) hx (q.1.trans er.symm) (q.2.trans et.symm)
    omega
  refine G_aload_n dL_isPupil_862 rfl ?_
  refine G_aload_n dL_isPupil_863 rfl ?_
  refine G_iload_n dL_isPupil_864 rfl ?_
  refine G_iconst (v := 0) dL_isPupil_865 (by decide) ?_
  refine cv_L_59 (cs' := 3) (ss' := 36) dL_isPupil_866  (Nat.le_of_ble_eq_true rfl) (Nat.le_of_ble_eq_true rfl) (Nat.le_of_ble_eq_true rfl) rfl rfl (Nat.le_of_ble_eq_true rfl) (Nat.le_of_ble_eq_true rfl) rfl ?_
  refine u_pupil (k := 0) (by first | assumption | omega) (by first | decide | assumption | omega) hC hO (hGo_i ?_)
  refine G_aload_n dL_isPupil_869 rfl ?_
  refine G_iload_n dL_isPupil_870 rfl ?_
  refine G_iconst (v := 1) dL_isPupil_871 (by decide) ?_
  refine cv_L_59 (cs' := 3) (ss' := 36) dL_isPupil_872  (Nat.le_of_ble_eq_true rfl) (Nat.le_of_ble_eq_true rfl) (Nat.le_of_ble_eq_true rfl) rfl rfl (Nat.le_of_ble_eq_true rfl) (Nat.le_of_ble_eq_true rfl) rfl ?_
  refine u_pupil (k := 1) (by first | assumption | omega) (by first | decide | assumption | omega) hC hO (hGo_i ?_)
  refine G_st (st' := [.int (nI t), .int (nI r), .ref (ad E 0 0 0)]) (by rw [← et, ← er]; rfl) rfl rfl ?_
  refine cv_L_134 (cs' := 3) (ss' := 36) dL_isPupil_875  (Nat.le_of_ble_eq_true rfl) (Nat.le_of_ble_eq_true rfl) (Nat.le_of_ble_eq_true rfl) rfl rfl (Nat.le_of_ble_eq_true rfl) (Nat.le_of_ble_eq_true rfl) rfl ?_
  refine u_bench (by first | assumption | omega) (by first | assumption | omega) hC (hGo_i ?_)
  rw [hon]
  refine G_iload_n dL_isPupil_878 rfl ?_
  refine G_icmp_ne (tgt := 886) dL_isPupil_879 (by decide) (fun c879 => ?_) (fun c879 => ?_)
  · exact absurd rfl c879
  · refine G_iconst (v := 1) dL_isPupil_882 (by decide) ?_
    refine G_goto (tgt := 887) dL_isPupil_883 (by decide) ?_
    refine G_iret dL_isPupil_887 rfl rfl (Nat.le_of_ble_eq_true rfl) (Nat.le_of_ble_eq_true rfl) ?_
    exact h
theorem ifWeek_0 {A : Ab} {x : Nat} : ifWeekV A x 0 = lackV A x := if_pos rfl
theorem ifWeek_1 {A : Ab} {x : Nat} : ifWeekV A x 1 = growV A x := by
  unfold ifWeekV
  rw [if_neg (by decide), if_pos rfl]
theorem ifWeek_2 {A : Ab} {x : Nat} : ifWeekV A x 2 = detV A x (A.f x 6 + growV A x) := by
  unfold ifWeekV
  rw [if_neg (by decide), if_neg (by decide)]
theorem ip_F5 {x : Nat} (hx : x < g.A.n) (hC : CG M g) (hO : Okg g) (hX : xOk E M.2) (k : G E C RL cL_isPupil zL_isPupil P 3 36 M 862 [(0, .ref (ad E 0 0 0)), (1, .int (nI x))] []) : G E C RL cL_isPupil zL_isPupil P 1 12 M 820 [(0, .ref (ad E 0 0 0)), (1, .int (nI x))] [] := by
  refine G_aload_n dL_isPupil_820 rfl ?_
  refine G_iload_n dL_isPupil_821 rfl ?_
  refine G_iconst (v := 0) dL_isPupil_822 (by decide) ?_
  refine cv_L_128 (cs' := 1) (ss' := 12) dL_isPupil_823  (Nat.le_of_ble_eq_true rfl) (Nat.le_of_ble_eq_true rfl) (Nat.le_of_ble_eq_true rfl) rfl rfl (Nat.le_of_ble_eq_true rfl) (Nat.le_of_ble_eq_true rfl) rfl ?_
  refine u_ifWeek (k := 0) (by first | assumption | omega) (by first | decide | assumption | omega) hC hO (hGo_i ?_)
  rw [ifWeek_0]
  refine G_aload_n dL_isPupil_826 rfl ?_
  refine G_iload_n dL_isPupil_827 rfl ?_
  refine cv_L_122 (cs' := 1) (ss' := 12) dL_isPupil_828  (Nat.le_of_ble_eq_true rfl) (Nat.le_of_ble_eq_true rfl) (Nat.le_of_ble_eq_true rfl) rfl rfl (Nat.le_of_ble_eq_true rfl) (Nat.le_of_ble_eq_true rfl) rfl ?_
  refine l_marks (by first | assumption | omega) hC hO (hGo_i ?_)
  refine G_icmp_ne (tgt := 886) dL_isPupil_831 (by decide) (fun c831 => ?_) (fun c831 => ?_)
  · exact absurd rfl c831
  · refine G_aload_n dL_isPupil_834 rfl ?_
    refine G_iload_n dL_isPupil_835 rfl ?_
    refine G_iconst (v := 1) dL_isPupil_836 (by decide) ?_
    refine cv_L_128 (cs' := 1) (ss' := 12) dL_isPupil_837  (Nat.le_of_ble_eq_true rfl) (Nat.le_of_ble_eq_true rfl) (Nat.le_of_ble_eq_true rfl) rfl rfl (Nat.le_of_ble_eq_true rfl) (Nat.le_of_ble_eq_true rfl) rfl ?_
    refine u_ifWeek (k := 1) (by first | assumption | omega) (by first | decide | assumption | omega) hC hO (hGo_i ?_)
    rw [ifWeek_1]
    refine G_aload_n dL_isPupil_840 rfl ?_
    refine G_iload_n dL_isPupil_841 rfl ?_
    refine cv_L_87 (cs' := 2) (ss' := 24) dL_isPupil_842  (Nat.le_of_ble_eq_true rfl) (Nat.le_of_ble_eq_true rfl) (Nat.le_of_ble_eq_true rfl) rfl rfl (Nat.le_of_ble_eq_true rfl) (Nat.le_of_ble_eq_true rfl) rfl ?_
    refine l_growth (by first | assumption | omega) hC hO hX (hGo_i ?_)
    refine G_icmp_ne (tgt := 886) dL_isPupil_845 (by decide) (fun c845 => ?_) (fun c845 => ?_)
    · exact absurd rfl c845
    · refine G_aload_n dL_isPupil_848 rfl ?_
      refine G_iload_n dL_isPupil_849 rfl ?_
      refine G_iconst (v := 2) dL_isPupil_850 (by decide) ?_
      refine cv_L_128 (cs' := 2) (ss' := 24) dL_isPupil_851  (Nat.le_of_ble_eq_true rfl) (Nat.le_of_ble_eq_true rfl) (Nat.le_of_ble_eq_true rfl) rfl rfl (Nat.le_of_ble_eq_true rfl) (Nat.le_of_ble_eq_true rfl) rfl ?_
      refine u_ifWeek (k := 2) (by first | assumption | omega) (by first | decide | assumption | omega) hC hO (hGo_i ?_)
      rw [ifWeek_2]
      refine G_aload_n dL_isPupil_854 rfl ?_
      refine G_iload_n dL_isPupil_855 rfl ?_
      refine cv_L_131 (cs' := 3) (ss' := 36) dL_isPupil_856  (Nat.le_of_ble_eq_true rfl) (Nat.le_of_ble_eq_true rfl) (Nat.le_of_ble_eq_true rfl) rfl rfl (Nat.le_of_ble_eq_true rfl) (Nat.le_of_ble_eq_true rfl) rfl ?_
      refine l_detention (by first | assumption | omega) hC hO hX (hGo_i ?_)
      refine G_icmp_ne (tgt := 886) dL_isPupil_859 (by decide) (fun c859 => ?_) (fun c859 => ?_)
      · exact absurd rfl c859
      · exact k
theorem ip_F3 {x : Nat} (hx : x < g.A.n) (hC : CG M g) (hO : Okg g) (hX : xOk E M.2) (hG : Gd g.A) (h : P (.inl (some (.int 1))) M) : G E C RL cL_isPupil zL_isPupil P 1 12 M 796 [(0, .ref (ad E 0 0 0)), (1, .int (nI x)), (10, .int (standV g.A x))] [.int (whyV g.A x)] := by
  refine G_istore dL_isPupil_796 (Nat.le_of_ble_eq_true rfl) ?_
  refine G_aload_n dL_isPupil_798 rfl ?_
  refine G_iload_n dL_isPupil_799 rfl ?_
  refine G_iconst (v := 0) dL_isPupil_800 (by decide) ?_
  refine cv_L_125 (cs' := 1) (ss' := 12) dL_isPupil_801  (Nat.le_of_ble_eq_true rfl) (Nat.le_of_ble_eq_true rfl) (Nat.le_of_ble_eq_true rfl) rfl rfl (Nat.le_of_ble_eq_true rfl) (Nat.le_of_ble_eq_true rfl) rfl ?_
  refine u_why0 (by assumption) hC hO (hGo_i ?_)
  refine G_iload dL_isPupil_804 rfl ?_
  refine G_icmp_ne (tgt := 886) dL_isPupil_806 (by decide) (fun c806 => ?_) (fun c806 => ?_)
  · exact absurd rfl c806
  · refine G_aload_n dL_isPupil_809 rfl ?_
    refine G_iload_n dL_isPupil_810 rfl ?_
    refine G_iconst (v := 1) dL_isPupil_811 (by decide) ?_
    refine cv_L_125 (cs' := 1) (ss' := 12) dL_isPupil_812  (Nat.le_of_ble_eq_true rfl) (Nat.le_of_ble_eq_true rfl) (Nat.le_of_ble_eq_true rfl) rfl rfl (Nat.le_of_ble_eq_true rfl) (Nat.le_of_ble_eq_true rfl) rfl ?_
    refine u_why1 (by assumption) hC hO (hGo_i ?_)
    refine G_iload dL_isPupil_815 rfl ?_
    refine G_icmp_ne (tgt := 886) dL_isPupil_817 (by decide) (fun c817 => ?_) (fun c817 => ?_)
    · exact absurd rfl c817
    · exact G_lv2 (ip_F5 hx hC hO hX (ip_F6 hx hC hO hG h)) ⟨rfl, rfl, trivial⟩
theorem ip_F2 {x : Nat} (k : G E C RL cL_isPupil zL_isPupil P 1 12 M 796 [(0, .ref (ad E 0 0 0)), (1, .int (nI x)), (10, .int (standV g.A x))] [.int (whyV g.A x)]) (hx : x < g.A.n) (hC : CG M g) (hO : Okg g) : G E C RL cL_isPupil zL_isPupil P 1 12 M 717 [(0, .ref (ad E 0 0 0)), (1, .int (nI x)), (4, .int (beyV g.A x)), (9, .int (g.A.f x 6 + growV g.A x))] [.int (standV g.A x)] := by
  have k2 : ∀ c : Int32, c = whyV g.A x → G E C RL cL_isPupil zL_isPupil P 1 12 M 796 [(0, .ref (ad E 0 0 0)), (1, .int (nI x)), (4, .int (beyV g.A x)), (9, .int (g.A.f x 6 + growV g.A x)), (10, .int (standV g.A x))] [.int c] := fun c ec => by
    subst ec
    exact G_lv2 k ⟨rfl, rfl, rfl, trivial⟩
  refine G_istore dL_isPupil_717 (Nat.le_of_ble_eq_true rfl) ?_
  refine G_iload dL_isPupil_719 rfl ?_
  refine G_iconst (v := 1) dL_isPupil_721 (by decide) ?_
  refine G_icmp_ne (tgt := 738) dL_isPupil_722 (by decide) (fun c722 => ?_) (fun c722 => ?_)
  · have n1 : ¬ standV g.A x = 1 := c722
    refine G_iload dL_isPupil_738 rfl ?_
    refine G_iconst (v := 2) dL_isPupil_740 (by decide) ?_
    refine G_icmp_ne (tgt := 753) dL_isPupil_741 (by decide) (fun c741 => ?_) (fun c741 => ?_)
    · have n2 : ¬ standV g.A x = 2 := c741
      refine G_iload dL_isPupil_753 rfl ?_
      refine G_iconst (v := 3) dL_isPupil_755 (by decide) ?_
      refine G_icmp_ne (tgt := 771) dL_isPupil_756 (by decide) (fun c756 => ?_) (fun c756 => ?_)
      · have n3 : ¬ standV g.A x = 3 := c756
        refine G_iload dL_isPupil_771 rfl ?_
        refine G_iconst (v := 4) dL_isPupil_773 (by decide) ?_
        refine G_icmp_ne (tgt := 786) dL_isPupil_774 (by decide) (fun c774 => ?_) (fun c774 => ?_)
        · have n4 : ¬ standV g.A x = 4 := c774
          refine G_sipush (v := 500) dL_isPupil_786 (by decide) ?_
          refine G_aload_n dL_isPupil_789 rfl ?_
          refine G_iload_n dL_isPupil_790 rfl ?_
          refine G_iconst (v := 5) dL_isPupil_791 (by decide) ?_
          refine cv_L_59 (cs' := 1) (ss' := 12) dL_isPupil_792  (Nat.le_of_ble_eq_true rfl) (Nat.le_of_ble_eq_true rfl) (Nat.le_of_ble_eq_true rfl) rfl rfl (Nat.le_of_ble_eq_true rfl) (Nat.le_of_ble_eq_true rfl) rfl ?_
          refine u_pupil (k := 5) (by first | assumption | omega) (by first | decide | assumption | omega) hC hO (hGo_i ?_)
          refine G_iadd dL_isPupil_795 ?_
          exact G_lv2 (k2 _ (by unfold whyV; rw [if_neg n1, if_neg n2, if_neg n3, if_neg n4]; rfl)) ⟨rfl, rfl, rfl, rfl, rfl, trivial⟩
        · have n4 : standV g.A x = 4 := c774
          refine G_sipush (v := 400) dL_isPupil_777 (by decide) ?_
          refine G_iload dL_isPupil_780 rfl ?_
          refine G_iadd dL_isPupil_782 ?_
          refine G_goto (tgt := 796) dL_isPupil_783 (by decide) ?_
          exact G_lv2 (k2 _ (by unfold whyV; rw [if_neg n1, if_neg n2, if_neg n3, if_pos n4])) ⟨rfl, rfl, rfl, rfl, rfl, trivial⟩
      · have n3 : standV g.A x = 3 := c756
        refine G_sipush (v := 300) dL_isPupil_759 (by decide) ?_
        refine G_aload_n dL_isPupil_762 rfl ?_
        refine G_iload_n dL_isPupil_763 rfl ?_
        refine cv_L_122 (cs' := 1) (ss' := 12) dL_isPupil_764  (Nat.le_of_ble_eq_true rfl) (Nat.le_of_ble_eq_true rfl) (Nat.le_of_ble_eq_true rfl) rfl rfl (Nat.le_of_ble_eq_true rfl) (Nat.le_of_ble_eq_true rfl) rfl ?_
        refine l_marks (by first | assumption | omega) hC hO (hGo_i ?_)
        refine G_iadd dL_isPupil_767 ?_
        refine G_goto (tgt := 796) dL_isPupil_768 (by decide) ?_
        exact G_lv2 (k2 _ (by unfold whyV; rw [if_neg n1, if_neg n2, if_pos n3])) ⟨rfl, rfl, rfl, rfl, rfl, trivial⟩
    · have n2 : standV g.A x = 2 := c741
      refine G_sipush (v := 200) dL_isPupil_744 (by decide) ?_
      refine G_iload dL_isPupil_747 rfl ?_
      refine G_iadd dL_isPupil_749 ?_
      refine G_goto (tgt := 796) dL_isPupil_750 (by decide) ?_
      exact G_lv2 (k2 _ (by unfold whyV; rw [if_neg n1, if_pos n2])) ⟨rfl, rfl, rfl, rfl, rfl, trivial⟩
  · have n1 : standV g.A x = 1 := c722
    refine G_bipush (v := 100) dL_isPupil_725 (by decide) ?_
    refine G_aload_n dL_isPupil_727 rfl ?_
    refine G_iload_n dL_isPupil_728 rfl ?_
    refine G_bipush (v := 8) dL_isPupil_729 (by decide) ?_
    refine cv_L_59 (cs' := 1) (ss' := 12) dL_isPupil_731  (Nat.le_of_ble_eq_true rfl) (Nat.le_of_ble_eq_true rfl) (Nat.le_of_ble_eq_true rfl) rfl rfl (Nat.le_of_ble_eq_true rfl) (Nat.le_of_ble_eq_true rfl) rfl ?_
    refine u_pupil (k := 8) (by first | assumption | omega) (by first | decide | assumption | omega) hC hO (hGo_i ?_)
    refine G_iadd dL_isPupil_734 ?_
    refine G_goto (tgt := 796) dL_isPupil_735 (by decide) ?_
    exact G_lv2 (k2 _ (by unfold whyV; rw [if_pos n1]; rfl)) ⟨rfl, rfl, rfl, rfl, rfl, trivial⟩
theorem ip_F1 {x : Nat} (hx : x < g.A.n) (hC : CG M g) (hO : Okg g) (hX : xOk E M.2) (k : G E C RL cL_isPupil zL_isPupil P 1 12 M 717 [(0, .ref (ad E 0 0 0)), (1, .int (nI x)), (4, .int (beyV g.A x)), (9, .int (g.A.f x 6 + growV g.A x))] [.int (standV g.A x)]) : G E C RL cL_isPupil zL_isPupil P 0 0 M 651 [(0, .ref (ad E 0 0 0)), (1, .int (nI x)), (4, .int (beyV g.A x))] [] := by
  have k2 : ∀ c : Int32, c = standV g.A x → G E C RL cL_isPupil zL_isPupil P 1 12 M 717 [(0, .ref (ad E 0 0 0)), (1, .int (nI x)), (4, .int (beyV g.A x)), (9, .int (g.A.f x 6 + growV g.A x))] [.int c] := fun c ec => by
    subst ec
    exact k
  refine G_aload_n dL_isPupil_651 rfl ?_
  refine G_iload_n dL_isPupil_652 rfl ?_
  refine G_bipush (v := 6) dL_isPupil_653 (by decide) ?_
  refine cv_L_59 (cs' := 0) (ss' := 0) dL_isPupil_655  (Nat.le_of_ble_eq_true rfl) (Nat.le_of_ble_eq_true rfl) (Nat.le_of_ble_eq_true rfl) rfl rfl (Nat.le_of_ble_eq_true rfl) (Nat.le_of_ble_eq_true rfl) rfl ?_
  refine u_pupil (k := 6) (by first | assumption | omega) (by first | decide | assumption | omega) hC hO (hGo_i ?_)
  refine G_aload_n dL_isPupil_658 rfl ?_
  refine G_iload_n dL_isPupil_659 rfl ?_
  refine cv_L_87 (cs' := 1) (ss' := 12) dL_isPupil_660  (Nat.le_of_ble_eq_true rfl) (Nat.le_of_ble_eq_true rfl) (Nat.le_of_ble_eq_true rfl) rfl rfl (Nat.le_of_ble_eq_true rfl) (Nat.le_of_ble_eq_true rfl) rfl ?_
  refine l_growth (by first | assumption | omega) hC hO hX (hGo_i ?_)
  refine G_iadd dL_isPupil_663 ?_
  refine G_istore dL_isPupil_664 (Nat.le_of_ble_eq_true rfl) ?_
  refine G_aload_n dL_isPupil_666 rfl ?_
  refine G_iload_n dL_isPupil_667 rfl ?_
  refine G_bipush (v := 8) dL_isPupil_668 (by decide) ?_
  refine cv_L_59 (cs' := 1) (ss' := 12) dL_isPupil_670  (Nat.le_of_ble_eq_true rfl) (Nat.le_of_ble_eq_true rfl) (Nat.le_of_ble_eq_true rfl) rfl rfl (Nat.le_of_ble_eq_true rfl) (Nat.le_of_ble_eq_true rfl) rfl ?_
  refine u_pupil (k := 8) (by first | assumption | omega) (by first | decide | assumption | omega) hC hO (hGo_i ?_)
  refine G_if_le (tgt := 680) dL_isPupil_673 (by decide) (fun c673 => ?_) (fun c673 => ?_)
  · have n1 : ¬ 0 < g.A.f x 8 := Int32.not_lt.mpr c673
    refine G_iload dL_isPupil_680 rfl ?_
    refine G_aload_n dL_isPupil_682 rfl ?_
    refine G_iconst (v := 3) dL_isPupil_683 (by decide) ?_
    refine cv_L_68 (cs' := 1) (ss' := 12) dL_isPupil_684  (Nat.le_of_ble_eq_true rfl) (Nat.le_of_ble_eq_true rfl) (Nat.le_of_ble_eq_true rfl) rfl rfl (Nat.le_of_ble_eq_true rfl) (Nat.le_of_ble_eq_true rfl) rfl ?_
    refine u_count (k := 3) (by first | decide | assumption | omega) hC (hGo_i ?_)
    refine G_icmp_lt (tgt := 694) dL_isPupil_687 (by decide) (fun c687 => ?_) (fun c687 => ?_)
    · have n2 : ¬ g.A.g 3 ≤ g.A.f x 6 + growV g.A x := Int32.not_le.mpr c687
      refine G_aload_n dL_isPupil_694 rfl ?_
      refine G_iload_n dL_isPupil_695 rfl ?_
      refine cv_L_122 (cs' := 1) (ss' := 12) dL_isPupil_696  (Nat.le_of_ble_eq_true rfl) (Nat.le_of_ble_eq_true rfl) (Nat.le_of_ble_eq_true rfl) rfl rfl (Nat.le_of_ble_eq_true rfl) (Nat.le_of_ble_eq_true rfl) rfl ?_
      refine l_marks (by first | assumption | omega) hC hO (hGo_i ?_)
      refine G_if_le (tgt := 706) dL_isPupil_699 (by decide) (fun c699 => ?_) (fun c699 => ?_)
      · have n3 : ¬ 0 < lackV g.A x := Int32.not_lt.mpr c699
        refine G_iload dL_isPupil_706 rfl ?_
        refine G_iconst (v := (-1)) dL_isPupil_708 (by decide) ?_
        refine G_icmp_eq (tgt := 716) dL_isPupil_709 (by decide) (fun c709 => ?_) (fun c709 => ?_)
        · have n4 : beyV g.A x = -1 := c709
          refine G_iconst (v := 5) dL_isPupil_716 (by decide) ?_
          exact G_lv2 (k2 _ (by unfold standV; rw [if_neg n1, if_neg n2, if_neg n3, if_pos n4])) ⟨rfl, rfl, rfl, rfl, trivial⟩
        · have n4 : ¬ beyV g.A x = -1 := c709
          refine G_iconst (v := 4) dL_isPupil_712 (by decide) ?_
          refine G_goto (tgt := 717) dL_isPupil_713 (by decide) ?_
          exact G_lv2 (k2 _ (by unfold standV; rw [if_neg n1, if_neg n2, if_neg n3, if_neg n4])) ⟨rfl, rfl, rfl, rfl, trivial⟩
      · have n3 : 0 < lackV g.A x := Int32.not_le.mp c699
        refine G_iconst (v := 3) dL_isPupil_702 (by decide) ?_
        refine G_goto (tgt := 717) dL_isPupil_703 (by decide) ?_
        exact G_lv2 (k2 _ (by unfold standV; rw [if_neg n1, if_neg n2, if_pos n3])) ⟨rfl, rfl, rfl, rfl, trivial⟩
    · have n2 : g.A.g 3 ≤ g.A.f x 6 + growV g.A x := Int32.not_lt.mp c687
      refine G_iconst (v := 2) dL_isPupil_690 (by decide) ?_
      refine G_goto (tgt := 717) dL_isPupil_691 (by decide) ?_
      exact G_lv2 (k2 _ (by unfold standV; rw [if_neg n1, if_pos n2])) ⟨rfl, rfl, rfl, rfl, trivial⟩
  · have n1 : 0 < g.A.f x 8 := Int32.not_le.mp c673
    refine G_iconst (v := 1) dL_isPupil_676 (by decide) ?_
    refine G_goto (tgt := 717) dL_isPupil_677 (by decide) ?_
    exact G_lv2 (k2 _ (by unfold standV; rw [if_pos n1])) ⟨rfl, rfl, rfl, rfl, trivial⟩
theorem ip_F0 {x : Nat} (hx : x < g.A.n) (hC : CG M g) (hO : Okg g) (k : G E C RL cL_isPupil zL_isPupil P 0 0 M 651 [(0, .ref (ad E 0 0 0)), (1, .int (nI x)), (4, .int (beyV g.A x))] []) : G E C RL cL_isPupil zL_isPupil P 0 0 M 607 [(0, .ref (ad E 0 0 0)), (1, .int (nI x)), (4, .int (beyV g.A x)), (5, .int (sm 2 (fun s => ownN (g.A.s (2 * x + s)) (nI x))))] [] := by
  have hm1 := (hO.1.2.2.2.1 (2 * x) (by omega)).1
  have hm2 := (hO.1.2.2.2.1 (2 * x + 1) (by omega)).1
  refine G_aload_n dL_isPupil_607 rfl ?_
  refine G_iload_n dL_isPupil_608 rfl ?_
  refine G_bipush (v := 9) dL_isPupil_609 (by decide) ?_
  refine cv_L_59 (cs' := 0) (ss' := 0) dL_isPupil_611  (Nat.le_of_ble_eq_true rfl) (Nat.le_of_ble_eq_true rfl) (Nat.le_of_ble_eq_true rfl) rfl rfl (Nat.le_of_ble_eq_true rfl) (Nat.le_of_ble_eq_true rfl) rfl ?_
  refine u_pupil (k := 9) (by first | assumption | omega) (by first | decide | assumption | omega) hC hO (hGo_i ?_)
  refine G_aload_n dL_isPupil_614 rfl ?_
  refine G_iload_n dL_isPupil_615 rfl ?_
  refine G_bipush (v := 10) dL_isPupil_616 (by decide) ?_
  refine cv_L_59 (cs' := 0) (ss' := 0) dL_isPupil_618  (Nat.le_of_ble_eq_true rfl) (Nat.le_of_ble_eq_true rfl) (Nat.le_of_ble_eq_true rfl) rfl rfl (Nat.le_of_ble_eq_true rfl) (Nat.le_of_ble_eq_true rfl) rfl ?_
  refine u_pupil (k := 10) (by first | assumption | omega) (by first | decide | assumption | omega) hC hO (hGo_i ?_)
  refine G_st (st' := [.int (nI (g.A.s (2 * x + 1)).length), .int (nI (g.A.s (2 * x)).length)]) rfl rfl rfl ?_
  refine G_iadd dL_isPupil_621 ?_
  rw [nI_add]
  refine G_istore dL_isPupil_622 (Nat.le_of_ble_eq_true rfl) ?_
  refine G_aload_n dL_isPupil_624 rfl ?_
  refine G_iload_n dL_isPupil_625 rfl ?_
  refine cv_L_118 (cs' := 0) (ss' := 0) dL_isPupil_626  (Nat.le_of_ble_eq_true rfl) (Nat.le_of_ble_eq_true rfl) (Nat.le_of_ble_eq_true rfl) rfl rfl (Nat.le_of_ble_eq_true rfl) (Nat.le_of_ble_eq_true rfl) rfl ?_
  refine u_ownShare (by first | assumption | omega) hC (hGo_f ?_)
  refine G_iload dL_isPupil_629 rfl ?_
  refine G_if_ne (tgt := 638) dL_isPupil_631 (by decide) (fun c631 => ?_) (fun c631 => ?_)
  · have hne : ¬ (nI ((g.A.s (2 * x)).length + (g.A.s (2 * x + 1)).length)) = 0 := c631
    refine G_iload dL_isPupil_638 rfl ?_
    refine G_i2f dL_isPupil_640 ?_
    refine G_iload dL_isPupil_641 rfl ?_
    refine G_i2f dL_isPupil_643 ?_
    refine G_fdiv dL_isPupil_644 (qn32 hne) ?_
    refine G_fcmpS dL_isPupil_645 (own_law hne) (own_no hne) ?_
    refine G_if_eq (tgt := 651) dL_isPupil_646 (by decide) (fun c646 => ?_) (fun c646 => ?_)
    · exact G_lv2 k ⟨rfl, rfl, rfl, trivial⟩
    · exact absurd rfl c646
  · have he : (nI ((g.A.s (2 * x)).length + (g.A.s (2 * x + 1)).length)) = 0 := c631
    refine G_fconst0 dL_isPupil_634 ?_
    refine G_goto (tgt := 645) dL_isPupil_635 (by decide) ?_
    have e0 : ownV g.A x = FP.fconst0 := by
      unfold ownV
      exact if_pos ((nI_eq (b := 0) (by omega) (by decide)).mp he)
    have en : Jvm.FP.Core.fIsNaN (ownV g.A x) = false := by rw [e0]; exact fc0_no
    refine G_fcmpS (v := ownV g.A x) (w := FP.fconst0) dL_isPupil_645 e0 en ?_
    refine G_if_eq (tgt := 651) dL_isPupil_646 (by decide) (fun c646 => ?_) (fun c646 => ?_)
    · exact G_lv2 k ⟨rfl, rfl, rfl, trivial⟩
    · exact absurd rfl c646
theorem l_isPupil {x : Nat} (hx : x < g.A.n) (hC : CG M g) (hO : Okg g) (hX : xOk E M.2) (hG : Gd g.A) (h : P (.inl (some (.int 1))) M) : Sp E yL_isPupil cL_isPupil zL_isPupil [.ref (ad E 0 0 0), .int (nI x)] M P := by
  refine Sp_of (own := RL) (by decide) rfl rfl (Nat.le_of_ble_eq_true rfl) (fun C => ?_)
  refine G_iconst (v := 0) dL_isPupil_0 (by decide) ?_
  refine G_istore_n dL_isPupil_1 (Nat.le_of_ble_eq_true rfl) ?_
  refine G_iconst (v := 0) dL_isPupil_2 (by decide) ?_
  refine G_istore_n dL_isPupil_3 (Nat.le_of_ble_eq_true rfl) ?_
  refine G_iconst (v := (-1)) dL_isPupil_4 (by decide) ?_
  refine G_istore dL_isPupil_5 (Nat.le_of_ble_eq_true rfl) ?_
  refine G_iconst (v := 0) dL_isPupil_7 (by decide) ?_
  refine G_istore dL_isPupil_8 (Nat.le_of_ble_eq_true rfl) ?_
  exact G_lv2 (ip_A hx hC hO hG (ip_B hx hC hO (ip_C hx hC hO (ip_D hx hC hO (ip_F0 hx hC hO (ip_F1 hx hC hO hX (ip_F2 (ip_F3 hx hC hO hX hG h) hx hC hO))))))) ⟨rfl, rfl, rfl, rfl, rfl, rfl, trivial⟩
end LPUPIL
