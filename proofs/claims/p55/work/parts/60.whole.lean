/-! ===== the law's isWhole ===== -/
section LWHOLE
variable {E : Ed} {M : Mm} {P : Res → Mm → Prop} {g : Gs} {C : Cx}
/-- what picks the pupil that is looked at is no negative number -/
def Ps (A : Ab) : Prop := ∃ t, t < 2 ^ 30 ∧ A.g 1 + A.g 7 + A.g 9 + 3 * A.g 14 = nI t
theorem sm_add {f h : Nat → Int32} : ∀ n, sm n (fun k => f k + h k) = sm n f + sm n h
  | 0 => rfl
  | n + 1 => by
    show sm n (fun k => f k + h k) + (f n + h n) = sm n f + f n + (sm n h + h n)
    rw [sm_add n, Int32.add_assoc, Int32.add_assoc, ← Int32.add_assoc (sm n h), Int32.add_comm (sm n h) (f n), Int32.add_assoc (f n)]
theorem sm_one {x : Nat} {v : Int32} (hx : x < 2 ^ 31) : ∀ n, n < 2 ^ 31 → sm n (fun p => if nI x = nI p then v else 0) = if x < n then v else 0
  | 0, _ => rfl
  | n + 1, hn => by
    show sm n (fun p => if nI x = nI p then v else 0) + (if nI x = nI n then v else 0) = _
    rw [sm_one hx n (by omega)]
    by_cases q : x = n
    · rw [if_neg (by omega), if_pos (by rw [q]), if_pos (by omega), Int32.zero_add]
    · rw [if_neg (fun z => q ((nI_eq hx (by omega)).mp z)), Int32.add_zero]
      by_cases z : x < n
      · rw [if_pos z, if_pos (by omega)]
      · rw [if_neg z, if_neg (by omega)]
theorem sm_z : ∀ n, sm n (fun _ => (0 : Int32)) = 0
  | 0 => rfl
  | n + 1 => by
    show sm n (fun _ => (0 : Int32)) + 0 = 0
    rw [sm_z n]
    rfl
theorem sm_swap {n : Nat} {k v : Nat → Int32} (hn : n < 2 ^ 31) : ∀ L, (∀ i, i < L → ∃ x, x < n ∧ k i = nI x) → sm n (fun p => sm L (fun i => if k i = nI p then v i else 0)) = sm L v
  | 0, _ => sm_z n
  | L + 1, h => by
    obtain ⟨x, hx, e⟩ := h L (by omega)
    show sm n (fun p => sm L (fun i => if k i = nI p then v i else 0) + (if k L = nI p then v L else 0)) = sm L v + v L
    rw [sm_add, sm_swap hn L (fun i hi => h i (by omega)), e, sm_one (by omega) n hn, if_pos hx]
theorem gap_0 {A : Ab} (hO : Ok A) (hG : Gd A) : gapV A = 0 := by
  have hD := hO.2.2.2.2
  have h12 := hO.1.2
  have e1 : sm A.n (owedByV A) = sm A.d.length (fun i => dg A.d i 3) := sm_swap (k := fun i => dg A.d i 0) (v := fun i => dg A.d i 3) (by omega) A.d.length (fun i hi => (hD.2.1 i hi).1)
  have e2 : sm A.n (owedToV A) = sm A.d.length (fun i => dg A.d i 3) := sm_swap (k := fun i => dg A.d i 1) (v := fun i => dg A.d i 3) (by omega) A.d.length (fun i hi => (hD.2.1 i hi).2.1)
  unfold gapV
  rw [hG.2.2.2.1, e1, e2, Int32.sub_self]
  rfl
theorem rem_nI {t n : Nat} (ht : t < 2 ^ 31) (hn : 0 < n) (hn2 : n ≤ 12) : nI t - nI t / nI n * nI n = nI (t % n) := pk_rem ht hn (by omega)
theorem l_isWhole (hC : CG M g) (hO : Okg g) (hX : xOk E M.2) (hG : Gd g.A) (hS : Ps g.A) (h : P (.inl (some (.int 1))) M) : Sp E yL_isWhole cL_isWhole zL_isWhole [.ref (ad E 0 0 0)] M P := by
  have h12 := hC.1.n12
  have h2 := hO.1.1.1
  obtain ⟨t, ht, et⟩ := hS
  have hx : t % g.A.n < g.A.n := Nat.mod_lt _ (by omega)
  generalize hxe : t % g.A.n = x at hx
  have hy : (x + 1) % g.A.n < g.A.n := Nat.mod_lt _ (by omega)
  have hxy : x ≠ (x + 1) % g.A.n := by
    by_cases q : x + 1 < g.A.n
    · rw [Nat.mod_eq_of_lt q]
      omega
    · rw [show x + 1 = g.A.n by omega, Nat.mod_self]
      omega
  generalize hye : (x + 1) % g.A.n = y at hy hxy
  have hne : ¬ nI g.A.n = 0 := nI_ne0 (by omega) (by omega)
  obtain ⟨W, eW⟩ := (hO.1.2.2.1 x hx).2.2.2.2
  have hlow : ∀ v, lowV (g.A.f x 9) v = nth W g.A.n 0 v := fun v => by rw [eW]; exact lowV_bs W h12 v
  have hbc : bc (g.A.f x 9) = nI (pcn W g.A.n) := by rw [eW, bc_bs W h12, sm_b]; rfl
  have hpl := pcn_le (p := W) (n := g.A.n)
  refine Sp_of (own := RL) (by decide) rfl rfl (Nat.le_of_ble_eq_true rfl) (fun C => ?_)
  refine G_aload_n dL_isWhole_0 rfl ?_
  refine G_iconst (v := 1) dL_isWhole_1 (by decide) ?_
  refine cv_L_68 (cs' := 0) (ss' := 0) dL_isWhole_2  (Nat.le_of_ble_eq_true rfl) (Nat.le_of_ble_eq_true rfl) (Nat.le_of_ble_eq_true rfl) rfl rfl (Nat.le_of_ble_eq_true rfl) (Nat.le_of_ble_eq_true rfl) rfl ?_
  refine u_count (k := 1) (by first | decide | assumption | omega) hC (hGo_i ?_)
  refine G_aload_n dL_isWhole_5 rfl ?_
  refine G_iconst (v := 0) dL_isWhole_6 (by decide) ?_
  refine cv_L_137 (cs' := 0) (ss' := 0) dL_isWhole_7  (Nat.le_of_ble_eq_true rfl) (Nat.le_of_ble_eq_true rfl) (Nat.le_of_ble_eq_true rfl) rfl rfl (Nat.le_of_ble_eq_true rfl) (Nat.le_of_ble_eq_true rfl) rfl ?_
  refine u_tally (k := 0) (by first | decide | assumption | omega) hC (hGo_i ?_)
  refine G_iadd dL_isWhole_10 ?_
  refine G_aload_n dL_isWhole_11 rfl ?_
  refine G_iconst (v := 2) dL_isWhole_12 (by decide) ?_
  refine cv_L_137 (cs' := 0) (ss' := 0) dL_isWhole_13  (Nat.le_of_ble_eq_true rfl) (Nat.le_of_ble_eq_true rfl) (Nat.le_of_ble_eq_true rfl) rfl rfl (Nat.le_of_ble_eq_true rfl) (Nat.le_of_ble_eq_true rfl) rfl ?_
  refine u_tally (k := 2) (by first | decide | assumption | omega) hC (hGo_i ?_)
  refine G_iadd dL_isWhole_16 ?_
  refine G_iconst (v := 3) dL_isWhole_17 (by decide) ?_
  refine G_aload_n dL_isWhole_18 rfl ?_
  refine G_bipush (v := 7) dL_isWhole_19 (by decide) ?_
  refine cv_L_137 (cs' := 0) (ss' := 0) dL_isWhole_21  (Nat.le_of_ble_eq_true rfl) (Nat.le_of_ble_eq_true rfl) (Nat.le_of_ble_eq_true rfl) rfl rfl (Nat.le_of_ble_eq_true rfl) (Nat.le_of_ble_eq_true rfl) rfl ?_
  refine u_tally (k := 7) (by first | decide | assumption | omega) hC (hGo_i ?_)
  refine G_imul dL_isWhole_24 ?_
  refine G_iadd dL_isWhole_25 ?_
  refine G_st (st' := [.int (nI t)]) (by rw [← et]; rfl) rfl rfl ?_
  refine G_istore_n dL_isWhole_26 (Nat.le_of_ble_eq_true rfl) ?_
  refine G_iload_n dL_isWhole_27 rfl ?_
  refine G_aload_n dL_isWhole_28 rfl ?_
  refine G_iconst (v := 0) dL_isWhole_29 (by decide) ?_
  refine cv_L_68 (cs' := 0) (ss' := 0) dL_isWhole_30  (Nat.le_of_ble_eq_true rfl) (Nat.le_of_ble_eq_true rfl) (Nat.le_of_ble_eq_true rfl) rfl rfl (Nat.le_of_ble_eq_true rfl) (Nat.le_of_ble_eq_true rfl) rfl ?_
  refine u_count (k := 0) (by first | decide | assumption | omega) hC (hGo_i ?_)
  refine G_irem dL_isWhole_33 hne ?_
  refine G_st (st' := [.int (nI x)]) (by rw [← hxe, ← rem_nI (by omega) (by omega) h12]; rfl) rfl rfl ?_
  refine G_istore_n dL_isWhole_34 (Nat.le_of_ble_eq_true rfl) ?_
  refine G_aload_n dL_isWhole_35 rfl ?_
  refine cv_L_140 (cs' := 0) (ss' := 0) dL_isWhole_36  (Nat.le_of_ble_eq_true rfl) (Nat.le_of_ble_eq_true rfl) (Nat.le_of_ble_eq_true rfl) rfl rfl (Nat.le_of_ble_eq_true rfl) (Nat.le_of_ble_eq_true rfl) rfl ?_
  refine s_X8_gap hC (hGo_i ?_)
  rw [gap_0 hO.1 hG]
  refine G_if_ne (tgt := 50) dL_isWhole_39 (by decide) (fun c39 => ?_) (fun c39 => ?_)
  · exact absurd rfl c39
  · refine G_aload_n dL_isWhole_42 rfl ?_
    refine G_iload_n dL_isWhole_43 rfl ?_
    refine cv_L_143 (cs' := 8) (ss' := 96) dL_isWhole_44  (Nat.le_of_ble_eq_true rfl) (Nat.le_of_ble_eq_true rfl) (Nat.le_of_ble_eq_true rfl) rfl rfl (Nat.le_of_ble_eq_true rfl) (Nat.le_of_ble_eq_true rfl) rfl ?_
    refine l_isPupil hx hC hO hX hG (hGo_i ?_)
    refine G_if_ne (tgt := 52) dL_isWhole_47 (by decide) (fun c47 => ?_) (fun c47 => ?_)
    · refine G_iload_n dL_isWhole_52 rfl ?_
      refine G_iconst (v := 1) dL_isWhole_53 (by decide) ?_
      refine G_iadd dL_isWhole_54 ?_
      refine G_aload_n dL_isWhole_55 rfl ?_
      refine G_iconst (v := 0) dL_isWhole_56 (by decide) ?_
      refine cv_L_68 (cs' := 8) (ss' := 96) dL_isWhole_57  (Nat.le_of_ble_eq_true rfl) (Nat.le_of_ble_eq_true rfl) (Nat.le_of_ble_eq_true rfl) rfl rfl (Nat.le_of_ble_eq_true rfl) (Nat.le_of_ble_eq_true rfl) rfl ?_
      refine u_count (k := 0) (by first | decide | assumption | omega) hC (hGo_i ?_)
      refine G_irem dL_isWhole_60 hne ?_
      refine G_st (st' := [.int (nI y)]) (by rw [← hye, ← rem_nI (by omega) (by omega) h12, ← nI_1]; rfl) rfl rfl ?_
      refine G_istore_n dL_isWhole_61 (Nat.le_of_ble_eq_true rfl) ?_
      refine G_aload_n dL_isWhole_62 rfl ?_
      refine G_iload_n dL_isWhole_63 rfl ?_
      refine G_iload_n dL_isWhole_64 rfl ?_
      refine cv_L_147 (cs' := 8) (ss' := 96) dL_isWhole_65  (Nat.le_of_ble_eq_true rfl) (Nat.le_of_ble_eq_true rfl) (Nat.le_of_ble_eq_true rfl) rfl rfl (Nat.le_of_ble_eq_true rfl) (Nat.le_of_ble_eq_true rfl) rfl ?_
      refine u_seers (by first | assumption | omega) (by first | assumption | omega) (by first | assumption | omega) hC (hGo_i ?_)
      refine G_aload_n dL_isWhole_68 rfl ?_
      refine G_iload_n dL_isWhole_69 rfl ?_
      refine G_iload_n dL_isWhole_70 rfl ?_
      refine cv_L_150 (cs' := 8) (ss' := 96) dL_isWhole_71  (Nat.le_of_ble_eq_true rfl) (Nat.le_of_ble_eq_true rfl) (Nat.le_of_ble_eq_true rfl) rfl rfl (Nat.le_of_ble_eq_true rfl) (Nat.le_of_ble_eq_true rfl) rfl ?_
      refine l_seers (by first | assumption | omega) (by first | assumption | omega) hC hO (hGo_i ?_)
      refine G_icmp_ne (tgt := 92) dL_isWhole_74 (by decide) (fun c74 => ?_) (fun c74 => ?_)
      · exact absurd rfl c74
      · refine G_aload_n dL_isWhole_77 rfl ?_
        refine G_iload_n dL_isWhole_78 rfl ?_
        refine G_iload_n dL_isWhole_79 rfl ?_
        refine cv_L_153 (cs' := 8) (ss' := 96) dL_isWhole_80  (Nat.le_of_ble_eq_true rfl) (Nat.le_of_ble_eq_true rfl) (Nat.le_of_ble_eq_true rfl) rfl rfl (Nat.le_of_ble_eq_true rfl) (Nat.le_of_ble_eq_true rfl) rfl ?_
        refine u_isNear (by first | assumption | omega) (by first | assumption | omega) hC (hGo_i ?_)
        refine G_aload_n dL_isWhole_83 rfl ?_
        refine G_iload_n dL_isWhole_84 rfl ?_
        refine G_iload_n dL_isWhole_85 rfl ?_
        refine cv_L_71 (cs' := 8) (ss' := 96) dL_isWhole_86  (Nat.le_of_ble_eq_true rfl) (Nat.le_of_ble_eq_true rfl) (Nat.le_of_ble_eq_true rfl) rfl rfl (Nat.le_of_ble_eq_true rfl) (Nat.le_of_ble_eq_true rfl) rfl ?_
        refine l_areNear (by first | assumption | omega) (by first | assumption | omega) hC hO (hGo_i ?_)
        refine G_icmp_eq (tgt := 94) dL_isWhole_89 (by decide) (fun c89 => ?_) (fun c89 => ?_)
        · refine G_iconst (v := 0) dL_isWhole_94 (by decide) ?_
          refine G_istore dL_isWhole_95 (Nat.le_of_ble_eq_true rfl) ?_
          refine G_lv (lv' := [(0, .ref (ad E 0 0 0)), (2, .int (nI x)), (4, .int (nI 0))]) ⟨rfl, rfl, rfl, trivial⟩ ?_
          refine up0 (c := pcn W g.A.n) (H := fun i => G E C RL cL_isWhole zL_isWhole P 8 96 M 97 [(0, .ref (ad E 0 0 0)), (2, .int (nI x)), (4, .int (nI i))] []) ?_ (fun i hi ih => ?_)
          · refine G_aload_n dL_isWhole_97 rfl ?_
            refine G_iload_n dL_isWhole_98 rfl ?_
            refine G_iload dL_isWhole_99 rfl ?_
            refine cv_L_157 (cs' := 8) (ss' := 96) dL_isWhole_101  (Nat.le_of_ble_eq_true rfl) (Nat.le_of_ble_eq_true rfl) (Nat.le_of_ble_eq_true rfl) rfl rfl (Nat.le_of_ble_eq_true rfl) (Nat.le_of_ble_eq_true rfl) rfl ?_
            refine u_witness (by first | assumption | omega) hC (hGo_i ?_)
            rw [hlow, nth_end (by omega)]
            refine G_iconst (v := (-1)) dL_isWhole_104 (by decide) ?_
            refine G_icmp_eq (tgt := 114) dL_isWhole_105 (by decide) (fun c105 => ?_) (fun c105 => ?_)
            · refine G_iload dL_isWhole_114 rfl ?_
              refine G_aload_n dL_isWhole_116 rfl ?_
              refine G_iload_n dL_isWhole_117 rfl ?_
              refine G_bipush (v := 13) dL_isWhole_118 (by decide) ?_
              refine cv_L_59 (cs' := 8) (ss' := 96) dL_isWhole_120  (Nat.le_of_ble_eq_true rfl) (Nat.le_of_ble_eq_true rfl) (Nat.le_of_ble_eq_true rfl) rfl rfl (Nat.le_of_ble_eq_true rfl) (Nat.le_of_ble_eq_true rfl) rfl ?_
              refine u_pupil (k := 13) (by first | assumption | omega) (by first | decide | assumption | omega) hC hO (hGo_i ?_)
              refine G_st (st' := [.int (nI (pcn W g.A.n)), .int (nI (pcn W g.A.n))]) (by rw [show pupV g.A x 13 = bc (g.A.f x 9) from rfl, hbc]) rfl rfl ?_
              refine G_icmp_ne (tgt := 185) dL_isWhole_123 (by decide) (fun c123 => ?_) (fun c123 => ?_)
              · exact absurd rfl c123
              · have hb := bestV_lt (f := fun p => g.A.f p 7) (k := g.A.n) (by omega)
                have hbm := bestV_max (f := fun p => g.A.f p 7) g.A.n x hx
                obtain ⟨j0, hj0, ej0⟩ := rank_0 (A := g.A) (s := 0) (by omega)
                rcases first_cases g.A.n (fun i => decide (rankV g.A i 0 = 0)) with ⟨q, qn⟩ | ⟨j, hj, ej, qj, -⟩
                · have := qn j0 hj0
                  rw [decide_eq_true ej0] at this
                  cases this
                have hrb := rank_0_best h12 hx (of_decide_eq_true qj)
                refine G_aload_n dL_isWhole_126 rfl ?_
                refine G_aload_n dL_isWhole_127 rfl ?_
                refine G_iconst (v := 0) dL_isWhole_128 (by decide) ?_
                refine cv_L_160 (cs' := 8) (ss' := 96) dL_isWhole_129  (Nat.le_of_ble_eq_true rfl) (Nat.le_of_ble_eq_true rfl) (Nat.le_of_ble_eq_true rfl) rfl rfl (Nat.le_of_ble_eq_true rfl) (Nat.le_of_ble_eq_true rfl) rfl ?_
                refine u_most hC hO (hGo_i ?_)
                refine G_bipush (v := 7) dL_isWhole_132 (by decide) ?_
                refine cv_L_59 (cs' := 8) (ss' := 96) dL_isWhole_134  (Nat.le_of_ble_eq_true rfl) (Nat.le_of_ble_eq_true rfl) (Nat.le_of_ble_eq_true rfl) rfl rfl (Nat.le_of_ble_eq_true rfl) (Nat.le_of_ble_eq_true rfl) rfl ?_
                refine u_pupil (k := 7) hb (by decide) hC hO (hGo_i ?_)
                refine G_aload_n dL_isWhole_137 rfl ?_
                refine G_iload_n dL_isWhole_138 rfl ?_
                refine G_bipush (v := 7) dL_isWhole_139 (by decide) ?_
                refine cv_L_59 (cs' := 8) (ss' := 96) dL_isWhole_141  (Nat.le_of_ble_eq_true rfl) (Nat.le_of_ble_eq_true rfl) (Nat.le_of_ble_eq_true rfl) rfl rfl (Nat.le_of_ble_eq_true rfl) (Nat.le_of_ble_eq_true rfl) rfl ?_
                refine u_pupil (k := 7) (by first | assumption | omega) (by first | decide | assumption | omega) hC hO (hGo_i ?_)
                refine G_icmp_lt (tgt := 185) dL_isWhole_144 (by decide) (fun c144 => ?_) (fun c144 => ?_)
                · exact absurd c144 (Int32.not_lt.mpr hbm)
                · refine G_aload_n dL_isWhole_147 rfl ?_
                  refine G_aload_n dL_isWhole_148 rfl ?_
                  refine G_iconst (v := 0) dL_isWhole_149 (by decide) ?_
                  refine G_iconst (v := 0) dL_isWhole_150 (by decide) ?_
                  refine cv_L_163 (cs' := 8) (ss' := 96) dL_isWhole_151  (Nat.le_of_ble_eq_true rfl) (Nat.le_of_ble_eq_true rfl) (Nat.le_of_ble_eq_true rfl) rfl rfl (Nat.le_of_ble_eq_true rfl) (Nat.le_of_ble_eq_true rfl) rfl ?_
                  refine u_ranked (s := 0) (by first | decide | assumption | omega) hC (hGo_i ?_)
                  rw [ej]
                  refine G_iconst (v := 2) dL_isWhole_154 (by decide) ?_
                  refine cv_L_59 (cs' := 8) (ss' := 96) dL_isWhole_155  (Nat.le_of_ble_eq_true rfl) (Nat.le_of_ble_eq_true rfl) (Nat.le_of_ble_eq_true rfl) rfl rfl (Nat.le_of_ble_eq_true rfl) (Nat.le_of_ble_eq_true rfl) rfl ?_
                  refine u_pupil (k := 2) (by first | assumption | omega) (by first | decide | assumption | omega) hC hO (hGo_i ?_)
                  refine G_aload_n dL_isWhole_158 rfl ?_
                  refine G_iload_n dL_isWhole_159 rfl ?_
                  refine G_iconst (v := 2) dL_isWhole_160 (by decide) ?_
                  refine cv_L_59 (cs' := 8) (ss' := 96) dL_isWhole_161  (Nat.le_of_ble_eq_true rfl) (Nat.le_of_ble_eq_true rfl) (Nat.le_of_ble_eq_true rfl) rfl rfl (Nat.le_of_ble_eq_true rfl) (Nat.le_of_ble_eq_true rfl) rfl ?_
                  refine u_pupil (k := 2) (by first | assumption | omega) (by first | decide | assumption | omega) hC hO (hGo_i ?_)
                  refine G_icmp_lt (tgt := 185) dL_isWhole_164 (by decide) (fun c164 => ?_) (fun c164 => ?_)
                  · exact absurd c164 (Int32.not_lt.mpr hrb)
                  · refine G_aload_n dL_isWhole_167 rfl ?_
                    refine G_iconst (v := 1) dL_isWhole_168 (by decide) ?_
                    refine G_aload_n dL_isWhole_169 rfl ?_
                    refine G_iconst (v := 0) dL_isWhole_170 (by decide) ?_
                    refine cv_L_68 (cs' := 8) (ss' := 96) dL_isWhole_171  (Nat.le_of_ble_eq_true rfl) (Nat.le_of_ble_eq_true rfl) (Nat.le_of_ble_eq_true rfl) rfl rfl (Nat.le_of_ble_eq_true rfl) (Nat.le_of_ble_eq_true rfl) rfl ?_
                    refine u_count (k := 0) (by first | decide | assumption | omega) hC (hGo_i ?_)
                    refine cv_L_163 (cs' := 8) (ss' := 96) dL_isWhole_174  (Nat.le_of_ble_eq_true rfl) (Nat.le_of_ble_eq_true rfl) (Nat.le_of_ble_eq_true rfl) rfl rfl (Nat.le_of_ble_eq_true rfl) (Nat.le_of_ble_eq_true rfl) rfl ?_
                    refine u_ranked (s := 1) (by first | decide | assumption | omega) hC (hGo_i ?_)
                    rw [show first g.A.n (fun i => decide (rankV g.A i 1 = cntV g 0)) = -1 from first_none (fun k hk => decide_eq_false (rank_lt hk h12))]
                    refine G_iconst (v := (-1)) dL_isWhole_177 (by decide) ?_
                    refine G_icmp_ne (tgt := 185) dL_isWhole_178 (by decide) (fun c178 => ?_) (fun c178 => ?_)
                    · exact absurd rfl c178
                    · refine G_iconst (v := 1) dL_isWhole_181 (by decide) ?_
                      refine G_goto (tgt := 186) dL_isWhole_182 (by decide) ?_
                      refine G_iret dL_isWhole_186 rfl rfl (Nat.le_of_ble_eq_true rfl) (Nat.le_of_ble_eq_true rfl) ?_
                      exact h
            · exact absurd rfl c105
          · obtain ⟨k, hk, ek⟩ := nth_some (p := W) (n := g.A.n) (by omega) hi
            refine G_aload_n dL_isWhole_97 rfl ?_
            refine G_iload_n dL_isWhole_98 rfl ?_
            refine G_iload dL_isWhole_99 rfl ?_
            refine cv_L_157 (cs' := 8) (ss' := 96) dL_isWhole_101  (Nat.le_of_ble_eq_true rfl) (Nat.le_of_ble_eq_true rfl) (Nat.le_of_ble_eq_true rfl) rfl rfl (Nat.le_of_ble_eq_true rfl) (Nat.le_of_ble_eq_true rfl) rfl ?_
            refine u_witness (by first | assumption | omega) hC (hGo_i ?_)
            rw [hlow, ek]
            refine G_iconst (v := (-1)) dL_isWhole_104 (by decide) ?_
            refine G_icmp_eq (tgt := 114) dL_isWhole_105 (by decide) (fun c105 => ?_) (fun c105 => ?_)
            · exact absurd c105 (nI_nm1 (by omega))
            · refine G_iinc (v := 1) dL_isWhole_108 rfl (Nat.le_of_ble_eq_true rfl) (by decide) ?_
              refine G_goto (tgt := 97) dL_isWhole_111 (by decide) ?_
              exact G_lv2 ih ⟨rfl, rfl, lvi (nI_1 i), trivial⟩
        · exact absurd rfl c89
    · exact absurd c47 (by decide)
end LWHOLE
