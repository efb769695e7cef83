/-! ===== the law's isMoving ===== -/
section LMOVE
variable {E : Ed} {M : Mm} {P : Res → Mm → Prop} {g : Gs} {C : Cx}
theorem spNear_lt {A : Ab} {x : Nat} {r t : Int32} (hx : x < A.n) (h12 : A.n ≤ 12) : spNearV A x r t < 12 := by
  unfold spNearV
  rw [sm_b]
  have h := sN_lt (f := fun i => if spNearP A x r t i = true then 1 else 0) (x := x) (if_neg (by unfold spNearP; simp)) b_le A.n hx
  exact nI_lt (b := 12) (by omega) (by decide)
theorem sb_min {A : Ab} {p : Nat} : ∀ m k, k < m → onV A (nI (k / 6)) (nI (k % 6)) = -1 → (sbF A p m).2 ≤ spNearV A p (nI (k / 6)) (nI (k % 6))
  | 0, k, h, _ => absurd h (Nat.not_lt_zero k)
  | m + 1, k, h, hf => by
    have ih := sb_min (A := A) (p := p) m k
    show (if onV A (nI (m / 6)) (nI (m % 6)) = -1 ∧ spNearV A p (nI (m / 6)) (nI (m % 6)) < (sbF A p m).2 then (nI m, spNearV A p (nI (m / 6)) (nI (m % 6))) else sbF A p m).2 ≤ _
    by_cases q : onV A (nI (m / 6)) (nI (m % 6)) = -1 ∧ spNearV A p (nI (m / 6)) (nI (m % 6)) < (sbF A p m).2
    · rw [if_pos q]
      by_cases z : k = m
      · rw [z]; exact Int32.le_refl _
      · exact Int32.le_trans (Int32.le_of_lt q.2) (ih (by omega) hf)
    · rw [if_neg q]
      by_cases z : k = m
      · rw [z] at hf ⊢
        exact Int32.not_lt.mp (fun y => q ⟨hf, y⟩)
      · exact ih (by omega) hf
theorem sb_val {A : Ab} {p : Nat} : ∀ m, sbF A p m = (-1, 12) ∨ ∃ k, k < m ∧ sbF A p m = (nI k, spNearV A p (nI (k / 6)) (nI (k % 6)))
  | 0 => Or.inl rfl
  | m + 1 => by
    have ih := sb_val (A := A) (p := p) m
    show (if onV A (nI (m / 6)) (nI (m % 6)) = -1 ∧ spNearV A p (nI (m / 6)) (nI (m % 6)) < (sbF A p m).2 then (nI m, spNearV A p (nI (m / 6)) (nI (m % 6))) else sbF A p m) = _ ∨ ∃ k, k < m + 1 ∧ (if onV A (nI (m / 6)) (nI (m % 6)) = -1 ∧ spNearV A p (nI (m / 6)) (nI (m % 6)) < (sbF A p m).2 then (nI m, spNearV A p (nI (m / 6)) (nI (m % 6))) else sbF A p m) = _
    by_cases q : onV A (nI (m / 6)) (nI (m % 6)) = -1 ∧ spNearV A p (nI (m / 6)) (nI (m % 6)) < (sbF A p m).2
    · rw [if_pos q]
      exact Or.inr ⟨m, by omega, rfl⟩
    · rw [if_neg q]
      rcases ih with e | ⟨k, hk, e⟩
      · exact Or.inl e
      · exact Or.inr ⟨k, by omega, e⟩
theorem sb_free {A : Ab} {p r t : Nat} (hp : p < A.n) (h12 : A.n ≤ 12) (hr : r ≤ 5) (ht : t ≤ 5) (hf : onV A (nI r) (nI t) = -1) : ∃ k, k < 36 ∧ (sbF A p 36).1 = nI k ∧ spNearV A p (nI (k / 6)) (nI (k % 6)) ≤ spNearV A p (nI r) (nI t) := by
  have e1 : (6 * r + t) / 6 = r := by omega
  have e2 : (6 * r + t) % 6 = t := by omega
  have hm := sb_min (A := A) (p := p) 36 (6 * r + t) (by omega) (by rw [e1, e2]; exact hf)
  rw [e1, e2] at hm
  rcases sb_val (A := A) (p := p) 36 with e | ⟨k, hk, e⟩
  · rw [e] at hm
    exact absurd (Int32.lt_of_le_of_lt hm (spNear_lt hp h12)) Int32.lt_irrefl
  · rw [e] at hm ⊢
    exact ⟨k, hk, rfl, hm⟩
theorem sm_at {p : Nat} {v : Int32} : ∀ n, sm n (fun k => if k = p then v else 0) = if p < n then v else 0
  | 0 => rfl
  | n + 1 => by
    show sm n (fun k => if k = p then v else 0) + (if n = p then v else 0) = _
    rw [sm_at n]
    by_cases q : n = p
    · rw [if_neg (by omega), if_pos q, if_pos (by omega), Int32.zero_add]
    · rw [if_neg q, Int32.add_zero]
      by_cases z : p < n
      · rw [if_pos z, if_pos (by omega)]
      · rw [if_neg z, if_neg (by omega)]
theorem nr_self {A : Ab} {p : Nat} : nr A p p = true := by
  unfold nr
  rw [Int32.sub_self, Int32.sub_self]
  decide
/-- all who sit near, himself among them, less one -/
theorem near_law {A : Ab} {p : Nat} (hp : p < A.n) (h12 : A.n ≤ 12) : -1 + sm A.n (fun k => if nr A k p = true then 1 else 0) = bc (nearsV A p) := by
  rw [show bc (nearsV A p) = sm A.n (fun k => if (decide (k ≠ p) && nr A k p) = true then 1 else 0) from bc_bs _ h12]
  rw [sm_cong (g := fun k => (if (decide (k ≠ p) && nr A k p) = true then 1 else 0) + if k = p then 1 else 0) (fun k hk => by
    by_cases q : k = p
    · rw [q, nr_self, if_pos rfl, if_pos rfl, if_neg (by simp)]
      rfl
    · rw [if_neg q, decide_eq_true q, Bool.true_and, Int32.add_zero]), sm_add, sm_at, if_pos hp]
  rw [Int32.add_comm (sm A.n _) 1, ← Int32.add_assoc, show (-1 : Int32) + 1 = 0 from by decide, Int32.zero_add]
theorem mv_60 {p r t : Nat} {tk : Int32} (hp : p < g.A.n) (hr : r ≤ 5) (ht : t ≤ 5) (hC : CG M g) (hO : Okg g) (htk : tk = if onV g.A (nI r) (nI t) = -1 then 0 else 1) (h : ∀ M', CG M' (sMove g p (nI r) (nI t)).1 → Fr dCl M M' → P (.inl (some (.int 1))) M') : G E C RL cL_isMoving zL_isMoving P 0 0 M 60 [(0, .ref (ad E 0 0 0)), (1, .int (nI p)), (2, .int (nI r)), (3, .int (nI t)), (5, .int tk)] [] := by
  have h12 := hC.1.n12
  by_cases c1 : 0 < g.A.f p 8
  · have es : sMove g p (nI r) (nI t) = (refG g 1, -1) := by
      unfold sMove rMove
      rw [if_pos c1]
      rfl
    have hO1 : Okg (refG g 1) := by
      have := sMove_ok (x := p) (r := nI r) (t := nI t) hO
      rw [es] at this
      exact this
    refine G_aload_n dL_isMoving_60 rfl ?_
    refine G_iload_n dL_isMoving_61 rfl ?_
    refine G_iload_n dL_isMoving_62 rfl ?_
    refine G_iload_n dL_isMoving_63 rfl ?_
    refine cv_L_201 (cs' := 0) (ss' := 0) dL_isMoving_64  (Nat.le_of_ble_eq_true rfl) (Nat.le_of_ble_eq_true rfl) (Nat.le_of_ble_eq_true rfl) rfl rfl (Nat.le_of_ble_eq_true rfl) (Nat.le_of_ble_eq_true rfl) rfl ?_
    refine u_move hp hr ht hC hO (fun M1 g1 f1 => hGo_i ?_)
    rw [es] at g1 ⊢
    have hp1 : p < (refG g 1).A.n := hp
    refine G_istore dL_isMoving_67 (Nat.le_of_ble_eq_true rfl) ?_
    refine G_aload_n dL_isMoving_69 rfl ?_
    refine G_iload_n dL_isMoving_70 rfl ?_
    refine G_bipush (v := 8) dL_isMoving_71 (by decide) ?_
    refine cv_L_59 (cs' := 0) (ss' := 0) dL_isMoving_73  (Nat.le_of_ble_eq_true rfl) (Nat.le_of_ble_eq_true rfl) (Nat.le_of_ble_eq_true rfl) rfl rfl (Nat.le_of_ble_eq_true rfl) (Nat.le_of_ble_eq_true rfl) rfl ?_
    refine u_pupil (k := 8) hp1 (by decide) g1 hO1 (hGo_i ?_)
    refine G_if_le (tgt := 91) dL_isMoving_76 (by decide) (fun c76 => ?_) (fun c76 => ?_)
    · exact absurd c1 (Int32.not_lt.mpr c76)
    · refine G_iload dL_isMoving_79 rfl ?_
      refine G_iconst (v := (-1)) dL_isMoving_81 (by decide) ?_
      refine G_icmp_ne (tgt := 89) dL_isMoving_82 (by decide) (fun c82 => ?_) (fun c82 => ?_)
      · exact absurd rfl c82
      · refine G_iconst (v := 1) dL_isMoving_85 (by decide) ?_
        refine G_goto (tgt := 90) dL_isMoving_86 (by decide) ?_
        refine G_iret dL_isMoving_90 rfl rfl (Nat.le_of_ble_eq_true rfl) (Nat.le_of_ble_eq_true rfl) ?_
        exact h M1 (by rw [es]; exact g1) f1
  · by_cases c2 : onV g.A (nI r) (nI t) = -1
    · have es : sMove g p (nI r) (nI t) = (actG g (seatA g.A p (nI r) (nI t)), bc (nearsV (seatA g.A p (nI r) (nI t)) p)) := by
        unfold sMove rMove
        rw [if_neg c1, if_pos c2]
        rfl
      have hO1 : Okg (actG g (seatA g.A p (nI r) (nI t))) := by
        have := sMove_ok (x := p) (r := nI r) (t := nI t) hO
        rw [es] at this
        exact this
      rw [if_pos c2] at htk
      subst htk
      generalize eA : seatA g.A p (nI r) (nI t) = A1 at es hO1
      have hn1 : A1.n = g.A.n := by rw [← eA]; rfl
      have hf8 : A1.f p 8 = g.A.f p 8 := by rw [← eA]; show (if p = p ∧ 8 = 1 then _ else if p = p ∧ 8 = 0 then _ else g.A.f p 8) = _; rw [if_neg (by omega), if_neg (by omega)]
      have hf0 : A1.f p 0 = nI r := by rw [← eA]; show (if p = p ∧ 0 = 1 then _ else if p = p ∧ 0 = 0 then nI r else _) = _; rw [if_neg (by omega), if_pos ⟨rfl, rfl⟩]
      have hf1 : A1.f p 1 = nI t := by rw [← eA]; show (if p = p ∧ 1 = 1 then nI t else _) = _; rw [if_pos ⟨rfl, rfl⟩]
      have hfo : ∀ k j, k ≠ p → A1.f k j = g.A.f k j := fun k j q => by rw [← eA]; show (if k = p ∧ j = 1 then _ else if k = p ∧ j = 0 then _ else g.A.f k j) = _; rw [if_neg (fun z => q z.1), if_neg (fun z => q z.1)]
      have hp1 : p < (actG g A1).A.n := by show p < A1.n; omega
      have hnl := near_law (A := A1) (p := p) (by omega) (by omega)
      refine G_aload_n dL_isMoving_60 rfl ?_
      refine G_iload_n dL_isMoving_61 rfl ?_
      refine G_iload_n dL_isMoving_62 rfl ?_
      refine G_iload_n dL_isMoving_63 rfl ?_
      refine cv_L_201 (cs' := 0) (ss' := 0) dL_isMoving_64  (Nat.le_of_ble_eq_true rfl) (Nat.le_of_ble_eq_true rfl) (Nat.le_of_ble_eq_true rfl) rfl rfl (Nat.le_of_ble_eq_true rfl) (Nat.le_of_ble_eq_true rfl) rfl ?_
      refine u_move hp hr ht hC hO (fun M1 g1 f1 => hGo_i ?_)
      rw [es] at g1 ⊢
      have h12' := g1.1.n12
      refine G_istore dL_isMoving_67 (Nat.le_of_ble_eq_true rfl) ?_
      refine G_aload_n dL_isMoving_69 rfl ?_
      refine G_iload_n dL_isMoving_70 rfl ?_
      refine G_bipush (v := 8) dL_isMoving_71 (by decide) ?_
      refine cv_L_59 (cs' := 0) (ss' := 0) dL_isMoving_73  (Nat.le_of_ble_eq_true rfl) (Nat.le_of_ble_eq_true rfl) (Nat.le_of_ble_eq_true rfl) rfl rfl (Nat.le_of_ble_eq_true rfl) (Nat.le_of_ble_eq_true rfl) rfl ?_
      refine u_pupil (k := 8) hp1 (by decide) g1 hO1 (hGo_i ?_)
      refine G_if_le (tgt := 91) dL_isMoving_76 (by decide) (fun c76 => ?_) (fun c76 => ?_)
      · refine G_iload dL_isMoving_91 rfl ?_
        refine G_if_eq (tgt := 109) dL_isMoving_93 (by decide) (fun c93 => ?_) (fun c93 => ?_)
        · refine G_iconst (v := (-1)) dL_isMoving_109 (by decide) ?_
          refine G_istore dL_isMoving_110 (Nat.le_of_ble_eq_true rfl) ?_
          refine G_iconst (v := 0) dL_isMoving_112 (by decide) ?_
          refine G_istore dL_isMoving_113 (Nat.le_of_ble_eq_true rfl) ?_
          refine G_lv (lv' := [(0, .ref (ad E 0 0 0)), (1, .int (nI p)), (2, .int (nI r)), (3, .int (nI t)), (7, .int (bc (nearsV A1 p))), (8, .int (-1 + sm 0 (fun k => if nr A1 k p = true then 1 else 0))), (9, .int (nI 0))]) ⟨rfl, rfl, rfl, rfl, rfl, rfl, rfl, trivial⟩ ?_
          refine up0 (c := A1.n) (H := fun i => G E C RL cL_isMoving zL_isMoving P 0 0 M1 115 [(0, .ref (ad E 0 0 0)), (1, .int (nI p)), (2, .int (nI r)), (3, .int (nI t)), (7, .int (bc (nearsV A1 p))), (8, .int (-1 + sm i (fun k => if nr A1 k p = true then 1 else 0))), (9, .int (nI i))] []) ?_ (fun i hi ih => ?_)
          · refine G_iload dL_isMoving_115 rfl ?_
            refine G_aload_n dL_isMoving_117 rfl ?_
            refine G_iconst (v := 0) dL_isMoving_118 (by decide) ?_
            refine cv_L_68 (cs' := 0) (ss' := 0) dL_isMoving_119  (Nat.le_of_ble_eq_true rfl) (Nat.le_of_ble_eq_true rfl) (Nat.le_of_ble_eq_true rfl) rfl rfl (Nat.le_of_ble_eq_true rfl) (Nat.le_of_ble_eq_true rfl) rfl ?_
            refine u_count (k := 0) (by decide) g1 (hGo_i ?_)
            refine G_icmp_ge (tgt := 151) dL_isMoving_122 (by decide) (fun c122 => ?_) (fun c122 => ?_)
            · rw [hnl]
              refine G_iload dL_isMoving_151 rfl ?_
              refine G_iload dL_isMoving_153 rfl ?_
              refine G_icmp_ne (tgt := 172) dL_isMoving_155 (by decide) (fun c155 => ?_) (fun c155 => ?_)
              · exact absurd rfl c155
              · have hon : onV (actG g A1).A (nI r) (nI t) = nI p := by
                  show onV A1 (nI r) (nI t) = nI p
                  refine first_at (by omega) (fun k hk => ?_) (decide_eq_true ⟨hf0, hf1⟩)
                  rcases first_cases g.A.n (fun p => decide (g.A.f p 0 = nI r ∧ g.A.f p 1 = nI t)) with ⟨-, hb⟩ | ⟨i, hi, e, -⟩
                  · have := hb k (by omega)
                    show decide (A1.f k 0 = nI r ∧ A1.f k 1 = nI t) = false
                    rw [hfo k 0 (by omega), hfo k 1 (by omega)]
                    exact this
                  · exact absurd (e.symm.trans c2) (nI_nm1 (by omega))
                refine G_aload_n dL_isMoving_158 rfl ?_
                refine G_iload_n dL_isMoving_159 rfl ?_
                refine G_iload_n dL_isMoving_160 rfl ?_
                refine cv_L_134 (cs' := 0) (ss' := 0) dL_isMoving_161  (Nat.le_of_ble_eq_true rfl) (Nat.le_of_ble_eq_true rfl) (Nat.le_of_ble_eq_true rfl) rfl rfl (Nat.le_of_ble_eq_true rfl) (Nat.le_of_ble_eq_true rfl) rfl ?_
                refine u_bench hr ht g1 (hGo_i ?_)
                rw [hon]
                refine G_iload_n dL_isMoving_164 rfl ?_
                refine G_icmp_ne (tgt := 172) dL_isMoving_165 (by decide) (fun c165 => ?_) (fun c165 => ?_)
                · exact absurd rfl c165
                · refine G_iconst (v := 1) dL_isMoving_168 (by decide) ?_
                  refine G_goto (tgt := 173) dL_isMoving_169 (by decide) ?_
                  refine G_iret dL_isMoving_173 rfl rfl (Nat.le_of_ble_eq_true rfl) (Nat.le_of_ble_eq_true rfl) ?_
                  exact h M1 (by rw [es]; exact g1) f1
            · exact absurd (show nI A1.n ≤ nI A1.n from Int32.le_refl _) c122
          · have j142 : ∀ u : Int32, (if nr A1 i p = true then 1 else 0) = u → G E C RL cL_isMoving zL_isMoving P 0 0 M1 142 [(0, .ref (ad E 0 0 0)), (1, .int (nI p)), (2, .int (nI r)), (3, .int (nI t)), (7, .int (bc (nearsV A1 p))), (8, .int (-1 + sm i (fun k => if nr A1 k p = true then 1 else 0))), (9, .int (nI i))] [.int u, .int (-1 + sm i (fun k => if nr A1 k p = true then 1 else 0))] := fun u eu => by
              refine G_iadd dL_isMoving_142 ?_
              refine G_istore dL_isMoving_143 (Nat.le_of_ble_eq_true rfl) ?_
              refine G_iinc (v := 1) dL_isMoving_145 rfl (Nat.le_of_ble_eq_true rfl) (by decide) ?_
              refine G_goto (tgt := 115) dL_isMoving_148 (by decide) ?_
              refine G_lv2 ih ⟨rfl, rfl, rfl, rfl, rfl, lvi ?_, lvi (nI_1 i), trivial⟩
              rw [Int32.add_assoc, sm_t (n := i) (g := fun k => if nr A1 k p = true then 1 else 0) eu]
            have hi1 : i < (actG g A1).A.n := hi
            refine G_iload dL_isMoving_115 rfl ?_
            refine G_aload_n dL_isMoving_117 rfl ?_
            refine G_iconst (v := 0) dL_isMoving_118 (by decide) ?_
            refine cv_L_68 (cs' := 0) (ss' := 0) dL_isMoving_119  (Nat.le_of_ble_eq_true rfl) (Nat.le_of_ble_eq_true rfl) (Nat.le_of_ble_eq_true rfl) rfl rfl (Nat.le_of_ble_eq_true rfl) (Nat.le_of_ble_eq_true rfl) rfl ?_
            refine u_count (k := 0) (by decide) g1 (hGo_i ?_)
            refine G_icmp_ge (tgt := 151) dL_isMoving_122 (by decide) (fun c122 => ?_) (fun c122 => ?_)
            · exact absurd (show nI A1.n ≤ nI i from c122) (nI_ge hi (by omega))
            · refine G_iload dL_isMoving_125 rfl ?_
              refine G_aload_n dL_isMoving_127 rfl ?_
              refine G_iload dL_isMoving_128 rfl ?_
              refine G_iload_n dL_isMoving_130 rfl ?_
              refine cv_L_71 (cs' := 0) (ss' := 0) dL_isMoving_131  (Nat.le_of_ble_eq_true rfl) (Nat.le_of_ble_eq_true rfl) (Nat.le_of_ble_eq_true rfl) rfl rfl (Nat.le_of_ble_eq_true rfl) (Nat.le_of_ble_eq_true rfl) rfl ?_
              refine l_areNear hi1 hp1 g1 hO1 (hGo_i ?_)
              by_cases q : nr A1 i p = true
              · rw [show (if nr (actG g A1).A i p = true then (1 : Int32) else 0) = 1 from if_pos q]
                refine G_if_eq (tgt := 141) dL_isMoving_134 (by decide) (fun c134 => ?_) (fun c134 => ?_)
                · exact absurd c134 (by decide)
                · refine G_iconst (v := 1) dL_isMoving_137 (by decide) ?_
                  refine G_goto (tgt := 142) dL_isMoving_138 (by decide) ?_
                  exact j142 1 (if_pos q)
              · rw [show (if nr (actG g A1).A i p = true then (1 : Int32) else 0) = 0 from if_neg q]
                refine G_if_eq (tgt := 141) dL_isMoving_134 (by decide) (fun c134 => ?_) (fun c134 => ?_)
                · refine G_iconst (v := 0) dL_isMoving_141 (by decide) ?_
                  exact j142 0 (if_neg q)
                · exact absurd rfl c134
        · exact absurd rfl c93
      · exact absurd (show 0 < g.A.f p 8 by rw [← hf8]; exact Int32.not_le.mp c76) c1
    · have es : sMove g p (nI r) (nI t) = (refG g 7, -7) := by
        unfold sMove rMove
        rw [if_neg c1, if_neg c2]
        rfl
      have hO1 : Okg (refG g 7) := by
        have := sMove_ok (x := p) (r := nI r) (t := nI t) hO
        rw [es] at this
        exact this
      rw [if_neg c2] at htk
      subst htk
      refine G_aload_n dL_isMoving_60 rfl ?_
      refine G_iload_n dL_isMoving_61 rfl ?_
      refine G_iload_n dL_isMoving_62 rfl ?_
      refine G_iload_n dL_isMoving_63 rfl ?_
      refine cv_L_201 (cs' := 0) (ss' := 0) dL_isMoving_64  (Nat.le_of_ble_eq_true rfl) (Nat.le_of_ble_eq_true rfl) (Nat.le_of_ble_eq_true rfl) rfl rfl (Nat.le_of_ble_eq_true rfl) (Nat.le_of_ble_eq_true rfl) rfl ?_
      refine u_move hp hr ht hC hO (fun M1 g1 f1 => hGo_i ?_)
      rw [es] at g1 ⊢
      have hp1 : p < (refG g 7).A.n := hp
      refine G_istore dL_isMoving_67 (Nat.le_of_ble_eq_true rfl) ?_
      refine G_aload_n dL_isMoving_69 rfl ?_
      refine G_iload_n dL_isMoving_70 rfl ?_
      refine G_bipush (v := 8) dL_isMoving_71 (by decide) ?_
      refine cv_L_59 (cs' := 0) (ss' := 0) dL_isMoving_73  (Nat.le_of_ble_eq_true rfl) (Nat.le_of_ble_eq_true rfl) (Nat.le_of_ble_eq_true rfl) rfl rfl (Nat.le_of_ble_eq_true rfl) (Nat.le_of_ble_eq_true rfl) rfl ?_
      refine u_pupil (k := 8) hp1 (by decide) g1 hO1 (hGo_i ?_)
      refine G_if_le (tgt := 91) dL_isMoving_76 (by decide) (fun c76 => ?_) (fun c76 => ?_)
      · refine G_iload dL_isMoving_91 rfl ?_
        refine G_if_eq (tgt := 109) dL_isMoving_93 (by decide) (fun c93 => ?_) (fun c93 => ?_)
        · exact absurd c93 (by decide)
        · refine G_iload dL_isMoving_96 rfl ?_
          refine G_bipush (v := (-7)) dL_isMoving_98 (by decide) ?_
          refine G_icmp_ne (tgt := 107) dL_isMoving_100 (by decide) (fun c100 => ?_) (fun c100 => ?_)
          · exact absurd rfl c100
          · refine G_iconst (v := 1) dL_isMoving_103 (by decide) ?_
            refine G_goto (tgt := 108) dL_isMoving_104 (by decide) ?_
            refine G_iret dL_isMoving_108 rfl rfl (Nat.le_of_ble_eq_true rfl) (Nat.le_of_ble_eq_true rfl) ?_
            exact h M1 (by rw [es]; exact g1) f1
      · exact absurd (Int32.not_le.mp c76) c1
theorem l_isMoving {p r t : Nat} (hp : p < g.A.n) (hr : r ≤ 5) (ht : t ≤ 5) (hC : CG M g) (hO : Okg g) (h : ∀ M', CG M' (sMove g p (nI r) (nI t)).1 → Fr dCl M M' → P (.inl (some (.int 1))) M') : Sp E yL_isMoving cL_isMoving zL_isMoving [.ref (ad E 0 0 0), .int (nI p), .int (nI r), .int (nI t)] M P := by
  have h12 := hC.1.n12
  refine Sp_of (own := RL) (by decide) rfl rfl (Nat.le_of_ble_eq_true rfl) (fun C => ?_)
  refine G_aload_n dL_isMoving_0 rfl ?_
  refine G_iload_n dL_isMoving_1 rfl ?_
  refine G_iload_n dL_isMoving_2 rfl ?_
  refine G_iload_n dL_isMoving_3 rfl ?_
  refine cv_L_195 (cs' := 0) (ss' := 0) dL_isMoving_4  (Nat.le_of_ble_eq_true rfl) (Nat.le_of_ble_eq_true rfl) (Nat.le_of_ble_eq_true rfl) rfl rfl (Nat.le_of_ble_eq_true rfl) (Nat.le_of_ble_eq_true rfl) rfl ?_
  refine u_ifMoved hp hr ht hC (hGo_i ?_)
  refine G_istore dL_isMoving_7 (Nat.le_of_ble_eq_true rfl) ?_
  refine G_aload_n dL_isMoving_9 rfl ?_
  refine G_iload_n dL_isMoving_10 rfl ?_
  refine G_iload_n dL_isMoving_11 rfl ?_
  refine cv_L_134 (cs' := 0) (ss' := 0) dL_isMoving_12  (Nat.le_of_ble_eq_true rfl) (Nat.le_of_ble_eq_true rfl) (Nat.le_of_ble_eq_true rfl) rfl rfl (Nat.le_of_ble_eq_true rfl) (Nat.le_of_ble_eq_true rfl) rfl ?_
  refine u_bench hr ht hC (hGo_i ?_)
  refine G_iconst (v := (-1)) dL_isMoving_15 (by decide) ?_
  refine G_icmp_eq (tgt := 23) dL_isMoving_16 (by decide) (fun c16 => ?_) (fun c16 => ?_)
  · have c : onV g.A (nI r) (nI t) = -1 := c16
    obtain ⟨k, hk, ek, hle⟩ := sb_free hp h12 hr ht c
    have e1 : nI k / 6 = nI (k / 6) := pk_div (d := 6) (by omega) (by decide) (by decide)
    have e2 : nI k - nI k / 6 * 6 = nI (k % 6) := six (by omega)
    refine G_iconst (v := 0) dL_isMoving_23 (by decide) ?_
    refine G_istore dL_isMoving_24 (Nat.le_of_ble_eq_true rfl) ?_
    refine G_aload_n dL_isMoving_26 rfl ?_
    refine G_iload_n dL_isMoving_27 rfl ?_
    refine cv_L_198 (cs' := 0) (ss' := 0) dL_isMoving_28  (Nat.le_of_ble_eq_true rfl) (Nat.le_of_ble_eq_true rfl) (Nat.le_of_ble_eq_true rfl) rfl rfl (Nat.le_of_ble_eq_true rfl) (Nat.le_of_ble_eq_true rfl) rfl ?_
    refine u_safestBench (by first | assumption | omega) hC (hGo_i ?_)
    rw [ek]
    refine G_istore dL_isMoving_31 (Nat.le_of_ble_eq_true rfl) ?_
    refine G_iload dL_isMoving_33 rfl ?_
    refine G_if_ne (tgt := 60) dL_isMoving_35 (by decide) (fun c35 => ?_) (fun c35 => ?_)
    · exact absurd rfl c35
    · refine G_aload_n dL_isMoving_38 rfl ?_
      refine G_iload_n dL_isMoving_39 rfl ?_
      refine G_iload dL_isMoving_40 rfl ?_
      refine G_bipush (v := 6) dL_isMoving_42 (by decide) ?_
      refine G_idiv dL_isMoving_44 (by decide) ?_
      rw [e1]
      refine G_iload dL_isMoving_45 rfl ?_
      refine G_bipush (v := 6) dL_isMoving_47 (by decide) ?_
      refine G_irem dL_isMoving_49 (by decide) ?_
      rw [e2]
      refine cv_L_195 (cs' := 0) (ss' := 0) dL_isMoving_50  (Nat.le_of_ble_eq_true rfl) (Nat.le_of_ble_eq_true rfl) (Nat.le_of_ble_eq_true rfl) rfl rfl (Nat.le_of_ble_eq_true rfl) (Nat.le_of_ble_eq_true rfl) rfl ?_
      refine u_ifMoved hp (show k / 6 ≤ 5 by omega) (show k % 6 ≤ 5 by omega) hC (hGo_i ?_)
      refine G_iload dL_isMoving_53 rfl ?_
      refine G_icmp_le (tgt := 60) dL_isMoving_55 (by decide) (fun c55 => ?_) (fun c55 => ?_)
      · exact G_lv2 (mv_60 (tk := 0) hp hr ht hC hO (by rw [if_pos c]) h) ⟨rfl, rfl, rfl, rfl, rfl, trivial⟩
      · exact absurd hle c55
  · have c : ¬ onV g.A (nI r) (nI t) = -1 := c16
    refine G_iconst (v := 1) dL_isMoving_19 (by decide) ?_
    refine G_goto (tgt := 24) dL_isMoving_20 (by decide) ?_
    refine G_istore dL_isMoving_24 (Nat.le_of_ble_eq_true rfl) ?_
    refine G_aload_n dL_isMoving_26 rfl ?_
    refine G_iload_n dL_isMoving_27 rfl ?_
    refine cv_L_198 (cs' := 0) (ss' := 0) dL_isMoving_28  (Nat.le_of_ble_eq_true rfl) (Nat.le_of_ble_eq_true rfl) (Nat.le_of_ble_eq_true rfl) rfl rfl (Nat.le_of_ble_eq_true rfl) (Nat.le_of_ble_eq_true rfl) rfl ?_
    refine u_safestBench (by first | assumption | omega) hC (hGo_i ?_)
    refine G_istore dL_isMoving_31 (Nat.le_of_ble_eq_true rfl) ?_
    refine G_iload dL_isMoving_33 rfl ?_
    refine G_if_ne (tgt := 60) dL_isMoving_35 (by decide) (fun c35 => ?_) (fun c35 => ?_)
    · exact G_lv2 (mv_60 (tk := 1) hp hr ht hC hO (by rw [if_neg c]) h) ⟨rfl, rfl, rfl, rfl, rfl, trivial⟩
    · exact absurd c35 (by decide)
end LMOVE
