/-! ===== the law's isSwapping ===== -/
section LSWAP
variable {E : Ed} {M : Mm} {P : Res → Mm → Prop} {g : Gs} {C : Cx}
theorem swapA_6 {A : Ab} {x y n m : Nat} (hxy : x ≠ y) : (swapA A x y n m).f x 6 = A.f x 6 + bc (seersV A x y) := by
  show (if x = y ∧ 6 = 9 then _ else if x = y ∧ 6 = 6 then _ else if x = x ∧ 6 = 9 then _ else if x = x ∧ 6 = 6 then A.f x 6 + bc (seersV A x y) else A.f x 6) = _
  rw [if_neg (fun q => hxy q.1), if_neg (fun q => hxy q.1), if_neg (by omega), if_pos ⟨rfl, rfl⟩]
theorem swapA_s {A : Ab} {x y n m : Nat} : (swapA A x y n m).s (2 * y) = A.s (2 * y) ++ (A.s (2 * x)).take n := by
  show (if 2 * y = 2 * x + 1 then _ else if 2 * y = 2 * y + 1 then _ else if 2 * y = 2 * y + 0 then A.s (2 * y) ++ (A.s (2 * x)).take n else _) = _
  rw [if_neg (by omega), if_neg (by omega)]
  exact if_pos rfl
theorem bc_pos {A : Ab} {x y : Nat} (h12 : A.n ≤ 12) : 0 ≤ bc (seersV A x y) := by
  rw [show bc (seersV A x y) = sm A.n (fun k => if seeP A x y k = true then 1 else 0) from bc_bs _ h12, sm_b]
  have := sN_le (f := fun i => if seeP A x y i = true then 1 else 0) b_le A.n
  exact nI_pos' (by omega)
theorem rSwap_c {A : Ab} {x y n m : Nat} : rSwap A x y n m = 0 ∨ rSwap A x y n m = 1 ∨ rSwap A x y n m = 3 ∨ rSwap A x y n m = 4 ∨ rSwap A x y n m = 5 := by
  unfold rSwap
  repeat' split
  · exact Or.inr (Or.inr (Or.inr (Or.inr rfl)))
  · exact Or.inr (Or.inl rfl)
  · exact Or.inr (Or.inr (Or.inr (Or.inl rfl)))
  · exact Or.inl rfl
  · exact Or.inr (Or.inr (Or.inl rfl))
theorem sw_186 {x y n m : Nat} {u : Int32} (hx : x < g.A.n) (hy : y < g.A.n) (hxy : x ≠ y) (hn : n ≤ 3) (hm : m ≤ 3) (hC : CG M g) (hO : Okg g) (eu : u = (sSwap g x y n m).2) (h : ∀ M', CG M' (sSwap g x y n m).1 → Fr dCl M M' → P (.inl (some (.int 1))) M') : G E C RL cL_isSwapping zL_isSwapping P 0 0 M 186 [(0, .ref (ad E 0 0 0)), (1, .int (nI x)), (2, .int (nI y)), (3, .int (nI n)), (4, .int (nI m)), (8, .int (g.A.f x 6)), (9, .int (if n = 0 then -1 else atL (g.A.s (2 * x)) 0)), (10, .int (nI (g.A.s (2 * y)).length))] [.int u] := by
  have h12 := hC.1.n12
  have hn20 : n ≤ 20 := by omega
  have hm20 : m ≤ 20 := by omega
  have hly := (hO.1.2.2.2.1 (2 * y) (by omega)).1
  have hlx := (hO.1.2.2.2.1 (2 * x) (by omega)).1
  have hO1 := sSwap_ok hO hx hy hn20 hm20
  have hbp := bc_pos (x := x) (y := y) h12
  have hdl : (if 0 < -u then -u else 0) = rSwap g.A x y n m := by
    refine due_law ?_
    unfold sSwap at eu
    by_cases q : rSwap g.A x y n m = 0
    · rw [if_pos q] at eu
      exact Or.inl ⟨q, by rw [eu]; exact hbp⟩
    · rw [if_neg q] at eu
      refine Or.inr ⟨eu, ?_⟩
      rcases rSwap_c (A := g.A) (x := x) (y := y) (n := n) (m := m) with z | z | z | z | z
      · exact absurd z q
      · exact Or.inl z
      · exact Or.inr (Or.inl z)
      · exact Or.inr (Or.inr (Or.inl z))
      · exact Or.inr (Or.inr (Or.inr (Or.inl z)))
  have hsg : ¬ u < 0 → rSwap g.A x y n m = 0 := fun q => by
    by_cases z : rSwap g.A x y n m = 0
    · exact z
    · exfalso
      refine q ?_
      unfold sSwap at eu
      rw [if_neg z] at eu
      rw [eu]
      rcases rSwap_c (A := g.A) (x := x) (y := y) (n := n) (m := m) with w | w | w | w | w
      · exact absurd w z
      all_goals
        show -rSwap g.A x y n m < 0
        rw [w]
        decide
  refine G_istore dL_isSwapping_186 (Nat.le_of_ble_eq_true rfl) ?_
  refine G_aload_n dL_isSwapping_188 rfl ?_
  refine G_iload_n dL_isSwapping_189 rfl ?_
  refine G_iload_n dL_isSwapping_190 rfl ?_
  refine G_iload_n dL_isSwapping_191 rfl ?_
  refine G_iload dL_isSwapping_192 rfl ?_
  refine cv_L_173 (cs' := 0) (ss' := 0) dL_isSwapping_194  (Nat.le_of_ble_eq_true rfl) (Nat.le_of_ble_eq_true rfl) (Nat.le_of_ble_eq_true rfl) rfl rfl (Nat.le_of_ble_eq_true rfl) (Nat.le_of_ble_eq_true rfl) rfl ?_
  refine u_whySwap hx hy hn20 hm20 hC (hGo_i ?_)
  refine G_iconst (v := 0) dL_isSwapping_197 (by decide) ?_
  refine G_iload dL_isSwapping_198 rfl ?_
  refine G_ineg dL_isSwapping_200 ?_
  refine G_mmax dL_isSwapping_201 (hqx 1031 (by decide +kernel) rfl) (hqx 674 (by decide +kernel) rfl) (hqx 15 (by decide +kernel) rfl) (hqx 675 (by decide +kernel) rfl) (Nat.le_of_ble_eq_true rfl) (Nat.le_of_ble_eq_true rfl) (Nat.le_of_ble_eq_true rfl) (Nat.le_of_ble_eq_true rfl) ?_
  rw [hdl]
  refine G_icmp_eq (tgt := 209) dL_isSwapping_204 (by decide) (fun c204 => ?_) (fun c204 => ?_)
  · refine G_aload_n dL_isSwapping_209 rfl ?_
    refine G_iload_n dL_isSwapping_210 rfl ?_
    refine G_iload_n dL_isSwapping_211 rfl ?_
    refine G_iload_n dL_isSwapping_212 rfl ?_
    refine G_iload dL_isSwapping_213 rfl ?_
    refine cv_L_169 (cs' := 0) (ss' := 0) dL_isSwapping_215  (Nat.le_of_ble_eq_true rfl) (Nat.le_of_ble_eq_true rfl) (Nat.le_of_ble_eq_true rfl) rfl rfl (Nat.le_of_ble_eq_true rfl) (Nat.le_of_ble_eq_true rfl) rfl ?_
    refine u_swap hx hy hn20 hm20 hC hO (fun M1 g1 f1 => hGo_i ?_)
    rw [← eu]
    have k262 : ∀ (lv : List (Nat × Value)), G E C RL cL_isSwapping zL_isSwapping P 0 0 M1 262 lv [] := fun lv => by
      refine G_iconst (v := 1) dL_isSwapping_262 (by decide) ?_
      refine G_goto (tgt := 267) dL_isSwapping_263 (by decide) ?_
      refine G_iret dL_isSwapping_267 rfl rfl (Nat.le_of_ble_eq_true rfl) (Nat.le_of_ble_eq_true rfl) ?_
      exact h M1 g1 f1
    refine G_iload dL_isSwapping_218 rfl ?_
    refine G_icmp_eq (tgt := 225) dL_isSwapping_220 (by decide) (fun c220 => ?_) (fun c220 => ?_)
    · refine G_iload dL_isSwapping_225 rfl ?_
      refine G_if_lt (tgt := 262) dL_isSwapping_227 (by decide) (fun c227 => ?_) (fun c227 => ?_)
      · exact k262 _
      · have hr := hsg c227
        have eg : sSwap g x y n m = (actG g (swapA g.A x y n m), bc (seersV g.A x y)) := by
          unfold sSwap
          rw [if_pos hr]
        have g2 := g1
        rw [eg] at g2 hO1 eu
        have eu2 : u = bc (seersV g.A x y) := eu
        have hx1 : x < (actG g (swapA g.A x y n m)).A.n := hx
        have hy1 : y < (actG g (swapA g.A x y n m)).A.n := hy
        refine G_aload_n dL_isSwapping_230 rfl ?_
        refine G_iload_n dL_isSwapping_231 rfl ?_
        refine G_bipush (v := 6) dL_isSwapping_232 (by decide) ?_
        refine cv_L_59 (cs' := 0) (ss' := 0) dL_isSwapping_234  (Nat.le_of_ble_eq_true rfl) (Nat.le_of_ble_eq_true rfl) (Nat.le_of_ble_eq_true rfl) rfl rfl (Nat.le_of_ble_eq_true rfl) (Nat.le_of_ble_eq_true rfl) rfl ?_
        refine u_pupil (k := 6) hx1 (by decide) g2 hO1 (hGo_i ?_)
        refine G_st (st' := [.int (g.A.f x 6 + u)]) (by rw [eu2, ← swapA_6 (n := n) (m := m) hxy]; rfl) rfl rfl ?_
        refine G_iload dL_isSwapping_237 rfl ?_
        refine G_iload dL_isSwapping_239 rfl ?_
        refine G_iadd dL_isSwapping_241 ?_
        refine G_icmp_ne (tgt := 266) dL_isSwapping_242 (by decide) (fun c242 => ?_) (fun c242 => ?_)
        · exact absurd rfl c242
        · refine G_iload_n dL_isSwapping_245 rfl ?_
          refine G_if_eq (tgt := 262) dL_isSwapping_246 (by decide) (fun c246 => ?_) (fun c246 => ?_)
          · exact k262 _
          · have hn0 : ¬ n = 0 := fun q => c246 (by rw [q]; rfl)
            have hfew : n ≤ (g.A.s (2 * x)).length := by
              unfold rSwap at hr
              rw [if_neg hxy] at hr
              by_cases q1 : 0 < g.A.f x 8 ∨ 0 < g.A.f y 8
              · rw [if_pos q1] at hr
                exact absurd hr (by decide)
              · rw [if_neg q1] at hr
                rcases Nat.lt_or_ge (g.A.s (2 * x)).length n with q | q
                · rw [if_pos (Or.inl (nI_lt q (by omega)))] at hr
                  exact absurd hr (by decide)
                · exact q
            have hl2 := (hO1.1.2.2.2.1 (2 * y) (show 2 * y < 2 * g.A.n by omega)).1
            have es : (actG g (swapA g.A x y n m)).A.s (2 * y + 0) = g.A.s (2 * y) ++ (g.A.s (2 * x)).take n := swapA_s
            have hl3 : (g.A.s (2 * y) ++ (g.A.s (2 * x)).take n).length ≤ 20 := by
              rw [← es]
              exact hl2
            have htk : ((g.A.s (2 * x)).take n).length = n := by rw [List.length_take]; omega
            refine G_aload_n dL_isSwapping_249 rfl ?_
            refine G_iload_n dL_isSwapping_250 rfl ?_
            refine G_iconst (v := 0) dL_isSwapping_251 (by decide) ?_
            refine G_iload dL_isSwapping_252 rfl ?_
            refine cv_L_80 (cs' := 0) (ss' := 0) dL_isSwapping_254  (Nat.le_of_ble_eq_true rfl) (Nat.le_of_ble_eq_true rfl) (Nat.le_of_ble_eq_true rfl) rfl rfl (Nat.le_of_ble_eq_true rfl) (Nat.le_of_ble_eq_true rfl) rfl ?_
            refine u_piece (s := 0) hy1 (by decide) g2 (hGo_i ?_)
            rw [es, atL_in (by rw [List.length_append, htk]; omega) (by omega)]
            have e0 : (g.A.s (2 * y) ++ (g.A.s (2 * x)).take n).getD (g.A.s (2 * y)).length 0 = if n = 0 then -1 else atL (g.A.s (2 * x)) 0 := by
              rw [if_neg hn0, show atL (g.A.s (2 * x)) 0 = (g.A.s (2 * x)).getD 0 0 from atL_in (a := 0) (by omega) (by omega), List.getD_eq_getElem?_getD, List.getElem?_append_right (Nat.le_refl _), Nat.sub_self, List.getElem?_take, if_pos (by omega), List.getD_eq_getElem?_getD]
            rw [e0]
            refine G_iload dL_isSwapping_257 rfl ?_
            refine G_icmp_ne (tgt := 266) dL_isSwapping_259 (by decide) (fun c259 => ?_) (fun c259 => ?_)
            · exact absurd rfl c259
            · exact k262 _
    · exact absurd rfl c220
  · exact absurd rfl c204
theorem l_isSwapping {x y n m : Nat} (hx : x < g.A.n) (hy : y < g.A.n) (hn : n ≤ 3) (hm : m ≤ 3) (hC : CG M g) (hO : Okg g) (hG : Gd g.A) (h : ∀ M', CG M' (sSwap g x y n m).1 → Fr dCl M M' → P (.inl (some (.int 1))) M') : Sp E yL_isSwapping cL_isSwapping zL_isSwapping [.ref (ad E 0 0 0), .int (nI x), .int (nI y), .int (nI n), .int (nI m)] M P := by
  have h12 := hC.1.n12
  have hn20 : n ≤ 20 := by omega
  have hm20 : m ≤ 20 := by omega
  have l1 := (hO.1.2.2.2.1 (2 * x) (by omega)).1
  have l2 := (hO.1.2.2.2.1 (2 * y) (by omega)).1
  have l3 := (hO.1.2.2.2.1 (2 * x + 1) (by omega)).1
  have l4 := (hO.1.2.2.2.1 (2 * y + 1) (by omega)).1
  have hds := det_sum (hO.1.2.2.1 x hx).2.2.2.1 (hG.2.2.2.2 x hx) (hO.1.2.2.1 y hy).2.2.2.1 (hG.2.2.2.2 y hy)
  refine Sp_of (own := RL) (by decide) rfl rfl (Nat.le_of_ble_eq_true rfl) (fun C => ?_)
  refine G_iload_n dL_isSwapping_0 rfl ?_
  refine G_iload_n dL_isSwapping_1 rfl ?_
  refine G_icmp_ne (tgt := 25) dL_isSwapping_2 (by decide) (fun c2 => ?_) (fun c2 => ?_)
  · have hxy : x ≠ y := fun q => c2 (by rw [q])
    have er : ∀ r : Int32, rSwap g.A x y n m = r → r ≠ 0 → -r = (sSwap g x y n m).2 := fun r e0 hr => by
      unfold sSwap
      rw [e0, if_neg hr]
    -- due
    have k151 : ∀ b1 b2 b3 : Int32, (b1 = 0 ↔ ¬ (0 < g.A.f x 8 ∨ 0 < g.A.f y 8)) → (b2 = 0 ↔ ¬ (nI (g.A.s (2 * x)).length < nI n ∨ nI (g.A.s (2 * y + 1)).length < nI m)) → (b3 = 0 ↔ (nI n ≤ 20 - nI (g.A.s (2 * y)).length ∧ nI m ≤ 20 - nI (g.A.s (2 * x + 1)).length)) → G E C RL cL_isSwapping zL_isSwapping P 0 0 M 151 [(0, .ref (ad E 0 0 0)), (1, .int (nI x)), (2, .int (nI y)), (3, .int (nI n)), (4, .int (nI m)), (5, .int (b1)), (6, .int (b2)), (7, .int (b3)), (8, .int (g.A.f x 6)), (9, .int (if n = 0 then -1 else atL (g.A.s (2 * x)) 0)), (10, .int (nI (g.A.s (2 * y)).length))] [] := fun b1 b2 b3 h1 h2 h3 => by
      refine G_iload dL_isSwapping_151 rfl ?_
      refine G_if_eq (tgt := 160) dL_isSwapping_153 (by decide) (fun c153 => ?_) (fun c153 => ?_)
      · have q1 := h1.mp c153
        refine G_iload dL_isSwapping_160 rfl ?_
        refine G_if_eq (tgt := 170) dL_isSwapping_162 (by decide) (fun c162 => ?_) (fun c162 => ?_)
        · have q2 := h2.mp c162
          refine G_iload dL_isSwapping_170 rfl ?_
          refine G_if_eq (tgt := 180) dL_isSwapping_172 (by decide) (fun c172 => ?_) (fun c172 => ?_)
          · have q3 := h3.mp c172
            have hr : rSwap g.A x y n m = 0 := by
              unfold rSwap
              rw [if_neg hxy, if_neg q1, if_neg q2, if_pos q3]
            refine G_aload_n dL_isSwapping_180 rfl ?_
            refine G_iload_n dL_isSwapping_181 rfl ?_
            refine G_iload_n dL_isSwapping_182 rfl ?_
            refine cv_L_150 (cs' := 0) (ss' := 0) dL_isSwapping_183  (Nat.le_of_ble_eq_true rfl) (Nat.le_of_ble_eq_true rfl) (Nat.le_of_ble_eq_true rfl) rfl rfl (Nat.le_of_ble_eq_true rfl) (Nat.le_of_ble_eq_true rfl) rfl ?_
            refine l_seers (by first | assumption | omega) (by first | assumption | omega) hC hO (hGo_i ?_)
            refine G_lv2 (sw_186 hx hy hxy hn hm hC hO ?_ h) ⟨rfl, rfl, rfl, rfl, rfl, rfl, rfl, rfl, trivial⟩
            unfold sSwap
            rw [if_pos hr]
          · have q3 : ¬ (nI n ≤ 20 - nI (g.A.s (2 * y)).length ∧ nI m ≤ 20 - nI (g.A.s (2 * x + 1)).length) := fun q => c172 (h3.mpr q)
            refine G_bipush (v := (-3)) dL_isSwapping_175 (by decide) ?_
            refine G_goto (tgt := 186) dL_isSwapping_177 (by decide) ?_
            exact G_lv2 (sw_186 hx hy hxy hn hm hC hO (er 3 (by unfold rSwap; rw [if_neg hxy, if_neg q1, if_neg q2, if_neg q3]) (by decide)) h) ⟨rfl, rfl, rfl, rfl, rfl, rfl, rfl, rfl, trivial⟩
        · have q2 : nI (g.A.s (2 * x)).length < nI n ∨ nI (g.A.s (2 * y + 1)).length < nI m := Decidable.not_not.mp (fun q => c162 (h2.mpr q))
          refine G_bipush (v := (-4)) dL_isSwapping_165 (by decide) ?_
          refine G_goto (tgt := 186) dL_isSwapping_167 (by decide) ?_
          exact G_lv2 (sw_186 hx hy hxy hn hm hC hO (er 4 (by unfold rSwap; rw [if_neg hxy, if_neg q1, if_pos q2]) (by decide)) h) ⟨rfl, rfl, rfl, rfl, rfl, rfl, rfl, rfl, trivial⟩
      · have q1 : 0 < g.A.f x 8 ∨ 0 < g.A.f y 8 := Decidable.not_not.mp (fun q => c153 (h1.mpr q))
        refine G_iconst (v := (-1)) dL_isSwapping_156 (by decide) ?_
        refine G_goto (tgt := 186) dL_isSwapping_157 (by decide) ?_
        exact G_lv2 (sw_186 hx hy hxy hn hm hC hO (er 1 (by unfold rSwap; rw [if_neg hxy, if_pos q1]) (by decide)) h) ⟨rfl, rfl, rfl, rfl, rfl, rfl, rfl, rfl, trivial⟩
    -- proof, eldest, place
    have k114 : ∀ b1 b2 b3 : Int32, (b1 = 0 ↔ ¬ (0 < g.A.f x 8 ∨ 0 < g.A.f y 8)) → (b2 = 0 ↔ ¬ (nI (g.A.s (2 * x)).length < nI n ∨ nI (g.A.s (2 * y + 1)).length < nI m)) → (b3 = 0 ↔ (nI n ≤ 20 - nI (g.A.s (2 * y)).length ∧ nI m ≤ 20 - nI (g.A.s (2 * x + 1)).length)) → G E C RL cL_isSwapping zL_isSwapping P 0 0 M 114 [(0, .ref (ad E 0 0 0)), (1, .int (nI x)), (2, .int (nI y)), (3, .int (nI n)), (4, .int (nI m)), (5, .int (b1)), (6, .int (b2))] [.int b3] := fun b1 b2 b3 h1 h2 h3 => by
      have k140 : ∀ v : Int32, (if n = 0 then -1 else atL (g.A.s (2 * x)) 0) = v → G E C RL cL_isSwapping zL_isSwapping P 0 0 M 140 [(0, .ref (ad E 0 0 0)), (1, .int (nI x)), (2, .int (nI y)), (3, .int (nI n)), (4, .int (nI m)), (5, .int (b1)), (6, .int (b2)), (7, .int (b3)), (8, .int (g.A.f x 6))] [.int v] := fun v ev => by
        subst ev
        refine G_istore dL_isSwapping_140 (Nat.le_of_ble_eq_true rfl) ?_
        refine G_aload_n dL_isSwapping_142 rfl ?_
        refine G_iload_n dL_isSwapping_143 rfl ?_
        refine G_bipush (v := 9) dL_isSwapping_144 (by decide) ?_
        refine cv_L_59 (cs' := 0) (ss' := 0) dL_isSwapping_146  (Nat.le_of_ble_eq_true rfl) (Nat.le_of_ble_eq_true rfl) (Nat.le_of_ble_eq_true rfl) rfl rfl (Nat.le_of_ble_eq_true rfl) (Nat.le_of_ble_eq_true rfl) rfl ?_
        refine u_pupil (k := 9) (by first | assumption | omega) (by first | decide | assumption | omega) hC hO (hGo_i ?_)
        refine G_istore dL_isSwapping_149 (Nat.le_of_ble_eq_true rfl) ?_
        exact G_lv2 (k151 b1 b2 b3 h1 h2 h3) ⟨rfl, rfl, rfl, rfl, rfl, rfl, rfl, rfl, rfl, rfl, rfl, trivial⟩
      refine G_istore dL_isSwapping_114 (Nat.le_of_ble_eq_true rfl) ?_
      refine G_aload_n dL_isSwapping_116 rfl ?_
      refine G_iload_n dL_isSwapping_117 rfl ?_
      refine G_bipush (v := 6) dL_isSwapping_118 (by decide) ?_
      refine cv_L_59 (cs' := 0) (ss' := 0) dL_isSwapping_120  (Nat.le_of_ble_eq_true rfl) (Nat.le_of_ble_eq_true rfl) (Nat.le_of_ble_eq_true rfl) rfl rfl (Nat.le_of_ble_eq_true rfl) (Nat.le_of_ble_eq_true rfl) rfl ?_
      refine u_pupil (k := 6) (by first | assumption | omega) (by first | decide | assumption | omega) hC hO (hGo_i ?_)
      refine G_istore dL_isSwapping_123 (Nat.le_of_ble_eq_true rfl) ?_
      refine G_iload_n dL_isSwapping_125 rfl ?_
      refine G_if_le (tgt := 139) dL_isSwapping_126 (by decide) (fun c126 => ?_) (fun c126 => ?_)
      · have hn0 : n = 0 := by
          rcases Nat.eq_zero_or_pos n with q | q
          · exact q
          · exact absurd (show nI n ≤ 0 from c126) (nI_nle q (by omega))
        refine G_iconst (v := (-1)) dL_isSwapping_139 (by decide) ?_
        exact G_lv2 (k140 (-1) (if_pos hn0)) ⟨rfl, rfl, rfl, rfl, rfl, rfl, rfl, rfl, rfl, trivial⟩
      · have hn0 : ¬ n = 0 := fun q => c126 (by rw [q]; exact Int32.le_refl _)
        refine G_aload_n dL_isSwapping_129 rfl ?_
        refine G_iload_n dL_isSwapping_130 rfl ?_
        refine G_iconst (v := 0) dL_isSwapping_131 (by decide) ?_
        refine G_iconst (v := 0) dL_isSwapping_132 (by decide) ?_
        refine cv_L_80 (cs' := 0) (ss' := 0) dL_isSwapping_133  (Nat.le_of_ble_eq_true rfl) (Nat.le_of_ble_eq_true rfl) (Nat.le_of_ble_eq_true rfl) rfl rfl (Nat.le_of_ble_eq_true rfl) (Nat.le_of_ble_eq_true rfl) rfl ?_
        refine u_piece (s := 0) (by first | assumption | omega) (by first | decide | assumption | omega) hC (hGo_i ?_)
        refine G_goto (tgt := 140) dL_isSwapping_136 (by decide) ?_
        exact G_lv2 (k140 _ (if_neg hn0)) ⟨rfl, rfl, rfl, rfl, rfl, rfl, rfl, rfl, rfl, trivial⟩
    have k78 : ∀ b1 b2 : Int32, (b1 = 0 ↔ ¬ (0 < g.A.f x 8 ∨ 0 < g.A.f y 8)) → (b2 = 0 ↔ ¬ (nI (g.A.s (2 * x)).length < nI n ∨ nI (g.A.s (2 * y + 1)).length < nI m)) → G E C RL cL_isSwapping zL_isSwapping P 0 0 M 78 [(0, .ref (ad E 0 0 0)), (1, .int (nI x)), (2, .int (nI y)), (3, .int (nI n)), (4, .int (nI m)), (5, .int (b1))] [.int b2] := fun b1 b2 h1 h2 => by
      have kT : ¬ (nI n ≤ 20 - nI (g.A.s (2 * y)).length ∧ nI m ≤ 20 - nI (g.A.s (2 * x + 1)).length) → G E C RL cL_isSwapping zL_isSwapping P 0 0 M 109 [(0, .ref (ad E 0 0 0)), (1, .int (nI x)), (2, .int (nI y)), (3, .int (nI n)), (4, .int (nI m)), (5, .int (b1)), (6, .int (b2))] [] := fun q => by
        refine G_iconst (v := 1) dL_isSwapping_109 (by decide) ?_
        refine G_goto (tgt := 114) dL_isSwapping_110 (by decide) ?_
        exact k114 b1 b2 1 h1 h2 ⟨fun z => absurd z (by decide), fun z => absurd z q⟩
      refine G_istore dL_isSwapping_78 (Nat.le_of_ble_eq_true rfl) ?_
      refine G_aload_n dL_isSwapping_80 rfl ?_
      refine G_iload_n dL_isSwapping_81 rfl ?_
      refine G_bipush (v := 9) dL_isSwapping_82 (by decide) ?_
      refine cv_L_59 (cs' := 0) (ss' := 0) dL_isSwapping_84  (Nat.le_of_ble_eq_true rfl) (Nat.le_of_ble_eq_true rfl) (Nat.le_of_ble_eq_true rfl) rfl rfl (Nat.le_of_ble_eq_true rfl) (Nat.le_of_ble_eq_true rfl) rfl ?_
      refine u_pupil (k := 9) (by first | assumption | omega) (by first | decide | assumption | omega) hC hO (hGo_i ?_)
      refine G_iload_n dL_isSwapping_87 rfl ?_
      refine G_st (st' := [.int (nI n), .int (nI (g.A.s (2 * y)).length)]) rfl rfl rfl ?_
      refine G_iadd dL_isSwapping_88 ?_
      rw [nI_add]
      refine G_bipush (v := 20) dL_isSwapping_89 (by decide) ?_
      refine G_icmp_gt (tgt := 109) dL_isSwapping_91 (by decide) (fun c91 => ?_) (fun c91 => ?_)
      · have q1 : ¬ nI n ≤ 20 - nI (g.A.s (2 * y)).length := fun q => absurd c91 (nI_nlt (b := (g.A.s (2 * y)).length + n) (a := 20) (room_ok hn20 l2 q) (by decide))
        exact G_lv2 (kT (fun q => q1 q.1)) ⟨rfl, rfl, rfl, rfl, rfl, rfl, rfl, trivial⟩
      · have q1 : nI n ≤ 20 - nI (g.A.s (2 * y)).length := room20 hn20 l2 (by
          rcases Nat.lt_or_ge 20 ((g.A.s (2 * y)).length + n) with q | q
          · exact absurd (nI_lt (a := 20) q (by omega)) c91
          · exact q)
        refine G_aload_n dL_isSwapping_94 rfl ?_
        refine G_iload_n dL_isSwapping_95 rfl ?_
        refine G_bipush (v := 10) dL_isSwapping_96 (by decide) ?_
        refine cv_L_59 (cs' := 0) (ss' := 0) dL_isSwapping_98  (Nat.le_of_ble_eq_true rfl) (Nat.le_of_ble_eq_true rfl) (Nat.le_of_ble_eq_true rfl) rfl rfl (Nat.le_of_ble_eq_true rfl) (Nat.le_of_ble_eq_true rfl) rfl ?_
        refine u_pupil (k := 10) (by first | assumption | omega) (by first | decide | assumption | omega) hC hO (hGo_i ?_)
        refine G_iload dL_isSwapping_101 rfl ?_
        refine G_st (st' := [.int (nI m), .int (nI (g.A.s (2 * x + 1)).length)]) rfl rfl rfl ?_
        refine G_iadd dL_isSwapping_103 ?_
        rw [nI_add]
        refine G_bipush (v := 20) dL_isSwapping_104 (by decide) ?_
        refine G_icmp_le (tgt := 113) dL_isSwapping_106 (by decide) (fun c106 => ?_) (fun c106 => ?_)
        · have q2 : nI m ≤ 20 - nI (g.A.s (2 * x + 1)).length := room20 hm20 l3 ((nI_leI (by omega) (by decide)).mp (show nI ((g.A.s (2 * x + 1)).length + m) ≤ nI 20 from c106))
          refine G_iconst (v := 0) dL_isSwapping_113 (by decide) ?_
          exact G_lv2 (k114 b1 b2 0 h1 h2 ⟨fun _ => ⟨q1, q2⟩, fun _ => rfl⟩) ⟨rfl, rfl, rfl, rfl, rfl, rfl, rfl, trivial⟩
        · have q2 : ¬ nI m ≤ 20 - nI (g.A.s (2 * x + 1)).length := fun q => c106 (nI_le (a := (g.A.s (2 * x + 1)).length + m) (b := 20) (room_ok hm20 l3 q) (by decide))
          exact G_lv2 (kT (fun q => q2 q.2)) ⟨rfl, rfl, rfl, rfl, rfl, rfl, rfl, trivial⟩
    have k48 : ∀ b1 : Int32, (b1 = 0 ↔ ¬ (0 < g.A.f x 8 ∨ 0 < g.A.f y 8)) → G E C RL cL_isSwapping zL_isSwapping P 0 0 M 48 [(0, .ref (ad E 0 0 0)), (1, .int (nI x)), (2, .int (nI y)), (3, .int (nI n)), (4, .int (nI m))] [.int b1] := fun b1 h1 => by
      have kT : (nI (g.A.s (2 * x)).length < nI n ∨ nI (g.A.s (2 * y + 1)).length < nI m) → G E C RL cL_isSwapping zL_isSwapping P 0 0 M 73 [(0, .ref (ad E 0 0 0)), (1, .int (nI x)), (2, .int (nI y)), (3, .int (nI n)), (4, .int (nI m)), (5, .int (b1))] [] := fun q => by
        refine G_iconst (v := 1) dL_isSwapping_73 (by decide) ?_
        refine G_goto (tgt := 78) dL_isSwapping_74 (by decide) ?_
        exact k78 b1 1 h1 ⟨fun z => absurd z (by decide), fun z => absurd q z⟩
      refine G_istore dL_isSwapping_48 (Nat.le_of_ble_eq_true rfl) ?_
      refine G_aload_n dL_isSwapping_50 rfl ?_
      refine G_iload_n dL_isSwapping_51 rfl ?_
      refine G_bipush (v := 9) dL_isSwapping_52 (by decide) ?_
      refine cv_L_59 (cs' := 0) (ss' := 0) dL_isSwapping_54  (Nat.le_of_ble_eq_true rfl) (Nat.le_of_ble_eq_true rfl) (Nat.le_of_ble_eq_true rfl) rfl rfl (Nat.le_of_ble_eq_true rfl) (Nat.le_of_ble_eq_true rfl) rfl ?_
      refine u_pupil (k := 9) (by first | assumption | omega) (by first | decide | assumption | omega) hC hO (hGo_i ?_)
      refine G_iload_n dL_isSwapping_57 rfl ?_
      refine G_icmp_lt (tgt := 73) dL_isSwapping_58 (by decide) (fun c58 => ?_) (fun c58 => ?_)
      · exact G_lv2 (kT (Or.inl c58)) ⟨rfl, rfl, rfl, rfl, rfl, rfl, trivial⟩
      · refine G_aload_n dL_isSwapping_61 rfl ?_
        refine G_iload_n dL_isSwapping_62 rfl ?_
        refine G_bipush (v := 10) dL_isSwapping_63 (by decide) ?_
        refine cv_L_59 (cs' := 0) (ss' := 0) dL_isSwapping_65  (Nat.le_of_ble_eq_true rfl) (Nat.le_of_ble_eq_true rfl) (Nat.le_of_ble_eq_true rfl) rfl rfl (Nat.le_of_ble_eq_true rfl) (Nat.le_of_ble_eq_true rfl) rfl ?_
        refine u_pupil (k := 10) (by first | assumption | omega) (by first | decide | assumption | omega) hC hO (hGo_i ?_)
        refine G_iload dL_isSwapping_68 rfl ?_
        refine G_icmp_ge (tgt := 77) dL_isSwapping_70 (by decide) (fun c70 => ?_) (fun c70 => ?_)
        · refine G_iconst (v := 0) dL_isSwapping_77 (by decide) ?_
          exact G_lv2 (k78 b1 0 h1 ⟨fun _ q => q.elim c58 (fun z => absurd z (Int32.not_lt.mpr c70)), fun _ => rfl⟩) ⟨rfl, rfl, rfl, rfl, rfl, rfl, trivial⟩
        · exact G_lv2 (kT (Or.inr (Int32.not_le.mp c70))) ⟨rfl, rfl, rfl, rfl, rfl, rfl, trivial⟩
    refine G_aload_n dL_isSwapping_25 rfl ?_
    refine G_iload_n dL_isSwapping_26 rfl ?_
    refine G_bipush (v := 8) dL_isSwapping_27 (by decide) ?_
    refine cv_L_59 (cs' := 0) (ss' := 0) dL_isSwapping_29  (Nat.le_of_ble_eq_true rfl) (Nat.le_of_ble_eq_true rfl) (Nat.le_of_ble_eq_true rfl) rfl rfl (Nat.le_of_ble_eq_true rfl) (Nat.le_of_ble_eq_true rfl) rfl ?_
    refine u_pupil (k := 8) (by first | assumption | omega) (by first | decide | assumption | omega) hC hO (hGo_i ?_)
    refine G_aload_n dL_isSwapping_32 rfl ?_
    refine G_iload_n dL_isSwapping_33 rfl ?_
    refine G_bipush (v := 8) dL_isSwapping_34 (by decide) ?_
    refine cv_L_59 (cs' := 0) (ss' := 0) dL_isSwapping_36  (Nat.le_of_ble_eq_true rfl) (Nat.le_of_ble_eq_true rfl) (Nat.le_of_ble_eq_true rfl) rfl rfl (Nat.le_of_ble_eq_true rfl) (Nat.le_of_ble_eq_true rfl) rfl ?_
    refine u_pupil (k := 8) (by first | assumption | omega) (by first | decide | assumption | omega) hC hO (hGo_i ?_)
    refine G_iadd dL_isSwapping_39 ?_
    refine G_if_le (tgt := 47) dL_isSwapping_40 (by decide) (fun c40 => ?_) (fun c40 => ?_)
    · refine G_iconst (v := 0) dL_isSwapping_47 (by decide) ?_
      exact k48 0 ⟨fun _ q => absurd (hds.mpr q) (Int32.not_lt.mpr c40), fun _ => rfl⟩
    · refine G_iconst (v := 1) dL_isSwapping_43 (by decide) ?_
      refine G_goto (tgt := 48) dL_isSwapping_44 (by decide) ?_
      exact k48 1 ⟨fun z => absurd z (by decide), fun z => absurd (hds.mp (Int32.not_le.mp c40)) z⟩
  · have hxy : x = y := (nI_eq (by omega) (by omega)).mp c2
    have es : sSwap g x y n m = (refG g 5, -5) := by
      unfold sSwap rSwap
      rw [if_pos hxy]
      rfl
    refine G_aload_n dL_isSwapping_5 rfl ?_
    refine G_iload_n dL_isSwapping_6 rfl ?_
    refine G_iload_n dL_isSwapping_7 rfl ?_
    refine G_iload_n dL_isSwapping_8 rfl ?_
    refine G_iload dL_isSwapping_9 rfl ?_
    refine cv_L_169 (cs' := 0) (ss' := 0) dL_isSwapping_11  (Nat.le_of_ble_eq_true rfl) (Nat.le_of_ble_eq_true rfl) (Nat.le_of_ble_eq_true rfl) rfl rfl (Nat.le_of_ble_eq_true rfl) (Nat.le_of_ble_eq_true rfl) rfl ?_
    refine u_swap hx hy hn20 hm20 hC hO (fun M1 g1 f1 => hGo_i ?_)
    rw [es]
    refine G_bipush (v := (-5)) dL_isSwapping_14 (by decide) ?_
    refine G_icmp_ne (tgt := 23) dL_isSwapping_16 (by decide) (fun c16 => ?_) (fun c16 => ?_)
    · exact absurd rfl c16
    · refine G_iconst (v := 1) dL_isSwapping_19 (by decide) ?_
      refine G_goto (tgt := 24) dL_isSwapping_20 (by decide) ?_
      refine G_iret dL_isSwapping_24 rfl rfl (Nat.le_of_ble_eq_true rfl) (Nat.le_of_ble_eq_true rfl) ?_
      exact h M1 g1 f1
end LSWAP
