/-! ===== the law's isPaying ===== -/
section LPAY
variable {E : Ed} {M : Mm} {P : Res → Mm → Prop} {g : Gs} {C : Cx}
theorem rPay_c {A : Ab} {x y s n : Nat} : rPay A x y s n = 0 ∨ rPay A x y s n = 1 ∨ rPay A x y s n = 3 ∨ rPay A x y s n = 4 ∨ rPay A x y s n = 5 ∨ rPay A x y s n = 6 := by
  unfold rPay
  split
  · exact Or.inr (Or.inr (Or.inr (Or.inr (Or.inl rfl))))
  · split
    · exact Or.inr (Or.inr (Or.inr (Or.inr (Or.inr rfl))))
    · rcases rGive_d (A := A) (x := x) (y := y) (s := s) (n := n) with w | w | w | w
      · exact Or.inl w
      · exact Or.inr (Or.inl w)
      · exact Or.inr (Or.inr (Or.inl w))
      · exact Or.inr (Or.inr (Or.inr (Or.inl w)))
/-- a debt that can be paid: which one, and what is left -/
theorem pay_law {n x y s m : Nat} {A : Ab} (hD : dOk n A.d) (hm : 1 ≤ m) (hm2 : m ≤ 20) (hr : rPay A x y s m = 0) : ∃ i v, i < A.d.length ∧ fnd A.d (nI x) (nI y) (nI s) = nI i ∧ owedV A.d (nI x) (nI y) (nI s) = nI v ∧ dg A.d i 3 = nI v ∧ m ≤ v ∧ v ≤ 99 := by
  unfold rPay at hr
  have h1 : ¬ x = y := fun q => by rw [if_pos q] at hr; exact absurd hr (by decide)
  rw [if_neg h1] at hr
  have h2 : ¬ owedV A.d (nI x) (nI y) (nI s) < nI m := fun q => by rw [if_pos q] at hr; exact absurd hr (by decide)
  unfold owedV at h2 ⊢
  rcases fnd_cases A.d (nI x) (nI y) (nI s) with ⟨e, -⟩ | ⟨i, hi, e, -⟩
  · rw [if_pos e] at h2
    exact absurd (nI_lt (a := 0) (b := m) (by omega) (by omega)) h2
  · rw [if_neg (by rw [e]; exact nI_nm1 (by have := hD.1; omega)), e, nI_clamp (by have := hD.1; omega)] at h2 ⊢
    obtain ⟨-, -, -, v, hv1, hv2, ev⟩ := hD.2.1 i hi
    refine ⟨i, v, hi, rfl, ev, ev, ?_, hv2⟩
    rw [ev] at h2
    rcases Nat.lt_or_ge v m with q | q
    · exact absurd (nI_lt q (by omega)) h2
    · exact q
theorem payV_law {n x y s m : Nat} {A : Ab} (hD : dOk n A.d) (hm : 1 ≤ m) (hm2 : m ≤ 20) (hr : rPay A x y s m = 0) : ∃ w, w ≤ 99 ∧ payV A.d (nI x) (nI y) (nI s) (nI m) = nI w ∧ owedV A.d (nI x) (nI y) (nI s) - nI m = nI w := by
  obtain ⟨i, v, hi, e, eo, ed, h1, h2⟩ := pay_law hD hm hm2 hr
  refine ⟨v - m, by omega, ?_, ?_⟩
  · unfold payV
    rw [e, nI_clamp (by have := hD.1; omega), ed]
    exact pk_sub h1
  · rw [eo]
    exact pk_sub h1
theorem payD_len {n x y s m : Nat} {A : Ab} (hD : dOk n A.d) (hm : 1 ≤ m) (hm2 : m ≤ 20) (hr : rPay A x y s m = 0) : nI (payD A.d (nI x) (nI y) (nI s) (nI m)).length = nI A.d.length - (if payV A.d (nI x) (nI y) (nI s) (nI m) = 0 then 1 else 0) := by
  obtain ⟨i, v, hi, e, eo, ed, h1, h2⟩ := pay_law hD hm hm2 hr
  obtain ⟨w, hw, ew, -⟩ := payV_law hD hm hm2 hr
  have h30 := hD.1
  unfold payD
  by_cases q : payV A.d (nI x) (nI y) (nI s) (nI m) = 0
  · rw [if_pos (by rw [q]; exact Int32.le_refl _), if_pos q, e, nI_clamp (by omega), List.length_eraseIdx_of_lt (by rw [setP_len]; exact hi), setP_len]
    exact (pk_sub (b := 1) (by omega)).symm
  · rw [if_neg (fun z => q (by
      rw [ew] at z ⊢
      have := (nI_leI (b := 0) (by omega) (by decide)).mp z
      rw [show w = 0 by omega]
      rfl)), if_neg q, setP_len, Int32.sub_zero]
theorem neg_lt {r : Int32} (h : r = 1 ∨ r = 3 ∨ r = 4 ∨ r = 5 ∨ r = 6 ∨ r = 9) : -r < 0 := by
  rcases h with rfl | rfl | rfl | rfl | rfl | rfl <;> decide
theorem l_isPaying {x y s n : Nat} (hx : x < g.A.n) (hy : y < g.A.n) (hs : s ≤ 1) (hn1 : 1 ≤ n) (hn : n ≤ 6) (hC : CG M g) (hO : Okg g) (hG : Gd g.A) (h : ∀ M', CG M' (sPay g x y s n).1 → Fr dCl M M' → P (.inl (some (.int 1))) M') : Sp E yL_isPaying cL_isPaying zL_isPaying [.ref (ad E 0 0 0), .int (nI x), .int (nI y), .int (nI s), .int (nI n)] M P := by
  have h12 := hC.1.n12
  have h30 := hC.1.d.2.1
  have hD := hO.1.2.2.2.2
  have hlx := (hO.1.2.2.2.1 (2 * x + s) (by omega)).1
  have hly := (hO.1.2.2.2.1 (2 * y + s) (by omega)).1
  have e9 : (9 : Int32) + nI s = nI (9 + s) := nI_add 9 s
  have hn20 : n ≤ 20 := by omega
  have hds := det_sum (hO.1.2.2.1 x hx).2.2.2.1 (hG.2.2.2.2 x hx) (hO.1.2.2.1 y hy).2.2.2.1 (hG.2.2.2.2 y hy)
  refine Sp_of (own := RL) (by decide) rfl rfl (Nat.le_of_ble_eq_true rfl) (fun C => ?_)
  refine G_iload_n dL_isPaying_0 rfl ?_
  refine G_iload_n dL_isPaying_1 rfl ?_
  refine G_icmp_ne (tgt := 25) dL_isPaying_2 (by decide) (fun c2 => ?_) (fun c2 => ?_)
  · have hxy : x ≠ y := fun q => c2 (by rw [q])
    have hO1 := sPay_ok (s := s) hO hx hy (by omega) hn1 hn20
    have k114 : ∀ u : Int32, u = (sPay g x y s n).2 → G E C RL cL_isPaying zL_isPaying P 0 0 M 114 [(0, .ref (ad E 0 0 0)), (1, .int (nI x)), (2, .int (nI y)), (3, .int (nI s)), (4, .int (nI n))] [.int u] := fun u eu => by
      have hsg : u < 0 ↔ ¬ rPay g.A x y s n = 0 := by
        unfold sPay at eu
        by_cases q : rPay g.A x y s n = 0
        · rw [if_pos q] at eu
          obtain ⟨w, hw, ew, -⟩ := payV_law hD hn1 hn20 q
          rw [eu, show ((actG g (payA g.A x y s n), payV g.A.d (nI x) (nI y) (nI s) (nI n)) : Gs × Int32).2 = _ from ew]
          exact ⟨fun z => absurd z (nI_pos (by omega)), fun z => absurd q z⟩
        · rw [if_neg q] at eu
          refine ⟨fun _ => q, fun _ => ?_⟩
          rw [eu]
          rcases rPay_c (A := g.A) (x := x) (y := y) (s := s) (n := n) with w | w | w | w | w | w
          · exact absurd w q
          all_goals
            show -rPay g.A x y s n < 0
            rw [w]
            decide
      have k206 : G E C RL cL_isPaying zL_isPaying P 0 0 M 206 [(0, .ref (ad E 0 0 0)), (1, .int (nI x)), (2, .int (nI y)), (3, .int (nI s)), (4, .int (nI n)), (6, .int u), (7, .int (nI g.A.d.length))] [] := by
        refine G_aload_n dL_isPaying_206 rfl ?_
        refine G_iload_n dL_isPaying_207 rfl ?_
        refine G_iload_n dL_isPaying_208 rfl ?_
        refine G_iload_n dL_isPaying_209 rfl ?_
        refine G_iload dL_isPaying_210 rfl ?_
        refine cv_L_182 (cs' := 0) (ss' := 0) dL_isPaying_212  (Nat.le_of_ble_eq_true rfl) (Nat.le_of_ble_eq_true rfl) (Nat.le_of_ble_eq_true rfl) rfl rfl (Nat.le_of_ble_eq_true rfl) (Nat.le_of_ble_eq_true rfl) rfl ?_
        refine u_payBack hx hy hs hn1 hn20 hC hO (fun M1 g1 f1 => hGo_i ?_)
        rw [← eu]
        refine G_iload dL_isPaying_215 rfl ?_
        refine G_icmp_ne (tgt := 251) dL_isPaying_217 (by decide) (fun c217 => ?_) (fun c217 => ?_)
        · exact absurd rfl c217
        · refine G_iload dL_isPaying_220 rfl ?_
          refine G_if_lt (tgt := 247) dL_isPaying_222 (by decide) (fun c222 => ?_) (fun c222 => ?_)
          · refine G_iconst (v := 1) dL_isPaying_247 (by decide) ?_
            refine G_goto (tgt := 252) dL_isPaying_248 (by decide) ?_
            refine G_iret dL_isPaying_252 rfl rfl (Nat.le_of_ble_eq_true rfl) (Nat.le_of_ble_eq_true rfl) ?_
            exact h M1 g1 f1
          · have hr : rPay g.A x y s n = 0 := Decidable.not_not.mp (fun q => c222 (hsg.mpr q))
            have eg : sPay g x y s n = (actG g (payA g.A x y s n), payV g.A.d (nI x) (nI y) (nI s) (nI n)) := by
              unfold sPay
              rw [if_pos hr]
            have g2 := g1
            rw [eg] at g2 hO1 eu
            have eu2 : u = payV g.A.d (nI x) (nI y) (nI s) (nI n) := eu
            have hlen := payD_len (x := x) (y := y) (s := s) hD hn1 hn20 hr
            rw [← eu2] at hlen
            have k243 : ∀ v : Int32, (if u = 0 then (1 : Int32) else 0) = v → G E C RL cL_isPaying zL_isPaying P 0 0 M1 243 [(0, .ref (ad E 0 0 0)), (1, .int (nI x)), (2, .int (nI y)), (3, .int (nI s)), (4, .int (nI n)), (6, .int u), (7, .int (nI g.A.d.length))] [.int v, .int (nI g.A.d.length), .int (nI (payD g.A.d (nI x) (nI y) (nI s) (nI n)).length)] := fun v ev => by
              refine G_isub dL_isPaying_243 ?_
              rw [hlen, ev]
              refine G_icmp_ne (tgt := 251) dL_isPaying_244 (by decide) (fun c244 => ?_) (fun c244 => ?_)
              · exact absurd rfl c244
              · refine G_iconst (v := 1) dL_isPaying_247 (by decide) ?_
                refine G_goto (tgt := 252) dL_isPaying_248 (by decide) ?_
                refine G_iret dL_isPaying_252 rfl rfl (Nat.le_of_ble_eq_true rfl) (Nat.le_of_ble_eq_true rfl) ?_
                exact h M1 g1 f1
            refine G_aload_n dL_isPaying_225 rfl ?_
            refine G_bipush (v := 8) dL_isPaying_226 (by decide) ?_
            refine cv_L_68 (cs' := 0) (ss' := 0) dL_isPaying_228  (Nat.le_of_ble_eq_true rfl) (Nat.le_of_ble_eq_true rfl) (Nat.le_of_ble_eq_true rfl) rfl rfl (Nat.le_of_ble_eq_true rfl) (Nat.le_of_ble_eq_true rfl) rfl ?_
            refine u_count (k := 8) (by decide) g2 (hGo_i ?_)
            refine G_st (st' := [.int (nI (payD g.A.d (nI x) (nI y) (nI s) (nI n)).length)]) rfl rfl rfl ?_
            refine G_iload dL_isPaying_231 rfl ?_
            refine G_iload dL_isPaying_233 rfl ?_
            refine G_if_ne (tgt := 242) dL_isPaying_235 (by decide) (fun c235 => ?_) (fun c235 => ?_)
            · refine G_iconst (v := 0) dL_isPaying_242 (by decide) ?_
              exact k243 0 (if_neg c235)
            · refine G_iconst (v := 1) dL_isPaying_238 (by decide) ?_
              refine G_goto (tgt := 243) dL_isPaying_239 (by decide) ?_
              exact k243 1 (if_pos c235)
      refine G_istore dL_isPaying_114 (Nat.le_of_ble_eq_true rfl) ?_
      refine G_aload_n dL_isPaying_116 rfl ?_
      refine G_bipush (v := 8) dL_isPaying_117 (by decide) ?_
      refine cv_L_68 (cs' := 0) (ss' := 0) dL_isPaying_119  (Nat.le_of_ble_eq_true rfl) (Nat.le_of_ble_eq_true rfl) (Nat.le_of_ble_eq_true rfl) rfl rfl (Nat.le_of_ble_eq_true rfl) (Nat.le_of_ble_eq_true rfl) rfl ?_
      refine u_count (k := 8) (by first | decide | assumption | omega) hC (hGo_i ?_)
      refine G_istore dL_isPaying_122 (Nat.le_of_ble_eq_true rfl) ?_
      refine G_iconst (v := 0) dL_isPaying_124 (by decide) ?_
      refine G_istore dL_isPaying_125 (Nat.le_of_ble_eq_true rfl) ?_
      refine G_lv (lv' := [(0, .ref (ad E 0 0 0)), (1, .int (nI x)), (2, .int (nI y)), (3, .int (nI s)), (4, .int (nI n)), (6, .int u), (7, .int (nI g.A.d.length)), (8, .int (nI 0))]) ⟨rfl, rfl, rfl, rfl, rfl, rfl, rfl, rfl, trivial⟩ ?_
      refine up0 (c := g.A.d.length) (H := fun i => G E C RL cL_isPaying zL_isPaying P 0 0 M 127 [(0, .ref (ad E 0 0 0)), (1, .int (nI x)), (2, .int (nI y)), (3, .int (nI s)), (4, .int (nI n)), (6, .int u), (7, .int (nI g.A.d.length)), (8, .int (nI i))] []) ?_ (fun i hi ih => ?_)
      · refine G_iload dL_isPaying_127 rfl ?_
        refine G_iload dL_isPaying_129 rfl ?_
        refine G_icmp_ge (tgt := 206) dL_isPaying_131 (by decide) (fun c131 => ?_) (fun c131 => ?_)
        · exact G_lv2 k206 ⟨rfl, rfl, rfl, rfl, rfl, rfl, rfl, trivial⟩
        · exact absurd (show nI g.A.d.length ≤ nI g.A.d.length from Int32.le_refl _) c131
      · have k200 : G E C RL cL_isPaying zL_isPaying P 0 0 M 200 [(0, .ref (ad E 0 0 0)), (1, .int (nI x)), (2, .int (nI y)), (3, .int (nI s)), (4, .int (nI n)), (6, .int u), (7, .int (nI g.A.d.length)), (8, .int (nI i))] [] := by
          refine G_iinc (v := 1) dL_isPaying_200 rfl (Nat.le_of_ble_eq_true rfl) (by decide) ?_
          refine G_goto (tgt := 127) dL_isPaying_203 (by decide) ?_
          exact G_lv2 ih ⟨rfl, rfl, rfl, rfl, rfl, rfl, rfl, lvi (nI_1 i), trivial⟩
        refine G_iload dL_isPaying_127 rfl ?_
        refine G_iload dL_isPaying_129 rfl ?_
        refine G_icmp_ge (tgt := 206) dL_isPaying_131 (by decide) (fun c131 => ?_) (fun c131 => ?_)
        · exact absurd (show nI g.A.d.length ≤ nI i from c131) (nI_ge hi (by omega))
        · refine G_aload_n dL_isPaying_134 rfl ?_
          refine G_iload dL_isPaying_135 rfl ?_
          refine G_iconst (v := 0) dL_isPaying_137 (by decide) ?_
          refine cv_L_91 (cs' := 0) (ss' := 0) dL_isPaying_138  (Nat.le_of_ble_eq_true rfl) (Nat.le_of_ble_eq_true rfl) (Nat.le_of_ble_eq_true rfl) rfl rfl (Nat.le_of_ble_eq_true rfl) (Nat.le_of_ble_eq_true rfl) rfl ?_
          refine u_debt (k := 0) (by first | assumption | omega) (by first | decide | assumption | omega) hC (hGo_i ?_)
          refine G_iload_n dL_isPaying_141 rfl ?_
          refine G_icmp_ne (tgt := 200) dL_isPaying_142 (by decide) (fun c142 => ?_) (fun c142 => ?_)
          · exact k200
          · refine G_aload_n dL_isPaying_145 rfl ?_
            refine G_iload dL_isPaying_146 rfl ?_
            refine G_iconst (v := 1) dL_isPaying_148 (by decide) ?_
            refine cv_L_91 (cs' := 0) (ss' := 0) dL_isPaying_149  (Nat.le_of_ble_eq_true rfl) (Nat.le_of_ble_eq_true rfl) (Nat.le_of_ble_eq_true rfl) rfl rfl (Nat.le_of_ble_eq_true rfl) (Nat.le_of_ble_eq_true rfl) rfl ?_
            refine u_debt (k := 1) (by first | assumption | omega) (by first | decide | assumption | omega) hC (hGo_i ?_)
            refine G_iload_n dL_isPaying_152 rfl ?_
            refine G_icmp_ne (tgt := 200) dL_isPaying_153 (by decide) (fun c153 => ?_) (fun c153 => ?_)
            · exact k200
            · refine G_aload_n dL_isPaying_156 rfl ?_
              refine G_iload dL_isPaying_157 rfl ?_
              refine G_iconst (v := 2) dL_isPaying_159 (by decide) ?_
              refine cv_L_91 (cs' := 0) (ss' := 0) dL_isPaying_160  (Nat.le_of_ble_eq_true rfl) (Nat.le_of_ble_eq_true rfl) (Nat.le_of_ble_eq_true rfl) rfl rfl (Nat.le_of_ble_eq_true rfl) (Nat.le_of_ble_eq_true rfl) rfl ?_
              refine u_debt (k := 2) (by first | assumption | omega) (by first | decide | assumption | omega) hC (hGo_i ?_)
              refine G_iload_n dL_isPaying_163 rfl ?_
              refine G_icmp_ne (tgt := 200) dL_isPaying_164 (by decide) (fun c164 => ?_) (fun c164 => ?_)
              · exact k200
              · refine G_aload_n dL_isPaying_167 rfl ?_
                refine G_iload dL_isPaying_168 rfl ?_
                refine G_iconst (v := 3) dL_isPaying_170 (by decide) ?_
                refine cv_L_91 (cs' := 0) (ss' := 0) dL_isPaying_171  (Nat.le_of_ble_eq_true rfl) (Nat.le_of_ble_eq_true rfl) (Nat.le_of_ble_eq_true rfl) rfl rfl (Nat.le_of_ble_eq_true rfl) (Nat.le_of_ble_eq_true rfl) rfl ?_
                refine u_debt (k := 3) (by first | assumption | omega) (by first | decide | assumption | omega) hC (hGo_i ?_)
                refine G_iload dL_isPaying_174 rfl ?_
                refine G_icmp_ne (tgt := 200) dL_isPaying_176 (by decide) (fun c176 => ?_) (fun c176 => ?_)
                · exact k200
                · have hcp : canPayV g.A i = if rPay g.A x y s n = 0 then 1 else 0 := by
                    unfold canPayV
                    rw [show dg g.A.d i 0 = nI x from c142, show dg g.A.d i 1 = nI y from c153, show dg g.A.d i 2 = nI s from c164, show dg g.A.d i 3 = nI n from c176, tn_nI (p := x) (by omega), tn_nI (p := y) (by omega), tn_nI (p := s) (by omega), tn_nI (p := n) (by omega)]
                    by_cases q : rPay g.A x y s n = 0
                    · rw [if_pos q, if_pos ⟨nI_le (b := 20) hn20 (by decide), q⟩]
                    · rw [if_neg q, if_neg (fun z => q z.2)]
                  refine G_aload_n dL_isPaying_179 rfl ?_
                  refine G_iload dL_isPaying_180 rfl ?_
                  refine cv_L_185 (cs' := 0) (ss' := 0) dL_isPaying_182  (Nat.le_of_ble_eq_true rfl) (Nat.le_of_ble_eq_true rfl) (Nat.le_of_ble_eq_true rfl) rfl rfl (Nat.le_of_ble_eq_true rfl) (Nat.le_of_ble_eq_true rfl) rfl ?_
                  refine u_canPay hi hC hO (hGo_i ?_)
                  rw [hcp]
                  refine G_iload dL_isPaying_185 rfl ?_
                  refine G_if_lt (tgt := 194) dL_isPaying_187 (by decide) (fun c187 => ?_) (fun c187 => ?_)
                  · rw [if_neg (hsg.mp c187)]
                    refine G_iconst (v := 0) dL_isPaying_194 (by decide) ?_
                    refine G_icmp_eq (tgt := 200) dL_isPaying_195 (by decide) (fun c195 => ?_) (fun c195 => ?_)
                    · exact k200
                    · exact absurd rfl c195
                  · rw [if_pos (show rPay g.A x y s n = 0 from Decidable.not_not.mp (fun q => c187 (hsg.mpr q)))]
                    refine G_iconst (v := 1) dL_isPaying_190 (by decide) ?_
                    refine G_goto (tgt := 195) dL_isPaying_191 (by decide) ?_
                    refine G_icmp_eq (tgt := 200) dL_isPaying_195 (by decide) (fun c195 => ?_) (fun c195 => ?_)
                    · exact k200
                    · exact absurd rfl c195
    have r1 : ∀ r : Int32, rPay g.A x y s n = r → r ≠ 0 → -r = (sPay g x y s n).2 := fun r er hr => by
      unfold sPay
      rw [er, if_neg hr]
    refine G_aload_n dL_isPaying_25 rfl ?_
    refine G_iload_n dL_isPaying_26 rfl ?_
    refine G_iload_n dL_isPaying_27 rfl ?_
    refine G_iload_n dL_isPaying_28 rfl ?_
    refine cv_L_94 (cs' := 0) (ss' := 0) dL_isPaying_29  (Nat.le_of_ble_eq_true rfl) (Nat.le_of_ble_eq_true rfl) (Nat.le_of_ble_eq_true rfl) rfl rfl (Nat.le_of_ble_eq_true rfl) (Nat.le_of_ble_eq_true rfl) rfl ?_
    refine u_owes (by first | assumption | omega) (by first | assumption | omega) (by first | assumption | omega) hC (hGo_i ?_)
    refine G_istore dL_isPaying_32 (Nat.le_of_ble_eq_true rfl) ?_
    refine G_iload dL_isPaying_34 rfl ?_
    refine G_iload dL_isPaying_36 rfl ?_
    refine G_icmp_ge (tgt := 46) dL_isPaying_38 (by decide) (fun c38 => ?_) (fun c38 => ?_)
    · have c0 : ¬ owedV g.A.d (nI x) (nI y) (nI s) < nI n := Int32.not_lt.mpr c38
      have e0 : rPay g.A x y s n = rGive g.A x y s n := by
        unfold rPay
        rw [if_neg hxy, if_neg c0]
      refine G_aload_n dL_isPaying_46 rfl ?_
      refine G_iload_n dL_isPaying_47 rfl ?_
      refine G_bipush (v := 8) dL_isPaying_48 (by decide) ?_
      refine cv_L_59 (cs' := 0) (ss' := 0) dL_isPaying_50  (Nat.le_of_ble_eq_true rfl) (Nat.le_of_ble_eq_true rfl) (Nat.le_of_ble_eq_true rfl) rfl rfl (Nat.le_of_ble_eq_true rfl) (Nat.le_of_ble_eq_true rfl) rfl ?_
      refine u_pupil (k := 8) (by first | assumption | omega) (by first | decide | assumption | omega) hC hO (hGo_i ?_)
      refine G_aload_n dL_isPaying_53 rfl ?_
      refine G_iload_n dL_isPaying_54 rfl ?_
      refine G_bipush (v := 8) dL_isPaying_55 (by decide) ?_
      refine cv_L_59 (cs' := 0) (ss' := 0) dL_isPaying_57  (Nat.le_of_ble_eq_true rfl) (Nat.le_of_ble_eq_true rfl) (Nat.le_of_ble_eq_true rfl) rfl rfl (Nat.le_of_ble_eq_true rfl) (Nat.le_of_ble_eq_true rfl) rfl ?_
      refine u_pupil (k := 8) (by first | assumption | omega) (by first | decide | assumption | omega) hC hO (hGo_i ?_)
      refine G_iadd dL_isPaying_60 ?_
      refine G_if_le (tgt := 68) dL_isPaying_61 (by decide) (fun c61 => ?_) (fun c61 => ?_)
      · have c1 : ¬ (0 < g.A.f x 8 ∨ 0 < g.A.f y 8) := fun q => absurd (hds.mpr q) (Int32.not_lt.mpr c61)
        refine G_aload_n dL_isPaying_68 rfl ?_
        refine G_iload_n dL_isPaying_69 rfl ?_
        refine G_bipush (v := 9) dL_isPaying_70 (by decide) ?_
        refine G_iload_n dL_isPaying_72 rfl ?_
        refine G_iadd dL_isPaying_73 ?_
        rw [e9]
        refine cv_L_59 (cs' := 0) (ss' := 0) dL_isPaying_74  (Nat.le_of_ble_eq_true rfl) (Nat.le_of_ble_eq_true rfl) (Nat.le_of_ble_eq_true rfl) rfl rfl (Nat.le_of_ble_eq_true rfl) (Nat.le_of_ble_eq_true rfl) rfl ?_
        refine u_pupil (k := 9 + s) hx (by omega) hC hO (hGo_i ?_)
        rw [pupV_s hs]
        refine G_iload dL_isPaying_77 rfl ?_
        refine G_icmp_ge (tgt := 87) dL_isPaying_79 (by decide) (fun c79 => ?_) (fun c79 => ?_)
        · have c3 : ¬ nI (g.A.s (2 * x + s)).length < nI n := Int32.not_lt.mpr c79
          refine G_aload_n dL_isPaying_87 rfl ?_
          refine G_iload_n dL_isPaying_88 rfl ?_
          refine G_bipush (v := 9) dL_isPaying_89 (by decide) ?_
          refine G_iload_n dL_isPaying_91 rfl ?_
          refine G_iadd dL_isPaying_92 ?_
          rw [e9]
          refine cv_L_59 (cs' := 0) (ss' := 0) dL_isPaying_93  (Nat.le_of_ble_eq_true rfl) (Nat.le_of_ble_eq_true rfl) (Nat.le_of_ble_eq_true rfl) rfl rfl (Nat.le_of_ble_eq_true rfl) (Nat.le_of_ble_eq_true rfl) rfl ?_
          refine u_pupil (k := 9 + s) hy (by omega) hC hO (hGo_i ?_)
          rw [pupV_s hs]
          refine G_iload dL_isPaying_96 rfl ?_
          refine G_iadd dL_isPaying_98 ?_
          rw [nI_add]
          refine G_bipush (v := 20) dL_isPaying_99 (by decide) ?_
          refine G_icmp_le (tgt := 109) dL_isPaying_101 (by decide) (fun c101 => ?_) (fun c101 => ?_)
          · have c4 : nI n ≤ 20 - nI (g.A.s (2 * y + s)).length := room20 hn20 hly ((nI_leI (by omega) (by decide)).mp (show nI ((g.A.s (2 * y + s)).length + n) ≤ nI 20 from c101))
            have hr0 : rPay g.A x y s n = 0 := by
              rw [e0]
              unfold rGive
              rw [if_neg c1, if_neg c3, if_pos c4]
            refine G_iload dL_isPaying_109 rfl ?_
            refine G_iload dL_isPaying_111 rfl ?_
            refine G_isub dL_isPaying_113 ?_
            refine G_lv2 (k114 _ ?_) ⟨rfl, rfl, rfl, rfl, rfl, trivial⟩
            obtain ⟨w, hw, ew, eo⟩ := payV_law hD hn1 hn20 hr0
            unfold sPay
            rw [if_pos hr0]
            exact eo.trans ew.symm
          · have c4 : ¬ nI n ≤ 20 - nI (g.A.s (2 * y + s)).length := fun q => c101 (nI_le (a := (g.A.s (2 * y + s)).length + n) (b := 20) (room_ok hn20 hly q) (by decide))
            refine G_bipush (v := (-3)) dL_isPaying_104 (by decide) ?_
            refine G_goto (tgt := 114) dL_isPaying_106 (by decide) ?_
            exact G_lv2 (k114 _ (r1 3 (by rw [e0]; unfold rGive; rw [if_neg c1, if_neg c3, if_neg c4]) (by decide))) ⟨rfl, rfl, rfl, rfl, rfl, trivial⟩
        · have c3 : nI (g.A.s (2 * x + s)).length < nI n := Int32.not_le.mp c79
          refine G_bipush (v := (-4)) dL_isPaying_82 (by decide) ?_
          refine G_goto (tgt := 114) dL_isPaying_84 (by decide) ?_
          exact G_lv2 (k114 _ (r1 4 (by rw [e0]; unfold rGive; rw [if_neg c1, if_pos c3]) (by decide))) ⟨rfl, rfl, rfl, rfl, rfl, trivial⟩
      · have c1 : 0 < g.A.f x 8 ∨ 0 < g.A.f y 8 := hds.mp (Int32.not_le.mp c61)
        refine G_iconst (v := (-1)) dL_isPaying_64 (by decide) ?_
        refine G_goto (tgt := 114) dL_isPaying_65 (by decide) ?_
        exact G_lv2 (k114 _ (r1 1 (by rw [e0]; unfold rGive; rw [if_pos c1]) (by decide))) ⟨rfl, rfl, rfl, rfl, rfl, trivial⟩
    · have c0 : owedV g.A.d (nI x) (nI y) (nI s) < nI n := Int32.not_le.mp c38
      refine G_bipush (v := (-6)) dL_isPaying_41 (by decide) ?_
      refine G_goto (tgt := 114) dL_isPaying_43 (by decide) ?_
      exact G_lv2 (k114 _ (r1 6 (by unfold rPay; rw [if_neg hxy, if_pos c0]) (by decide))) ⟨rfl, rfl, rfl, rfl, rfl, trivial⟩
  · have hxy : x = y := (nI_eq (by omega) (by omega)).mp c2
    have es : sPay g x y s n = (refG g 5, -5) := by
      unfold sPay rPay
      rw [if_pos hxy]
      rfl
    refine G_aload_n dL_isPaying_5 rfl ?_
    refine G_iload_n dL_isPaying_6 rfl ?_
    refine G_iload_n dL_isPaying_7 rfl ?_
    refine G_iload_n dL_isPaying_8 rfl ?_
    refine G_iload dL_isPaying_9 rfl ?_
    refine cv_L_182 (cs' := 0) (ss' := 0) dL_isPaying_11  (Nat.le_of_ble_eq_true rfl) (Nat.le_of_ble_eq_true rfl) (Nat.le_of_ble_eq_true rfl) rfl rfl (Nat.le_of_ble_eq_true rfl) (Nat.le_of_ble_eq_true rfl) rfl ?_
    refine u_payBack hx hy hs hn1 hn20 hC hO (fun M1 g1 f1 => hGo_i ?_)
    rw [es]
    refine G_bipush (v := (-5)) dL_isPaying_14 (by decide) ?_
    refine G_icmp_ne (tgt := 23) dL_isPaying_16 (by decide) (fun c16 => ?_) (fun c16 => ?_)
    · exact absurd rfl c16
    · refine G_iconst (v := 1) dL_isPaying_19 (by decide) ?_
      refine G_goto (tgt := 24) dL_isPaying_20 (by decide) ?_
      refine G_iret dL_isPaying_24 rfl rfl (Nat.le_of_ble_eq_true rfl) (Nat.le_of_ble_eq_true rfl) ?_
      exact h M1 g1 f1
end LPAY
