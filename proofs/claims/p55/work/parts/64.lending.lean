/-! ===== the law's isLending, isPaying ===== -/
section LLEND
variable {E : Ed} {M : Mm} {P : Res → Mm → Prop} {g : Gs} {C : Cx}
/-- two detentions, added: above 0 where one is -/
theorem det_sum {a b : Int32} (ha : 0 ≤ a) (ha9 : a ≤ 9) (hb : 0 ≤ b) (hb9 : b ≤ 9) : 0 < a + b ↔ (0 < a ∨ 0 < b) := by
  obtain ⟨m, hm, rfl⟩ := nI_of (Int32.not_lt.mpr ha)
  obtain ⟨n, hn, rfl⟩ := nI_of (Int32.not_lt.mpr hb)
  have h1 := (nI_leI hm (by decide)).mp (show nI m ≤ nI 9 from ha9)
  have h2 := (nI_leI hn (by decide)).mp (show nI n ≤ nI 9 from hb9)
  rw [nI_add]
  have k : ∀ q : Nat, q < 2 ^ 31 → ((0 : Int32) < nI q ↔ 0 < q) := fun q hq => nI_ltI (a := 0) (by decide) hq
  rw [k _ (by omega), k _ hm, k _ hn]
  omega
/-- what stands against a loan of the debts' side -/
def rDebt (d : List De) (x y s : Nat) (n : Nat) : Int32 := if fnd d (nI y) (nI x) (nI (1 - s)) = -1 then (if d.length < 30 then 0 else 9) else if dg d (fnd d (nI y) (nI x) (nI (1 - s))).toNatClampNeg 3 + nI n ≤ 99 then 0 else 9
theorem rLend_eq {A : Ab} {x y s n : Nat} (hxy : x ≠ y) : rLend A x y s n = if rGive A x y s n ≠ 0 then rGive A x y s n else rDebt A.d x y s n := by
  unfold rLend rDebt
  rw [if_neg hxy]
theorem rDebt_c {d : List De} {x y s n : Nat} : rDebt d x y s n = 0 ∨ rDebt d x y s n = 9 := by
  unfold rDebt
  repeat' split
  all_goals first | exact Or.inl rfl | exact Or.inr rfl
/-- the law's test of a full debt: is it rDebt -/
theorem debt_full {n x y s m : Nat} {d : List De} (hD : dOk n d) (hn1 : 1 ≤ m) (hn : m ≤ 6) : (99 < owedV d (nI y) (nI x) (nI (1 - s)) + nI m ∨ (owedV d (nI y) (nI x) (nI (1 - s)) = 0 ∧ nI d.length = 30)) ↔ rDebt d x y s m = 9 := by
  have h30 := hD.1
  unfold rDebt owedV
  rcases fnd_cases d (nI y) (nI x) (nI (1 - s)) with ⟨e, -⟩ | ⟨i, hi, e, -⟩
  · rw [if_pos e, if_pos e]
    constructor
    · rintro (q | ⟨-, q⟩)
      · rw [Int32.zero_add] at q
        exact absurd q (nI_nlt (b := m) (a := 99) (by omega) (by decide))
      · have := (nI_eq (b := 30) (by omega) (by decide)).mp q
        rw [if_neg (by omega)]
    · intro q
      right
      refine ⟨rfl, ?_⟩
      have : ¬ d.length < 30 := fun z => by rw [if_pos z] at q; exact absurd q (by decide)
      rw [show d.length = 30 by omega]
      rfl
  · have e1 : ¬ fnd d (nI y) (nI x) (nI (1 - s)) = -1 := by rw [e]; exact nI_nm1 (by omega)
    rw [if_neg e1, if_neg e1, e, nI_clamp (by omega)]
    obtain ⟨-, -, -, v, hv1, hv2, ev⟩ := hD.2.1 i hi
    rw [ev, nI_add]
    constructor
    · rintro (q | ⟨q, -⟩)
      · rw [if_neg (Int32.not_le.mpr q)]
      · exact absurd q (nI_ne0 (by omega) (by omega))
    · intro q
      left
      refine Int32.not_le.mp (fun z => ?_)
      rw [if_pos z] at q
      exact absurd q (by decide)
theorem lendV_law {d : List De} {x y s m : Int32} : lendV d x y s m = owedV d x y s + m := by
  unfold lendV owedV
  split <;> rfl
theorem owed_lend {n : Nat} {d : List De} {x y s m : Int32} (hD : dOk n d) : owedV (lendD d x y s m) x y s = lendV d x y s m := by
  have h30 := hD.1
  unfold lendD lendV
  rcases fnd_cases d x y s with ⟨e, hb⟩ | ⟨i, hi, e, hp, hb⟩
  · rw [if_pos e, if_pos e]
    have hf : fnd (d ++ [(x, y, s, 0 + m)]) x y s = nI d.length := by
      refine first_at (by simp) (fun k hk => ?_) ?_
      · have := hb k hk
        unfold fP at this ⊢
        rw [dg_app, if_neg (by omega), dg_app, if_neg (by omega), dg_app, if_neg (by omega)]
        exact this
      · unfold fP
        rw [dg_app, if_pos rfl, dg_app, if_pos rfl, dg_app, if_pos rfl]
        exact decide_eq_true ⟨rfl, rfl, rfl⟩
    unfold owedV
    rw [hf, if_neg (nI_nm1 (by omega)), nI_clamp (by omega), dg_app, if_pos rfl]
    rfl
  · have e1 : ¬ fnd d x y s = -1 := by rw [e]; exact nI_nm1 (by omega)
    rw [if_neg e1, if_neg e1, e, nI_clamp (by omega)]
    have hf : fnd (setP d i (dg d i 3 + m)) x y s = nI i := by
      refine first_at (by rw [setP_len]; exact hi) (fun k hk => ?_) ?_
      · have := hb k hk
        unfold fP at this ⊢
        rw [dg_setP hi (by decide), dg_setP hi (by decide), dg_setP hi (by decide), if_neg (by omega), if_neg (by omega), if_neg (by omega)]
        exact this
      · unfold fP at hp ⊢
        rw [dg_setP hi (by decide), dg_setP hi (by decide), dg_setP hi (by decide), if_neg (by omega), if_neg (by omega), if_neg (by omega)]
        exact hp
    unfold owedV
    rw [hf, if_neg (nI_nm1 (by omega)), nI_clamp (by omega), dg_setP hi (by decide), if_pos ⟨rfl, rfl⟩]
theorem owed_range {n : Nat} {d : List De} {x y s : Int32} (hD : dOk n d) : ∃ v, v ≤ 99 ∧ owedV d x y s = nI v := by
  unfold owedV
  rcases fnd_cases d x y s with ⟨e, -⟩ | ⟨i, hi, e, -⟩
  · rw [if_pos e]
    exact ⟨0, by decide, rfl⟩
  · rw [if_neg (by rw [e]; exact nI_nm1 (by have := hD.1; omega)), e, nI_clamp (by have := hD.1; omega)]
    obtain ⟨-, -, -, v, -, hv2, ev⟩ := hD.2.1 i hi
    exact ⟨v, hv2, ev⟩
/-- Math.max(0, -due), where a refusal or a number that isn't below 0 is due -/
theorem due_law {u r : Int32} (h : (r = 0 ∧ 0 ≤ u) ∨ (u = -r ∧ (r = 1 ∨ r = 3 ∨ r = 4 ∨ r = 5 ∨ r = 6 ∨ r = 9))) : (if 0 < -u then -u else 0) = r := by
  rcases h with ⟨rfl, h⟩ | ⟨rfl, rfl | rfl | rfl | rfl | rfl | rfl⟩
  · obtain ⟨k, hk, rfl⟩ := nI_of (Int32.not_lt.mpr h)
    refine if_neg (fun q => ?_)
    rw [Int32.lt_iff_toInt_lt, Int32.toInt_neg, nI_toInt hk] at q
    have e0 : (0 : Int32).toInt = 0 := rfl
    rw [e0, Int.bmod_eq_of_le (by omega) (by omega)] at q
    omega
  all_goals decide
theorem rGive_d {A : Ab} {x y s n : Nat} : rGive A x y s n = 0 ∨ rGive A x y s n = 1 ∨ rGive A x y s n = 3 ∨ rGive A x y s n = 4 := by
  unfold rGive
  repeat' split
  · exact Or.inr (Or.inl rfl)
  · exact Or.inr (Or.inr (Or.inr rfl))
  · exact Or.inl rfl
  · exact Or.inr (Or.inr (Or.inl rfl))
theorem l_isLending {x y s n : Nat} (hx : x < g.A.n) (hy : y < g.A.n) (hs : s ≤ 1) (hn1 : 1 ≤ n) (hn : n ≤ 6) (hC : CG M g) (hO : Okg g) (hG : Gd g.A) (h : ∀ M', CG M' (sLend g x y s n).1 → Fr dCl M M' → P (.inl (some (.int 1))) M') : Sp E yL_isLending cL_isLending zL_isLending [.ref (ad E 0 0 0), .int (nI x), .int (nI y), .int (nI s), .int (nI n)] M P := by
  have h12 := hC.1.n12
  have hD := hO.1.2.2.2.2
  have hlx := (hO.1.2.2.2.1 (2 * x + s) (by omega)).1
  have hly := (hO.1.2.2.2.1 (2 * y + s) (by omega)).1
  have e9 : (9 : Int32) + nI s = nI (9 + s) := nI_add 9 s
  have e1s : (1 : Int32) - nI s = nI (1 - s) := pk_sub (a := 1) hs
  have hn20 : n ≤ 20 := by omega
  have hds := det_sum (hO.1.2.2.1 x hx).2.2.2.1 (hG.2.2.2.2 x hx) (hO.1.2.2.1 y hy).2.2.2.1 (hG.2.2.2.2 y hy)
  refine Sp_of (own := RL) (by decide) rfl rfl (Nat.le_of_ble_eq_true rfl) (fun C => ?_)
  refine G_iload_n dL_isLending_0 rfl ?_
  refine G_iload_n dL_isLending_1 rfl ?_
  refine G_icmp_ne (tgt := 25) dL_isLending_2 (by decide) (fun c2 => ?_) (fun c2 => ?_)
  · have hxy : x ≠ y := fun q => c2 (by rw [q])
    have hO1 := sLend_ok (s := s) hO hx hy (by omega) hn1 hn20
    obtain ⟨ow, how, eow⟩ := owed_range (x := nI y) (y := nI x) (s := nI (1 - s)) hD
    have e9n : 0 ≤ nI ow + nI n := by rw [nI_add]; exact nI_pos' (by omega)
    have hlv : lendV g.A.d (nI y) (nI x) (nI (1 - s)) (nI n) = nI ow + nI n := by rw [lendV_law, eow]
    have k147 : ∀ u : Int32, u = (sLend g x y s n).2 → G E C RL cL_isLending zL_isLending P 0 0 M 147 [(0, .ref (ad E 0 0 0)), (1, .int (nI x)), (2, .int (nI y)), (3, .int (nI s)), (4, .int (nI n))] [.int u] := fun u eu => by
      have hdl : (if 0 < -u then -u else 0) = rLend g.A x y s n := by
        refine due_law ?_
        unfold sLend at eu
        by_cases q : rLend g.A x y s n = 0
        · rw [if_pos q] at eu
          exact Or.inl ⟨q, by rw [eu, show ((actG g (lendA g.A x y s n), lendV g.A.d (nI y) (nI x) (nI (1 - s)) (nI n)) : Gs × Int32).2 = _ from hlv]; exact e9n⟩
        · rw [if_neg q] at eu
          refine Or.inr ⟨eu, ?_⟩
          rw [rLend_eq hxy] at q ⊢
          by_cases z : rGive g.A x y s n ≠ 0
          · rw [if_pos z]
            rcases rGive_d (A := g.A) (x := x) (y := y) (s := s) (n := n) with w | w | w | w
            · exact absurd w z
            · exact Or.inl w
            · exact Or.inr (Or.inl w)
            · exact Or.inr (Or.inr (Or.inl w))
          · rw [if_neg z] at q ⊢
            rcases rDebt_c (d := g.A.d) (x := x) (y := y) (s := s) (n := n) with w | w
            · exact absurd w q
            · exact Or.inr (Or.inr (Or.inr (Or.inr (Or.inr w))))
      refine G_istore dL_isLending_147 (Nat.le_of_ble_eq_true rfl) ?_
      refine G_aload_n dL_isLending_149 rfl ?_
      refine G_iload_n dL_isLending_150 rfl ?_
      refine G_iload_n dL_isLending_151 rfl ?_
      refine G_iload_n dL_isLending_152 rfl ?_
      refine G_iload dL_isLending_153 rfl ?_
      refine cv_L_179 (cs' := 0) (ss' := 0) dL_isLending_155  (Nat.le_of_ble_eq_true rfl) (Nat.le_of_ble_eq_true rfl) (Nat.le_of_ble_eq_true rfl) rfl rfl (Nat.le_of_ble_eq_true rfl) (Nat.le_of_ble_eq_true rfl) rfl ?_
      refine u_whyLend hx hy hs hn1 hn20 hC (hGo_i ?_)
      refine G_iconst (v := 0) dL_isLending_158 (by decide) ?_
      refine G_iload dL_isLending_159 rfl ?_
      refine G_ineg dL_isLending_161 ?_
      refine G_mmax dL_isLending_162 (hqx 1031 (by decide +kernel) rfl) (hqx 674 (by decide +kernel) rfl) (hqx 15 (by decide +kernel) rfl) (hqx 675 (by decide +kernel) rfl) (Nat.le_of_ble_eq_true rfl) (Nat.le_of_ble_eq_true rfl) (Nat.le_of_ble_eq_true rfl) (Nat.le_of_ble_eq_true rfl) ?_
      rw [hdl]
      refine G_icmp_ne (tgt := 205) dL_isLending_165 (by decide) (fun c165 => ?_) (fun c165 => ?_)
      · exact absurd rfl c165
      · refine G_aload_n dL_isLending_168 rfl ?_
        refine G_iload_n dL_isLending_169 rfl ?_
        refine G_iload_n dL_isLending_170 rfl ?_
        refine G_iload_n dL_isLending_171 rfl ?_
        refine G_iload dL_isLending_172 rfl ?_
        refine cv_L_176 (cs' := 0) (ss' := 0) dL_isLending_174  (Nat.le_of_ble_eq_true rfl) (Nat.le_of_ble_eq_true rfl) (Nat.le_of_ble_eq_true rfl) rfl rfl (Nat.le_of_ble_eq_true rfl) (Nat.le_of_ble_eq_true rfl) rfl ?_
        refine u_lend hx hy hs hn1 hn20 hC hO (fun M1 g1 f1 => hGo_i ?_)
        rw [← eu]
        refine G_iload dL_isLending_177 rfl ?_
        refine G_icmp_ne (tgt := 205) dL_isLending_179 (by decide) (fun c179 => ?_) (fun c179 => ?_)
        · exact absurd rfl c179
        · refine G_iload dL_isLending_182 rfl ?_
          refine G_if_lt (tgt := 201) dL_isLending_184 (by decide) (fun c184 => ?_) (fun c184 => ?_)
          · refine G_iconst (v := 1) dL_isLending_201 (by decide) ?_
            refine G_goto (tgt := 206) dL_isLending_202 (by decide) ?_
            refine G_iret dL_isLending_206 rfl rfl (Nat.le_of_ble_eq_true rfl) (Nat.le_of_ble_eq_true rfl) ?_
            exact h M1 g1 f1
          · have hr : rLend g.A x y s n = 0 := by
              by_cases q : rLend g.A x y s n = 0
              · exact q
              · exfalso
                refine c184 ?_
                have hneg : ∀ r : Int32, (if 0 < -u then -u else 0) = r → r ≠ 0 → u < 0 := fun r er hr => by
                  by_cases z : 0 < -u
                  · refine Int32.not_le.mp (fun w => ?_)
                    obtain ⟨k, hk, ek⟩ := nI_of (Int32.not_lt.mpr w)
                    rw [ek, Int32.lt_iff_toInt_lt, Int32.toInt_neg, nI_toInt hk] at z
                    have e0 : (0 : Int32).toInt = 0 := rfl
                    rw [e0, Int.bmod_eq_of_le (by omega) (by omega)] at z
                    omega
                  · rw [if_neg z] at er
                    exact absurd er.symm hr
                exact hneg _ hdl q
            have eg : sLend g x y s n = (actG g (lendA g.A x y s n), lendV g.A.d (nI y) (nI x) (nI (1 - s)) (nI n)) := by
              unfold sLend
              rw [if_pos hr]
            have g2 := g1
            rw [eg] at g2 hO1 eu
            have hx1 : x < (actG g (lendA g.A x y s n)).A.n := hx
            have hy1 : y < (actG g (lendA g.A x y s n)).A.n := hy
            refine G_aload_n dL_isLending_187 rfl ?_
            refine G_iload_n dL_isLending_188 rfl ?_
            refine G_iload_n dL_isLending_189 rfl ?_
            refine G_iconst (v := 1) dL_isLending_190 (by decide) ?_
            refine G_iload_n dL_isLending_191 rfl ?_
            refine G_isub dL_isLending_192 ?_
            rw [e1s]
            refine cv_L_94 (cs' := 0) (ss' := 0) dL_isLending_193  (Nat.le_of_ble_eq_true rfl) (Nat.le_of_ble_eq_true rfl) (Nat.le_of_ble_eq_true rfl) rfl rfl (Nat.le_of_ble_eq_true rfl) (Nat.le_of_ble_eq_true rfl) rfl ?_
            refine u_owes hy1 hx1 (show 1 - s ≤ 1 by omega) g2 (hGo_i ?_)
            rw [show owedV (actG g (lendA g.A x y s n)).A.d (nI y) (nI x) (nI (1 - s)) = lendV g.A.d (nI y) (nI x) (nI (1 - s)) (nI n) from owed_lend hD, eu]
            refine G_iload dL_isLending_196 rfl ?_
            refine G_icmp_ne (tgt := 205) dL_isLending_198 (by decide) (fun c198 => ?_) (fun c198 => ?_)
            · exact absurd rfl c198
            · refine G_iconst (v := 1) dL_isLending_201 (by decide) ?_
              refine G_goto (tgt := 206) dL_isLending_202 (by decide) ?_
              refine G_iret dL_isLending_206 rfl rfl (Nat.le_of_ble_eq_true rfl) (Nat.le_of_ble_eq_true rfl) ?_
              exact h M1 g1 f1
    have r1 : ∀ r : Int32, rGive g.A x y s n = r → r ≠ 0 → -r = (sLend g x y s n).2 := fun r er hr => by
      have e2 : rLend g.A x y s n = r := by rw [rLend_eq hxy, er, if_pos hr]
      unfold sLend
      rw [e2, if_neg hr]
    have k67 : ∀ f : Int32, (f = 0 ↔ rDebt g.A.d x y s n = 0) → G E C RL cL_isLending zL_isLending P 0 0 M 67 [(0, .ref (ad E 0 0 0)), (1, .int (nI x)), (2, .int (nI y)), (3, .int (nI s)), (4, .int (nI n)), (5, .int (nI ow))] [.int f] := fun f hf => by
      refine G_istore dL_isLending_67 (Nat.le_of_ble_eq_true rfl) ?_
      refine G_aload_n dL_isLending_69 rfl ?_
      refine G_iload_n dL_isLending_70 rfl ?_
      refine G_bipush (v := 8) dL_isLending_71 (by decide) ?_
      refine cv_L_59 (cs' := 0) (ss' := 0) dL_isLending_73  (Nat.le_of_ble_eq_true rfl) (Nat.le_of_ble_eq_true rfl) (Nat.le_of_ble_eq_true rfl) rfl rfl (Nat.le_of_ble_eq_true rfl) (Nat.le_of_ble_eq_true rfl) rfl ?_
      refine u_pupil (k := 8) (by first | assumption | omega) (by first | decide | assumption | omega) hC hO (hGo_i ?_)
      refine G_aload_n dL_isLending_76 rfl ?_
      refine G_iload_n dL_isLending_77 rfl ?_
      refine G_bipush (v := 8) dL_isLending_78 (by decide) ?_
      refine cv_L_59 (cs' := 0) (ss' := 0) dL_isLending_80  (Nat.le_of_ble_eq_true rfl) (Nat.le_of_ble_eq_true rfl) (Nat.le_of_ble_eq_true rfl) rfl rfl (Nat.le_of_ble_eq_true rfl) (Nat.le_of_ble_eq_true rfl) rfl ?_
      refine u_pupil (k := 8) (by first | assumption | omega) (by first | decide | assumption | omega) hC hO (hGo_i ?_)
      refine G_iadd dL_isLending_83 ?_
      refine G_if_le (tgt := 91) dL_isLending_84 (by decide) (fun c84 => ?_) (fun c84 => ?_)
      · have c1 : ¬ (0 < g.A.f x 8 ∨ 0 < g.A.f y 8) := fun q => absurd (hds.mpr q) (Int32.not_lt.mpr c84)
        refine G_aload_n dL_isLending_91 rfl ?_
        refine G_iload_n dL_isLending_92 rfl ?_
        refine G_bipush (v := 9) dL_isLending_93 (by decide) ?_
        refine G_iload_n dL_isLending_95 rfl ?_
        refine G_iadd dL_isLending_96 ?_
        rw [e9]
        refine cv_L_59 (cs' := 0) (ss' := 0) dL_isLending_97  (Nat.le_of_ble_eq_true rfl) (Nat.le_of_ble_eq_true rfl) (Nat.le_of_ble_eq_true rfl) rfl rfl (Nat.le_of_ble_eq_true rfl) (Nat.le_of_ble_eq_true rfl) rfl ?_
        refine u_pupil (k := 9 + s) hx (by omega) hC hO (hGo_i ?_)
        rw [pupV_s hs]
        refine G_iload dL_isLending_100 rfl ?_
        refine G_icmp_ge (tgt := 110) dL_isLending_102 (by decide) (fun c102 => ?_) (fun c102 => ?_)
        · have c3 : ¬ nI (g.A.s (2 * x + s)).length < nI n := Int32.not_lt.mpr c102
          refine G_aload_n dL_isLending_110 rfl ?_
          refine G_iload_n dL_isLending_111 rfl ?_
          refine G_bipush (v := 9) dL_isLending_112 (by decide) ?_
          refine G_iload_n dL_isLending_114 rfl ?_
          refine G_iadd dL_isLending_115 ?_
          rw [e9]
          refine cv_L_59 (cs' := 0) (ss' := 0) dL_isLending_116  (Nat.le_of_ble_eq_true rfl) (Nat.le_of_ble_eq_true rfl) (Nat.le_of_ble_eq_true rfl) rfl rfl (Nat.le_of_ble_eq_true rfl) (Nat.le_of_ble_eq_true rfl) rfl ?_
          refine u_pupil (k := 9 + s) hy (by omega) hC hO (hGo_i ?_)
          rw [pupV_s hs]
          refine G_iload dL_isLending_119 rfl ?_
          refine G_iadd dL_isLending_121 ?_
          rw [nI_add]
          refine G_bipush (v := 20) dL_isLending_122 (by decide) ?_
          refine G_icmp_le (tgt := 132) dL_isLending_124 (by decide) (fun c124 => ?_) (fun c124 => ?_)
          · have c4 : nI n ≤ 20 - nI (g.A.s (2 * y + s)).length := room20 hn20 hly ((nI_leI (by omega) (by decide)).mp (show nI ((g.A.s (2 * y + s)).length + n) ≤ nI 20 from c124))
            have hr0 : rGive g.A x y s n = 0 := by
              unfold rGive
              rw [if_neg c1, if_neg c3, if_pos c4]
            refine G_iload dL_isLending_132 rfl ?_
            refine G_if_eq (tgt := 142) dL_isLending_134 (by decide) (fun c134 => ?_) (fun c134 => ?_)
            · have h0 : rDebt g.A.d x y s n = 0 := hf.mp c134
              refine G_iload dL_isLending_142 rfl ?_
              refine G_iload dL_isLending_144 rfl ?_
              refine G_iadd dL_isLending_146 ?_
              refine G_lv2 (k147 _ ?_) ⟨rfl, rfl, rfl, rfl, rfl, trivial⟩
              have e2 : rLend g.A x y s n = 0 := by rw [rLend_eq hxy, hr0, if_neg (by decide), h0]
              unfold sLend
              rw [if_pos e2]
              exact hlv.symm
            · have h9 : rDebt g.A.d x y s n = 9 := rDebt_c.resolve_left (fun q => c134 (hf.mpr q))
              refine G_bipush (v := (-9)) dL_isLending_137 (by decide) ?_
              refine G_goto (tgt := 147) dL_isLending_139 (by decide) ?_
              refine G_lv2 (k147 _ ?_) ⟨rfl, rfl, rfl, rfl, rfl, trivial⟩
              have e2 : rLend g.A x y s n = 9 := by rw [rLend_eq hxy, hr0, if_neg (by decide), h9]
              unfold sLend
              rw [e2]
              rfl
          · have c4 : ¬ nI n ≤ 20 - nI (g.A.s (2 * y + s)).length := fun q => c124 (nI_le (a := (g.A.s (2 * y + s)).length + n) (b := 20) (room_ok hn20 hly q) (by decide))
            refine G_bipush (v := (-3)) dL_isLending_127 (by decide) ?_
            refine G_goto (tgt := 147) dL_isLending_129 (by decide) ?_
            exact G_lv2 (k147 _ (r1 3 (by unfold rGive; rw [if_neg c1, if_neg c3, if_neg c4]) (by decide))) ⟨rfl, rfl, rfl, rfl, rfl, trivial⟩
        · have c3 : nI (g.A.s (2 * x + s)).length < nI n := Int32.not_le.mp c102
          refine G_bipush (v := (-4)) dL_isLending_105 (by decide) ?_
          refine G_goto (tgt := 147) dL_isLending_107 (by decide) ?_
          exact G_lv2 (k147 _ (r1 4 (by unfold rGive; rw [if_neg c1, if_pos c3]) (by decide))) ⟨rfl, rfl, rfl, rfl, rfl, trivial⟩
      · have c1 : 0 < g.A.f x 8 ∨ 0 < g.A.f y 8 := hds.mp (Int32.not_le.mp c84)
        refine G_iconst (v := (-1)) dL_isLending_87 (by decide) ?_
        refine G_goto (tgt := 147) dL_isLending_88 (by decide) ?_
        exact G_lv2 (k147 _ (r1 1 (by unfold rGive; rw [if_pos c1]) (by decide))) ⟨rfl, rfl, rfl, rfl, rfl, trivial⟩
    have hfull := debt_full (x := x) (y := y) (s := s) (m := n) hD hn1 hn
    rw [eow] at hfull
    have kT : (99 < nI ow + nI n ∨ (nI ow = 0 ∧ nI g.A.d.length = 30)) → G E C RL cL_isLending zL_isLending P 0 0 M 62 [(0, .ref (ad E 0 0 0)), (1, .int (nI x)), (2, .int (nI y)), (3, .int (nI s)), (4, .int (nI n)), (5, .int (nI ow))] [] := fun q => by
      refine G_iconst (v := 1) dL_isLending_62 (by decide) ?_
      refine G_goto (tgt := 67) dL_isLending_63 (by decide) ?_
      exact k67 1 ⟨fun z => absurd z (by decide), fun z => absurd ((hfull.mp q).symm.trans z) (by decide)⟩
    have kF : ¬ (99 < nI ow + nI n ∨ (nI ow = 0 ∧ nI g.A.d.length = 30)) → G E C RL cL_isLending zL_isLending P 0 0 M 66 [(0, .ref (ad E 0 0 0)), (1, .int (nI x)), (2, .int (nI y)), (3, .int (nI s)), (4, .int (nI n)), (5, .int (nI ow))] [] := fun q => by
      refine G_iconst (v := 0) dL_isLending_66 (by decide) ?_
      exact k67 0 ⟨fun _ => rDebt_c.resolve_right (fun z => q (hfull.mpr z)), fun _ => rfl⟩
    refine G_aload_n dL_isLending_25 rfl ?_
    refine G_iload_n dL_isLending_26 rfl ?_
    refine G_iload_n dL_isLending_27 rfl ?_
    refine G_iconst (v := 1) dL_isLending_28 (by decide) ?_
    refine G_iload_n dL_isLending_29 rfl ?_
    refine G_isub dL_isLending_30 ?_
    rw [e1s]
    refine cv_L_94 (cs' := 0) (ss' := 0) dL_isLending_31  (Nat.le_of_ble_eq_true rfl) (Nat.le_of_ble_eq_true rfl) (Nat.le_of_ble_eq_true rfl) rfl rfl (Nat.le_of_ble_eq_true rfl) (Nat.le_of_ble_eq_true rfl) rfl ?_
    refine u_owes hy hx (show 1 - s ≤ 1 by omega) hC (hGo_i ?_)
    rw [eow]
    refine G_istore dL_isLending_34 (Nat.le_of_ble_eq_true rfl) ?_
    refine G_iload dL_isLending_36 rfl ?_
    refine G_iload dL_isLending_38 rfl ?_
    refine G_iadd dL_isLending_40 ?_
    refine G_bipush (v := 99) dL_isLending_41 (by decide) ?_
    refine G_icmp_gt (tgt := 62) dL_isLending_43 (by decide) (fun c43 => ?_) (fun c43 => ?_)
    · exact G_lv2 (kT (Or.inl c43)) ⟨rfl, rfl, rfl, rfl, rfl, rfl, trivial⟩
    · refine G_iload dL_isLending_46 rfl ?_
      refine G_if_ne (tgt := 66) dL_isLending_48 (by decide) (fun c48 => ?_) (fun c48 => ?_)
      · exact G_lv2 (kF (fun q => q.elim c43 (fun z => c48 z.1))) ⟨rfl, rfl, rfl, rfl, rfl, rfl, trivial⟩
      · refine G_aload_n dL_isLending_51 rfl ?_
        refine G_bipush (v := 8) dL_isLending_52 (by decide) ?_
        refine cv_L_68 (cs' := 0) (ss' := 0) dL_isLending_54  (Nat.le_of_ble_eq_true rfl) (Nat.le_of_ble_eq_true rfl) (Nat.le_of_ble_eq_true rfl) rfl rfl (Nat.le_of_ble_eq_true rfl) (Nat.le_of_ble_eq_true rfl) rfl ?_
        refine u_count (k := 8) (by first | decide | assumption | omega) hC (hGo_i ?_)
        refine G_bipush (v := 30) dL_isLending_57 (by decide) ?_
        refine G_icmp_ne (tgt := 66) dL_isLending_59 (by decide) (fun c59 => ?_) (fun c59 => ?_)
        · exact G_lv2 (kF (fun q => q.elim c43 (fun z => c59 z.2))) ⟨rfl, rfl, rfl, rfl, rfl, rfl, trivial⟩
        · exact G_lv2 (kT (Or.inr ⟨c48, c59⟩)) ⟨rfl, rfl, rfl, rfl, rfl, rfl, trivial⟩
  · have hxy : x = y := (nI_eq (by omega) (by omega)).mp c2
    have es : sLend g x y s n = (refG g 5, -5) := by
      unfold sLend rLend
      rw [if_pos hxy]
      rfl
    refine G_aload_n dL_isLending_5 rfl ?_
    refine G_iload_n dL_isLending_6 rfl ?_
    refine G_iload_n dL_isLending_7 rfl ?_
    refine G_iload_n dL_isLending_8 rfl ?_
    refine G_iload dL_isLending_9 rfl ?_
    refine cv_L_176 (cs' := 0) (ss' := 0) dL_isLending_11  (Nat.le_of_ble_eq_true rfl) (Nat.le_of_ble_eq_true rfl) (Nat.le_of_ble_eq_true rfl) rfl rfl (Nat.le_of_ble_eq_true rfl) (Nat.le_of_ble_eq_true rfl) rfl ?_
    refine u_lend hx hy hs hn1 hn20 hC hO (fun M1 g1 f1 => hGo_i ?_)
    rw [es]
    refine G_bipush (v := (-5)) dL_isLending_14 (by decide) ?_
    refine G_icmp_ne (tgt := 23) dL_isLending_16 (by decide) (fun c16 => ?_) (fun c16 => ?_)
    · exact absurd rfl c16
    · refine G_iconst (v := 1) dL_isLending_19 (by decide) ?_
      refine G_goto (tgt := 24) dL_isLending_20 (by decide) ?_
      refine G_iret dL_isLending_24 rfl rfl (Nat.le_of_ble_eq_true rfl) (Nat.le_of_ble_eq_true rfl) ?_
      exact h M1 g1 f1
end LLEND
