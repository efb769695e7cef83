/-! ===== the law's growth and detention ===== -/
section LGROWTH
variable {E : Ed} {M : Mm} {P : Res → Mm → Prop} {g : Gs}
theorem CG.x {X : va_W} (h : CG M g) : CG (M.x X) g := h
theorem x_at {X : va_W} {c : Nat × va_E} : (X ++ [c])[X.length]? = some c := by
  rw [List.getElem?_append_right (Nat.le_refl _), Nat.sub_self]
  rfl
theorem x_set {X : va_W} {c c' : Nat × va_E} : (X ++ [c]).set X.length c' = X ++ [c'] := by
  rw [List.set_append_right _ _ (Nat.le_refl _), Nat.sub_self]
  rfl
/-- an array of ints behind the further cells -/
def xI (E : Ed) (X : va_W) (a n : Nat) (f : Nat → Int32) : va_W := X ++ [(a, .inl (E.2.2.1 0, n, .inl f))]
theorem xI_at {X : va_W} {a n : Nat} {f : Nat → Int32} : (xI E X a n f)[X.length]? = some (a, .inl (E.2.2.1 0, n, .inl f)) := x_at
theorem xI_set {X : va_W} {a n : Nat} {f f' : Nat → Int32} : (xI E X a n f).set X.length (a, .inl (E.2.2.1 0, n, .inl f')) = xI E X a n f' := x_set
theorem M_eta : M.x M.2 = M := rfl
theorem min_nI {y : Int32} {l : Nat} (hy : 0 ≤ y) (hl : l ≤ 20) : (if y < nI l then y else nI l) = nI (min y.toNatClampNeg l) := by
  obtain ⟨k, hk, rfl⟩ := nI_of (Int32.not_lt.mpr hy)
  rw [nI_clamp hk]
  by_cases q : k < l
  · rw [if_pos (nI_lt q (by omega)), Nat.min_eq_left (by omega)]
  · rw [if_neg (nI_nlt (by omega) hk), Nat.min_eq_right (by omega)]
/-- the law's count of the makers of the eldest h verses -/
def ofF (L : List Int32) (h : Nat) : Nat → Int32 := fun m => if m < 12 then nI (cN L (nI m) h) else 0
theorem ofF_0 {L : List Int32} : ofF L 0 = fun _ => 0 := by
  funext m
  unfold ofF
  split <;> rfl
theorem ofF_up {L : List Int32} {h m0 : Nat} (hm : m0 < 12) (e : L.getD h 0 = nI m0) : upd (ofF L h) m0 (ofF L h m0 + 1) = ofF L (h + 1) := by
  funext m
  unfold upd ofF
  by_cases q : m = m0
  · subst q
    rw [if_pos rfl, if_pos hm, if_pos hm]
    show nI (cN L (nI m) h) + 1 = nI (cN L (nI m) h + if L.getD h 0 = nI m then 1 else 0)
    rw [if_pos e, nI_1]
  · rw [if_neg q]
    by_cases z : m < 12
    · rw [if_pos z, if_pos z]
      show nI (cN L (nI m) h) = nI (cN L (nI m) h + if L.getD h 0 = nI m then 1 else 0)
      rw [if_neg (fun y => q ((nI_eq (by omega) (by omega)).mp (e.symm.trans y)).symm), Nat.add_zero]
    · rw [if_neg z, if_neg z]
set_option maxRecDepth 100000 in
theorem l_growth {x : Nat} (hx : x < g.A.n) (hC : CG M g) (hO : Okg g) (hX : xOk E M.2) (h : P (.inl (some (.int (growV g.A x)))) M) : Sp E yL_growth cL_growth zL_growth [.ref (ad E 0 0 0), .int (nI x)] M P := by
  have h12 := hC.1.n12
  have hL1 := hO.1.2.2.2.1 (2 * x) (by omega)
  have hL2 := hO.1.2.2.2.1 (2 * x + 1) (by omega)
  have m1 : (if g.A.g 4 < nI (g.A.s (2 * x)).length then g.A.g 4 else nI (g.A.s (2 * x)).length) = nI (hdN g.A x 0) := min_nI hO.1.2.1.2.1 hL1.1
  have m2 : (if g.A.g 5 < nI (g.A.s (2 * x + 1)).length then g.A.g 5 else nI (g.A.s (2 * x + 1)).length) = nI (hdN g.A x 1) := min_nI hO.1.2.1.2.2 hL2.1
  have b1 : hdN g.A x 0 ≤ (g.A.s (2 * x)).length := Nat.min_le_right _ _
  have b2 : hdN g.A x 1 ≤ (g.A.s (2 * x + 1)).length := Nat.min_le_right _ _
  generalize e1 : hdN g.A x 0 = h1 at m1 b1
  generalize e2 : hdN g.A x 1 = h2 at m2 b2
  have hm : ∀ k, k < h2 → ∃ m, m < 12 ∧ (g.A.s (2 * x + 1)).getD k 0 = nI m := fun k hk => by
    obtain ⟨m, q1, q2⟩ := hL2.2 k (by omega)
    exact ⟨m, by omega, q2⟩
  have hg : growV g.A x = sm h1 (fun k => if (g.A.s (2 * x)).getD k 0 = nI x then 0 else 1) / 3 + sm 12 (fun m => nI (if m = x then 0 else cN (g.A.s (2 * x + 1)) (nI m) h2 - 1)) := by
    unfold growV
    rw [e1, e2, grow_eq (n := 12) (by decide) (by omega) hm (by have := hL2.1; omega), frN, sN_sm]
  rw [hg] at h
  refine Sp_of (own := RL) (by decide) rfl rfl (Nat.le_of_ble_eq_true rfl) (fun C => ?_)
  refine G_aload_n dL_growth_0 rfl ?_
  refine G_iload_n dL_growth_1 rfl ?_
  refine G_bipush (v := 9) dL_growth_2 (by decide) ?_
  refine cv_L_59 (cs' := 0) (ss' := 0) dL_growth_4  (Nat.le_of_ble_eq_true rfl) (Nat.le_of_ble_eq_true rfl) (Nat.le_of_ble_eq_true rfl) rfl rfl (Nat.le_of_ble_eq_true rfl) (Nat.le_of_ble_eq_true rfl) rfl ?_
  refine u_pupil (k := 9) (by first | assumption | omega) (by first | decide | assumption | omega) hC hO (hGo_i ?_)
  refine G_aload_n dL_growth_7 rfl ?_
  refine G_iconst (v := 4) dL_growth_8 (by decide) ?_
  refine cv_L_68 (cs' := 0) (ss' := 0) dL_growth_9  (Nat.le_of_ble_eq_true rfl) (Nat.le_of_ble_eq_true rfl) (Nat.le_of_ble_eq_true rfl) rfl rfl (Nat.le_of_ble_eq_true rfl) (Nat.le_of_ble_eq_true rfl) rfl ?_
  refine u_count (k := 4) (by first | decide | assumption | omega) hC (hGo_i ?_)
  refine G_mmin dL_growth_12 (hqx 1080 (by decide +kernel) rfl) (hqx 358 (by decide +kernel) rfl) (hqx 15 (by decide +kernel) rfl) (hqx 359 (by decide +kernel) rfl) (Nat.le_of_ble_eq_true rfl) (Nat.le_of_ble_eq_true rfl) (Nat.le_of_ble_eq_true rfl) (Nat.le_of_ble_eq_true rfl) ?_
  refine G_st (st' := [.int (nI h1)]) (by rw [← m1]; rfl) rfl rfl ?_
  refine G_istore_n dL_growth_15 (Nat.le_of_ble_eq_true rfl) ?_
  refine G_aload_n dL_growth_16 rfl ?_
  refine G_iload_n dL_growth_17 rfl ?_
  refine G_bipush (v := 10) dL_growth_18 (by decide) ?_
  refine cv_L_59 (cs' := 0) (ss' := 0) dL_growth_20  (Nat.le_of_ble_eq_true rfl) (Nat.le_of_ble_eq_true rfl) (Nat.le_of_ble_eq_true rfl) rfl rfl (Nat.le_of_ble_eq_true rfl) (Nat.le_of_ble_eq_true rfl) rfl ?_
  refine u_pupil (k := 10) (by first | assumption | omega) (by first | decide | assumption | omega) hC hO (hGo_i ?_)
  refine G_aload_n dL_growth_23 rfl ?_
  refine G_iconst (v := 5) dL_growth_24 (by decide) ?_
  refine cv_L_68 (cs' := 0) (ss' := 0) dL_growth_25  (Nat.le_of_ble_eq_true rfl) (Nat.le_of_ble_eq_true rfl) (Nat.le_of_ble_eq_true rfl) rfl rfl (Nat.le_of_ble_eq_true rfl) (Nat.le_of_ble_eq_true rfl) rfl ?_
  refine u_count (k := 5) (by first | decide | assumption | omega) hC (hGo_i ?_)
  refine G_mmin dL_growth_28 (hqx 1080 (by decide +kernel) rfl) (hqx 358 (by decide +kernel) rfl) (hqx 15 (by decide +kernel) rfl) (hqx 359 (by decide +kernel) rfl) (Nat.le_of_ble_eq_true rfl) (Nat.le_of_ble_eq_true rfl) (Nat.le_of_ble_eq_true rfl) (Nat.le_of_ble_eq_true rfl) ?_
  refine G_st (st' := [.int (nI h2)]) (by rw [← m2]; rfl) rfl rfl ?_
  refine G_istore_n dL_growth_31 (Nat.le_of_ble_eq_true rfl) ?_
  refine G_iconst (v := 0) dL_growth_32 (by decide) ?_
  refine G_istore dL_growth_33 (Nat.le_of_ble_eq_true rfl) ?_
  refine G_bipush (v := 12) dL_growth_35 (by decide) ?_
  refine G_xnewa (t0 := 0) (n := 12) (atype := .int) (ty := .int) (a0 := (12, .inl (fun _ => 0))) (cs' := 1) (ss' := 12) hX dL_growth_37 (hqx 96 (by decide +kernel) rfl) rfl (fun _ h => by cases h) rfl (fun _ => rfl) rfl (by decide) (by decide) rfl rfl (Nat.le_of_ble_eq_true rfl) (Nat.le_of_ble_eq_true rfl) (fun a hX1 => ?_)
  have hX0 : xOk E (xI E M.2 a 12 (ofF (g.A.s (2 * x + 1)) 0)) := by
    rw [ofF_0]
    exact hX1
  refine G_st (M' := M.x (xI E M.2 a 12 (ofF (g.A.s (2 * x + 1)) 0))) rfl rfl (by rw [ofF_0]; rfl) ?_
  clear hX1
  refine G_astore dL_growth_39 (Nat.le_of_ble_eq_true rfl) ?_
  refine G_iconst (v := 0) dL_growth_41 (by decide) ?_
  refine G_istore dL_growth_42 (Nat.le_of_ble_eq_true rfl) ?_
  have hC1 := fun X => CG.x (X := X) hC
  refine G_lv (lv' := [(0, .ref (ad E 0 0 0)), (1, .int (nI x)), (2, .int (nI h1)), (3, .int (nI h2)), (4, .int (sm 0 (fun k => if (g.A.s (2 * x)).getD k 0 = nI x then 0 else 1))), (5, .ref a), (6, .int (nI 0))]) ⟨rfl, rfl, rfl, rfl, rfl, rfl, rfl, trivial⟩ ?_
  refine up0 (c := h1) (H := fun i => G E C RL cL_growth zL_growth P 1 12 (M.x (xI E M.2 a 12 (ofF (g.A.s (2 * x + 1)) 0))) 44 [(0, .ref (ad E 0 0 0)), (1, .int (nI x)), (2, .int (nI h1)), (3, .int (nI h2)), (4, .int (sm i (fun k => if (g.A.s (2 * x)).getD k 0 = nI x then 0 else 1))), (5, .ref a), (6, .int (nI i))] []) ?_ (fun i hi ih => ?_)
  · refine G_iload dL_growth_44 rfl ?_
    refine G_iload_n dL_growth_46 rfl ?_
    refine G_icmp_ge (tgt := 78) dL_growth_47 (by decide) (fun c47 => ?_) (fun c47 => ?_)
    · refine G_iconst (v := 0) dL_growth_78 (by decide) ?_
      refine G_istore dL_growth_79 (Nat.le_of_ble_eq_true rfl) ?_
      refine G_lv (lv' := [(0, .ref (ad E 0 0 0)), (1, .int (nI x)), (2, .int (nI h1)), (3, .int (nI h2)), (4, .int (sm h1 (fun k => if (g.A.s (2 * x)).getD k 0 = nI x then 0 else 1))), (5, .ref a), (6, .int (nI 0))]) ⟨rfl, rfl, rfl, rfl, rfl, rfl, rfl, trivial⟩ ?_
      refine up0 (c := h2) (H := fun i => ∀ hX1 : xOk E (xI E M.2 a 12 (ofF (g.A.s (2 * x + 1)) i)), G E C RL cL_growth zL_growth P 1 12 (M.x (xI E M.2 a 12 (ofF (g.A.s (2 * x + 1)) i))) 81 [(0, .ref (ad E 0 0 0)), (1, .int (nI x)), (2, .int (nI h1)), (3, .int (nI h2)), (4, .int (sm h1 (fun k => if (g.A.s (2 * x)).getD k 0 = nI x then 0 else 1))), (5, .ref a), (6, .int (nI i))] []) (fun hX1 => ?_) (fun i hi ih hX1 => ?_) hX0
      · refine G_iload dL_growth_81 rfl ?_
        refine G_iload_n dL_growth_83 rfl ?_
        refine G_icmp_ge (tgt := 108) dL_growth_84 (by decide) (fun c84 => ?_) (fun c84 => ?_)
        · refine G_iload dL_growth_108 rfl ?_
          refine G_iconst (v := 3) dL_growth_110 (by decide) ?_
          refine G_idiv dL_growth_111 (by decide) ?_
          refine G_istore dL_growth_112 (Nat.le_of_ble_eq_true rfl) ?_
          refine G_iconst (v := 0) dL_growth_114 (by decide) ?_
          refine G_istore dL_growth_115 (Nat.le_of_ble_eq_true rfl) ?_
          refine G_lv (lv' := [(0, .ref (ad E 0 0 0)), (1, .int (nI x)), (2, .int (nI h1)), (3, .int (nI h2)), (5, .ref a), (6, .int (sm h1 (fun k => if (g.A.s (2 * x)).getD k 0 = nI x then 0 else 1) / 3 + sm 0 (fun m => nI (if m = x then 0 else cN (g.A.s (2 * x + 1)) (nI m) h2 - 1)))), (7, .int (nI 0))]) ⟨rfl, rfl, rfl, rfl, rfl, lvi (by show _ = _ + (0 : Int32); rw [Int32.add_zero]), rfl, trivial⟩ ?_
          refine up0 (c := 12) (H := fun i => G E C RL cL_growth zL_growth P 1 12 (M.x (xI E M.2 a 12 (ofF (g.A.s (2 * x + 1)) h2))) 117 [(0, .ref (ad E 0 0 0)), (1, .int (nI x)), (2, .int (nI h1)), (3, .int (nI h2)), (5, .ref a), (6, .int (sm h1 (fun k => if (g.A.s (2 * x)).getD k 0 = nI x then 0 else 1) / 3 + sm i (fun m => nI (if m = x then 0 else cN (g.A.s (2 * x + 1)) (nI m) h2 - 1)))), (7, .int (nI i))] []) ?_ (fun i hi ih => ?_)
          · refine G_iload dL_growth_117 rfl ?_
            refine G_bipush (v := 12) dL_growth_119 (by decide) ?_
            refine G_icmp_ge (tgt := 161) dL_growth_121 (by decide) (fun c121 => ?_) (fun c121 => ?_)
            · refine G_iload dL_growth_161 rfl ?_
              refine G_xdrop hX1 rfl ?_
              refine G_iret dL_growth_163 rfl rfl (Nat.le_of_ble_eq_true rfl) (Nat.le_of_ble_eq_true rfl) ?_
              exact h
            · exact absurd (show nI 12 ≤ nI 12 from Int32.le_refl _) c121
          · have e3 : ∀ v : Int32, nI (if i = x then 0 else cN (g.A.s (2 * x + 1)) (nI i) h2 - 1) = v → G E C RL cL_growth zL_growth P 1 12 (M.x (xI E M.2 a 12 (ofF (g.A.s (2 * x + 1)) h2))) 152 [(0, .ref (ad E 0 0 0)), (1, .int (nI x)), (2, .int (nI h1)), (3, .int (nI h2)), (5, .ref a), (6, .int (sm h1 (fun k => if (g.A.s (2 * x)).getD k 0 = nI x then 0 else 1) / 3 + sm i (fun m => nI (if m = x then 0 else cN (g.A.s (2 * x + 1)) (nI m) h2 - 1)))), (7, .int (nI i))] [.int v, .int (sm h1 (fun k => if (g.A.s (2 * x)).getD k 0 = nI x then 0 else 1) / 3 + sm i (fun m => nI (if m = x then 0 else cN (g.A.s (2 * x + 1)) (nI m) h2 - 1)))] := fun v ev => by
              refine G_iadd dL_growth_152 ?_
              refine G_istore dL_growth_153 (Nat.le_of_ble_eq_true rfl) ?_
              refine G_iinc (v := 1) dL_growth_155 rfl (Nat.le_of_ble_eq_true rfl) (by decide) ?_
              refine G_goto (tgt := 117) dL_growth_158 (by decide) ?_
              refine G_lv2 ih ⟨rfl, rfl, rfl, rfl, rfl, lvi ?_, lvi (nI_1 i), trivial⟩
              rw [Int32.add_assoc, sm_t (n := i) (g := fun m => nI (if m = x then 0 else cN (g.A.s (2 * x + 1)) (nI m) h2 - 1)) ev]
            have cle := cN_le (L := g.A.s (2 * x + 1)) (x := nI i) (h := h2)
            have hl20 := hL2.1
            have ef : ofF (g.A.s (2 * x + 1)) h2 i = nI (cN (g.A.s (2 * x + 1)) (nI i) h2) := if_pos hi
            refine G_iload dL_growth_117 rfl ?_
            refine G_bipush (v := 12) dL_growth_119 (by decide) ?_
            refine G_icmp_ge (tgt := 161) dL_growth_121 (by decide) (fun c121 => ?_) (fun c121 => ?_)
            · exact absurd (show nI 12 ≤ nI i from c121) (nI_ge hi (by decide))
            · refine G_iload dL_growth_124 rfl ?_
              refine G_iload dL_growth_126 rfl ?_
              refine G_iload_n dL_growth_128 rfl ?_
              refine G_icmp_eq (tgt := 151) dL_growth_129 (by decide) (fun c129 => ?_) (fun c129 => ?_)
              · refine G_iconst (v := 0) dL_growth_151 (by decide) ?_
                exact e3 0 (by rw [if_pos ((nI_eq (by omega) (by omega)).mp c129)]; rfl)
              · have n1 : i ≠ x := fun q => c129 (by rw [q])
                refine G_aload dL_growth_132 rfl ?_
                refine G_iload dL_growth_134 rfl ?_
                refine G_xiald hX1 xI_at dL_growth_136 rfl hi (by decide) ?_
                rw [ef]
                refine G_iconst (v := 1) dL_growth_137 (by decide) ?_
                refine G_icmp_le (tgt := 151) dL_growth_138 (by decide) (fun c138 => ?_) (fun c138 => ?_)
                · refine G_iconst (v := 0) dL_growth_151 (by decide) ?_
                  exact e3 0 (by rw [if_neg n1, show cN (g.A.s (2 * x + 1)) (nI i) h2 - 1 = 0 by have := (nI_leI (by omega) (by decide)).mp (show nI (cN (g.A.s (2 * x + 1)) (nI i) h2) ≤ nI 1 from c138); omega]; rfl)
                · refine G_aload dL_growth_141 rfl ?_
                  refine G_iload dL_growth_143 rfl ?_
                  refine G_xiald hX1 xI_at dL_growth_145 rfl hi (by decide) ?_
                  rw [ef]
                  refine G_iconst (v := 1) dL_growth_146 (by decide) ?_
                  refine G_isub dL_growth_147 ?_
                  refine G_goto (tgt := 152) dL_growth_148 (by decide) ?_
                  have c2 : 1 < cN (g.A.s (2 * x + 1)) (nI i) h2 := by
                    rcases Nat.lt_or_ge 1 (cN (g.A.s (2 * x + 1)) (nI i) h2) with q | q
                    · exact q
                    · exact absurd (show nI (cN (g.A.s (2 * x + 1)) (nI i) h2) ≤ nI 1 from nI_le q (by decide)) c138
                  exact e3 _ (by rw [if_neg n1]; exact (pk_sub (b := 1) (by omega)).symm)
        · exact absurd (show nI h2 ≤ nI h2 from Int32.le_refl _) c84
      · obtain ⟨m0, hm0, e0⟩ := hm i hi
        refine G_iload dL_growth_81 rfl ?_
        refine G_iload_n dL_growth_83 rfl ?_
        refine G_icmp_ge (tgt := 108) dL_growth_84 (by decide) (fun c84 => ?_) (fun c84 => ?_)
        · exact absurd (show nI h2 ≤ nI i from c84) (nI_ge hi (by have := hL2.1; omega))
        · refine G_aload dL_growth_87 rfl ?_
          refine G_aload_n dL_growth_89 rfl ?_
          refine G_iload_n dL_growth_90 rfl ?_
          refine G_iconst (v := 1) dL_growth_91 (by decide) ?_
          refine G_iload dL_growth_92 rfl ?_
          refine cv_L_80 (cs' := 1) (ss' := 12) dL_growth_94  (Nat.le_of_ble_eq_true rfl) (Nat.le_of_ble_eq_true rfl) (Nat.le_of_ble_eq_true rfl) rfl rfl (Nat.le_of_ble_eq_true rfl) (Nat.le_of_ble_eq_true rfl) rfl ?_
          refine u_piece (s := 1) (by assumption) (by decide) (hC1 _) (hGo_i ?_)
          rw [atL_in (by omega) (by have := hL2.1; omega), e0]
          refine G_dup2 dL_growth_97 rfl rfl ?_
          refine G_xiald hX1 xI_at dL_growth_98 rfl hm0 (by decide) ?_
          refine G_iconst (v := 1) dL_growth_99 (by decide) ?_
          refine G_iadd dL_growth_100 ?_
          refine G_xiast (M := M.x (xI E M.2 a 12 (ofF (g.A.s (2 * x + 1)) i))) hX1 xI_at dL_growth_101 rfl hm0 (by decide) (fun hX2 => ?_)
          have e9 : (xI E M.2 a 12 (ofF (g.A.s (2 * x + 1)) i)).set M.2.length (a, .inl (E.2.2.1 0, 12, .inl (upd (ofF (g.A.s (2 * x + 1)) i) m0 (ofF (g.A.s (2 * x + 1)) i m0 + 1)))) = xI E M.2 a 12 (ofF (g.A.s (2 * x + 1)) (i + 1)) := by
            rw [← ofF_up hm0 e0]
            exact xI_set
          have hX3 : xOk E (xI E M.2 a 12 (ofF (g.A.s (2 * x + 1)) (i + 1))) := e9 ▸ hX2
          refine G_st (M' := M.x (xI E M.2 a 12 (ofF (g.A.s (2 * x + 1)) (i + 1)))) rfl rfl (by rw [← e9]) ?_
          refine G_iinc (v := 1) dL_growth_102 rfl (Nat.le_of_ble_eq_true rfl) (by decide) ?_
          refine G_goto (tgt := 81) dL_growth_105 (by decide) ?_
          exact G_lv2 (ih hX3) ⟨rfl, rfl, rfl, rfl, rfl, rfl, lvi (nI_1 i), trivial⟩
    · exact absurd (show nI h1 ≤ nI h1 from Int32.le_refl _) c47
  · refine G_iload dL_growth_44 rfl ?_
    refine G_iload_n dL_growth_46 rfl ?_
    refine G_icmp_ge (tgt := 78) dL_growth_47 (by decide) (fun c47 => ?_) (fun c47 => ?_)
    · exact absurd (show nI h1 ≤ nI i from c47) (nI_ge hi (by have := hL1.1; omega))
    · refine G_iload dL_growth_50 rfl ?_
      refine G_aload_n dL_growth_52 rfl ?_
      refine G_iload_n dL_growth_53 rfl ?_
      refine G_iconst (v := 0) dL_growth_54 (by decide) ?_
      refine G_iload dL_growth_55 rfl ?_
      refine cv_L_80 (cs' := 1) (ss' := 12) dL_growth_57  (Nat.le_of_ble_eq_true rfl) (Nat.le_of_ble_eq_true rfl) (Nat.le_of_ble_eq_true rfl) rfl rfl (Nat.le_of_ble_eq_true rfl) (Nat.le_of_ble_eq_true rfl) rfl ?_
      refine u_piece (s := 0) (by assumption) (by decide) (hC1 _) (hGo_i ?_)
      rw [show atL (g.A.s (2 * x + 0)) (nI i) = (g.A.s (2 * x)).getD i 0 from atL_in (L := g.A.s (2 * x)) (by omega) (by have := hL1.1; omega)]
      refine G_iload_n dL_growth_60 rfl ?_
      refine G_icmp_ne (tgt := 68) dL_growth_61 (by decide) (fun c61 => ?_) (fun c61 => ?_)
      · refine G_iconst (v := 1) dL_growth_68 (by decide) ?_
        refine G_iadd dL_growth_69 ?_
        refine G_istore dL_growth_70 (Nat.le_of_ble_eq_true rfl) ?_
        refine G_iinc (v := 1) dL_growth_72 rfl (Nat.le_of_ble_eq_true rfl) (by decide) ?_
        refine G_goto (tgt := 44) dL_growth_75 (by decide) ?_
        exact G_lv2 ih ⟨rfl, rfl, rfl, rfl, lvi (by rw [← sm_t (v := 1) (if_neg c61)]), rfl, lvi (nI_1 i), trivial⟩
      · refine G_iconst (v := 0) dL_growth_64 (by decide) ?_
        refine G_goto (tgt := 69) dL_growth_65 (by decide) ?_
        refine G_iadd dL_growth_69 ?_
        refine G_istore dL_growth_70 (Nat.le_of_ble_eq_true rfl) ?_
        refine G_iinc (v := 1) dL_growth_72 rfl (Nat.le_of_ble_eq_true rfl) (by decide) ?_
        refine G_goto (tgt := 44) dL_growth_75 (by decide) ?_
        exact G_lv2 ih ⟨rfl, rfl, rfl, rfl, lvi (by rw [← sm_t (v := 0) (if_pos c61)]), rfl, lvi (nI_1 i), trivial⟩
theorem det_law {A : Ab} {x : Nat} {w : Int32} : (if ¬ w < A.g 3 then (if 1 + (w - A.g 3) / 3 < 9 then 1 + (w - A.g 3) / 3 else 9) else (if 0 < A.f x 8 - 1 then A.f x 8 - 1 else 0)) = detV A x w := by
  unfold detV imax imin
  by_cases q : w < A.g 3
  · rw [if_neg (fun z => z q), if_pos q]
    by_cases q2 : 0 < A.f x 8 - 1
    · rw [if_pos q2, if_neg (fun z => by rw [Int32.lt_iff_toInt_lt] at q2 z; omega)]
    · rw [if_neg q2]
      by_cases q3 : A.f x 8 - 1 < 0
      · rw [if_pos q3]
      · rw [if_neg q3]
        refine Int32.toInt_inj.mp ?_
        rw [Int32.lt_iff_toInt_lt] at q2 q3
        omega
  · rw [if_pos q, if_neg q]
    by_cases q2 : 1 + (w - A.g 3) / 3 < 9
    · rw [if_pos q2, if_neg (fun z => by rw [Int32.lt_iff_toInt_lt] at q2 z; omega)]
    · rw [if_neg q2]
      by_cases q3 : 9 < 1 + (w - A.g 3) / 3
      · rw [if_pos q3]
      · rw [if_neg q3]
        refine Int32.toInt_inj.mp ?_
        rw [Int32.lt_iff_toInt_lt] at q2 q3
        omega
theorem l_detention {x : Nat} (hx : x < g.A.n) (hC : CG M g) (hO : Okg g) (hX : xOk E M.2) (h : P (.inl (some (.int (detV g.A x (g.A.f x 6 + growV g.A x))))) M) : Sp E yL_detention cL_detention zL_detention [.ref (ad E 0 0 0), .int (nI x)] M P := by
  rw [← det_law] at h
  refine Sp_of (own := RL) (by decide) rfl rfl (Nat.le_of_ble_eq_true rfl) (fun C => ?_)
  refine G_aload_n dL_detention_0 rfl ?_
  refine G_iload_n dL_detention_1 rfl ?_
  refine G_bipush (v := 6) dL_detention_2 (by decide) ?_
  refine cv_L_59 (cs' := 0) (ss' := 0) dL_detention_4  (Nat.le_of_ble_eq_true rfl) (Nat.le_of_ble_eq_true rfl) (Nat.le_of_ble_eq_true rfl) rfl rfl (Nat.le_of_ble_eq_true rfl) (Nat.le_of_ble_eq_true rfl) rfl ?_
  refine u_pupil (k := 6) (by first | assumption | omega) (by first | decide | assumption | omega) hC hO (hGo_i ?_)
  refine G_aload_n dL_detention_7 rfl ?_
  refine G_iload_n dL_detention_8 rfl ?_
  refine cv_L_87 (cs' := 1) (ss' := 12) dL_detention_9  (Nat.le_of_ble_eq_true rfl) (Nat.le_of_ble_eq_true rfl) (Nat.le_of_ble_eq_true rfl) rfl rfl (Nat.le_of_ble_eq_true rfl) (Nat.le_of_ble_eq_true rfl) rfl ?_
  refine l_growth (by first | assumption | omega) hC hO hX (hGo_i ?_)
  refine G_iadd dL_detention_12 ?_
  refine G_istore_n dL_detention_13 (Nat.le_of_ble_eq_true rfl) ?_
  refine G_iload_n dL_detention_14 rfl ?_
  refine G_aload_n dL_detention_15 rfl ?_
  refine G_iconst (v := 3) dL_detention_16 (by decide) ?_
  refine cv_L_68 (cs' := 1) (ss' := 12) dL_detention_17  (Nat.le_of_ble_eq_true rfl) (Nat.le_of_ble_eq_true rfl) (Nat.le_of_ble_eq_true rfl) rfl rfl (Nat.le_of_ble_eq_true rfl) (Nat.le_of_ble_eq_true rfl) rfl ?_
  refine u_count (k := 3) (by first | decide | assumption | omega) hC (hGo_i ?_)
  refine G_icmp_lt (tgt := 42) dL_detention_20 (by decide) (fun c20 => ?_) (fun c20 => ?_)
  · have c : g.A.f x 6 + growV g.A x < g.A.g 3 := c20
    rw [if_neg (fun z => z c)] at h
    refine G_iconst (v := 0) dL_detention_42 (by decide) ?_
    refine G_aload_n dL_detention_43 rfl ?_
    refine G_iload_n dL_detention_44 rfl ?_
    refine G_bipush (v := 8) dL_detention_45 (by decide) ?_
    refine cv_L_59 (cs' := 1) (ss' := 12) dL_detention_47  (Nat.le_of_ble_eq_true rfl) (Nat.le_of_ble_eq_true rfl) (Nat.le_of_ble_eq_true rfl) rfl rfl (Nat.le_of_ble_eq_true rfl) (Nat.le_of_ble_eq_true rfl) rfl ?_
    refine u_pupil (k := 8) (by first | assumption | omega) (by first | decide | assumption | omega) hC hO (hGo_i ?_)
    refine G_iconst (v := 1) dL_detention_50 (by decide) ?_
    refine G_isub dL_detention_51 ?_
    refine G_mmax dL_detention_52 (hqx 1031 (by decide +kernel) rfl) (hqx 674 (by decide +kernel) rfl) (hqx 15 (by decide +kernel) rfl) (hqx 675 (by decide +kernel) rfl) (Nat.le_of_ble_eq_true rfl) (Nat.le_of_ble_eq_true rfl) (Nat.le_of_ble_eq_true rfl) (Nat.le_of_ble_eq_true rfl) ?_
    refine G_iret dL_detention_55 rfl rfl (Nat.le_of_ble_eq_true rfl) (Nat.le_of_ble_eq_true rfl) ?_
    exact h
  · have c : ¬ g.A.f x 6 + growV g.A x < g.A.g 3 := c20
    rw [if_pos c] at h
    refine G_bipush (v := 9) dL_detention_23 (by decide) ?_
    refine G_iconst (v := 1) dL_detention_25 (by decide) ?_
    refine G_iload_n dL_detention_26 rfl ?_
    refine G_aload_n dL_detention_27 rfl ?_
    refine G_iconst (v := 3) dL_detention_28 (by decide) ?_
    refine cv_L_68 (cs' := 1) (ss' := 12) dL_detention_29  (Nat.le_of_ble_eq_true rfl) (Nat.le_of_ble_eq_true rfl) (Nat.le_of_ble_eq_true rfl) rfl rfl (Nat.le_of_ble_eq_true rfl) (Nat.le_of_ble_eq_true rfl) rfl ?_
    refine u_count (k := 3) (by first | decide | assumption | omega) hC (hGo_i ?_)
    refine G_isub dL_detention_32 ?_
    refine G_iconst (v := 3) dL_detention_33 (by decide) ?_
    refine G_idiv dL_detention_34 (by decide) ?_
    refine G_iadd dL_detention_35 ?_
    refine G_mmin dL_detention_36 (hqx 1080 (by decide +kernel) rfl) (hqx 358 (by decide +kernel) rfl) (hqx 15 (by decide +kernel) rfl) (hqx 359 (by decide +kernel) rfl) (Nat.le_of_ble_eq_true rfl) (Nat.le_of_ble_eq_true rfl) (Nat.le_of_ble_eq_true rfl) (Nat.le_of_ble_eq_true rfl) ?_
    refine G_goto (tgt := 55) dL_detention_39 (by decide) ?_
    refine G_iret dL_detention_55 rfl rfl (Nat.le_of_ble_eq_true rfl) (Nat.le_of_ble_eq_true rfl) ?_
    exact h
end LGROWTH
