/-! ===== HomeworkBarter$School: the end of a week, copies, setups ===== -/
section CWEEK
variable {E : Ed} {M : Mm} {P : Res → Mm → Prop} {j : Nat} {A : Ab}
def lookA (A : Ab) (x : Nat) : Ab := if A.f x 6 < A.g 3 then A.sF x 8 (detV A x (A.f x 6)) else ((((((A.sF x 8 (detV A x (A.f x 6))).sF x 6 0).sF x 9 0).sG 13 (A.g 13 + (nI (A.s (2 * x)).length + nI (A.s (2 * x + 1)).length))).sS (2 * x) []).sS (2 * x + 1) [])
def lookV (A : Ab) (x : Nat) : Int32 := if A.f x 6 < A.g 3 then 0 else 1
theorem s_X3_lookAtProof {x : Nat} (hj : j < 10) (hA : CR M j A) (hx : x < A.n) (h : ∀ M', CR M' j (lookA A x) → Fr (dC j) M M' → P (.inl (some (.int (lookV A x)))) M') : Sp E yX3_lookAtProof cX3_lookAtProof zX3_lookAtProof [.ref (ad E 7 j 0), .ref (ad E 12 j x)] M P := by
  have h12 := hA.n12
  have e6 : M.1 12 j x 7 = A.f x 6 := hA.f hx 6 (by decide)
  have eg3 : M.1 7 j 0 6 = A.g 3 := hA.g (t := 2) (by decide)
  have hA1 := hA.upF (p := x) (t := 8) (v := detV A x (A.f x 6)) (by decide)
  have hf1 : Fr (dC j) M (M.up 12 j x (pF 8) (detV A x (A.f x 6))) := Fr.rfl.upC (by decide) (by decide)
  refine Sp_of (own := RX3) (by decide) rfl rfl (Nat.le_of_ble_eq_true rfl) (fun C => ?_)
  refine G_aload_n dX3_lookAtProof_0 rfl ?_
  refine gf_X3_242 dX3_lookAtProof_1 hj (show x < 12 by omega) ?_
  refine G_aload_n dX3_lookAtProof_4 rfl ?_
  refine gf_X3_54 dX3_lookAtProof_5 hj ?_
  refine G_icmp_lt (tgt := 15) dX3_lookAtProof_8 (by decide) (fun c8 => ?_) (fun c8 => ?_)
  · rw [e6, eg3] at c8
    refine G_iconst (v := 0) dX3_lookAtProof_15 (by decide) ?_
    refine G_istore_n dX3_lookAtProof_16 (Nat.le_of_ble_eq_true rfl) ?_
    refine G_aload_n dX3_lookAtProof_17 rfl ?_
    refine G_aload_n dX3_lookAtProof_18 rfl ?_
    refine G_aload_n dX3_lookAtProof_19 rfl ?_
    refine G_aload_n dX3_lookAtProof_20 rfl ?_
    refine gf_X3_242 dX3_lookAtProof_21 hj (show x < 12 by omega) ?_
    rw [e6]
    refine cv_X3_251 (cs' := 0) (ss' := 0) dX3_lookAtProof_24 hj (Nat.le_of_ble_eq_true rfl) (Nat.le_of_ble_eq_true rfl) (Nat.le_of_ble_eq_true rfl) rfl rfl (Nat.le_of_ble_eq_true rfl) (Nat.le_of_ble_eq_true rfl) rfl ?_
    refine s_X3_detentionBehind hj hA hx (hGo_i ?_)
    refine pf_X3_254 dX3_lookAtProof_27 hj (show x < 12 by omega) ?_
    refine G_iload_n dX3_lookAtProof_30 rfl ?_
    refine G_if_ne (tgt := 36) dX3_lookAtProof_31 (by decide) (fun c31 => ?_) (fun c31 => ?_)
    · exact absurd rfl c31
    · refine G_iconst (v := 0) dX3_lookAtProof_34 (by decide) ?_
      refine G_iret dX3_lookAtProof_35 rfl rfl (Nat.le_of_ble_eq_true rfl) (Nat.le_of_ble_eq_true rfl) ?_
      have := h (M.up 12 j x (pF 8) (detV A x (A.f x 6))) (by unfold lookA; rw [if_pos c8]; exact hA1) hf1
      unfold lookV at this
      rw [if_pos c8] at this
      exact this
  · rw [e6, eg3] at c8
    refine G_iconst (v := 1) dX3_lookAtProof_11 (by decide) ?_
    refine G_goto (tgt := 16) dX3_lookAtProof_12 (by decide) ?_
    refine G_istore_n dX3_lookAtProof_16 (Nat.le_of_ble_eq_true rfl) ?_
    refine G_aload_n dX3_lookAtProof_17 rfl ?_
    refine G_aload_n dX3_lookAtProof_18 rfl ?_
    refine G_aload_n dX3_lookAtProof_19 rfl ?_
    refine G_aload_n dX3_lookAtProof_20 rfl ?_
    refine gf_X3_242 dX3_lookAtProof_21 hj (show x < 12 by omega) ?_
    rw [e6]
    refine cv_X3_251 (cs' := 0) (ss' := 0) dX3_lookAtProof_24 hj (Nat.le_of_ble_eq_true rfl) (Nat.le_of_ble_eq_true rfl) (Nat.le_of_ble_eq_true rfl) rfl rfl (Nat.le_of_ble_eq_true rfl) (Nat.le_of_ble_eq_true rfl) rfl ?_
    refine s_X3_detentionBehind hj hA hx (hGo_i ?_)
    refine pf_X3_254 dX3_lookAtProof_27 hj (show x < 12 by omega) ?_
    refine G_iload_n dX3_lookAtProof_30 rfl ?_
    refine G_if_ne (tgt := 36) dX3_lookAtProof_31 (by decide) (fun c31 => ?_) (fun c31 => ?_)
    · refine G_aload_n dX3_lookAtProof_36 rfl ?_
      refine G_iconst (v := 0) dX3_lookAtProof_37 (by decide) ?_
      refine pf_X3_242 dX3_lookAtProof_38 hj (show x < 12 by omega) ?_
      refine G_aload_n dX3_lookAtProof_41 rfl ?_
      refine G_iconst (v := 0) dX3_lookAtProof_42 (by decide) ?_
      refine pf_X3_257 dX3_lookAtProof_43 hj (show x < 12 by omega) ?_
      refine G_aload_n dX3_lookAtProof_46 rfl ?_
      refine gf_X3_24 dX3_lookAtProof_47 hj ?_
      refine G_bipush (v := 6) dX3_lookAtProof_50 (by decide) ?_
      refine G_dup2 dX3_lookAtProof_52 rfl rfl ?_
      refine G_iald dX3_lookAtProof_53 ⟨hj, rfl⟩ rfl (rfl : (6 : Int32) = nI 6) (by decide) (by decide) ?_
      have hA2 := hA1.upF (p := x) (t := 6) (v := 0) (by decide)
      have hA3 := hA2.upF (p := x) (t := 9) (v := 0) (by decide)
      have hf3 : Fr (dC j) M (((M.up 12 j x (pF 8) (detV A x (A.f x 6))).up 12 j x (pF 6) 0).up 12 j x (pF 9) 0) := (hf1.upC (by decide) (by decide)).upC (by decide) (by decide)
      refine G_aload_n dX3_lookAtProof_54 rfl ?_
      refine gf_X3_186 dX3_lookAtProof_55 hj (show x < 12 by omega) ?_
      refine gf_X3_139 dX3_lookAtProof_58 hj (show 2 * x < 24 by omega) ?_
      refine G_aload_n dX3_lookAtProof_61 rfl ?_
      refine gf_X3_190 dX3_lookAtProof_62 hj (show x < 12 by omega) ?_
      refine gf_X3_139 dX3_lookAtProof_65 hj (show 2 * x + 1 < 24 by omega) ?_
      refine G_iadd dX3_lookAtProof_68 ?_
      refine G_iadd dX3_lookAtProof_69 ?_
      refine G_iast dX3_lookAtProof_70 ⟨hj, rfl⟩ (fun _ => rfl) (rfl : (6 : Int32) = nI 6) (by decide) (by decide) ?_
      rw [show (((M.up 12 j x 9 (detV A x (A.f x 6))).up 12 j x 7 0).up 12 j x 10 0).1 11 j 0 6 = A.g 13 from hA3.tl (t := 6) (by decide), show (((M.up 12 j x 9 (detV A x (A.f x 6))).up 12 j x 7 0).up 12 j x 10 0).1 13 j (2 * x) 1 = nI (A.s (2 * x)).length from (hA3.s (p := x) hx (t := 0) (by decide)).1, show (((M.up 12 j x 9 (detV A x (A.f x 6))).up 12 j x 7 0).up 12 j x 10 0).1 13 j (2 * x + 1) 1 = nI (A.s (2 * x + 1)).length from (hA3.s (p := x) hx (t := 1) (by decide)).1]
      refine G_aload_n dX3_lookAtProof_71 rfl ?_
      refine cv_X3_260 (cs' := 0) (ss' := 0) dX3_lookAtProof_72 hj (show x < 12 by omega) (Nat.le_of_ble_eq_true rfl) (Nat.le_of_ble_eq_true rfl) (Nat.le_of_ble_eq_true rfl) rfl rfl (Nat.le_of_ble_eq_true rfl) (Nat.le_of_ble_eq_true rfl) rfl ?_
      have hA4 := hA3.upT (t := 6) (v := A.g 13 + (nI (A.s (2 * x)).length + nI (A.s (2 * x + 1)).length)) (by decide)
      refine s_X1_emptySatchels hj (by omega) (hGo_v ?_)
      have hA5 := (hA4.up0 (q := 2 * x)).up0 (q := 2 * x + 1)
      refine G_iconst (v := 1) dX3_lookAtProof_75 (by decide) ?_
      refine G_iret dX3_lookAtProof_76 rfl rfl (Nat.le_of_ble_eq_true rfl) (Nat.le_of_ble_eq_true rfl) ?_
      have := h _ (by unfold lookA; rw [if_neg c8]; exact hA5) (((hf3.upC (by decide) (by decide)).upC (by decide) (by decide)).upC (by decide) (by decide))
      unfold lookV at this
      rw [if_neg c8] at this
      exact this
    · exact absurd c31 (by decide)
def wkH (A : Ab) : Nat → Ab
  | 0 => A
  | k + 1 => handA (wkH A k) k
def wkL (A : Ab) : Nat → Ab
  | 0 => A
  | k + 1 => lookA (wkL A k) k
def wkV (A : Ab) : Nat → Int32
  | 0 => 0
  | k + 1 => wkV A k + lookV (wkL A k) k
def wkS (A : Ab) : Nat → Ab
  | 0 => A
  | k + 1 => (wkS A k).sF k 5 (if 0 < (wkS A k).f k 8 then (wkS A k).g 2 / 2 else (wkS A k).g 2)
theorem wkH_n (k : Nat) : (wkH A k).n = A.n := by
  induction k with
  | zero => rfl
  | succ k ih => exact ih
theorem wkH_g {t : Nat} (ht : t ≠ 12) (k : Nat) : (wkH A k).g t = A.g t := by
  induction k with
  | zero => rfl
  | succ k ih => exact (if_neg ht).trans ih
theorem wkL_n (k : Nat) : (wkL A k).n = A.n := by
  induction k with
  | zero => rfl
  | succ k ih =>
    show (lookA (wkL A k) k).n = A.n
    unfold lookA
    split <;> exact ih
theorem wkS_n (k : Nat) : (wkS A k).n = A.n := by
  induction k with
  | zero => rfl
  | succ k ih => exact ih
def wk1 (A : Ab) : Ab := wkL (wkH A A.n) A.n
def wkP (A : Ab) : Int32 := wkV (wkH A A.n) A.n
def wk2 (A : Ab) : Ab := wkS (wk1 A) A.n
def weekA (A : Ab) : Ab := ((((wk2 A).sG 15 ((wk2 A).g 15 + wkP A)).sD (grD (wk2 A).d)).sG 16 ((wk2 A).g 16 + grV (wk2 A).d)).sG 1 ((wk2 A).g 1 + 1)
theorem wk1_n : (wk1 A).n = A.n := (wkL_n _).trans (wkH_n _)
theorem wk2_n : (wk2 A).n = A.n := (wkS_n _).trans wk1_n
theorem s_X3_endWeek (hj : j < 10) (hA : CR M j A) (h4 : 0 ≤ A.g 4) (h5 : 0 ≤ A.g 5) (h : ∀ M', CR M' j (weekA A) → Fr (dC j) M M' → P (.inl (some (.int (wkP A)))) M') : Sp E yX3_endWeek cX3_endWeek zX3_endWeek [.ref (ad E 7 j 0)] M P := by
  have h12 := hA.n12
  refine Sp_of (own := RX3) (by decide) rfl rfl (Nat.le_of_ble_eq_true rfl) (fun C => ?_)
  refine G_iconst (v := 0) dX3_endWeek_0 (by decide) ?_
  refine G_istore_n dX3_endWeek_1 (Nat.le_of_ble_eq_true rfl) ?_
  refine G_iconst (v := 0) dX3_endWeek_2 (by decide) ?_
  refine G_istore_n dX3_endWeek_3 (Nat.le_of_ble_eq_true rfl) ?_
  refine G_lv (lv' := [(0, .ref (ad E 7 j 0)), (1, .int 0), (2, .int (nI 0))]) ⟨rfl, rfl, rfl, trivial⟩ ?_
  refine up0 (c := A.n) (H := fun i => ∀ M', CR M' j (wkH A i) → Fr (dC j) M M' → G E C RX3 cX3_endWeek zX3_endWeek P 0 0 M' 4 [(0, .ref (ad E 7 j 0)), (1, .int 0), (2, .int (nI i))] []) ?_ (fun i hi ih => ?_) M hA Fr.rfl
  · intro M1 hA1 hf1
    have hn := hA1.n
    rw [wkH_n] at hn
    refine G_iload_n dX3_endWeek_4 rfl ?_
    refine G_aload_n dX3_endWeek_5 rfl ?_
    refine gf_X3_31 dX3_endWeek_6 hj ?_
    refine G_icmp_ge (tgt := 28) dX3_endWeek_9 (by decide) (fun c9 => ?_) (fun c9 => ?_)
    · refine G_iconst (v := 0) dX3_endWeek_28 (by decide) ?_
      refine G_istore_n dX3_endWeek_29 (Nat.le_of_ble_eq_true rfl) ?_
      refine G_lv (lv' := [(0, .ref (ad E 7 j 0)), (1, .int (wkV (wkH A A.n) 0)), (2, .int (nI 0))]) ⟨rfl, rfl, rfl, trivial⟩ ?_
      refine up0 (c := A.n) (H := fun i => ∀ M', CR M' j (wkL (wkH A A.n) i) → Fr (dC j) M M' → G E C RX3 cX3_endWeek zX3_endWeek P 0 0 M' 30 [(0, .ref (ad E 7 j 0)), (1, .int (wkV (wkH A A.n) i)), (2, .int (nI i))] []) ?_ (fun i hi ih => ?_) M1 hA1 hf1
      · intro M2 hA2 hf2
        have hn := hA2.n
        rw [wkL_n, wkH_n] at hn
        refine G_iload_n dX3_endWeek_30 rfl ?_
        refine G_aload_n dX3_endWeek_31 rfl ?_
        refine gf_X3_31 dX3_endWeek_32 hj ?_
        refine G_icmp_ge (tgt := 57) dX3_endWeek_35 (by decide) (fun c35 => ?_) (fun c35 => ?_)
        · refine G_iconst (v := 0) dX3_endWeek_57 (by decide) ?_
          refine G_istore_n dX3_endWeek_58 (Nat.le_of_ble_eq_true rfl) ?_
          refine G_lv (lv' := [(0, .ref (ad E 7 j 0)), (1, .int (wkP A)), (2, .int (nI 0))]) ⟨rfl, rfl, rfl, trivial⟩ ?_
          refine up0 (c := A.n) (H := fun i => ∀ M', CR M' j (wkS (wk1 A) i) → Fr (dC j) M M' → G E C RX3 cX3_endWeek zX3_endWeek P 0 0 M' 59 [(0, .ref (ad E 7 j 0)), (1, .int (wkP A)), (2, .int (nI i))] []) ?_ (fun i hi ih => ?_) M2 hA2 hf2
          · intro M3 hA3 hf3
            have hn := hA3.n
            rw [wkS_n, wk1_n] at hn
            have hA3' : CR M3 j (wk2 A) := hA3
            refine G_iload_n dX3_endWeek_59 rfl ?_
            refine G_aload_n dX3_endWeek_60 rfl ?_
            refine gf_X3_31 dX3_endWeek_61 hj ?_
            refine G_icmp_ge (tgt := 107) dX3_endWeek_64 (by decide) (fun c64 => ?_) (fun c64 => ?_)
            · refine G_aload_n dX3_endWeek_107 rfl ?_
              refine gf_X3_24 dX3_endWeek_108 hj ?_
              refine G_bipush (v := 8) dX3_endWeek_111 (by decide) ?_
              refine G_dup2 dX3_endWeek_113 rfl rfl ?_
              refine G_iald dX3_endWeek_114 ⟨hj, rfl⟩ rfl (rfl : (8 : Int32) = nI 8) (by decide) (by decide) ?_
              refine G_iload_n dX3_endWeek_115 rfl ?_
              refine G_iadd dX3_endWeek_116 ?_
              refine G_iast dX3_endWeek_117 ⟨hj, rfl⟩ (fun _ => rfl) (rfl : (8 : Int32) = nI 8) (by decide) (by decide) ?_
              rw [show M3.1 11 j 0 8 = (wk2 A).g 15 from hA3'.tl (t := 8) (by decide)]
              have hA4 := hA3'.upT (t := 8) (v := (wk2 A).g 15 + wkP A) (by decide)
              have hf4 : Fr (dC j) M (M3.up 11 j 0 8 ((wk2 A).g 15 + wkP A)) := hf3.upC (by decide) (by decide)
              refine G_aload_n dX3_endWeek_118 rfl ?_
              refine gf_X3_24 dX3_endWeek_119 hj ?_
              refine G_bipush (v := 9) dX3_endWeek_122 (by decide) ?_
              refine G_dup2 dX3_endWeek_124 rfl rfl ?_
              refine G_iald dX3_endWeek_125 ⟨hj, rfl⟩ rfl (rfl : (9 : Int32) = nI 9) (by decide) (by decide) ?_
              refine G_aload_n dX3_endWeek_126 rfl ?_
              refine gf_X3_20 dX3_endWeek_127 hj ?_
              rw [show (M3.up 11 j 0 8 ((wk2 A).g 15 + wkP A)).1 11 j 0 9 = (wk2 A).g 16 from hA4.tl (t := 9) (by decide)]
              refine cv_X3_234 (cs' := 0) (ss' := 0) dX3_endWeek_130 hj (Nat.le_of_ble_eq_true rfl) (Nat.le_of_ble_eq_true rfl) (Nat.le_of_ble_eq_true rfl) rfl rfl (Nat.le_of_ble_eq_true rfl) (Nat.le_of_ble_eq_true rfl) rfl ?_
              have hd4 : Dbt (M3.up 11 j 0 8 ((wk2 A).g 15 + wkP A)) j (wk2 A).d := hA4.d
              refine s_X0_growAll hj hd4 (fun M5 h5 hf5 => hGo_i ?_)
              have hA5 := hA4.upD h5 hf5
              have hA6 := hA5.upT (t := 9) (v := (wk2 A).g 16 + grV (wk2 A).d) (by decide)
              refine G_iadd dX3_endWeek_133 ?_
              refine G_iast dX3_endWeek_134 ⟨hj, rfl⟩ (fun _ => rfl) (rfl : (9 : Int32) = nI 9) (by decide) (by decide) ?_
              refine G_aload_n dX3_endWeek_135 rfl ?_
              refine G_dup dX3_endWeek_136 rfl ?_
              refine gf_X3_48 dX3_endWeek_137 hj ?_
              rw [show (M5.up 11 j 0 9 ((wk2 A).g 16 + grV (wk2 A).d)).1 7 j 0 4 = (wk2 A).g 1 from hA6.g (t := 0) (by decide)]
              refine G_iconst (v := 1) dX3_endWeek_140 (by decide) ?_
              refine G_iadd dX3_endWeek_141 ?_
              refine pf_X3_48 dX3_endWeek_142 hj ?_
              refine G_iload_n dX3_endWeek_145 rfl ?_
              refine G_iret dX3_endWeek_146 rfl rfl (Nat.le_of_ble_eq_true rfl) (Nat.le_of_ble_eq_true rfl) ?_
              exact h _ (hA6.upG (t := 0) (v := (wk2 A).g 1 + 1) (by decide)) (((hf4.trans (hf5.mono dC_D)).upC (by decide) (by decide)).upC (by decide) (by decide))
            · rw [hn] at c64
              exact absurd (Int32.le_refl _) c64
          · intro M3 hA3 hf3
            have hn := hA3.n
            rw [wkS_n, wk1_n] at hn
            have hi2 : i < (wkS (wk1 A) i).n := by rw [wkS_n, wk1_n]; exact hi
            refine G_iload_n dX3_endWeek_59 rfl ?_
            refine G_aload_n dX3_endWeek_60 rfl ?_
            refine gf_X3_31 dX3_endWeek_61 hj ?_
            refine G_icmp_ge (tgt := 107) dX3_endWeek_64 (by decide) (fun c64 => ?_) (fun c64 => ?_)
            · rw [hn] at c64
              exact absurd c64 (nI_ge hi (by omega))
            · refine G_aload_n dX3_endWeek_67 rfl ?_
              refine gf_X3_11 dX3_endWeek_68 hj ?_
              refine G_iload_n dX3_endWeek_71 rfl ?_
              refine G_aald dX3_endWeek_72 ⟨hj, rfl⟩ rfl rfl rfl (show i < 12 by omega) (by decide) rfl ?_
              refine G_aload_n dX3_endWeek_73 rfl ?_
              refine gf_X3_11 dX3_endWeek_74 hj ?_
              refine G_iload_n dX3_endWeek_77 rfl ?_
              refine G_aald dX3_endWeek_78 ⟨hj, rfl⟩ rfl rfl rfl (show i < 12 by omega) (by decide) rfl ?_
              refine cv_X3_142 (cs' := 0) (ss' := 0) dX3_endWeek_79 hj (show i < 12 by omega) (Nat.le_of_ble_eq_true rfl) (Nat.le_of_ble_eq_true rfl) (Nat.le_of_ble_eq_true rfl) rfl rfl (Nat.le_of_ble_eq_true rfl) (Nat.le_of_ble_eq_true rfl) rfl ?_
              refine s_X1_isDetained hj (by omega) (hA3.f hi2) (hGo_i ?_)
              have ew : M3.1 7 j 0 5 = (wkS (wk1 A) i).g 2 := hA3.g (t := 1) (by decide)
              by_cases h8 : 0 < (wkS (wk1 A) i).f i 8
              · rw [if_pos h8]
                refine G_if_eq (tgt := 94) dX3_endWeek_82 (by decide) (fun c82 => ?_) (fun c82 => ?_)
                · exact absurd c82 (by decide)
                · refine G_aload_n dX3_endWeek_85 rfl ?_
                  refine gf_X3_51 dX3_endWeek_86 hj ?_
                  refine G_iconst (v := 2) dX3_endWeek_89 (by decide) ?_
                  refine G_idiv dX3_endWeek_90 (by decide) ?_
                  refine G_goto (tgt := 98) dX3_endWeek_91 (by decide) ?_
                  refine pf_X3_179 dX3_endWeek_98 hj (show i < 12 by omega) ?_
                  refine G_iinc (v := 1) dX3_endWeek_101 rfl (Nat.le_of_ble_eq_true rfl) (by decide) ?_
                  refine G_goto (tgt := 59) dX3_endWeek_104 (by decide) ?_
                  rw [ew]
                  refine G_lv2 (ih _ ?_ (hf3.upC (by decide) (by decide))) ⟨rfl, rfl, lvi (nI_1 i), trivial⟩
                  have := hA3.upF (p := i) (t := 5) (v := (wkS (wk1 A) i).g 2 / 2) (by decide)
                  show CR _ j ((wkS (wk1 A) i).sF i 5 _)
                  rw [if_pos h8]
                  exact this
              · rw [if_neg h8]
                refine G_if_eq (tgt := 94) dX3_endWeek_82 (by decide) (fun c82 => ?_) (fun c82 => ?_)
                · refine G_aload_n dX3_endWeek_94 rfl ?_
                  refine gf_X3_51 dX3_endWeek_95 hj ?_
                  refine pf_X3_179 dX3_endWeek_98 hj (show i < 12 by omega) ?_
                  refine G_iinc (v := 1) dX3_endWeek_101 rfl (Nat.le_of_ble_eq_true rfl) (by decide) ?_
                  refine G_goto (tgt := 59) dX3_endWeek_104 (by decide) ?_
                  rw [ew]
                  refine G_lv2 (ih _ ?_ (hf3.upC (by decide) (by decide))) ⟨rfl, rfl, lvi (nI_1 i), trivial⟩
                  have := hA3.upF (p := i) (t := 5) (v := (wkS (wk1 A) i).g 2) (by decide)
                  show CR _ j ((wkS (wk1 A) i).sF i 5 _)
                  rw [if_neg h8]
                  exact this
                · exact absurd rfl c82
        · rw [hn] at c35
          exact absurd (Int32.le_refl _) c35
      · intro M2 hA2 hf2
        have hn := hA2.n
        rw [wkL_n, wkH_n] at hn
        have hi2 : i < (wkL (wkH A A.n) i).n := by rw [wkL_n, wkH_n]; exact hi
        refine G_iload_n dX3_endWeek_30 rfl ?_
        refine G_aload_n dX3_endWeek_31 rfl ?_
        refine gf_X3_31 dX3_endWeek_32 hj ?_
        refine G_icmp_ge (tgt := 57) dX3_endWeek_35 (by decide) (fun c35 => ?_) (fun c35 => ?_)
        · rw [hn] at c35
          exact absurd c35 (nI_ge hi (by omega))
        · refine G_iload_n dX3_endWeek_38 rfl ?_
          refine G_aload_n dX3_endWeek_39 rfl ?_
          refine G_aload_n dX3_endWeek_40 rfl ?_
          refine gf_X3_11 dX3_endWeek_41 hj ?_
          refine G_iload_n dX3_endWeek_44 rfl ?_
          refine G_aald dX3_endWeek_45 ⟨hj, rfl⟩ rfl rfl rfl (show i < 12 by omega) (by decide) rfl ?_
          refine cv_X3_230 (cs' := 0) (ss' := 0) dX3_endWeek_46 hj (Nat.le_of_ble_eq_true rfl) (Nat.le_of_ble_eq_true rfl) (Nat.le_of_ble_eq_true rfl) rfl rfl (Nat.le_of_ble_eq_true rfl) (Nat.le_of_ble_eq_true rfl) rfl ?_
          refine s_X3_lookAtProof hj hA2 hi2 (fun M3 hA3 hf3 => hGo_i ?_)
          refine G_iadd dX3_endWeek_49 ?_
          refine G_istore_n dX3_endWeek_50 (Nat.le_of_ble_eq_true rfl) ?_
          refine G_iinc (v := 1) dX3_endWeek_51 rfl (Nat.le_of_ble_eq_true rfl) (by decide) ?_
          refine G_goto (tgt := 30) dX3_endWeek_54 (by decide) ?_
          exact G_lv2 (ih M3 hA3 (hf2.trans hf3)) ⟨rfl, rfl, lvi (nI_1 i), trivial⟩
    · rw [hn] at c9
      exact absurd (Int32.le_refl _) c9
  · intro M1 hA1 hf1
    have hn := hA1.n
    rw [wkH_n] at hn
    have hi2 : i < (wkH A i).n := by rw [wkH_n]; exact hi
    refine G_iload_n dX3_endWeek_4 rfl ?_
    refine G_aload_n dX3_endWeek_5 rfl ?_
    refine gf_X3_31 dX3_endWeek_6 hj ?_
    refine G_icmp_ge (tgt := 28) dX3_endWeek_9 (by decide) (fun c9 => ?_) (fun c9 => ?_)
    · rw [hn] at c9
      exact absurd c9 (nI_ge hi (by omega))
    · refine G_aload_n dX3_endWeek_12 rfl ?_
      refine G_aload_n dX3_endWeek_13 rfl ?_
      refine gf_X3_11 dX3_endWeek_14 hj ?_
      refine G_iload_n dX3_endWeek_17 rfl ?_
      refine G_aald dX3_endWeek_18 ⟨hj, rfl⟩ rfl rfl rfl (show i < 12 by omega) (by decide) rfl ?_
      refine cv_X3_227 (cs' := 0) (ss' := 0) dX3_endWeek_19 hj (Nat.le_of_ble_eq_true rfl) (Nat.le_of_ble_eq_true rfl) (Nat.le_of_ble_eq_true rfl) rfl rfl (Nat.le_of_ble_eq_true rfl) (Nat.le_of_ble_eq_true rfl) rfl ?_
      refine s_X3_handIn hj hA1 hi2 (by rw [wkH_g (by decide)]; exact h4) (by rw [wkH_g (by decide)]; exact h5) (fun M2 hA2 hf2 => hGo_v ?_)
      refine G_iinc (v := 1) dX3_endWeek_22 rfl (Nat.le_of_ble_eq_true rfl) (by decide) ?_
      refine G_goto (tgt := 4) dX3_endWeek_25 (by decide) ?_
      exact G_lv2 (ih M2 hA2 (hf1.trans hf2)) ⟨rfl, rfl, lvi (nI_1 i), trivial⟩
-- copies
theorem s_X1_copyFrom {j2 p p2 : Nat} {f : Nat → Int32} {s1 s2 : List Int32} (hj : j < 10) (hp : p < 12) (hj2 : j2 < 10) (hp2 : p2 < 12) (hne : j2 ≠ j) (hb : f 4 = 0 ∨ f 4 = 1) (hu : Pup M j2 p2 f s1 s2) (h : ∀ M', (M.1 12 j p 0 = nI p → Pup M' j p f s1 s2) → Fr (dP j p) M M' → P (.inl none) M') : Sp E yX1_copyFrom cX1_copyFrom zX1_copyFrom [.ref (ad E 12 j p), .ref (ad E 12 j2 p2)] M P := by
  obtain ⟨u0, uf, u1, u2⟩ := hu
  refine Sp_of (own := RX1) (by decide) rfl rfl (Nat.le_of_ble_eq_true rfl) (fun C => ?_)
  refine G_aload_n dX1_copyFrom_0 rfl ?_
  refine gf_X1_12 dX1_copyFrom_1 hj hp ?_
  refine G_aload_n dX1_copyFrom_4 rfl ?_
  refine gf_X1_12 dX1_copyFrom_5 hj2 hp2 ?_
  refine cv_X1_25 (cs' := 0) (ss' := 0) dX1_copyFrom_8 hj (show 2 * p < 24 by omega) (Nat.le_of_ble_eq_true rfl) (Nat.le_of_ble_eq_true rfl) (Nat.le_of_ble_eq_true rfl) rfl rfl (Nat.le_of_ble_eq_true rfl) (Nat.le_of_ble_eq_true rfl) rfl ?_
  refine s_X2_copyFrom hj (by omega) hj2 (by omega) u1 (fun M1 h1 hf1 => hGo_v ?_)
  have u2' : Sat M1 j2 (2 * p2 + 1) s2 := u2.keep (fun k hk t => hf1.at (fun q => hne q.2.1) t)
  refine G_aload_n dX1_copyFrom_11 rfl ?_
  refine gf_X1_18 dX1_copyFrom_12 hj hp ?_
  refine G_aload_n dX1_copyFrom_15 rfl ?_
  refine gf_X1_18 dX1_copyFrom_16 hj2 hp2 ?_
  refine cv_X1_25 (cs' := 0) (ss' := 0) dX1_copyFrom_19 hj (show 2 * p + 1 < 24 by omega) (Nat.le_of_ble_eq_true rfl) (Nat.le_of_ble_eq_true rfl) (Nat.le_of_ble_eq_true rfl) rfl rfl (Nat.le_of_ble_eq_true rfl) (Nat.le_of_ble_eq_true rfl) rfl ?_
  refine s_X2_copyFrom hj (by omega) hj2 (by omega) u2' (fun M2 h2 hf2 => hGo_v ?_)
  have hf : Fr (dP j p) M M2 := (hf1.mono (fun k j' p' q => ⟨q.2.1, Or.inr ⟨q.1, Or.inl q.2.2⟩⟩)).trans (hf2.mono (fun k j' p' q => ⟨q.2.1, Or.inr ⟨q.1, Or.inr q.2.2⟩⟩))
  have hf' : ∀ t, t < 10 → M2.1 12 j2 p2 (pF t) = f t := fun t ht => (hf.at (fun q => hne q.1) _).trans (uf t ht)
  have h1' : Sat M2 j (2 * p) s1 := h1.keep (fun k hk t => hf2.at (fun q => absurd q.2.2 (by omega)) t)
  refine G_aload_n dX1_copyFrom_22 rfl ?_
  refine G_aload_n dX1_copyFrom_23 rfl ?_
  refine gf_X1_29 dX1_copyFrom_24 hj2 hp2 ?_
  rw [show M2.1 12 j2 p2 3 = f 0 from hf' 0 (by decide)]
  refine pf_X1_29 dX1_copyFrom_27 hj hp ?_
  refine G_aload_n dX1_copyFrom_30 rfl ?_
  refine G_aload_n dX1_copyFrom_31 rfl ?_
  refine gf_X1_32 dX1_copyFrom_32 hj2 hp2 ?_
  rw [up_nj hne, show M2.1 12 j2 p2 4 = f 1 from hf' 1 (by decide)]
  refine pf_X1_32 dX1_copyFrom_35 hj hp ?_
  refine G_aload_n dX1_copyFrom_38 rfl ?_
  refine G_aload_n dX1_copyFrom_39 rfl ?_
  refine gf_X1_35 dX1_copyFrom_40 hj2 hp2 ?_
  rw [up_nj hne, up_nj hne, show M2.1 12 j2 p2 5 = f 4 from hf' 4 (by decide)]
  refine pf_X1_35 dX1_copyFrom_43 hj hp (by rcases hb with e | e <;> rw [e] <;> rfl) (by rcases hb with e | e <;> rw [e] <;> rfl) ?_
  refine G_aload_n dX1_copyFrom_46 rfl ?_
  refine G_aload_n dX1_copyFrom_47 rfl ?_
  refine gf_X1_39 dX1_copyFrom_48 hj2 hp2 ?_
  rw [up_nj hne, up_nj hne, up_nj hne, show M2.1 12 j2 p2 6 = f 5 from hf' 5 (by decide)]
  refine pf_X1_39 dX1_copyFrom_51 hj hp ?_
  refine G_aload_n dX1_copyFrom_54 rfl ?_
  refine G_aload_n dX1_copyFrom_55 rfl ?_
  refine gf_X1_42 dX1_copyFrom_56 hj2 hp2 ?_
  rw [up_nj hne, up_nj hne, up_nj hne, up_nj hne, show M2.1 12 j2 p2 7 = f 6 from hf' 6 (by decide)]
  refine pf_X1_42 dX1_copyFrom_59 hj hp ?_
  refine G_aload_n dX1_copyFrom_62 rfl ?_
  refine G_aload_n dX1_copyFrom_63 rfl ?_
  refine gf_X1_45 dX1_copyFrom_64 hj2 hp2 ?_
  rw [up_nj hne, up_nj hne, up_nj hne, up_nj hne, up_nj hne, show M2.1 12 j2 p2 8 = f 7 from hf' 7 (by decide)]
  refine pf_X1_45 dX1_copyFrom_67 hj hp ?_
  refine G_aload_n dX1_copyFrom_70 rfl ?_
  refine G_aload_n dX1_copyFrom_71 rfl ?_
  refine gf_X1_48 dX1_copyFrom_72 hj2 hp2 ?_
  rw [up_nj hne, up_nj hne, up_nj hne, up_nj hne, up_nj hne, up_nj hne, show M2.1 12 j2 p2 9 = f 8 from hf' 8 (by decide)]
  refine pf_X1_48 dX1_copyFrom_75 hj hp ?_
  refine G_aload_n dX1_copyFrom_78 rfl ?_
  refine G_aload_n dX1_copyFrom_79 rfl ?_
  refine gf_X1_51 dX1_copyFrom_80 hj2 hp2 ?_
  rw [up_nj hne, up_nj hne, up_nj hne, up_nj hne, up_nj hne, up_nj hne, up_nj hne, show M2.1 12 j2 p2 10 = f 9 from hf' 9 (by decide)]
  refine pf_X1_51 dX1_copyFrom_83 hj hp ?_
  refine G_aload_n dX1_copyFrom_86 rfl ?_
  refine G_aload_n dX1_copyFrom_87 rfl ?_
  refine gf_X1_54 dX1_copyFrom_88 hj2 hp2 ?_
  rw [up_nj hne, up_nj hne, up_nj hne, up_nj hne, up_nj hne, up_nj hne, up_nj hne, up_nj hne, show M2.1 12 j2 p2 11 = f 2 from hf' 2 (by decide)]
  refine pf_X1_54 dX1_copyFrom_91 hj hp ?_
  refine G_aload_n dX1_copyFrom_94 rfl ?_
  refine G_aload_n dX1_copyFrom_95 rfl ?_
  refine gf_X1_57 dX1_copyFrom_96 hj2 hp2 ?_
  rw [up_nj hne, up_nj hne, up_nj hne, up_nj hne, up_nj hne, up_nj hne, up_nj hne, up_nj hne, up_nj hne, show M2.1 12 j2 p2 12 = f 3 from hf' 3 (by decide)]
  refine pf_X1_57 dX1_copyFrom_99 hj hp ?_
  refine G_vret dX1_copyFrom_102 rfl (Nat.le_of_ble_eq_true rfl) (Nat.le_of_ble_eq_true rfl) ?_
  refine h _ (fun h0 => ⟨?_, fun t ht => ?_, ?_, ?_⟩) ?_
  · repeat refine (up_t (by decide)).trans ?_
    exact ((hf2.at (fun q => by rcases q.1 with q | q <;> exact absurd q (by decide)) 0).trans (hf1.at (fun q => by rcases q.1 with q | q <;> exact absurd q (by decide)) 0)).trans h0
  · rcases (show t = 0 ∨ t = 1 ∨ t = 2 ∨ t = 3 ∨ t = 4 ∨ t = 5 ∨ t = 6 ∨ t = 7 ∨ t = 8 ∨ t = 9 by omega) with rfl | rfl | rfl | rfl | rfl | rfl | rfl | rfl | rfl | rfl <;> (repeat (first | exact up_at | refine (up_t (by decide)).trans ?_))
  · repeat refine Sat.up ?_ (Or.inl (by decide))
    exact h1'
  · repeat refine Sat.up ?_ (Or.inl (by decide))
    exact h2
  · repeat refine Fr.up ?_ ⟨rfl, Or.inl ⟨rfl, rfl⟩⟩
    exact hf
theorem dC_P {p : Nat} : ∀ k j' p', dP j p k j' p' → dC j k j' p' := fun k j' p' h => by
  rcases h.2 with e | e
  · exact ⟨by omega, by omega, h.1⟩
  · exact ⟨by omega, by omega, h.1⟩
theorem Pup.fr {M' : Mm} {j p p2 : Nat} {f : Nat → Int32} {s1 s2 : List Int32} (h : Pup M j p f s1 s2) (hf : Fr (dP j p2) M M') (hne : p ≠ p2) : Pup M' j p f s1 s2 := by
  obtain ⟨a, b, c, d⟩ := h
  have e : ∀ t, M'.1 12 j p t = M.1 12 j p t := fun t => hf.at (fun q => by rcases q.2 with q | q <;> omega) t
  exact ⟨(e 0).trans a, fun t ht => (e _).trans (b t ht), c.keep (fun k hk t => hf.at (fun q => by rcases q.2 with q | q <;> omega) t), d.keep (fun k hk t => hf.at (fun q => by rcases q.2 with q | q <;> omega) t)⟩
theorem s_X3_copyFrom {j2 : Nat} (hj : j < 10) (hj2 : j2 < 10) (hne : j2 ≠ j) (hA : CR M j2 A) (hb : ∀ p, p < A.n → A.f p 4 = 0 ∨ A.f p 4 = 1) (h0 : ∀ p, p < 12 → M.1 12 j p 0 = nI p) (h : ∀ M', CR M' j A → Fr (dC j) M M' → P (.inl none) M') : Sp E yX3_copyFrom cX3_copyFrom zX3_copyFrom [.ref (ad E 7 j 0), .ref (ad E 7 j2 0)] M P := by
  have h12 := hA.n12
  refine Sp_of (own := RX3) (by decide) rfl rfl (Nat.le_of_ble_eq_true rfl) (fun C => ?_)
  refine G_iconst (v := 0) dX3_copyFrom_0 (by decide) ?_
  refine G_istore_n dX3_copyFrom_1 (Nat.le_of_ble_eq_true rfl) ?_
  refine G_lv (lv' := [(0, .ref (ad E 7 j 0)), (1, .ref (ad E 7 j2 0)), (2, .int (nI 0))]) ⟨rfl, rfl, rfl, trivial⟩ ?_
  refine up0 (c := A.n) (H := fun i => ∀ M', (∀ p, p < i → Pup M' j p (A.f p) (A.s (2 * p)) (A.s (2 * p + 1))) → (∀ p, p < 12 → M'.1 12 j p 0 = nI p) → Fr (dC j) M M' → G E C RX3 cX3_copyFrom zX3_copyFrom P 0 0 M' 2 [(0, .ref (ad E 7 j 0)), (1, .ref (ad E 7 j2 0)), (2, .int (nI i))] []) ?_ (fun i hi ih => ?_) M (fun p hp => absurd hp (Nat.not_lt_zero p)) h0 Fr.rfl
  · intro M1 hp1 hi1 hf1
    have hA1 := hA.fr hf1 hne
    have hn := hA1.n
    refine G_iload_n dX3_copyFrom_2 rfl ?_
    refine G_aload_n dX3_copyFrom_3 rfl ?_
    refine gf_X3_31 dX3_copyFrom_4 hj2 ?_
    refine G_icmp_ge (tgt := 31) dX3_copyFrom_7 (by decide) (fun c7 => ?_) (fun c7 => ?_)
    · refine G_aload_n dX3_copyFrom_31 rfl ?_
      refine gf_X3_20 dX3_copyFrom_32 hj ?_
      refine G_aload_n dX3_copyFrom_35 rfl ?_
      refine gf_X3_20 dX3_copyFrom_36 hj2 ?_
      refine cv_X3_39 (cs' := 0) (ss' := 0) dX3_copyFrom_39 hj (Nat.le_of_ble_eq_true rfl) (Nat.le_of_ble_eq_true rfl) (Nat.le_of_ble_eq_true rfl) rfl rfl (Nat.le_of_ble_eq_true rfl) (Nat.le_of_ble_eq_true rfl) rfl ?_
      refine s_X0_copyFrom hj hj2 hne hA1.d (fun M2 h2 hf2 => hGo_v ?_)
      have hA2 := hA1.fr (hf2.mono dC_D) hne
      refine G_aload_n dX3_copyFrom_42 rfl ?_
      refine gf_X3_24 dX3_copyFrom_43 hj2 ?_
      refine G_iconst (v := 0) dX3_copyFrom_46 (by decide) ?_
      refine G_aload_n dX3_copyFrom_47 rfl ?_
      refine gf_X3_24 dX3_copyFrom_48 hj ?_
      refine G_iconst (v := 0) dX3_copyFrom_51 (by decide) ?_
      refine G_bipush (v := 10) dX3_copyFrom_52 (by decide) ?_
      refine G_copyE dX3_copyFrom_54 (hqx 482 (by decide +kernel) rfl) ⟨hj2, rfl⟩ ⟨hj, rfl⟩ rfl (fun _ => rfl) (rfl : (0 : Int32) = nI 0) (rfl : (0 : Int32) = nI 0) (rfl : (10 : Int32) = nI 10) (by decide) (by decide) (by decide) (by decide) (Nat.le_of_ble_eq_true rfl) (Nat.le_of_ble_eq_true rfl) ?_
      have hA3 : CR (M2.cp 11 j 0 (va_cpy (M2.1 11 j2 0) (M2.1 11 j 0) 0 0 10)) j2 A := hA2.keep (fun k _ _ p t => cp_nj hne)
      have ht3 : ∀ t, t < 10 → (M2.cp 11 j 0 (va_cpy (M2.1 11 j2 0) (M2.1 11 j 0) 0 0 10)).1 11 j 0 t = A.g (7 + t) := fun t ht => by
        rw [cp_at, pk_cpy_in (Nat.zero_le t) (show t < 0 + 10 by omega), Nat.sub_zero, Nat.zero_add]
        exact hA2.tl ht
      have hf3 : Fr (dC j) M (M2.cp 11 j 0 (va_cpy (M2.1 11 j2 0) (M2.1 11 j 0) 0 0 10)) := (hf1.trans (hf2.mono dC_D)).of_cp ⟨by decide, by decide, rfl⟩
      have hd3 : Dbt (M2.cp 11 j 0 (va_cpy (M2.1 11 j2 0) (M2.1 11 j 0) 0 0 10)) j A.d := h2.keep (fun k hk p t => cp_nk (by omega))
      have hp3 : ∀ p, p < A.n → Pup (M2.cp 11 j 0 (va_cpy (M2.1 11 j2 0) (M2.1 11 j 0) 0 0 10)) j p (A.f p) (A.s (2 * p)) (A.s (2 * p + 1)) := fun p hp => by
        obtain ⟨a, b, c, d⟩ := hp1 p hp
        have e : ∀ k, 12 ≤ k → ∀ p t, (M2.cp 11 j 0 (va_cpy (M2.1 11 j2 0) (M2.1 11 j 0) 0 0 10)).1 k j p t = M1.1 k j p t := fun k hk p t => (cp_nk (by omega)).trans (hf2.at (fun q => by rcases q.1 with q | q <;> omega) t)
        exact ⟨(e 12 (by decide) p 0).trans a, fun t ht => (e 12 (by decide) p _).trans (b t ht), c.keep (fun k hk t => e k (by omega) _ t), d.keep (fun k hk t => e k (by omega) _ t)⟩
      have hi3 : ∀ p, p < 12 → (M2.cp 11 j 0 (va_cpy (M2.1 11 j2 0) (M2.1 11 j 0) 0 0 10)).1 12 j p 0 = nI p := fun p hp => ((cp_nk (by decide)).trans (hf2.at (fun q => by rcases q.1 with q | q <;> omega) 0)).trans (hi1 p hp)
      generalize hM3 : M2.cp 11 j 0 (va_cpy (M2.1 11 j2 0) (M2.1 11 j 0) 0 0 10) = M3 at hA3 ht3 hf3 hd3 hp3 hi3
      have g1 := hA3.g (t := 0) (by decide)
      have g2 := hA3.g (t := 1) (by decide)
      have g3 := hA3.g (t := 2) (by decide)
      have g4 := hA3.g (t := 3) (by decide)
      have g5 := hA3.g (t := 4) (by decide)
      refine G_aload_n dX3_copyFrom_57 rfl ?_
      refine G_aload_n dX3_copyFrom_58 rfl ?_
      refine gf_X3_31 dX3_copyFrom_59 hj2 ?_
      rw [hA3.n]
      refine pf_X3_31 dX3_copyFrom_62 hj ?_
      refine G_aload_n dX3_copyFrom_65 rfl ?_
      refine G_aload_n dX3_copyFrom_66 rfl ?_
      refine gf_X3_48 dX3_copyFrom_67 hj2 ?_
      rw [up_nj hne, show M3.1 7 j2 0 4 = A.g 1 from g1]
      refine pf_X3_48 dX3_copyFrom_70 hj ?_
      refine G_aload_n dX3_copyFrom_73 rfl ?_
      refine G_aload_n dX3_copyFrom_74 rfl ?_
      refine gf_X3_51 dX3_copyFrom_75 hj2 ?_
      rw [up_nj hne, up_nj hne, show M3.1 7 j2 0 5 = A.g 2 from g2]
      refine pf_X3_51 dX3_copyFrom_78 hj ?_
      refine G_aload_n dX3_copyFrom_81 rfl ?_
      refine G_aload_n dX3_copyFrom_82 rfl ?_
      refine gf_X3_54 dX3_copyFrom_83 hj2 ?_
      rw [up_nj hne, up_nj hne, up_nj hne, show M3.1 7 j2 0 6 = A.g 3 from g3]
      refine pf_X3_54 dX3_copyFrom_86 hj ?_
      refine G_aload_n dX3_copyFrom_89 rfl ?_
      refine G_aload_n dX3_copyFrom_90 rfl ?_
      refine gf_X3_57 dX3_copyFrom_91 hj2 ?_
      rw [up_nj hne, up_nj hne, up_nj hne, up_nj hne, show M3.1 7 j2 0 7 = A.g 4 from g4]
      refine pf_X3_57 dX3_copyFrom_94 hj ?_
      refine G_aload_n dX3_copyFrom_97 rfl ?_
      refine G_aload_n dX3_copyFrom_98 rfl ?_
      refine gf_X3_60 dX3_copyFrom_99 hj2 ?_
      rw [up_nj hne, up_nj hne, up_nj hne, up_nj hne, up_nj hne, show M3.1 7 j2 0 8 = A.g 5 from g5]
      refine pf_X3_60 dX3_copyFrom_102 hj ?_
      refine G_vret dX3_copyFrom_105 rfl (Nat.le_of_ble_eq_true rfl) (Nat.le_of_ble_eq_true rfl) ?_
      refine h _ ⟨⟨?_, h12⟩, fun t ht => ?_, fun t ht => ?_, fun p hp => ?_, fun p hp t ht => ?_, fun q hq => ?_, ?_⟩ ?_
      · (repeat (first | exact up_at | refine (up_t (by decide)).trans ?_))
      · rcases (show t = 0 ∨ t = 1 ∨ t = 2 ∨ t = 3 ∨ t = 4 by omega) with rfl | rfl | rfl | rfl | rfl <;> (repeat (first | exact up_at | refine (up_t (by decide)).trans ?_))
      · repeat refine (up_nk (by decide)).trans ?_
        exact ht3 t ht
      · repeat refine (up_nk (by decide)).trans ?_
        exact hi3 p hp
      · repeat refine (up_nk (by decide)).trans ?_
        exact (hp3 p hp).2.1 t ht
      · repeat refine Sat.up ?_ (Or.inl (by decide))
        rcases Nat.mod_two_eq_zero_or_one q with hq2 | hq2
        · have e : q = 2 * (q / 2) := by omega
          rw [e]
          exact (hp3 (q / 2) (by omega)).2.2.1
        · have e : q = 2 * (q / 2) + 1 := by omega
          rw [e]
          exact (hp3 (q / 2) (by omega)).2.2.2
      · repeat refine Dbt.up ?_ (Or.inl (by decide))
        exact hd3
      · repeat refine Fr.upC ?_ (by decide) (by decide)
        exact hf3
    · rw [hn] at c7
      exact absurd (Int32.le_refl _) c7
  · intro M1 hp1 hi1 hf1
    have hA1 := hA.fr hf1 hne
    have hn := hA1.n
    refine G_iload_n dX3_copyFrom_2 rfl ?_
    refine G_aload_n dX3_copyFrom_3 rfl ?_
    refine gf_X3_31 dX3_copyFrom_4 hj2 ?_
    refine G_icmp_ge (tgt := 31) dX3_copyFrom_7 (by decide) (fun c7 => ?_) (fun c7 => ?_)
    · rw [hn] at c7
      exact absurd c7 (nI_ge hi (by omega))
    · refine G_aload_n dX3_copyFrom_10 rfl ?_
      refine gf_X3_11 dX3_copyFrom_11 hj ?_
      refine G_iload_n dX3_copyFrom_14 rfl ?_
      refine G_aald dX3_copyFrom_15 ⟨hj, rfl⟩ rfl rfl rfl (show i < 12 by omega) (by decide) rfl ?_
      refine G_aload_n dX3_copyFrom_16 rfl ?_
      refine gf_X3_11 dX3_copyFrom_17 hj2 ?_
      refine G_iload_n dX3_copyFrom_20 rfl ?_
      refine G_aald dX3_copyFrom_21 ⟨hj2, rfl⟩ rfl rfl rfl (show i < 12 by omega) (by decide) rfl ?_
      refine cv_X3_35 (cs' := 0) (ss' := 0) dX3_copyFrom_22 hj (show _ < 12 by omega) (Nat.le_of_ble_eq_true rfl) (Nat.le_of_ble_eq_true rfl) (Nat.le_of_ble_eq_true rfl) rfl rfl (Nat.le_of_ble_eq_true rfl) (Nat.le_of_ble_eq_true rfl) rfl ?_
      refine s_X1_copyFrom hj (by omega) hj2 (by omega) hne (hb i hi) (hA1.pup hi) (fun M2 h2 hf2 => hGo_v ?_)
      refine G_iinc (v := 1) dX3_copyFrom_25 rfl (Nat.le_of_ble_eq_true rfl) (by decide) ?_
      refine G_goto (tgt := 2) dX3_copyFrom_28 (by decide) ?_
      have h2' := h2 (hi1 i (by omega))
      refine G_lv2 (ih M2 (fun p hp => ?_) (fun p hp => ?_) (hf1.trans (hf2.mono dC_P))) ⟨rfl, rfl, lvi (nI_1 i), trivial⟩
      · by_cases e : p = i
        · subst e
          exact h2'
        · exact (hp1 p (by omega)).fr hf2 e
      · by_cases e : p = i
        · subst e
          exact h2'.1
        · exact (hf2.at (fun q => by rcases q.2 with q | q <;> omega) 0).trans (hi1 p hp)
-- a school opened
def openA (w l d1 d2 : Int32) (A : Ab) : Ab := (0, fun t => if t = 2 then w else if t = 3 then l else if t = 4 then d1 else if t = 5 then d2 else 0, A.f, A.s, [])
theorem s_X3_open {w l d1 d2 : Int32} (hj : j < 10) (h0 : ∀ p, p < 12 → M.1 12 j p 0 = nI p) (h : ∀ M', CR M' j (openA w l d1 d2 A) → Fr (fun k j' _ => (k = 7 ∨ k = 9 ∨ k = 11) ∧ j' = j) M M' → P (.inl none) M') : Sp E yX3_open cX3_open zX3_open [.ref (ad E 7 j 0), .int w, .int l, .int d1, .int d2] M P := by
  refine Sp_of (own := RX3) (by decide) rfl rfl (Nat.le_of_ble_eq_true rfl) (fun C => ?_)
  refine G_aload_n dX3_open_0 rfl ?_
  refine G_iload_n dX3_open_1 rfl ?_
  refine pf_X3_51 dX3_open_2 hj ?_
  refine G_aload_n dX3_open_5 rfl ?_
  refine G_iload_n dX3_open_6 rfl ?_
  refine pf_X3_54 dX3_open_7 hj ?_
  refine G_aload_n dX3_open_10 rfl ?_
  refine G_iload_n dX3_open_11 rfl ?_
  refine pf_X3_57 dX3_open_12 hj ?_
  refine G_aload_n dX3_open_15 rfl ?_
  refine G_iload dX3_open_16 rfl ?_
  refine pf_X3_60 dX3_open_18 hj ?_
  refine G_aload_n dX3_open_21 rfl ?_
  refine G_iconst (v := 0) dX3_open_22 (by decide) ?_
  refine pf_X3_31 dX3_open_23 hj ?_
  refine G_aload_n dX3_open_26 rfl ?_
  refine G_iconst (v := 0) dX3_open_27 (by decide) ?_
  refine pf_X3_48 dX3_open_28 hj ?_
  refine G_aload_n dX3_open_31 rfl ?_
  refine gf_X3_20 dX3_open_32 hj ?_
  refine G_iconst (v := 0) dX3_open_35 (by decide) ?_
  refine pf_X3_96 dX3_open_36 hj ?_
  refine G_iconst (v := 0) dX3_open_39 (by decide) ?_
  refine G_istore dX3_open_40 (Nat.le_of_ble_eq_true rfl) ?_
  refine G_lv (lv' := [(0, .ref (ad E 7 j 0)), (5, .int (nI 0))]) ⟨rfl, rfl, trivial⟩ ?_
  refine up0 (c := 10) (H := fun i => ∀ M', (M'.1 7 j 0 3 = 0 ∧ M'.1 7 j 0 4 = 0 ∧ M'.1 7 j 0 5 = w ∧ M'.1 7 j 0 6 = l ∧ M'.1 7 j 0 7 = d1 ∧ M'.1 7 j 0 8 = d2 ∧ M'.1 9 j 0 4 = 0) → (∀ t, t < i → M'.1 11 j 0 t = 0) → Fr (fun k j' _ => (k = 7 ∨ k = 9 ∨ k = 11) ∧ j' = j) M M' → G E C RX3 cX3_open zX3_open P 0 0 M' 42 [(0, .ref (ad E 7 j 0)), (5, .int (nI i))] []) ?_ (fun i hi ih => ?_) _ ⟨?_, ?_, ?_, ?_, ?_, ?_, ?_⟩ (fun t ht => absurd ht (Nat.not_lt_zero t)) ?_
  · intro M1 hc ht hf
    refine G_iload dX3_open_42 rfl ?_
    refine G_bipush (v := 10) dX3_open_44 (by decide) ?_
    refine G_icmp_ge (tgt := 63) dX3_open_46 (by decide) (fun c46 => ?_) (fun c46 => ?_)
    · refine G_vret dX3_open_63 rfl (Nat.le_of_ble_eq_true rfl) (Nat.le_of_ble_eq_true rfl) ?_
      obtain ⟨e3, e4, e5, e6, e7, e8, e9⟩ := hc
      refine h M1 ⟨⟨e3, Nat.zero_le _⟩, fun t ht2 => ?_, fun t ht2 => ?_, fun p hp => ?_, fun p hp => absurd hp (Nat.not_lt_zero p), fun q hq => absurd hq (Nat.not_lt_zero q), e9, Nat.zero_le _, fun i hi => absurd hi (Nat.not_lt_zero i)⟩ hf
      · rcases (show t = 0 ∨ t = 1 ∨ t = 2 ∨ t = 3 ∨ t = 4 by omega) with rfl | rfl | rfl | rfl | rfl
        · exact e4
        · exact e5
        · exact e6
        · exact e7
        · exact e8
      · rw [ht t ht2]
        show (0 : Int32) = if 7 + t = 2 then w else if 7 + t = 3 then l else if 7 + t = 4 then d1 else if 7 + t = 5 then d2 else 0
        rw [if_neg (by omega), if_neg (by omega), if_neg (by omega), if_neg (by omega)]
      · exact (hf.at (fun q => by rcases q.1 with q | q | q <;> omega) 0).trans (h0 p hp)
    · exact absurd (show (10 : Int32) ≤ nI 10 by decide) c46
  · intro M1 hc ht hf
    refine G_iload dX3_open_42 rfl ?_
    refine G_bipush (v := 10) dX3_open_44 (by decide) ?_
    refine G_icmp_ge (tgt := 63) dX3_open_46 (by decide) (fun c46 => ?_) (fun c46 => ?_)
    · exact absurd (show nI 10 ≤ nI i from c46) (nI_ge hi (by omega))
    · refine G_aload_n dX3_open_49 rfl ?_
      refine gf_X3_24 dX3_open_50 hj ?_
      refine G_iload dX3_open_53 rfl ?_
      refine G_iconst (v := 0) dX3_open_55 (by decide) ?_
      refine G_iast dX3_open_56 ⟨hj, rfl⟩ (fun _ => rfl) rfl (show i < 10 by omega) (by decide) ?_
      refine G_iinc (v := 1) dX3_open_57 rfl (Nat.le_of_ble_eq_true rfl) (by decide) ?_
      refine G_goto (tgt := 42) dX3_open_60 (by decide) ?_
      obtain ⟨e3, e4, e5, e6, e7, e8, e9⟩ := hc
      refine G_lv2 (ih _ ⟨(up_nk (by decide)).trans e3, (up_nk (by decide)).trans e4, (up_nk (by decide)).trans e5, (up_nk (by decide)).trans e6, (up_nk (by decide)).trans e7, (up_nk (by decide)).trans e8, (up_nk (by decide)).trans e9⟩ (fun t ht2 => ?_) (hf.up ⟨Or.inr (Or.inr rfl), rfl⟩)) ⟨rfl, lvi (nI_1 i), trivial⟩
      by_cases e : t = i
      · subst e
        exact up_at
      · exact (up_t e).trans (ht t (by omega))
  all_goals (repeat (first | exact up_at | refine (up_nk (by decide)).trans ?_ | refine (up_t (by decide)).trans ?_))
  repeat refine Fr.up ?_ ⟨by decide, rfl⟩
  exact Fr.rfl
-- one more pupil
def enrolA (A : Ab) (r t s1 s2 : Int32) (spy : Int32) : Ab := (A.n + 1, A.g, fun p k => if p = A.n then (match k with | 0 => r | 1 => t | 2 => s1 | 3 => s2 | 4 => spy | 5 => A.g 2 | _ => 0) else A.f p k, fun q => if q / 2 = A.n then [] else A.s q, A.d)
theorem s_X3_enrol {r t s1 s2 spy : Int32} (hj : j < 10) (hA : CR M j A) (hn : A.n < 12) (hb : spy = 0 ∨ spy = 1) (h : ∀ M', CR M' j (enrolA A r t s1 s2 spy) → Fr (dC j) M M' → P (.inl none) M') : Sp E yX3_enrol cX3_enrol zX3_enrol [.ref (ad E 7 j 0), .int r, .int t, .int s1, .int s2, .int spy] M P := by
  refine Sp_of (own := RX3) (by decide) rfl rfl (Nat.le_of_ble_eq_true rfl) (fun C => ?_)
  refine G_aload_n dX3_enrol_0 rfl ?_
  refine gf_X3_31 dX3_enrol_1 hj ?_
  refine G_bipush (v := 12) dX3_enrol_4 (by decide) ?_
  refine G_icmp_lt (tgt := 10) dX3_enrol_6 (by decide) (fun c6 => ?_) (fun c6 => ?_)
  · refine G_aload_n dX3_enrol_10 rfl ?_
    refine gf_X3_11 dX3_enrol_11 hj ?_
    refine G_aload_n dX3_enrol_14 rfl ?_
    refine gf_X3_31 dX3_enrol_15 hj ?_
    refine G_aald dX3_enrol_18 ⟨hj, rfl⟩ rfl rfl hA.n hn (by decide) rfl ?_
    refine G_astore dX3_enrol_19 (Nat.le_of_ble_eq_true rfl) ?_
    refine G_aload dX3_enrol_21 rfl ?_
    refine G_iload_n dX3_enrol_23 rfl ?_
    refine G_iload_n dX3_enrol_24 rfl ?_
    refine cv_X3_121 (cs' := 0) (ss' := 0) dX3_enrol_25 hj hn (Nat.le_of_ble_eq_true rfl) (Nat.le_of_ble_eq_true rfl) (Nat.le_of_ble_eq_true rfl) rfl rfl (Nat.le_of_ble_eq_true rfl) (Nat.le_of_ble_eq_true rfl) rfl ?_
    refine s_X1_sitOn hj hn (hGo_v ?_)
    refine G_aload dX3_enrol_28 rfl ?_
    refine G_iload_n dX3_enrol_30 rfl ?_
    refine G_iload dX3_enrol_31 rfl ?_
    refine cv_X3_125 (cs' := 0) (ss' := 0) dX3_enrol_33 hj hn (Nat.le_of_ble_eq_true rfl) (Nat.le_of_ble_eq_true rfl) (Nat.le_of_ble_eq_true rfl) rfl rfl (Nat.le_of_ble_eq_true rfl) (Nat.le_of_ble_eq_true rfl) rfl ?_
    refine s_X1_learn hj hn (hGo_v ?_)
    refine G_aload dX3_enrol_36 rfl ?_
    refine G_iload dX3_enrol_38 rfl ?_
    refine pf_X3_128 dX3_enrol_40 hj hn (by rcases hb with e | e <;> rw [e] <;> rfl) (by rcases hb with e | e <;> rw [e] <;> rfl) ?_
    refine G_aload dX3_enrol_43 rfl ?_
    refine G_aload_n dX3_enrol_45 rfl ?_
    refine gf_X3_51 dX3_enrol_46 hj ?_
    rw [up_nk (by decide), up_nk (by decide), up_nk (by decide), up_nk (by decide), up_nk (by decide), show M.1 7 j 0 5 = A.g 2 from hA.g (t := 1) (by decide)]
    refine cv_X3_132 (cs' := 0) (ss' := 0) dX3_enrol_49 hj hn (Nat.le_of_ble_eq_true rfl) (Nat.le_of_ble_eq_true rfl) (Nat.le_of_ble_eq_true rfl) rfl rfl (Nat.le_of_ble_eq_true rfl) (Nat.le_of_ble_eq_true rfl) rfl ?_
    refine s_X1_beginSchool hj hn (hGo_v ?_)
    refine G_aload_n dX3_enrol_52 rfl ?_
    refine G_dup dX3_enrol_53 rfl ?_
    refine gf_X3_31 dX3_enrol_54 hj ?_
    repeat rw [up_nk (k' := 7) (by decide)]
    rw [hA.n]
    refine G_iconst (v := 1) dX3_enrol_57 (by decide) ?_
    refine G_iadd dX3_enrol_58 ?_
    refine pf_X3_31 dX3_enrol_59 hj ?_
    refine G_vret dX3_enrol_62 rfl (Nat.le_of_ble_eq_true rfl) (Nat.le_of_ble_eq_true rfl) ?_
    obtain ⟨a1, a2, a3, a4, a5, a6, a7⟩ := id hA
    refine h _ ⟨⟨up_at.trans (nI_1 _), hn⟩, fun k hk => ?_, fun k hk => ?_, fun p hp => ?_, fun p hp k hk => ?_, fun q hq => ?_, ?_⟩ ?_
    · refine (up_t (by omega)).trans ?_
      repeat refine (up_nk (by decide)).trans ?_
      exact a2 k hk
    · repeat refine (up_nk (by decide)).trans ?_
      exact a3 k hk
    · repeat (first | refine (up_nk (by decide)).trans ?_ | refine (up_t (by decide)).trans ?_)
      exact a4 p hp
    · show _ = if p = A.n then _ else A.f p k
      by_cases e : p = A.n
      · rw [if_pos e, e]
        rcases (show k = 0 ∨ k = 1 ∨ k = 2 ∨ k = 3 ∨ k = 4 ∨ k = 5 ∨ k = 6 ∨ k = 7 ∨ k = 8 ∨ k = 9 by omega) with rfl | rfl | rfl | rfl | rfl | rfl | rfl | rfl | rfl | rfl <;> (repeat (first | exact up_at | refine (up_nk (by decide)).trans ?_ | refine (up_t (by decide)).trans ?_))
      · rw [if_neg e]
        repeat (first | refine (up_nk (by decide)).trans ?_ | refine (up_np e).trans ?_)
        exact a5 p (by have : p < A.n + 1 := hp; omega) k hk
    · have hq' : q < 2 * (A.n + 1) := hq
      show Sat _ j q (if q / 2 = A.n then [] else A.s q)
      by_cases e : q / 2 = A.n
      · rw [if_pos e]
        refine ⟨?_, by decide, fun k hk => absurd hk (Nat.not_lt_zero k)⟩
        refine (up_nk (by decide)).trans ?_
        rcases (show q = 2 * A.n ∨ q = 2 * A.n + 1 by omega) with e2 | e2
        · rw [e2]
          exact (up_np (by omega)).trans up_at
        · rw [e2]
          exact up_at
      · rw [if_neg e]
        refine Sat.up (Sat.up (Sat.up ?_ (Or.inr (Or.inr (by omega)))) (Or.inr (Or.inr (by omega)))) (Or.inl (by decide))
        repeat refine Sat.up ?_ (Or.inl (by decide))
        exact a6 q (by omega)
    · repeat refine Dbt.up ?_ (Or.inl (by decide))
      exact a7
    · repeat refine Fr.upC ?_ (by decide) (by decide)
      exact Fr.rfl
  · exact absurd (by rw [hA.n]; exact nI_lt (b := 12) hn (by decide)) c6
end CWEEK
