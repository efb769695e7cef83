/-! ===== HomeworkBarter: accounts, what would be ===== -/
section CQRZ
variable {E : Ed} {M : Mm} {P : Res → Mm → Prop} {A : Ab} {g : Gs}
def owedByV (A : Ab) (p : Nat) : Int32 := sm A.d.length (fun i => if dg A.d i 0 = nI p then dg A.d i 3 else 0)
def owedToV (A : Ab) (p : Nat) : Int32 := sm A.d.length (fun i => if dg A.d i 1 = nI p then dg A.d i 3 else 0)
def gapV (A : Ab) : Int32 := iabs (A.g 7 + A.g 8 - piecesV A 0 - piecesV A 1 - (A.g 12 + A.g 13)) + iabs (sm A.n (owedByV A) - sm A.n (owedToV A))
theorem s_X8_gap (hC : CG M g) (h : P (.inl (some (.int (gapV g.A)))) M) : Sp E yX8_gap cX8_gap zX8_gap [.ref (ad E 0 0 0)] M P := by
  have hA := hC.1
  have h12 := hA.n12
  refine Sp_of (own := RX8) (by decide) rfl rfl (Nat.le_of_ble_eq_true rfl) (fun C => ?_)
  refine G_aload_n dX8_gap_0 rfl ?_
  refine gf_X8_26 dX8_gap_1  ?_
  refine gf_X8_197 dX8_gap_4 (by decide) ?_
  refine G_astore_n dX8_gap_7 (Nat.le_of_ble_eq_true rfl) ?_
  refine G_aload_n dX8_gap_8 rfl ?_
  refine G_iconst (v := 0) dX8_gap_9 (by decide) ?_
  refine G_iald dX8_gap_10 ⟨by decide, rfl⟩ rfl (rfl : (0 : Int32) = nI 0) (by decide) (by decide) ?_
  refine G_aload_n dX8_gap_11 rfl ?_
  refine G_iconst (v := 1) dX8_gap_12 (by decide) ?_
  refine G_iald dX8_gap_13 ⟨by decide, rfl⟩ rfl (rfl : (1 : Int32) = nI 1) (by decide) (by decide) ?_
  rw [hA.tl (t := 0) (by decide), hA.tl (t := 1) (by decide)]
  refine G_iadd dX8_gap_14 ?_
  refine G_istore_n dX8_gap_15 (Nat.le_of_ble_eq_true rfl) ?_
  refine G_aload_n dX8_gap_16 rfl ?_
  refine G_iconst (v := 5) dX8_gap_17 (by decide) ?_
  refine G_iald dX8_gap_18 ⟨by decide, rfl⟩ rfl (rfl : (5 : Int32) = nI 5) (by decide) (by decide) ?_
  refine G_aload_n dX8_gap_19 rfl ?_
  refine G_bipush (v := 6) dX8_gap_20 (by decide) ?_
  refine G_iald dX8_gap_22 ⟨by decide, rfl⟩ rfl (rfl : (6 : Int32) = nI 6) (by decide) (by decide) ?_
  rw [hA.tl (t := 5) (by decide), hA.tl (t := 6) (by decide)]
  refine G_iadd dX8_gap_23 ?_
  refine G_istore_n dX8_gap_24 (Nat.le_of_ble_eq_true rfl) ?_
  refine G_iconst (v := 0) dX8_gap_25 (by decide) ?_
  refine G_istore dX8_gap_26 (Nat.le_of_ble_eq_true rfl) ?_
  refine G_iconst (v := 0) dX8_gap_28 (by decide) ?_
  refine G_istore dX8_gap_29 (Nat.le_of_ble_eq_true rfl) ?_
  refine G_iconst (v := 0) dX8_gap_31 (by decide) ?_
  refine G_istore dX8_gap_32 (Nat.le_of_ble_eq_true rfl) ?_
  refine G_iconst (v := 0) dX8_gap_34 (by decide) ?_
  refine G_istore dX8_gap_35 (Nat.le_of_ble_eq_true rfl) ?_
  refine G_lv (lv' := [(0, .ref (ad E 0 0 0)), (2, .int (g.A.g 7 + g.A.g 8)), (3, .int (g.A.g 12 + g.A.g 13)), (4, .int (sm 0 (owedByV g.A))), (5, .int (sm 0 (owedToV g.A))), (6, .int 0), (7, .int (nI 0))]) ⟨rfl, rfl, rfl, rfl, rfl, rfl, rfl, trivial⟩ ?_
  refine up0 (c := g.A.n) (H := fun i => G E C RX8 cX8_gap zX8_gap P 0 0 M 37 [(0, .ref (ad E 0 0 0)), (2, .int (g.A.g 7 + g.A.g 8)), (3, .int (g.A.g 12 + g.A.g 13)), (4, .int (sm i (owedByV g.A))), (5, .int (sm i (owedToV g.A))), (6, .int 0), (7, .int (nI i))] []) ?_ (fun i hi ih => ?_)
  · refine G_iload dX8_gap_37 rfl ?_
    refine G_aload_n dX8_gap_39 rfl ?_
    refine gf_X8_26 dX8_gap_40  ?_
    refine gf_X8_108 dX8_gap_43 (by decide) ?_
    rw [hA.n]
    refine G_icmp_ge (tgt := 137) dX8_gap_46 (by decide) (fun c46 => ?_) (fun c46 => ?_)
    · refine G_iload_n dX8_gap_137 rfl ?_
      refine G_aload_n dX8_gap_138 rfl ?_
      refine gf_X8_26 dX8_gap_139  ?_
      refine G_iconst (v := 0) dX8_gap_142 (by decide) ?_
      refine cv_X8_171 (cs' := 0) (ss' := 0) dX8_gap_143 (by decide) (Nat.le_of_ble_eq_true rfl) (Nat.le_of_ble_eq_true rfl) (Nat.le_of_ble_eq_true rfl) rfl rfl (Nat.le_of_ble_eq_true rfl) (Nat.le_of_ble_eq_true rfl) rfl ?_
      refine s_X3_piecesOf (s := 0) (by decide) hA (by decide) (hGo_i ?_)
      refine G_isub dX8_gap_146 ?_
      refine G_aload_n dX8_gap_147 rfl ?_
      refine gf_X8_26 dX8_gap_148  ?_
      refine G_iconst (v := 1) dX8_gap_151 (by decide) ?_
      refine cv_X8_171 (cs' := 0) (ss' := 0) dX8_gap_152 (by decide) (Nat.le_of_ble_eq_true rfl) (Nat.le_of_ble_eq_true rfl) (Nat.le_of_ble_eq_true rfl) rfl rfl (Nat.le_of_ble_eq_true rfl) (Nat.le_of_ble_eq_true rfl) rfl ?_
      refine s_X3_piecesOf (s := 1) (by decide) hA (by decide) (hGo_i ?_)
      refine G_isub dX8_gap_155 ?_
      refine G_iload_n dX8_gap_156 rfl ?_
      refine G_isub dX8_gap_157 ?_
      refine G_mabs dX8_gap_158 (hqx 917 (by decide +kernel) rfl) (hqx 918 (by decide +kernel) rfl) (hqx 15 (by decide +kernel) rfl) (hqx 919 (by decide +kernel) rfl) (Nat.le_of_ble_eq_true rfl) (Nat.le_of_ble_eq_true rfl) (Nat.le_of_ble_eq_true rfl) (Nat.le_of_ble_eq_true rfl) ?_
      refine G_iload dX8_gap_161 rfl ?_
      refine G_iload dX8_gap_163 rfl ?_
      refine G_isub dX8_gap_165 ?_
      refine G_mabs dX8_gap_166 (hqx 917 (by decide +kernel) rfl) (hqx 918 (by decide +kernel) rfl) (hqx 15 (by decide +kernel) rfl) (hqx 919 (by decide +kernel) rfl) (Nat.le_of_ble_eq_true rfl) (Nat.le_of_ble_eq_true rfl) (Nat.le_of_ble_eq_true rfl) (Nat.le_of_ble_eq_true rfl) ?_
      refine G_iadd dX8_gap_169 ?_
      refine G_iload dX8_gap_170 rfl ?_
      refine G_iadd dX8_gap_172 ?_
      refine G_iret dX8_gap_173 rfl rfl (Nat.le_of_ble_eq_true rfl) (Nat.le_of_ble_eq_true rfl) ?_
      unfold gapV at h
      rw [← Int32.add_zero (iabs _ + iabs _)] at h
      exact h
    · exact absurd (Int32.le_refl _) c46
  · have e0 : M.1 13 0 (2 * i) 1 = nI (g.A.s (2 * i)).length := (hA.s hi (t := 0) (by decide)).1
    have e1 := (hA.s hi (t := 1) (by decide)).1
    have l0 := (hA.s hi (t := 0) (by decide)).2.1
    have l1 := (hA.s hi (t := 1) (by decide)).2.1
    refine G_iload dX8_gap_37 rfl ?_
    refine G_aload_n dX8_gap_39 rfl ?_
    refine gf_X8_26 dX8_gap_40  ?_
    refine gf_X8_108 dX8_gap_43 (by decide) ?_
    rw [hA.n]
    refine G_icmp_ge (tgt := 137) dX8_gap_46 (by decide) (fun c46 => ?_) (fun c46 => ?_)
    · exact absurd c46 (nI_ge hi (by omega))
    · refine G_iload dX8_gap_49 rfl ?_
      refine G_aload_n dX8_gap_51 rfl ?_
      refine gf_X8_26 dX8_gap_52  ?_
      refine gf_X8_174 dX8_gap_55 (by decide) ?_
      refine G_iload dX8_gap_58 rfl ?_
      refine cv_X8_244 (cs' := 0) (ss' := 0) dX8_gap_60 (by decide) (Nat.le_of_ble_eq_true rfl) (Nat.le_of_ble_eq_true rfl) (Nat.le_of_ble_eq_true rfl) rfl rfl (Nat.le_of_ble_eq_true rfl) (Nat.le_of_ble_eq_true rfl) rfl ?_
      refine s_X0_owedBy (by decide) hA.d (hGo_i ?_)
      refine G_iadd dX8_gap_63 ?_
      refine G_istore dX8_gap_64 (Nat.le_of_ble_eq_true rfl) ?_
      refine G_iload dX8_gap_66 rfl ?_
      refine G_aload_n dX8_gap_68 rfl ?_
      refine gf_X8_26 dX8_gap_69  ?_
      refine gf_X8_174 dX8_gap_72 (by decide) ?_
      refine G_iload dX8_gap_75 rfl ?_
      refine cv_X8_247 (cs' := 0) (ss' := 0) dX8_gap_77 (by decide) (Nat.le_of_ble_eq_true rfl) (Nat.le_of_ble_eq_true rfl) (Nat.le_of_ble_eq_true rfl) rfl rfl (Nat.le_of_ble_eq_true rfl) (Nat.le_of_ble_eq_true rfl) rfl ?_
      refine s_X0_owedTo (by decide) hA.d (hGo_i ?_)
      refine G_iadd dX8_gap_80 ?_
      refine G_istore dX8_gap_81 (Nat.le_of_ble_eq_true rfl) ?_
      refine G_aload_n dX8_gap_83 rfl ?_
      refine gf_X8_26 dX8_gap_84  ?_
      refine gf_X8_203 dX8_gap_87 (by decide) ?_
      refine G_iload dX8_gap_90 rfl ?_
      refine G_aald dX8_gap_92 ⟨by decide, rfl⟩ rfl rfl rfl (show i < 12 by omega) (by decide) rfl ?_
      refine gf_X8_234 dX8_gap_93 (by decide) (show _ < 12 by omega) ?_
      refine gf_X8_238 dX8_gap_96 (by decide) (show _ < 24 by omega) ?_
      rw [e0]
      refine G_bipush (v := 20) dX8_gap_99 (by decide) ?_
      refine G_icmp_le (tgt := 107) dX8_gap_101 (by decide) (fun c101 => ?_) (fun c101 => ?_)
      · refine G_aload_n dX8_gap_107 rfl ?_
        refine gf_X8_26 dX8_gap_108  ?_
        refine gf_X8_203 dX8_gap_111 (by decide) ?_
        refine G_iload dX8_gap_114 rfl ?_
        refine G_aald dX8_gap_116 ⟨by decide, rfl⟩ rfl rfl rfl (show i < 12 by omega) (by decide) rfl ?_
        refine gf_X8_241 dX8_gap_117 (by decide) (show _ < 12 by omega) ?_
        refine gf_X8_238 dX8_gap_120 (by decide) (show _ < 24 by omega) ?_
        rw [e1]
        refine G_bipush (v := 20) dX8_gap_123 (by decide) ?_
        refine G_icmp_le (tgt := 131) dX8_gap_125 (by decide) (fun c125 => ?_) (fun c125 => ?_)
        · refine G_iinc (v := 1) dX8_gap_131 rfl (Nat.le_of_ble_eq_true rfl) (by decide) ?_
          refine G_goto (tgt := 37) dX8_gap_134 (by decide) ?_
          exact G_lv2 ih ⟨rfl, rfl, rfl, rfl, rfl, rfl, lvi (nI_1 i), trivial⟩
        · exact absurd (nI_le l1 (by decide)) c125
      · exact absurd (nI_le l0 (by decide)) c101
def meanV (A : Ab) : UInt64 := FP.ddiv (FP.i2d (sm A.n (fun p => A.f p 7))) (FP.i2d (nI A.n))
def ownN (L : List Int32) (x : Int32) : Int32 := sm L.length (fun k => if L.getD k 0 = x then 1 else 0)
def ownV (A : Ab) (p : Nat) : UInt32 := if (A.s (2 * p)).length + (A.s (2 * p + 1)).length = 0 then FP.fconst0 else FP.fdiv (FP.i2f (ownN (A.s (2 * p)) (nI p) + ownN (A.s (2 * p + 1)) (nI p))) (FP.i2f (nI ((A.s (2 * p)).length + (A.s (2 * p + 1)).length)))
theorem s_X8_ownShare {x : Int32} (hC : CG M g) (h1 : ¬ inP g.A x → P (.inr xIO) M) (h : ∀ p, p < g.A.n → x = nI p → P (.inl (some (.float (ownV g.A p)))) M) : Sp E yX8_ownShare cX8_ownShare zX8_ownShare [.ref (ad E 0 0 0), .int x] M P := by
  have hA := hC.1
  have h12 := hA.n12
  refine Sp_of (own := RX8) (by decide) rfl rfl (Nat.le_of_ble_eq_true rfl) (fun C => ?_)
  refine G_aload_n dX8_ownShare_0 rfl ?_
  refine G_iload_n dX8_ownShare_1 rfl ?_
  refine cv_X8_200 (cs' := 0) (ss' := 0) dX8_ownShare_2  (Nat.le_of_ble_eq_true rfl) (Nat.le_of_ble_eq_true rfl) (Nat.le_of_ble_eq_true rfl) rfl rfl (Nat.le_of_ble_eq_true rfl) (Nat.le_of_ble_eq_true rfl) rfl ?_
  refine s_X8_needPupil hA (fun c1 => hGo_v ?_) (fun c1 => hGo_x (h1 c1))
  obtain ⟨p, hp, rfl, ep⟩ := in_ix c1 (by omega)
  have h := h p hp rfl
  unfold ownV at h
  have e0 : Sat M 0 (2 * p) (g.A.s (2 * p)) := (hA.s hp (t := 0) (by decide))
  have e1 := (hA.s hp (t := 1) (by decide))
  have l0 := e0.2.1
  have l1 := e1.2.1
  refine G_aload_n dX8_ownShare_5 rfl ?_
  refine gf_X8_26 dX8_ownShare_6  ?_
  refine gf_X8_203 dX8_ownShare_9 (by decide) ?_
  refine G_iload_n dX8_ownShare_12 rfl ?_
  refine G_aald dX8_ownShare_13 ⟨by decide, rfl⟩ rfl rfl rfl (show p < 12 by omega) (by decide) rfl ?_
  refine G_astore_n dX8_ownShare_14 (Nat.le_of_ble_eq_true rfl) ?_
  refine G_aload_n dX8_ownShare_15 rfl ?_
  refine gf_X8_234 dX8_ownShare_16 (by decide) (show _ < 12 by omega) ?_
  refine G_iload_n dX8_ownShare_19 rfl ?_
  refine cv_X8_270 (cs' := 0) (ss' := 0) dX8_ownShare_20 (by decide) (show _ < 24 by omega) (Nat.le_of_ble_eq_true rfl) (Nat.le_of_ble_eq_true rfl) (Nat.le_of_ble_eq_true rfl) rfl rfl (Nat.le_of_ble_eq_true rfl) (Nat.le_of_ble_eq_true rfl) rfl ?_
  refine s_X2_piecesBy (by decide) (by omega) e0 (hGo_i ?_)
  refine G_aload_n dX8_ownShare_23 rfl ?_
  refine gf_X8_241 dX8_ownShare_24 (by decide) (show _ < 12 by omega) ?_
  refine G_iload_n dX8_ownShare_27 rfl ?_
  refine cv_X8_270 (cs' := 0) (ss' := 0) dX8_ownShare_28 (by decide) (show _ < 24 by omega) (Nat.le_of_ble_eq_true rfl) (Nat.le_of_ble_eq_true rfl) (Nat.le_of_ble_eq_true rfl) rfl rfl (Nat.le_of_ble_eq_true rfl) (Nat.le_of_ble_eq_true rfl) rfl ?_
  refine s_X2_piecesBy (by decide) (by omega) e1 (hGo_i ?_)
  refine G_iadd dX8_ownShare_31 ?_
  refine G_istore_n dX8_ownShare_32 (Nat.le_of_ble_eq_true rfl) ?_
  refine G_aload_n dX8_ownShare_33 rfl ?_
  refine gf_X8_234 dX8_ownShare_34 (by decide) (show _ < 12 by omega) ?_
  refine gf_X8_238 dX8_ownShare_37 (by decide) (show _ < 24 by omega) ?_
  rw [e0.1]
  refine G_aload_n dX8_ownShare_40 rfl ?_
  refine gf_X8_241 dX8_ownShare_41 (by decide) (show _ < 12 by omega) ?_
  refine gf_X8_238 dX8_ownShare_44 (by decide) (show _ < 24 by omega) ?_
  rw [e1.1]
  refine G_iadd dX8_ownShare_47 ?_
  rw [nI_add]
  refine G_istore dX8_ownShare_48 (Nat.le_of_ble_eq_true rfl) ?_
  refine G_iload dX8_ownShare_50 rfl ?_
  refine G_if_le (tgt := 64) dX8_ownShare_52 (by decide) (fun c52 => ?_) (fun c52 => ?_)
  · have e : (g.A.s (2 * p)).length + (g.A.s (2 * p + 1)).length = 0 := by
      rcases Nat.eq_zero_or_pos ((g.A.s (2 * p)).length + (g.A.s (2 * p + 1)).length) with q | q
      · exact q
      · exact absurd c52 (nI_nle q (by omega))
    rw [if_pos e] at h
    refine G_fconst0 dX8_ownShare_64 ?_
    refine G_fret dX8_ownShare_65 rfl (Nat.le_of_ble_eq_true rfl) (Nat.le_of_ble_eq_true rfl) ?_
    exact h
  · have e : ¬ (g.A.s (2 * p)).length + (g.A.s (2 * p + 1)).length = 0 := fun q => c52 (by rw [q]; decide)
    rw [if_neg e] at h
    refine G_iload_n dX8_ownShare_55 rfl ?_
    refine G_i2f dX8_ownShare_56 ?_
    refine G_iload dX8_ownShare_57 rfl ?_
    refine G_i2f dX8_ownShare_59 ?_
    refine G_fdiv dX8_ownShare_60 (qn32 (nI_ne0 (by omega) (by omega))) ?_
    refine G_goto (tgt := 65) dX8_ownShare_61 (by decide) ?_
    refine G_fret dX8_ownShare_65 rfl (Nat.le_of_ble_eq_true rfl) (Nat.le_of_ble_eq_true rfl) ?_
    exact h
def couldV (A : Ab) (p s : Nat) : Int32 := if 0 < 10 - A.f p (2 + s) then A.f p 5 / (10 - A.f p (2 + s)) else 0
def qCouldMake (g : Gs) (x y : Int32) : Qq := if inP g.A x then if inR y 0 1 then (0, couldV g.A (tn x) (tn y)) else (2, 0) else (1, 0)
theorem s_X8_couldMake {x y : Int32} (hC : CG M g) (h : P (rs xPA (qCouldMake g x y)) M) : Sp E yX8_couldMake cX8_couldMake zX8_couldMake [.ref (ad E 0 0 0), .int x, .int y] M P := by
  unfold qCouldMake at h
  have hA := hC.1
  refine Sp_of (own := RX8) (by decide) rfl rfl (Nat.le_of_ble_eq_true rfl) (fun C => ?_)
  have h12 := hA.n12
  refine G_aload_n dX8_couldMake_0 rfl ?_
  refine G_iload_n dX8_couldMake_1 rfl ?_
  refine cv_X8_200 (cs' := 0) (ss' := 0) dX8_couldMake_2  (Nat.le_of_ble_eq_true rfl) (Nat.le_of_ble_eq_true rfl) (Nat.le_of_ble_eq_true rfl) rfl rfl (Nat.le_of_ble_eq_true rfl) (Nat.le_of_ble_eq_true rfl) rfl ?_
  refine s_X8_needPupil hA (fun c1 => hGo_v ?_) (fun c1 => hGo_x (by rw [if_neg c1] at h; exact h))
  rw [if_pos c1] at h
  obtain ⟨p, hp, rfl, ep⟩ := in_ix c1 (by omega)
  rw [ep] at h
  refine G_iload_n dX8_couldMake_5 rfl ?_
  refine cv_X8_260 (cs' := 0) (ss' := 0) dX8_couldMake_6  (Nat.le_of_ble_eq_true rfl) (Nat.le_of_ble_eq_true rfl) (Nat.le_of_ble_eq_true rfl) rfl rfl (Nat.le_of_ble_eq_true rfl) (Nat.le_of_ble_eq_true rfl) rfl ?_
  refine s_X8_needSubject (fun c2 => hGo_v ?_) (fun c2 => hGo_x (by rw [if_neg c2] at h; exact h))
  rw [if_pos c2] at h
  obtain ⟨s, -, hs, rfl, es⟩ := inR_ix (i := 0) (k := 1) (by decide) (by decide) c2
  rw [es] at h
  unfold couldV at h
  have hf := hA.f hp
  refine G_aload_n dX8_couldMake_9 rfl ?_
  refine gf_X8_26 dX8_couldMake_10  ?_
  refine gf_X8_203 dX8_couldMake_13 (by decide) ?_
  refine G_iload_n dX8_couldMake_16 rfl ?_
  refine G_aald dX8_couldMake_17 ⟨by decide, rfl⟩ rfl rfl rfl (show p < 12 by omega) (by decide) rfl ?_
  refine G_iload_n dX8_couldMake_18 rfl ?_
  refine cv_X8_355 (cs' := 0) (ss' := 0) dX8_couldMake_19 (by decide) (show _ < 12 by omega) (Nat.le_of_ble_eq_true rfl) (Nat.le_of_ble_eq_true rfl) (Nat.le_of_ble_eq_true rfl) rfl rfl (Nat.le_of_ble_eq_true rfl) (Nat.le_of_ble_eq_true rfl) rfl ?_
  refine s_X1_effort (by decide) (by omega) (by omega) hf (hGo_i ?_)
  refine G_istore_n dX8_couldMake_22 (Nat.le_of_ble_eq_true rfl) ?_
  refine G_iload_n dX8_couldMake_23 rfl ?_
  refine G_if_le (tgt := 44) dX8_couldMake_24 (by decide) (fun c24 => ?_) (fun c24 => ?_)
  · rw [if_neg (Int32.not_lt.mpr c24)] at h
    refine G_iconst (v := 0) dX8_couldMake_44 (by decide) ?_
    refine G_iret dX8_couldMake_45 rfl rfl (Nat.le_of_ble_eq_true rfl) (Nat.le_of_ble_eq_true rfl) ?_
    exact h
  · rw [if_pos (Int32.not_le.mp c24)] at h
    refine G_aload_n dX8_couldMake_27 rfl ?_
    refine gf_X8_26 dX8_couldMake_28  ?_
    refine gf_X8_203 dX8_couldMake_31 (by decide) ?_
    refine G_iload_n dX8_couldMake_34 rfl ?_
    refine G_aald dX8_couldMake_35 ⟨by decide, rfl⟩ rfl rfl rfl (show p < 12 by omega) (by decide) rfl ?_
    refine gf_X8_222 dX8_couldMake_36 (by decide) (show _ < 12 by omega) ?_
    rw [show M.1 12 0 p 6 = g.A.f p 5 from hf 5 (by decide)]
    refine G_iload_n dX8_couldMake_39 rfl ?_
    refine G_idiv dX8_couldMake_40 (fun q => c24 (by rw [q]; decide)) ?_
    refine G_goto (tgt := 45) dX8_couldMake_41 (by decide) ?_
    refine G_iret dX8_couldMake_45 rfl rfl (Nat.le_of_ble_eq_true rfl) (Nat.le_of_ble_eq_true rfl) ?_
    exact h
def ifWeekV (A : Ab) (p w : Nat) : Int32 := if w = 0 then lackV A p else if w = 1 then growV A p else detV A p (A.f p 6 + growV A p)
def qIfWeek (g : Gs) (x y : Int32) : Qq := if inP g.A x then if inR y 0 2 then (0, ifWeekV g.A (tn x) (tn y)) else (2, 0) else (1, 0)
theorem s_X8_ifWeek {x y : Int32} (hC : CG M g) (hO : Okg g) (h : P (rs xPA (qIfWeek g x y)) M) : Sp E yX8_ifWeek cX8_ifWeek zX8_ifWeek [.ref (ad E 0 0 0), .int x, .int y] M P := by
  unfold qIfWeek at h
  have hA := hC.1
  have hO1 := hO.1
  refine Sp_of (own := RX8) (by decide) rfl rfl (Nat.le_of_ble_eq_true rfl) (fun C => ?_)
  have h12 := hA.n12
  refine G_aload_n dX8_ifWeek_0 rfl ?_
  refine G_iload_n dX8_ifWeek_1 rfl ?_
  refine cv_X8_200 (cs' := 0) (ss' := 0) dX8_ifWeek_2  (Nat.le_of_ble_eq_true rfl) (Nat.le_of_ble_eq_true rfl) (Nat.le_of_ble_eq_true rfl) rfl rfl (Nat.le_of_ble_eq_true rfl) (Nat.le_of_ble_eq_true rfl) rfl ?_
  refine s_X8_needPupil hA (fun c1 => hGo_v ?_) (fun c1 => hGo_x (by rw [if_neg c1] at h; exact h))
  rw [if_pos c1] at h
  obtain ⟨p, hp, rfl, ep⟩ := in_ix c1 (by omega)
  rw [ep] at h
  refine G_iload_n dX8_ifWeek_5 rfl ?_
  refine G_iconst (v := 0) dX8_ifWeek_6 (by decide) ?_
  refine G_iconst (v := 2) dX8_ifWeek_7 (by decide) ?_
  refine cv_X8_86 (cs' := 0) (ss' := 0) dX8_ifWeek_8  (Nat.le_of_ble_eq_true rfl) (Nat.le_of_ble_eq_true rfl) (Nat.le_of_ble_eq_true rfl) rfl rfl (Nat.le_of_ble_eq_true rfl) (Nat.le_of_ble_eq_true rfl) rfl ?_
  refine s_X8_needRange (fun c2 => hGo_v ?_) (fun c2 => hGo_x (by rw [if_neg c2] at h; exact h))
  rw [if_pos c2] at h
  obtain ⟨k, -, hk, rfl, ek⟩ := inR_ix (i := 0) (k := 2) (by decide) (by decide) c2
  rw [ek] at h
  refine G_aload_n dX8_ifWeek_11 rfl ?_
  refine gf_X8_26 dX8_ifWeek_12  ?_
  refine gf_X8_203 dX8_ifWeek_15 (by decide) ?_
  refine G_iload_n dX8_ifWeek_18 rfl ?_
  refine G_aald dX8_ifWeek_19 ⟨by decide, rfl⟩ rfl rfl rfl (show p < 12 by omega) (by decide) rfl ?_
  refine G_astore_n dX8_ifWeek_20 (Nat.le_of_ble_eq_true rfl) ?_
  refine G_iload_n dX8_ifWeek_21 rfl ?_
  unfold ifWeekV at h
  rcases (show k = 0 ∨ k = 1 ∨ k = 2 by omega) with rfl | rfl | rfl
  · rw [if_pos rfl] at h
    refine G_lsw (off := 26) (tgt := 48) dX8_ifWeek_22 (by decide) (by rw [show (nI 0).toInt = 0 by decide]; simp [Op.lookupswitch.offset_cons, Op.lookupswitch.offset_nil]) (by decide) ?_
    refine G_aload_n dX8_ifWeek_48 rfl ?_
    refine gf_X8_26 dX8_ifWeek_49  ?_
    refine G_aload_n dX8_ifWeek_52 rfl ?_
    refine cv_X8_319 (cs' := 0) (ss' := 0) dX8_ifWeek_53 (by decide) (Nat.le_of_ble_eq_true rfl) (Nat.le_of_ble_eq_true rfl) (Nat.le_of_ble_eq_true rfl) rfl rfl (Nat.le_of_ble_eq_true rfl) (Nat.le_of_ble_eq_true rfl) rfl ?_
    refine s_X3_lacking (by decide) hA hp (hGo_i ?_)
    refine G_iret dX8_ifWeek_56 rfl rfl (Nat.le_of_ble_eq_true rfl) (Nat.le_of_ble_eq_true rfl) ?_
    exact h
  · rw [if_neg (by decide), if_pos rfl] at h
    refine G_lsw (off := 35) (tgt := 57) dX8_ifWeek_22 (by decide) (by rw [show (nI 1).toInt = 1 by decide]; simp [Op.lookupswitch.offset_cons, Op.lookupswitch.offset_nil]) (by decide) ?_
    refine G_aload_n dX8_ifWeek_57 rfl ?_
    refine gf_X8_26 dX8_ifWeek_58  ?_
    refine G_aload_n dX8_ifWeek_61 rfl ?_
    refine cv_X8_358 (cs' := 0) (ss' := 0) dX8_ifWeek_62 (by decide) (Nat.le_of_ble_eq_true rfl) (Nat.le_of_ble_eq_true rfl) (Nat.le_of_ble_eq_true rfl) rfl rfl (Nat.le_of_ble_eq_true rfl) (Nat.le_of_ble_eq_true rfl) rfl ?_
    refine s_X3_proofOfHandingIn (by decide) hA hp hO1.2.1.2.1 hO1.2.1.2.2 (hGo_i ?_)
    refine G_iret dX8_ifWeek_65 rfl rfl (Nat.le_of_ble_eq_true rfl) (Nat.le_of_ble_eq_true rfl) ?_
    exact h
  · rw [if_neg (by decide), if_neg (by decide)] at h
    refine G_lsw (off := 44) (tgt := 66) dX8_ifWeek_22 (by decide) (by rw [show (nI 2).toInt = 2 by decide]; simp [Op.lookupswitch.offset_cons, Op.lookupswitch.offset_nil]) (by decide) ?_
    refine G_aload_n dX8_ifWeek_66 rfl ?_
    refine gf_X8_26 dX8_ifWeek_67  ?_
    refine G_aload_n dX8_ifWeek_70 rfl ?_
    refine G_aload_n dX8_ifWeek_71 rfl ?_
    refine gf_X8_26 dX8_ifWeek_72  ?_
    refine G_aload_n dX8_ifWeek_75 rfl ?_
    refine cv_X8_316 (cs' := 0) (ss' := 0) dX8_ifWeek_76 (by decide) (Nat.le_of_ble_eq_true rfl) (Nat.le_of_ble_eq_true rfl) (Nat.le_of_ble_eq_true rfl) rfl rfl (Nat.le_of_ble_eq_true rfl) (Nat.le_of_ble_eq_true rfl) rfl ?_
    refine s_X3_proofLookedAt (by decide) hA hp hO1.2.1.2.1 hO1.2.1.2.2 (hGo_i ?_)
    refine cv_X8_361 (cs' := 0) (ss' := 0) dX8_ifWeek_79 (by decide) (Nat.le_of_ble_eq_true rfl) (Nat.le_of_ble_eq_true rfl) (Nat.le_of_ble_eq_true rfl) rfl rfl (Nat.le_of_ble_eq_true rfl) (Nat.le_of_ble_eq_true rfl) rfl ?_
    refine s_X3_detentionBehind (by decide) hA hp (hGo_i ?_)
    refine G_iret dX8_ifWeek_82 rfl rfl (Nat.le_of_ble_eq_true rfl) (Nat.le_of_ble_eq_true rfl) ?_
    exact h
theorem CG.trial {M' : Mm} (h : CG M g) (hf : Fr (dC 1) M M') (hA : CR M' 1 A) : CG M' g := h.fr hf (fun k j p q => Or.inr q) hA.2.2.2.1
def ipV (A : Ab) (w : Nat) : Int32 := if w = 0 then sm A.n (fun p => A.f p 7) else if w = 1 then sm A.d.length (fun i => dg A.d i 3) else if w = 2 then sm A.n (fun p => if 0 < A.f p 8 then 1 else 0) else piecesV A 0 + piecesV A 1
def qIfPassed (g : Gs) (x y : Int32) : Qq := if inR x 0 30 ∧ inR y 0 3 then (0, ipV (wks g.A (tn x)) (tn y)) else (1, 0)
theorem s_X8_ifPassed {x y : Int32} (hC : CG M g) (hO : Okg g) (h : ∀ M', CG M' g → Fr dCl M M' → P (rs xA (qIfPassed g x y)) M') : Sp E yX8_ifPassed cX8_ifPassed zX8_ifPassed [.ref (ad E 0 0 0), .int x, .int y] M P := by
  unfold qIfPassed at h
  have hA := hC.1
  have h12 := hA.n12
  refine Sp_of (own := RX8) (by decide) rfl rfl (Nat.le_of_ble_eq_true rfl) (fun C => ?_)
  refine G_iload_n dX8_ifPassed_0 rfl ?_
  refine G_iconst (v := 0) dX8_ifPassed_1 (by decide) ?_
  refine G_bipush (v := 30) dX8_ifPassed_2 (by decide) ?_
  refine cv_X8_86 (cs' := 0) (ss' := 0) dX8_ifPassed_4  (Nat.le_of_ble_eq_true rfl) (Nat.le_of_ble_eq_true rfl) (Nat.le_of_ble_eq_true rfl) rfl rfl (Nat.le_of_ble_eq_true rfl) (Nat.le_of_ble_eq_true rfl) rfl ?_
  refine s_X8_needRange (fun c1 => hGo_v ?_) (fun c1 => hGo_x (by have h := h M hC Fr.rfl; rw [if_neg (fun q => c1 q.1)] at h; exact h))
  refine G_iload_n dX8_ifPassed_7 rfl ?_
  refine G_iconst (v := 0) dX8_ifPassed_8 (by decide) ?_
  refine G_iconst (v := 3) dX8_ifPassed_9 (by decide) ?_
  refine cv_X8_86 (cs' := 0) (ss' := 0) dX8_ifPassed_10  (Nat.le_of_ble_eq_true rfl) (Nat.le_of_ble_eq_true rfl) (Nat.le_of_ble_eq_true rfl) rfl rfl (Nat.le_of_ble_eq_true rfl) (Nat.le_of_ble_eq_true rfl) rfl ?_
  refine s_X8_needRange (fun c2 => hGo_v ?_) (fun c2 => hGo_x (by have h := h M hC Fr.rfl; rw [if_neg (fun q => c2 q.2)] at h; exact h))
  rw [if_pos ⟨c1, c2⟩] at h
  obtain ⟨n, -, hn, rfl, en⟩ := inR_ix (i := 0) (k := 30) (by decide) (by decide) c1
  obtain ⟨k, -, hk, rfl, ek⟩ := inR_ix (i := 0) (k := 3) (by decide) (by decide) c2
  rw [en, ek] at h
  refine G_aload_n dX8_ifPassed_13 rfl ?_
  refine gf_X8_30 dX8_ifPassed_14  ?_
  refine G_aload_n dX8_ifPassed_17 rfl ?_
  refine gf_X8_26 dX8_ifPassed_18  ?_
  refine cv_X8_101 (cs' := 0) (ss' := 0) dX8_ifPassed_21 (by decide) (Nat.le_of_ble_eq_true rfl) (Nat.le_of_ble_eq_true rfl) (Nat.le_of_ble_eq_true rfl) rfl rfl (Nat.le_of_ble_eq_true rfl) (Nat.le_of_ble_eq_true rfl) rfl ?_
  refine s_X3_copyFrom (by decide) (by decide) (by decide) hA hO.1.spy hC.2.2.2.2.2.2 (fun M1 a1 f1 => hGo_v ?_)
  refine G_iconst (v := 0) dX8_ifPassed_24 (by decide) ?_
  refine G_istore_n dX8_ifPassed_25 (Nat.le_of_ble_eq_true rfl) ?_
  refine G_lv (lv' := [(0, .ref (ad E 0 0 0)), (1, .int (nI n)), (2, .int (nI k)), (3, .int (nI 0))]) ⟨rfl, rfl, rfl, rfl, trivial⟩ ?_
  refine up0 (c := n) (H := fun i => ∀ M', CR M' 1 (wks g.A i) → Fr (dC 1) M M' → G E C RX8 cX8_ifPassed zX8_ifPassed P 0 0 M' 26 [(0, .ref (ad E 0 0 0)), (1, .int (nI n)), (2, .int (nI k)), (3, .int (nI i))] []) (fun M2 a2 f2 => ?_) (fun i hi ih M2 a2 f2 => ?_) M1 a1 f1
  · have h := h M2 (hC.trial f2 a2) (f2.mono dC_Cl)
    refine G_iload_n dX8_ifPassed_26 rfl ?_
    refine G_iload_n dX8_ifPassed_27 rfl ?_
    refine G_icmp_ge (tgt := 45) dX8_ifPassed_28 (by decide) (fun c28 => ?_) (fun c28 => ?_)
    · refine G_iload_n dX8_ifPassed_45 rfl ?_
      rcases (show k = 0 ∨ k = 1 ∨ k = 2 ∨ k = 3 by omega) with rfl | rfl | rfl | rfl
      · refine G_tIn (off := 26) (tgt := 72) dX8_ifPassed_46 (by decide) (by decide) rfl (by decide) ?_
        refine G_aload_n dX8_ifPassed_72 rfl ?_
        refine gf_X8_30 dX8_ifPassed_73  ?_
        refine cv_X8_352 (cs' := 0) (ss' := 0) dX8_ifPassed_76 (by decide) (Nat.le_of_ble_eq_true rfl) (Nat.le_of_ble_eq_true rfl) (Nat.le_of_ble_eq_true rfl) rfl rfl (Nat.le_of_ble_eq_true rfl) (Nat.le_of_ble_eq_true rfl) rfl ?_
        refine s_X3_allMarks (by decide) a2 (hGo_i ?_)
        refine G_iret dX8_ifPassed_79 rfl rfl (Nat.le_of_ble_eq_true rfl) (Nat.le_of_ble_eq_true rfl) ?_
        exact h
      · refine G_tIn (off := 34) (tgt := 80) dX8_ifPassed_46 (by decide) (by decide) rfl (by decide) ?_
        refine G_aload_n dX8_ifPassed_80 rfl ?_
        refine gf_X8_30 dX8_ifPassed_81  ?_
        refine gf_X8_174 dX8_ifPassed_84 (by decide) ?_
        refine cv_X8_181 (cs' := 0) (ss' := 0) dX8_ifPassed_87 (by decide) (Nat.le_of_ble_eq_true rfl) (Nat.le_of_ble_eq_true rfl) (Nat.le_of_ble_eq_true rfl) rfl rfl (Nat.le_of_ble_eq_true rfl) (Nat.le_of_ble_eq_true rfl) rfl ?_
        refine s_X0_piecesOwed (by decide) a2.d (hGo_i ?_)
        refine G_iret dX8_ifPassed_90 rfl rfl (Nat.le_of_ble_eq_true rfl) (Nat.le_of_ble_eq_true rfl) ?_
        exact h
      · refine G_tIn (off := 45) (tgt := 91) dX8_ifPassed_46 (by decide) (by decide) rfl (by decide) ?_
        refine G_aload_n dX8_ifPassed_91 rfl ?_
        refine gf_X8_30 dX8_ifPassed_92  ?_
        refine cv_X8_185 (cs' := 0) (ss' := 0) dX8_ifPassed_95 (by decide) (Nat.le_of_ble_eq_true rfl) (Nat.le_of_ble_eq_true rfl) (Nat.le_of_ble_eq_true rfl) rfl rfl (Nat.le_of_ble_eq_true rfl) (Nat.le_of_ble_eq_true rfl) rfl ?_
        refine s_X3_detainedPupils (by decide) a2 (hGo_i ?_)
        refine G_iret dX8_ifPassed_98 rfl rfl (Nat.le_of_ble_eq_true rfl) (Nat.le_of_ble_eq_true rfl) ?_
        exact h
      · refine G_tOut (tgt := 99) dX8_ifPassed_46 (by decide) (by decide) ?_
        refine G_aload_n dX8_ifPassed_99 rfl ?_
        refine gf_X8_30 dX8_ifPassed_100  ?_
        refine G_iconst (v := 0) dX8_ifPassed_103 (by decide) ?_
        refine cv_X8_171 (cs' := 0) (ss' := 0) dX8_ifPassed_104 (by decide) (Nat.le_of_ble_eq_true rfl) (Nat.le_of_ble_eq_true rfl) (Nat.le_of_ble_eq_true rfl) rfl rfl (Nat.le_of_ble_eq_true rfl) (Nat.le_of_ble_eq_true rfl) rfl ?_
        refine s_X3_piecesOf (s := 0) (by decide) a2 (by decide) (hGo_i ?_)
        refine G_aload_n dX8_ifPassed_107 rfl ?_
        refine gf_X8_30 dX8_ifPassed_108  ?_
        refine G_iconst (v := 1) dX8_ifPassed_111 (by decide) ?_
        refine cv_X8_171 (cs' := 0) (ss' := 0) dX8_ifPassed_112 (by decide) (Nat.le_of_ble_eq_true rfl) (Nat.le_of_ble_eq_true rfl) (Nat.le_of_ble_eq_true rfl) rfl rfl (Nat.le_of_ble_eq_true rfl) (Nat.le_of_ble_eq_true rfl) rfl ?_
        refine s_X3_piecesOf (s := 1) (by decide) a2 (by decide) (hGo_i ?_)
        refine G_iadd dX8_ifPassed_115 ?_
        refine G_iret dX8_ifPassed_116 rfl rfl (Nat.le_of_ble_eq_true rfl) (Nat.le_of_ble_eq_true rfl) ?_
        exact h
    · exact absurd (Int32.le_refl _) c28
  · have o2 := wks_ok hO.1 i
    refine G_iload_n dX8_ifPassed_26 rfl ?_
    refine G_iload_n dX8_ifPassed_27 rfl ?_
    refine G_icmp_ge (tgt := 45) dX8_ifPassed_28 (by decide) (fun c28 => ?_) (fun c28 => ?_)
    · exact absurd c28 (nI_ge hi (by omega))
    · refine G_aload_n dX8_ifPassed_31 rfl ?_
      refine gf_X8_30 dX8_ifPassed_32  ?_
      refine cv_X8_364 (cs' := 0) (ss' := 0) dX8_ifPassed_35 (by decide) (Nat.le_of_ble_eq_true rfl) (Nat.le_of_ble_eq_true rfl) (Nat.le_of_ble_eq_true rfl) rfl rfl (Nat.le_of_ble_eq_true rfl) (Nat.le_of_ble_eq_true rfl) rfl ?_
      refine s_X3_endWeek (by decide) a2 o2.2.1.2.1 o2.2.1.2.2 (fun M3 a3 f3 => hGo_i ?_)
      refine G_pop dX8_ifPassed_38 rfl ?_
      refine G_iinc (v := 1) dX8_ifPassed_39 rfl (Nat.le_of_ble_eq_true rfl) (by decide) ?_
      refine G_goto (tgt := 26) dX8_ifPassed_42 (by decide) ?_
      exact G_lv2 (ih M3 a3 (f2.trans f3)) ⟨rfl, rfl, rfl, lvi (nI_1 i), trivial⟩
def freeV (A : Ab) (p : Nat) : Int32 := first 31 (fun k => decide (¬ 0 < (wks A k).f p 8))
def qFreeIn (g : Gs) (x : Int32) : Qq := if inP g.A x then (0, freeV g.A (tn x)) else (1, 0)
def qIfMoved (g : Gs) (x y z : Int32) : Qq := if inP g.A x then if inR y 0 5 ∧ inR z 0 5 then (0, spNearV g.A (tn x) y z) else (2, 0) else (1, 0)
theorem s_X8_ifMoved {x y z' : Int32} (hC : CG M g) (h : P (rs xPA (qIfMoved g x y z')) M) : Sp E yX8_ifMoved cX8_ifMoved zX8_ifMoved [.ref (ad E 0 0 0), .int x, .int y, .int z'] M P := by
  unfold qIfMoved at h
  have hA := hC.1
  refine Sp_of (own := RX8) (by decide) rfl rfl (Nat.le_of_ble_eq_true rfl) (fun C => ?_)
  have h12 := hA.n12
  refine G_aload_n dX8_ifMoved_0 rfl ?_
  refine G_iload_n dX8_ifMoved_1 rfl ?_
  refine cv_X8_200 (cs' := 0) (ss' := 0) dX8_ifMoved_2  (Nat.le_of_ble_eq_true rfl) (Nat.le_of_ble_eq_true rfl) (Nat.le_of_ble_eq_true rfl) rfl rfl (Nat.le_of_ble_eq_true rfl) (Nat.le_of_ble_eq_true rfl) rfl ?_
  refine s_X8_needPupil hA (fun c1 => hGo_v ?_) (fun c1 => hGo_x (by rw [if_neg c1] at h; exact h))
  rw [if_pos c1] at h
  obtain ⟨p, hp, rfl, ep⟩ := in_ix c1 (by omega)
  rw [ep] at h
  refine G_iload_n dX8_ifMoved_5 rfl ?_
  refine G_iload_n dX8_ifMoved_6 rfl ?_
  refine cv_X8_300 (cs' := 0) (ss' := 0) dX8_ifMoved_7  (Nat.le_of_ble_eq_true rfl) (Nat.le_of_ble_eq_true rfl) (Nat.le_of_ble_eq_true rfl) rfl rfl (Nat.le_of_ble_eq_true rfl) (Nat.le_of_ble_eq_true rfl) rfl ?_
  refine s_X8_needBench (fun c2 => hGo_v ?_) (fun c2 => hGo_x (by rw [if_neg c2] at h; exact h))
  rw [if_pos c2] at h
  refine G_aload_n dX8_ifMoved_10 rfl ?_
  refine gf_X8_26 dX8_ifMoved_11  ?_
  refine G_iload_n dX8_ifMoved_14 rfl ?_
  refine G_iload_n dX8_ifMoved_15 rfl ?_
  refine G_iload_n dX8_ifMoved_16 rfl ?_
  refine cv_X8_370 (cs' := 0) (ss' := 0) dX8_ifMoved_17 (by decide) (Nat.le_of_ble_eq_true rfl) (Nat.le_of_ble_eq_true rfl) (Nat.le_of_ble_eq_true rfl) rfl rfl (Nat.le_of_ble_eq_true rfl) (Nat.le_of_ble_eq_true rfl) rfl ?_
  refine s_X3_spiesNearBench (by decide) hA hp (hGo_i ?_)
  refine G_iret dX8_ifMoved_20 rfl rfl (Nat.le_of_ble_eq_true rfl) (Nat.le_of_ble_eq_true rfl) ?_
  exact h
def qWhySwap (g : Gs) (x y n m : Int32) : Qq := if inP g.A x ∧ inP g.A y then if inR n 0 20 ∧ inR m 0 20 then (0, rSwap g.A (tn x) (tn y) (tn n) (tn m)) else (2, 0) else (1, 0)
theorem s_X8_whySwap {x y n m : Int32} (hC : CG M g) (h : P (rs xPA (qWhySwap g x y n m)) M) : Sp E yX8_whySwap cX8_whySwap zX8_whySwap [.ref (ad E 0 0 0), .int x, .int y, .int n, .int m] M P := by
  unfold qWhySwap at h
  have hA := hC.1
  have h12 := hA.n12
  refine Sp_of (own := RX8) (by decide) rfl rfl (Nat.le_of_ble_eq_true rfl) (fun C => ?_)
  refine G_aload_n dX8_whySwap_0 rfl ?_
  refine G_iload_n dX8_whySwap_1 rfl ?_
  refine G_iload_n dX8_whySwap_2 rfl ?_
  refine G_iload_n dX8_whySwap_3 rfl ?_
  refine G_iload dX8_whySwap_4 rfl ?_
  refine cv_X8_373 (cs' := 0) (ss' := 0) dX8_whySwap_6  (Nat.le_of_ble_eq_true rfl) (Nat.le_of_ble_eq_true rfl) (Nat.le_of_ble_eq_true rfl) rfl rfl (Nat.le_of_ble_eq_true rfl) (Nat.le_of_ble_eq_true rfl) rfl ?_
  refine s_X8_needSwap hA (fun c1 c2 => hGo_v ?_) (fun c1 => hGo_x (by rw [if_neg c1] at h; exact h)) (fun c1 c2 => hGo_x (by rw [if_pos c1, if_neg c2] at h; exact h))
  rw [if_pos c1, if_pos c2] at h
  obtain ⟨p, hp, rfl, ep⟩ := in_ix c1.1 (by omega)
  obtain ⟨o, ho, rfl, eo⟩ := in_ix c1.2 (by omega)
  obtain ⟨a, -, ha, rfl, ea⟩ := inR_ix (i := 0) (k := 20) (by decide) (by decide) c2.1
  obtain ⟨b', -, hb, rfl, eb⟩ := inR_ix (i := 0) (k := 20) (by decide) (by decide) c2.2
  rw [ep, eo, ea, eb] at h
  refine G_aload_n dX8_whySwap_9 rfl ?_
  refine gf_X8_26 dX8_whySwap_10  ?_
  refine G_iload_n dX8_whySwap_13 rfl ?_
  refine G_iload_n dX8_whySwap_14 rfl ?_
  refine G_iload_n dX8_whySwap_15 rfl ?_
  refine G_iload dX8_whySwap_16 rfl ?_
  refine cv_X8_376 (cs' := 0) (ss' := 0) dX8_whySwap_18 (by decide) (Nat.le_of_ble_eq_true rfl) (Nat.le_of_ble_eq_true rfl) (Nat.le_of_ble_eq_true rfl) rfl rfl (Nat.le_of_ble_eq_true rfl) (Nat.le_of_ble_eq_true rfl) rfl ?_
  refine s_X3_reasonAgainstSwapping (by decide) hA hp ho (hGo_i ?_)
  refine G_iret dX8_whySwap_21 rfl rfl (Nat.le_of_ble_eq_true rfl) (Nat.le_of_ble_eq_true rfl) ?_
  exact h
def qWhyLend (g : Gs) (x y n m : Int32) : Qq := if inP g.A x ∧ inP g.A y then if inR n 0 1 ∧ inR m 1 20 then (0, rLend g.A (tn x) (tn y) (tn n) (tn m)) else (2, 0) else (1, 0)
theorem s_X8_whyLend {x y n m : Int32} (hC : CG M g) (h : P (rs xPA (qWhyLend g x y n m)) M) : Sp E yX8_whyLend cX8_whyLend zX8_whyLend [.ref (ad E 0 0 0), .int x, .int y, .int n, .int m] M P := by
  unfold qWhyLend at h
  have hA := hC.1
  have h12 := hA.n12
  refine Sp_of (own := RX8) (by decide) rfl rfl (Nat.le_of_ble_eq_true rfl) (fun C => ?_)
  refine G_aload_n dX8_whyLend_0 rfl ?_
  refine G_iload_n dX8_whyLend_1 rfl ?_
  refine G_iload_n dX8_whyLend_2 rfl ?_
  refine G_iload_n dX8_whyLend_3 rfl ?_
  refine G_iload dX8_whyLend_4 rfl ?_
  refine cv_X8_379 (cs' := 0) (ss' := 0) dX8_whyLend_6  (Nat.le_of_ble_eq_true rfl) (Nat.le_of_ble_eq_true rfl) (Nat.le_of_ble_eq_true rfl) rfl rfl (Nat.le_of_ble_eq_true rfl) (Nat.le_of_ble_eq_true rfl) rfl ?_
  refine s_X8_needLoan hA (fun c1 c2 => hGo_v ?_) (fun c1 => hGo_x (by rw [if_neg c1] at h; exact h)) (fun c1 c2 => hGo_x (by rw [if_pos c1, if_neg c2] at h; exact h))
  rw [if_pos c1, if_pos c2] at h
  obtain ⟨p, hp, rfl, ep⟩ := in_ix c1.1 (by omega)
  obtain ⟨o, ho, rfl, eo⟩ := in_ix c1.2 (by omega)
  obtain ⟨a, -, ha, rfl, ea⟩ := inR_ix (i := 0) (k := 1) (by decide) (by decide) c2.1
  obtain ⟨b', -, hb, rfl, eb⟩ := inR_ix (i := 1) (k := 20) (by decide) (by decide) c2.2
  rw [ep, eo, ea, eb] at h
  refine G_aload_n dX8_whyLend_9 rfl ?_
  refine gf_X8_26 dX8_whyLend_10  ?_
  refine G_iload_n dX8_whyLend_13 rfl ?_
  refine G_iload_n dX8_whyLend_14 rfl ?_
  refine G_iload_n dX8_whyLend_15 rfl ?_
  refine G_iload dX8_whyLend_16 rfl ?_
  refine cv_X8_382 (cs' := 0) (ss' := 0) dX8_whyLend_18 (by decide) (Nat.le_of_ble_eq_true rfl) (Nat.le_of_ble_eq_true rfl) (Nat.le_of_ble_eq_true rfl) rfl rfl (Nat.le_of_ble_eq_true rfl) (Nat.le_of_ble_eq_true rfl) rfl ?_
  refine s_X3_reasonAgainstLending (by decide) hA hp ho (by omega) (hGo_i ?_)
  refine G_iret dX8_whyLend_21 rfl rfl (Nat.le_of_ble_eq_true rfl) (Nat.le_of_ble_eq_true rfl) ?_
  exact h
/-- the safest among the first k benches, with its spies -/
def sbF (A : Ab) (p : Nat) : Nat → Int32 × Int32
  | 0 => (-1, 12)
  | k + 1 => if onV A (nI (k / 6)) (nI (k % 6)) = -1 ∧ spNearV A p (nI (k / 6)) (nI (k % 6)) < (sbF A p k).2 then (nI k, spNearV A p (nI (k / 6)) (nI (k % 6))) else sbF A p k
def qSafestBench (g : Gs) (x : Int32) : Qq := if inP g.A x then (0, (sbF g.A (tn x) 36).1) else (1, 0)
theorem s_X8_safestBench {x : Int32} (hC : CG M g) (h : P (rs xP (qSafestBench g x)) M) : Sp E yX8_safestBench cX8_safestBench zX8_safestBench [.ref (ad E 0 0 0), .int x] M P := by
  unfold qSafestBench at h
  have hA := hC.1
  refine Sp_of (own := RX8) (by decide) rfl rfl (Nat.le_of_ble_eq_true rfl) (fun C => ?_)
  have h12 := hA.n12
  refine G_aload_n dX8_safestBench_0 rfl ?_
  refine G_iload_n dX8_safestBench_1 rfl ?_
  refine cv_X8_200 (cs' := 0) (ss' := 0) dX8_safestBench_2  (Nat.le_of_ble_eq_true rfl) (Nat.le_of_ble_eq_true rfl) (Nat.le_of_ble_eq_true rfl) rfl rfl (Nat.le_of_ble_eq_true rfl) (Nat.le_of_ble_eq_true rfl) rfl ?_
  refine s_X8_needPupil hA (fun c1 => hGo_v ?_) (fun c1 => hGo_x (by rw [if_neg c1] at h; exact h))
  rw [if_pos c1] at h
  obtain ⟨p, hp, rfl, ep⟩ := in_ix c1 (by omega)
  rw [ep] at h
  refine G_iconst (v := (-1)) dX8_safestBench_5 (by decide) ?_
  refine G_istore_n dX8_safestBench_6 (Nat.le_of_ble_eq_true rfl) ?_
  refine G_bipush (v := 12) dX8_safestBench_7 (by decide) ?_
  refine G_istore_n dX8_safestBench_9 (Nat.le_of_ble_eq_true rfl) ?_
  refine G_iconst (v := 0) dX8_safestBench_10 (by decide) ?_
  refine G_istore dX8_safestBench_11 (Nat.le_of_ble_eq_true rfl) ?_
  refine G_lv (lv' := [(0, .ref (ad E 0 0 0)), (1, .int (nI p)), (2, .int (sbF g.A p 0).1), (3, .int (sbF g.A p 0).2), (4, .int (nI 0))]) ⟨rfl, rfl, rfl, rfl, rfl, trivial⟩ ?_
  refine up0 (c := 36) (H := fun i => G E C RX8 cX8_safestBench zX8_safestBench P 0 0 M 13 [(0, .ref (ad E 0 0 0)), (1, .int (nI p)), (2, .int (sbF g.A p i).1), (3, .int (sbF g.A p i).2), (4, .int (nI i))] []) ?_ (fun i hi ih => ?_)
  · refine G_iload dX8_safestBench_13 rfl ?_
    refine G_bipush (v := 36) dX8_safestBench_15 (by decide) ?_
    refine G_icmp_ge (tgt := 81) dX8_safestBench_17 (by decide) (fun c17 => ?_) (fun c17 => ?_)
    · refine G_iload_n dX8_safestBench_81 rfl ?_
      refine G_iret dX8_safestBench_82 rfl rfl (Nat.le_of_ble_eq_true rfl) (Nat.le_of_ble_eq_true rfl) ?_
      exact h
    · exact absurd (show (36 : Int32) ≤ nI 36 from Int32.le_refl _) c17
  · refine G_iload dX8_safestBench_13 rfl ?_
    refine G_bipush (v := 36) dX8_safestBench_15 (by decide) ?_
    refine G_icmp_ge (tgt := 81) dX8_safestBench_17 (by decide) (fun c17 => ?_) (fun c17 => ?_)
    · exact absurd (show nI 36 ≤ nI i from c17) (nI_ge hi (by decide))
    · have eS : sbF g.A p (i + 1) = if onV g.A (nI (i / 6)) (nI (i % 6)) = -1 ∧ spNearV g.A p (nI (i / 6)) (nI (i % 6)) < (sbF g.A p i).2 then (nI i, spNearV g.A p (nI (i / 6)) (nI (i % 6))) else sbF g.A p i := rfl
      have eD : nI i / 6 = nI (i / 6) := pk_div (d := 6) (by omega) (by decide) (by decide)
      refine G_iload dX8_safestBench_20 rfl ?_
      refine G_bipush (v := 6) dX8_safestBench_22 (by decide) ?_
      refine G_idiv dX8_safestBench_24 (by decide) ?_
      refine G_istore dX8_safestBench_25 (Nat.le_of_ble_eq_true rfl) ?_
      refine G_iload dX8_safestBench_27 rfl ?_
      refine G_bipush (v := 6) dX8_safestBench_29 (by decide) ?_
      refine G_irem dX8_safestBench_31 (by decide) ?_
      rw [six (by omega), eD]
      refine G_istore dX8_safestBench_32 (Nat.le_of_ble_eq_true rfl) ?_
      refine G_aload_n dX8_safestBench_34 rfl ?_
      refine gf_X8_26 dX8_safestBench_35  ?_
      refine G_iload_n dX8_safestBench_38 rfl ?_
      refine G_iload dX8_safestBench_39 rfl ?_
      refine G_iload dX8_safestBench_41 rfl ?_
      refine cv_X8_370 (cs' := 0) (ss' := 0) dX8_safestBench_43 (by decide) (Nat.le_of_ble_eq_true rfl) (Nat.le_of_ble_eq_true rfl) (Nat.le_of_ble_eq_true rfl) rfl rfl (Nat.le_of_ble_eq_true rfl) (Nat.le_of_ble_eq_true rfl) rfl ?_
      refine s_X3_spiesNearBench (by decide) hA hp (hGo_i ?_)
      refine G_istore dX8_safestBench_46 (Nat.le_of_ble_eq_true rfl) ?_
      refine G_aload_n dX8_safestBench_48 rfl ?_
      refine gf_X8_26 dX8_safestBench_49  ?_
      refine G_iload dX8_safestBench_52 rfl ?_
      refine G_iload dX8_safestBench_54 rfl ?_
      refine cv_X8_304 (cs' := 0) (ss' := 0) dX8_safestBench_56 (by decide) (Nat.le_of_ble_eq_true rfl) (Nat.le_of_ble_eq_true rfl) (Nat.le_of_ble_eq_true rfl) rfl rfl (Nat.le_of_ble_eq_true rfl) (Nat.le_of_ble_eq_true rfl) rfl ?_
      refine s_X3_pupilOn (by decide) hA (hGo_i ?_)
      have g75 : ∀ (x y : Int32) (lv : List (Nat × Value)), (x, y) = sbF g.A p (i + 1) → lvf lv 0 = some (.ref (ad E 0 0 0)) → lvf lv 1 = some (.int (nI p)) → lvf lv 2 = some (.int x) → lvf lv 3 = some (.int y) → lvf lv 4 = some (.int (nI i)) → G E C RX8 cX8_safestBench zX8_safestBench P 0 0 M 75 lv [] := fun x y lv hxy a0 a1 a2 a3 a4 => by
        refine G_lv (lv' := [(0, .ref (ad E 0 0 0)), (1, .int (nI p)), (2, .int x), (3, .int y), (4, .int (nI i))]) ⟨a0, a1, a2, a3, a4, trivial⟩ ?_
        refine G_iinc (v := 1) dX8_safestBench_75 rfl (Nat.le_of_ble_eq_true rfl) (by decide) ?_
        refine G_goto (tgt := 13) dX8_safestBench_78 (by decide) ?_
        rw [← hxy] at ih
        exact G_lv2 ih ⟨rfl, rfl, rfl, rfl, lvi (nI_1 i), trivial⟩
      refine G_iconst (v := (-1)) dX8_safestBench_59 (by decide) ?_
      refine G_icmp_ne (tgt := 75) dX8_safestBench_60 (by decide) (fun c60 => ?_) (fun c60 => ?_)
      · exact g75 _ _ _ (by rw [eS, if_neg (fun q => c60 q.1)]) rfl rfl rfl rfl rfl
      · refine G_iload dX8_safestBench_63 rfl ?_
        refine G_iload_n dX8_safestBench_65 rfl ?_
        refine G_icmp_ge (tgt := 75) dX8_safestBench_66 (by decide) (fun c66 => ?_) (fun c66 => ?_)
        · exact g75 _ _ _ (by rw [eS, if_neg (fun q => absurd q.2 (Int32.not_lt.mpr c66))]) rfl rfl rfl rfl rfl
        · refine G_iload dX8_safestBench_69 rfl ?_
          refine G_istore_n dX8_safestBench_71 (Nat.le_of_ble_eq_true rfl) ?_
          refine G_iload dX8_safestBench_72 rfl ?_
          refine G_istore_n dX8_safestBench_74 (Nat.le_of_ble_eq_true rfl) ?_
          exact g75 _ _ _ (by rw [eS, if_pos ⟨c60, Int32.not_le.mp c66⟩]) rfl rfl rfl rfl rfl
/-- the safest among the first k pupils, with its spies -/
def spF (A : Ab) (p : Nat) : Nat → Int32 × Int32
  | 0 => (-1, 12)
  | k + 1 => if k ≠ p ∧ ¬ 0 < A.f k 8 ∧ bc (seersV A p k) < (spF A p k).2 then (nI k, bc (seersV A p k)) else spF A p k
def qSafestPartner (g : Gs) (x : Int32) : Qq := if inP g.A x then (0, (spF g.A (tn x) g.A.n).1) else (1, 0)
def drV (d : List De) (x s : Int32) : Int32 := if owedInV d x s 0 = 0 then -1 else first 21 (fun k => decide (20 < owedInV d x s (nI k)))
def qDrownsIn (g : Gs) (x y : Int32) : Qq := if inP g.A x then if inR y 0 1 then (0, drV g.A.d x y) else (2, 0) else (1, 0)
end CQRZ
