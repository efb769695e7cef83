/-! ===== HomeworkBarter$School: acts, weeks ===== -/
section CACT
variable {E : Ed} {M : Mm} {P : Res → Mm → Prop} {j : Nat} {A : Ab}
theorem CR.upS2 {M' : Mm} {q q2 : Nat} {L L2 : List Int32} (h : CR M j A) (hne : q ≠ q2) (hs : Sat M' j q L) (hs2 : Sat M' j q2 L2) (hf : Fr (fun k j' p => (k = 13 ∨ k = 14) ∧ j' = j ∧ (p = q ∨ p = q2)) M M') : CR M' j ((A.sS q L).sS q2 L2) := by
  obtain ⟨h1, h2, h3, h4, h5, h6, h7⟩ := h
  have e : ∀ k p t, k ≠ 13 → k ≠ 14 → M'.1 k j p t = M.1 k j p t := fun k p t a b => hf.at (fun q => q.1.elim a b) t
  refine ⟨⟨(e 7 0 3 (by decide) (by decide)).trans h1.1, h1.2⟩, fun k hk => (e 7 0 _ (by decide) (by decide)).trans (h2 k hk), fun k hk => (e 11 0 _ (by decide) (by decide)).trans (h3 k hk), fun i hi => (e 12 i 0 (by decide) (by decide)).trans (h4 i hi), fun i hi k hk => (e 12 i _ (by decide) (by decide)).trans (h5 i hi k hk), fun q3 hq3 => ?_, h7.keep (fun k hk p t => e k p t (by omega) (by omega))⟩
  show Sat M' j q3 (if q3 = q2 then L2 else if q3 = q then L else A.s q3)
  by_cases hq2 : q3 = q2
  · subst hq2
    rw [if_pos rfl]
    exact hs2
  · rw [if_neg hq2]
    by_cases hq : q3 = q
    · subst hq
      rw [if_pos rfl]
      exact hs
    · rw [if_neg hq]
      exact (h6 q3 hq3).keep (fun k hk t => hf.at (fun z => z.2.2.elim hq hq2) t)
theorem dC_S2 {q q2 : Nat} : ∀ k j' p, ((k = 13 ∨ k = 14) ∧ j' = j ∧ (p = q ∨ p = q2)) → dC j k j' p := fun k j' p h => by
  rcases h.1 with e | e
  · subst e; exact ⟨by decide, by decide, h.2.1⟩
  · subst e; exact ⟨by decide, by decide, h.2.1⟩
def makeA (A : Ab) (x s n : Nat) : Ab := ((A.sF x 5 (A.f x 5 - nI n * (10 - A.f x (2 + s)))).sS (2 * x + s) (A.s (2 * x + s) ++ List.replicate n (nI x))).sG (7 + s) (A.g (7 + s) + nI n)
theorem s_X3_makePieces {x s n : Nat} (hj : j < 10) (hA : CR M j A) (hx : x < A.n) (hs : s < 2) (hr : (A.s (2 * x + s)).length + n ≤ 20) (h : ∀ M', CR M' j (makeA A x s n) → Fr (dC j) M M' → P (.inl (some (.int (A.f x 5 - nI n * (10 - A.f x (2 + s)))))) M') : Sp E yX3_makePieces cX3_makePieces zX3_makePieces [.ref (ad E 7 j 0), .int (nI x), .int (nI s), .int (nI n)] M P := by
  have h12 := hA.n12
  have e5 : M.1 12 j x 6 = A.f x 5 := hA.f hx 5 (by decide)
  refine Sp_of (own := RX3) (by decide) rfl rfl (Nat.le_of_ble_eq_true rfl) (fun C => ?_)
  refine G_aload_n dX3_makePieces_0 rfl ?_
  refine gf_X3_11 dX3_makePieces_1 hj ?_
  refine G_iload_n dX3_makePieces_4 rfl ?_
  refine G_aald dX3_makePieces_5 ⟨hj, rfl⟩ rfl rfl rfl (show x < 12 by omega) (by decide) rfl ?_
  refine G_astore dX3_makePieces_6 (Nat.le_of_ble_eq_true rfl) ?_
  refine G_aload dX3_makePieces_8 rfl ?_
  refine G_dup dX3_makePieces_10 rfl ?_
  refine gf_X3_179 dX3_makePieces_11 hj (show x < 12 by omega) ?_
  refine G_iload_n dX3_makePieces_14 rfl ?_
  refine G_aload dX3_makePieces_15 rfl ?_
  refine G_iload_n dX3_makePieces_17 rfl ?_
  refine cv_X3_176 (cs' := 0) (ss' := 0) dX3_makePieces_18 hj (show x < 12 by omega) (Nat.le_of_ble_eq_true rfl) (Nat.le_of_ble_eq_true rfl) (Nat.le_of_ble_eq_true rfl) rfl rfl (Nat.le_of_ble_eq_true rfl) (Nat.le_of_ble_eq_true rfl) rfl ?_
  rw [e5]
  refine s_X1_effort hj (by omega) hs (hA.f hx) (hGo_i ?_)
  refine G_imul dX3_makePieces_21 ?_
  refine G_isub dX3_makePieces_22 ?_
  refine pf_X3_179 dX3_makePieces_23 hj (show x < 12 by omega) ?_
  refine G_aload dX3_makePieces_26 rfl ?_
  refine G_iload_n dX3_makePieces_28 rfl ?_
  refine cv_X3_135 (cs' := 0) (ss' := 0) dX3_makePieces_29 hj (show x < 12 by omega) (Nat.le_of_ble_eq_true rfl) (Nat.le_of_ble_eq_true rfl) (Nat.le_of_ble_eq_true rfl) rfl rfl (Nat.le_of_ble_eq_true rfl) (Nat.le_of_ble_eq_true rfl) rfl ?_
  have hA1 : CR (M.up 12 j x 6 (A.f x 5 - nI n * (10 - A.f x (2 + s)))) j (A.sF x 5 (A.f x 5 - nI n * (10 - A.f x (2 + s)))) := hA.upF (t := 5) (by decide)
  have hf1 : Fr (dC j) M (M.up 12 j x 6 (A.f x 5 - nI n * (10 - A.f x (2 + s)))) := Fr.rfl.upC (by decide) (by decide)
  generalize hM1 : M.up 12 j x 6 (A.f x 5 - nI n * (10 - A.f x (2 + s))) = M1 at hA1 hf1
  refine s_X1_satchel hj (by omega) hs (hGo_a ?_)
  refine G_iload_n dX3_makePieces_32 rfl ?_
  refine G_iload_n dX3_makePieces_33 rfl ?_
  refine cv_X3_208 (cs' := 0) (ss' := 0) dX3_makePieces_34 hj (show 2 * x + s < 24 by omega) (Nat.le_of_ble_eq_true rfl) (Nat.le_of_ble_eq_true rfl) (Nat.le_of_ble_eq_true rfl) rfl rfl (Nat.le_of_ble_eq_true rfl) (Nat.le_of_ble_eq_true rfl) rfl ?_
  refine s_X2_put hj (by omega) (hA1.s hx hs) hr (fun M2 h2 hf2 => hGo_v ?_)
  have hA2 := hA1.upS h2 hf2
  have ht : ∀ t, t < 10 → M2.1 11 j 0 t = A.g (7 + t) := fun t ht => hA2.tl ht
  have e55 : M2.1 12 j x 6 = A.f x 5 - nI n * (10 - A.f x (2 + s)) := by
    have := hA2.f (p := x) hx 5 (by decide)
    rw [show M2.1 12 j x 6 = _ from this]
    show (if x = x ∧ 5 = 5 then _ else _) = _
    rw [if_pos ⟨rfl, rfl⟩]
  rcases (show s = 0 ∨ s = 1 by omega) with rfl | rfl
  · refine G_aload_n dX3_makePieces_37 rfl ?_
    refine gf_X3_24 dX3_makePieces_38 hj ?_
    refine G_iload_n dX3_makePieces_41 rfl ?_
    refine G_if_ne (tgt := 49) dX3_makePieces_42 (by decide) (fun c42 => ?_) (fun c42 => ?_)
    · exact absurd rfl c42
    · refine G_iconst (v := 0) dX3_makePieces_45 (by decide) ?_
      refine G_goto (tgt := 50) dX3_makePieces_46 (by decide) ?_
      refine G_dup2 dX3_makePieces_50 rfl rfl ?_
      refine G_iald dX3_makePieces_51 ⟨hj, rfl⟩ rfl (rfl : (0 : Int32) = nI 0) (by decide) (by decide) ?_
      refine G_iload_n dX3_makePieces_52 rfl ?_
      refine G_iadd dX3_makePieces_53 ?_
      refine G_iast dX3_makePieces_54 ⟨hj, rfl⟩ (fun _ => rfl) (rfl : (0 : Int32) = nI 0) (by decide) (by decide) ?_
      rw [ht 0 (by decide)]
      have hA3 := hA2.upT (t := 0) (v := A.g (7 + 0) + nI n) (by decide)
      refine G_aload dX3_makePieces_55 rfl ?_
      refine gf_X3_179 dX3_makePieces_57 hj (show x < 12 by omega) ?_
      rw [up_nk (k' := 12) (by decide), e55]
      refine G_iret dX3_makePieces_60 rfl rfl (Nat.le_of_ble_eq_true rfl) (Nat.le_of_ble_eq_true rfl) ?_
      exact h _ hA3 ((hf1.trans (hf2.mono dC_S)).upC (by decide) (by decide))
  · refine G_aload_n dX3_makePieces_37 rfl ?_
    refine gf_X3_24 dX3_makePieces_38 hj ?_
    refine G_iload_n dX3_makePieces_41 rfl ?_
    refine G_if_ne (tgt := 49) dX3_makePieces_42 (by decide) (fun c42 => ?_) (fun c42 => ?_)
    · refine G_iconst (v := 1) dX3_makePieces_49 (by decide) ?_
      refine G_dup2 dX3_makePieces_50 rfl rfl ?_
      refine G_iald dX3_makePieces_51 ⟨hj, rfl⟩ rfl (rfl : (1 : Int32) = nI 1) (by decide) (by decide) ?_
      refine G_iload_n dX3_makePieces_52 rfl ?_
      refine G_iadd dX3_makePieces_53 ?_
      refine G_iast dX3_makePieces_54 ⟨hj, rfl⟩ (fun _ => rfl) (rfl : (1 : Int32) = nI 1) (by decide) (by decide) ?_
      rw [ht 1 (by decide)]
      have hA3 := hA2.upT (t := 1) (v := A.g (7 + 1) + nI n) (by decide)
      refine G_aload dX3_makePieces_55 rfl ?_
      refine gf_X3_179 dX3_makePieces_57 hj (show x < 12 by omega) ?_
      rw [up_nk (k' := 12) (by decide), e55]
      refine G_iret dX3_makePieces_60 rfl rfl (Nat.le_of_ble_eq_true rfl) (Nat.le_of_ble_eq_true rfl) ?_
      exact h _ hA3 ((hf1.trans (hf2.mono dC_S)).upC (by decide) (by decide))
    · exact absurd c42 (by decide)
/-- a barter of x and y is seen -/
def seeA (A : Ab) (x y : Nat) : Ab := ((((A.sF x 6 (A.f x 6 + bc (seersV A x y))).sF x 9 (A.f x 9 ||| seersV A x y)).sF y 6 (A.f y 6 + bc (seersV A x y))).sF y 9 (A.f y 9 ||| seersV A x y)).sG 14 (A.g 14 + bc (seersV A x y))
theorem s_X3_letSpiesSee {x y : Nat} (hj : j < 10) (hA : CR M j A) (hx : x < A.n) (hy : y < A.n) (hne : x ≠ y) (h : ∀ M', CR M' j (seeA A x y) → Fr (dC j) M M' → P (.inl (some (.int (bc (seersV A x y))))) M') : Sp E yX3_letSpiesSee cX3_letSpiesSee zX3_letSpiesSee [.ref (ad E 7 j 0), .int (nI x), .int (nI y)] M P := by
  have h12 := hA.n12
  have ex7 : M.1 12 j x 7 = A.f x 6 := hA.f hx 6 (by decide)
  have ex10 : M.1 12 j x 10 = A.f x 9 := hA.f hx 9 (by decide)
  have ey7 : M.1 12 j y 7 = A.f y 6 := hA.f hy 6 (by decide)
  have ey10 : M.1 12 j y 10 = A.f y 9 := hA.f hy 9 (by decide)
  refine Sp_of (own := RX3) (by decide) rfl rfl (Nat.le_of_ble_eq_true rfl) (fun C => ?_)
  refine G_aload_n dX3_letSpiesSee_0 rfl ?_
  refine G_iload_n dX3_letSpiesSee_1 rfl ?_
  refine G_iload_n dX3_letSpiesSee_2 rfl ?_
  refine cv_X3_165 (cs' := 0) (ss' := 0) dX3_letSpiesSee_3 hj (Nat.le_of_ble_eq_true rfl) (Nat.le_of_ble_eq_true rfl) (Nat.le_of_ble_eq_true rfl) rfl rfl (Nat.le_of_ble_eq_true rfl) (Nat.le_of_ble_eq_true rfl) rfl ?_
  refine s_X3_spiesWhoSee hj hA hx hy (hGo_i ?_)
  unfold seeA at h
  generalize seersV A x y = S at h ⊢
  refine G_istore_n dX3_letSpiesSee_6 (Nat.le_of_ble_eq_true rfl) ?_
  refine G_aload_n dX3_letSpiesSee_7 rfl ?_
  refine gf_X3_11 dX3_letSpiesSee_8 hj ?_
  refine G_iload_n dX3_letSpiesSee_11 rfl ?_
  refine G_aald dX3_letSpiesSee_12 ⟨hj, rfl⟩ rfl rfl rfl (show x < 12 by omega) (by decide) rfl ?_
  refine G_iload_n dX3_letSpiesSee_13 rfl ?_
  refine cv_X3_168 (cs' := 0) (ss' := 0) dX3_letSpiesSee_14 hj (show x < 12 by omega) (Nat.le_of_ble_eq_true rfl) (Nat.le_of_ble_eq_true rfl) (Nat.le_of_ble_eq_true rfl) rfl rfl (Nat.le_of_ble_eq_true rfl) (Nat.le_of_ble_eq_true rfl) rfl ?_
  refine s_X1_beSeenBy hj (by omega) (hGo_v ?_)
  rw [ex7, ex10]
  have hA1 : CR ((M.up 12 j x 7 (A.f x 6 + bc S)).up 12 j x 10 (A.f x 9 ||| S)) j ((A.sF x 6 (A.f x 6 + bc S)).sF x 9 (A.f x 9 ||| S)) := (hA.upF (t := 6) (by decide)).upF (t := 9) (by decide)
  refine G_aload_n dX3_letSpiesSee_17 rfl ?_
  refine gf_X3_11 dX3_letSpiesSee_18 hj ?_
  refine G_iload_n dX3_letSpiesSee_21 rfl ?_
  refine G_aald dX3_letSpiesSee_22 ⟨hj, rfl⟩ rfl rfl rfl (show y < 12 by omega) (by decide) rfl ?_
  refine G_iload_n dX3_letSpiesSee_23 rfl ?_
  refine cv_X3_168 (cs' := 0) (ss' := 0) dX3_letSpiesSee_24 hj (show y < 12 by omega) (Nat.le_of_ble_eq_true rfl) (Nat.le_of_ble_eq_true rfl) (Nat.le_of_ble_eq_true rfl) rfl rfl (Nat.le_of_ble_eq_true rfl) (Nat.le_of_ble_eq_true rfl) rfl ?_
  refine s_X1_beSeenBy hj (by omega) (hGo_v ?_)
  rw [up_np (p' := y) (fun e => hne e.symm), up_np (p' := y) (fun e => hne e.symm), up_np (p' := y) (fun e => hne e.symm), up_np (p' := y) (fun e => hne e.symm), ey7, ey10]
  have hA2 : CR ((((M.up 12 j x 7 (A.f x 6 + bc S)).up 12 j x 10 (A.f x 9 ||| S)).up 12 j y 7 (A.f y 6 + bc S)).up 12 j y 10 (A.f y 9 ||| S)) j ((((A.sF x 6 (A.f x 6 + bc S)).sF x 9 (A.f x 9 ||| S)).sF y 6 (A.f y 6 + bc S)).sF y 9 (A.f y 9 ||| S)) := (hA1.upF (t := 6) (by decide)).upF (t := 9) (by decide)
  have hf2 : Fr (dC j) M ((((M.up 12 j x 7 (A.f x 6 + bc S)).up 12 j x 10 (A.f x 9 ||| S)).up 12 j y 7 (A.f y 6 + bc S)).up 12 j y 10 (A.f y 9 ||| S)) := (((Fr.rfl.upC (by decide) (by decide)).upC (by decide) (by decide)).upC (by decide) (by decide)).upC (by decide) (by decide)
  generalize (((M.up 12 j x 7 (A.f x 6 + bc S)).up 12 j x 10 (A.f x 9 ||| S)).up 12 j y 7 (A.f y 6 + bc S)).up 12 j y 10 (A.f y 9 ||| S) = M2 at hA2 hf2
  refine G_iload_n dX3_letSpiesSee_27 rfl ?_
  refine cv_bc dX3_letSpiesSee_28 (hqx 1275 (by decide +kernel) rfl) (Nat.le_of_ble_eq_true rfl) (Nat.le_of_ble_eq_true rfl) (Nat.le_of_ble_eq_true rfl) (Nat.le_of_ble_eq_true rfl) (Nat.le_of_ble_eq_true rfl) rfl ?_
  refine G_istore dX3_letSpiesSee_31 (Nat.le_of_ble_eq_true rfl) ?_
  refine G_aload_n dX3_letSpiesSee_33 rfl ?_
  refine gf_X3_24 dX3_letSpiesSee_34 hj ?_
  refine G_bipush (v := 7) dX3_letSpiesSee_37 (by decide) ?_
  refine G_dup2 dX3_letSpiesSee_39 rfl rfl ?_
  refine G_iald dX3_letSpiesSee_40 ⟨hj, rfl⟩ rfl (rfl : (7 : Int32) = nI 7) (by decide) (by decide) ?_
  refine G_iload dX3_letSpiesSee_41 rfl ?_
  refine G_iadd dX3_letSpiesSee_43 ?_
  refine G_iast dX3_letSpiesSee_44 ⟨hj, rfl⟩ (fun _ => rfl) (rfl : (7 : Int32) = nI 7) (by decide) (by decide) ?_
  rw [show M2.1 11 j 0 7 = A.g 14 from hA2.tl (t := 7) (by decide)]
  have hA3 := hA2.upT (t := 7) (v := A.g 14 + bc S) (by decide)
  refine G_iload dX3_letSpiesSee_45 rfl ?_
  refine G_iret dX3_letSpiesSee_47 rfl rfl (Nat.le_of_ble_eq_true rfl) (Nat.le_of_ble_eq_true rfl) ?_
  exact h _ hA3 (hf2.upC (by decide) (by decide))
def giveA (A : Ab) (x y s n : Nat) : Ab := (A.sS (2 * x + s) ((A.s (2 * x + s)).drop n)).sS (2 * y + s) (A.s (2 * y + s) ++ (A.s (2 * x + s)).take n)
def tallyA (A : Ab) (t : Nat) (v : Int32) : Ab := A.sG (7 + t) (A.g (7 + t) + v)
def swapA (A : Ab) (x y n m : Nat) : Ab := seeA (tallyA (giveA (giveA A x y 0 n) y x 1 m) 2 1) x y
theorem s_X3_swapPieces {x y n m : Nat} (hj : j < 10) (hA : CR M j A) (hx : x < A.n) (hy : y < A.n) (hne : x ≠ y) (hn : n ≤ (A.s (2 * x)).length) (hm : m ≤ (A.s (2 * y + 1)).length) (hrn : (A.s (2 * y)).length + n ≤ 20) (hrm : (A.s (2 * x + 1)).length + m ≤ 20) (h : ∀ M', CR M' j (swapA A x y n m) → Fr (dC j) M M' → P (.inl (some (.int (bc (seersV A x y))))) M') : Sp E yX3_swapPieces cX3_swapPieces zX3_swapPieces [.ref (ad E 7 j 0), .int (nI x), .int (nI y), .int (nI n), .int (nI m)] M P := by
  have h12 := hA.n12
  refine Sp_of (own := RX3) (by decide) rfl rfl (Nat.le_of_ble_eq_true rfl) (fun C => ?_)
  refine G_aload_n dX3_swapPieces_0 rfl ?_
  refine gf_X3_11 dX3_swapPieces_1 hj ?_
  refine G_iload_n dX3_swapPieces_4 rfl ?_
  refine G_aald dX3_swapPieces_5 ⟨hj, rfl⟩ rfl rfl rfl (show x < 12 by omega) (by decide) rfl ?_
  refine gf_X3_186 dX3_swapPieces_6 hj (show x < 12 by omega) ?_
  refine G_aload_n dX3_swapPieces_9 rfl ?_
  refine gf_X3_11 dX3_swapPieces_10 hj ?_
  refine G_iload_n dX3_swapPieces_13 rfl ?_
  refine G_aald dX3_swapPieces_14 ⟨hj, rfl⟩ rfl rfl rfl (show y < 12 by omega) (by decide) rfl ?_
  refine gf_X3_186 dX3_swapPieces_15 hj (show y < 12 by omega) ?_
  refine G_iload_n dX3_swapPieces_18 rfl ?_
  refine cv_X3_211 (cs' := 0) (ss' := 0) dX3_swapPieces_19 hj (show 2 * x < 24 by omega) (Nat.le_of_ble_eq_true rfl) (Nat.le_of_ble_eq_true rfl) (Nat.le_of_ble_eq_true rfl) rfl rfl (Nat.le_of_ble_eq_true rfl) (Nat.le_of_ble_eq_true rfl) rfl ?_
  refine s_X2_giveEldest hj (by omega) (show 2 * y < 24 by omega) (show 2 * x ≠ 2 * y by omega) (hA.s hx (t := 0) (by decide)) (hA.s hy (t := 0) (by decide)) hn hrn (fun M1 h1 h2 hf1 => hGo_v ?_)
  have hA1 : CR M1 j (giveA A x y 0 n) := hA.upS2 (by omega) h1 h2 hf1
  refine G_aload_n dX3_swapPieces_22 rfl ?_
  refine gf_X3_11 dX3_swapPieces_23 hj ?_
  refine G_iload_n dX3_swapPieces_26 rfl ?_
  refine G_aald dX3_swapPieces_27 ⟨hj, rfl⟩ rfl rfl rfl (show y < 12 by omega) (by decide) rfl ?_
  refine gf_X3_190 dX3_swapPieces_28 hj (show y < 12 by omega) ?_
  refine G_aload_n dX3_swapPieces_31 rfl ?_
  refine gf_X3_11 dX3_swapPieces_32 hj ?_
  refine G_iload_n dX3_swapPieces_35 rfl ?_
  refine G_aald dX3_swapPieces_36 ⟨hj, rfl⟩ rfl rfl rfl (show x < 12 by omega) (by decide) rfl ?_
  refine gf_X3_190 dX3_swapPieces_37 hj (show x < 12 by omega) ?_
  refine G_iload dX3_swapPieces_40 rfl ?_
  refine cv_X3_211 (cs' := 0) (ss' := 0) dX3_swapPieces_42 hj (show 2 * y + 1 < 24 by omega) (Nat.le_of_ble_eq_true rfl) (Nat.le_of_ble_eq_true rfl) (Nat.le_of_ble_eq_true rfl) rfl rfl (Nat.le_of_ble_eq_true rfl) (Nat.le_of_ble_eq_true rfl) rfl ?_
  have e1 : ∀ z, z % 2 = 1 → (giveA A x y 0 n).s z = A.s z := fun z hz => by
    show (if z = 2 * y + 0 then _ else if z = 2 * x + 0 then _ else A.s z) = _
    rw [if_neg (by omega), if_neg (by omega)]
  refine s_X2_giveEldest hj (by omega) (show 2 * x + 1 < 24 by omega) (show 2 * y + 1 ≠ 2 * x + 1 by omega) (hA1.s hy (t := 1) (by decide)) (hA1.s hx (t := 1) (by decide)) (by rw [e1 _ (by omega)]; exact hm) (by rw [e1 _ (by omega)]; exact hrm) (fun M2 h3 h4 hf2 => hGo_v ?_)
  have hA2 : CR M2 j (giveA (giveA A x y 0 n) y x 1 m) := hA1.upS2 (by omega) h3 h4 hf2
  refine G_aload_n dX3_swapPieces_45 rfl ?_
  refine gf_X3_24 dX3_swapPieces_46 hj ?_
  refine G_iconst (v := 2) dX3_swapPieces_49 (by decide) ?_
  refine G_dup2 dX3_swapPieces_50 rfl rfl ?_
  refine G_iald dX3_swapPieces_51 ⟨hj, rfl⟩ rfl (rfl : (2 : Int32) = nI 2) (by decide) (by decide) ?_
  refine G_iconst (v := 1) dX3_swapPieces_52 (by decide) ?_
  refine G_iadd dX3_swapPieces_53 ?_
  refine G_iast dX3_swapPieces_54 ⟨hj, rfl⟩ (fun _ => rfl) (rfl : (2 : Int32) = nI 2) (by decide) (by decide) ?_
  rw [show M2.1 11 j 0 2 = (giveA (giveA A x y 0 n) y x 1 m).g (7 + 2) from hA2.tl (t := 2) (by decide)]
  have hA3 := hA2.upT (t := 2) (v := (giveA (giveA A x y 0 n) y x 1 m).g (7 + 2) + 1) (by decide)
  refine G_aload_n dX3_swapPieces_55 rfl ?_
  refine G_iload_n dX3_swapPieces_56 rfl ?_
  refine G_iload_n dX3_swapPieces_57 rfl ?_
  refine cv_X3_215 (cs' := 0) (ss' := 0) dX3_swapPieces_58 hj (Nat.le_of_ble_eq_true rfl) (Nat.le_of_ble_eq_true rfl) (Nat.le_of_ble_eq_true rfl) rfl rfl (Nat.le_of_ble_eq_true rfl) (Nat.le_of_ble_eq_true rfl) rfl ?_
  refine s_X3_letSpiesSee hj hA3 hx hy hne (fun M4 hA4 hf4 => hGo_i ?_)
  refine G_iret dX3_swapPieces_61 rfl rfl (Nat.le_of_ble_eq_true rfl) (Nat.le_of_ble_eq_true rfl) ?_
  exact h M4 hA4 (((hf1.mono dC_S2).trans (hf2.mono dC_S2)).trans ((Fr.rfl.upC (by decide) (by decide)).trans hf4))
def lendA (A : Ab) (x y s n : Nat) : Ab := (seeA (tallyA (giveA A x y s n) 3 1) x y).sD (lendD A.d (nI y) (nI x) (nI (1 - s)) (nI n))
theorem s_X3_lendPieces {x y s n : Nat} (hj : j < 10) (hA : CR M j A) (hx : x < A.n) (hy : y < A.n) (hs : s < 2) (hne : x ≠ y) (hn : n ≤ (A.s (2 * x + s)).length) (hr : (A.s (2 * y + s)).length + n ≤ 20) (hc : canG A.d (nI y) (nI x) (nI (1 - s)) (nI n)) (h : ∀ M', CR M' j (lendA A x y s n) → Fr (dC j) M M' → P (.inl (some (.int (lendV A.d (nI y) (nI x) (nI (1 - s)) (nI n))))) M') : Sp E yX3_lendPieces cX3_lendPieces zX3_lendPieces [.ref (ad E 7 j 0), .int (nI x), .int (nI y), .int (nI s), .int (nI n)] M P := by
  have h12 := hA.n12
  refine Sp_of (own := RX3) (by decide) rfl rfl (Nat.le_of_ble_eq_true rfl) (fun C => ?_)
  refine G_aload_n dX3_lendPieces_0 rfl ?_
  refine gf_X3_11 dX3_lendPieces_1 hj ?_
  refine G_iload_n dX3_lendPieces_4 rfl ?_
  refine G_aald dX3_lendPieces_5 ⟨hj, rfl⟩ rfl rfl rfl (show x < 12 by omega) (by decide) rfl ?_
  refine G_iload_n dX3_lendPieces_6 rfl ?_
  refine cv_X3_135 (cs' := 0) (ss' := 0) dX3_lendPieces_7 hj (show x < 12 by omega) (Nat.le_of_ble_eq_true rfl) (Nat.le_of_ble_eq_true rfl) (Nat.le_of_ble_eq_true rfl) rfl rfl (Nat.le_of_ble_eq_true rfl) (Nat.le_of_ble_eq_true rfl) rfl ?_
  refine s_X1_satchel hj (by omega) hs (hGo_a ?_)
  refine G_aload_n dX3_lendPieces_10 rfl ?_
  refine gf_X3_11 dX3_lendPieces_11 hj ?_
  refine G_iload_n dX3_lendPieces_14 rfl ?_
  refine G_aald dX3_lendPieces_15 ⟨hj, rfl⟩ rfl rfl rfl (show y < 12 by omega) (by decide) rfl ?_
  refine G_iload_n dX3_lendPieces_16 rfl ?_
  refine cv_X3_135 (cs' := 0) (ss' := 0) dX3_lendPieces_17 hj (show y < 12 by omega) (Nat.le_of_ble_eq_true rfl) (Nat.le_of_ble_eq_true rfl) (Nat.le_of_ble_eq_true rfl) rfl rfl (Nat.le_of_ble_eq_true rfl) (Nat.le_of_ble_eq_true rfl) rfl ?_
  refine s_X1_satchel hj (by omega) hs (hGo_a ?_)
  refine G_iload dX3_lendPieces_20 rfl ?_
  refine cv_X3_211 (cs' := 0) (ss' := 0) dX3_lendPieces_22 hj (show 2 * x + s < 24 by omega) (Nat.le_of_ble_eq_true rfl) (Nat.le_of_ble_eq_true rfl) (Nat.le_of_ble_eq_true rfl) rfl rfl (Nat.le_of_ble_eq_true rfl) (Nat.le_of_ble_eq_true rfl) rfl ?_
  refine s_X2_giveEldest hj (by omega) (show 2 * y + s < 24 by omega) (show 2 * x + s ≠ 2 * y + s by omega) (hA.s hx hs) (hA.s hy hs) hn hr (fun M1 h1 h2 hf1 => hGo_v ?_)
  have hA1 : CR M1 j (giveA A x y s n) := hA.upS2 (by omega) h1 h2 hf1
  refine G_aload_n dX3_lendPieces_25 rfl ?_
  refine gf_X3_24 dX3_lendPieces_26 hj ?_
  refine G_iconst (v := 3) dX3_lendPieces_29 (by decide) ?_
  refine G_dup2 dX3_lendPieces_30 rfl rfl ?_
  refine G_iald dX3_lendPieces_31 ⟨hj, rfl⟩ rfl (rfl : (3 : Int32) = nI 3) (by decide) (by decide) ?_
  refine G_iconst (v := 1) dX3_lendPieces_32 (by decide) ?_
  refine G_iadd dX3_lendPieces_33 ?_
  refine G_iast dX3_lendPieces_34 ⟨hj, rfl⟩ (fun _ => rfl) (rfl : (3 : Int32) = nI 3) (by decide) (by decide) ?_
  rw [show M1.1 11 j 0 3 = (giveA A x y s n).g (7 + 3) from hA1.tl (t := 3) (by decide)]
  have hA3 := hA1.upT (t := 3) (v := (giveA A x y s n).g (7 + 3) + 1) (by decide)
  refine G_aload_n dX3_lendPieces_35 rfl ?_
  refine G_iload_n dX3_lendPieces_36 rfl ?_
  refine G_iload_n dX3_lendPieces_37 rfl ?_
  refine cv_X3_215 (cs' := 0) (ss' := 0) dX3_lendPieces_38 hj (Nat.le_of_ble_eq_true rfl) (Nat.le_of_ble_eq_true rfl) (Nat.le_of_ble_eq_true rfl) rfl rfl (Nat.le_of_ble_eq_true rfl) (Nat.le_of_ble_eq_true rfl) rfl ?_
  refine s_X3_letSpiesSee hj hA3 hx hy hne (fun M4 hA4 hf4 => hGo_i ?_)
  refine G_pop dX3_lendPieces_41 rfl ?_
  refine G_aload_n dX3_lendPieces_42 rfl ?_
  refine gf_X3_20 dX3_lendPieces_43 hj ?_
  refine G_iload_n dX3_lendPieces_46 rfl ?_
  refine G_iload_n dX3_lendPieces_47 rfl ?_
  refine G_iload_n dX3_lendPieces_48 rfl ?_
  refine cv_X3_197 (cs' := 0) (ss' := 0) dX3_lendPieces_49  (Nat.le_of_ble_eq_true rfl) (Nat.le_of_ble_eq_true rfl) (Nat.le_of_ble_eq_true rfl) rfl rfl (Nat.le_of_ble_eq_true rfl) (Nat.le_of_ble_eq_true rfl) rfl ?_
  refine s_X3_otherSubject hs (hGo_i ?_)
  refine G_iload dX3_lendPieces_52 rfl ?_
  refine cv_X3_218 (cs' := 0) (ss' := 0) dX3_lendPieces_54 hj (Nat.le_of_ble_eq_true rfl) (Nat.le_of_ble_eq_true rfl) (Nat.le_of_ble_eq_true rfl) rfl rfl (Nat.le_of_ble_eq_true rfl) (Nat.le_of_ble_eq_true rfl) rfl ?_
  refine s_X0_growOne hj hA4.d hc (fun M5 h5 hf5 => hGo_i ?_)
  refine G_iret dX3_lendPieces_57 rfl rfl (Nat.le_of_ble_eq_true rfl) (Nat.le_of_ble_eq_true rfl) ?_
  exact h M5 (hA4.upD h5 hf5) (((hf1.mono dC_S2).trans ((Fr.rfl.upC (by decide) (by decide)).trans hf4)).trans (hf5.mono dC_D))
def payA (A : Ab) (x y s n : Nat) : Ab := (seeA (tallyA (giveA A x y s n) 4 (nI n)) x y).sD (payD A.d (nI x) (nI y) (nI s) (nI n))
theorem s_X3_payPieces {x y s n : Nat} (hj : j < 10) (hA : CR M j A) (hx : x < A.n) (hy : y < A.n) (hs : s < 2) (hne : x ≠ y) (hn : n ≤ (A.s (2 * x + s)).length) (hr : (A.s (2 * y + s)).length + n ≤ 20) (hc : fnd A.d (nI x) (nI y) (nI s) ≠ -1) (h : ∀ M', CR M' j (payA A x y s n) → Fr (dC j) M M' → P (.inl (some (.int (payV A.d (nI x) (nI y) (nI s) (nI n))))) M') : Sp E yX3_payPieces cX3_payPieces zX3_payPieces [.ref (ad E 7 j 0), .int (nI x), .int (nI y), .int (nI s), .int (nI n)] M P := by
  have h12 := hA.n12
  refine Sp_of (own := RX3) (by decide) rfl rfl (Nat.le_of_ble_eq_true rfl) (fun C => ?_)
  refine G_aload_n dX3_payPieces_0 rfl ?_
  refine gf_X3_11 dX3_payPieces_1 hj ?_
  refine G_iload_n dX3_payPieces_4 rfl ?_
  refine G_aald dX3_payPieces_5 ⟨hj, rfl⟩ rfl rfl rfl (show x < 12 by omega) (by decide) rfl ?_
  refine G_iload_n dX3_payPieces_6 rfl ?_
  refine cv_X3_135 (cs' := 0) (ss' := 0) dX3_payPieces_7 hj (show x < 12 by omega) (Nat.le_of_ble_eq_true rfl) (Nat.le_of_ble_eq_true rfl) (Nat.le_of_ble_eq_true rfl) rfl rfl (Nat.le_of_ble_eq_true rfl) (Nat.le_of_ble_eq_true rfl) rfl ?_
  refine s_X1_satchel hj (by omega) hs (hGo_a ?_)
  refine G_aload_n dX3_payPieces_10 rfl ?_
  refine gf_X3_11 dX3_payPieces_11 hj ?_
  refine G_iload_n dX3_payPieces_14 rfl ?_
  refine G_aald dX3_payPieces_15 ⟨hj, rfl⟩ rfl rfl rfl (show y < 12 by omega) (by decide) rfl ?_
  refine G_iload_n dX3_payPieces_16 rfl ?_
  refine cv_X3_135 (cs' := 0) (ss' := 0) dX3_payPieces_17 hj (show y < 12 by omega) (Nat.le_of_ble_eq_true rfl) (Nat.le_of_ble_eq_true rfl) (Nat.le_of_ble_eq_true rfl) rfl rfl (Nat.le_of_ble_eq_true rfl) (Nat.le_of_ble_eq_true rfl) rfl ?_
  refine s_X1_satchel hj (by omega) hs (hGo_a ?_)
  refine G_iload dX3_payPieces_20 rfl ?_
  refine cv_X3_211 (cs' := 0) (ss' := 0) dX3_payPieces_22 hj (show 2 * x + s < 24 by omega) (Nat.le_of_ble_eq_true rfl) (Nat.le_of_ble_eq_true rfl) (Nat.le_of_ble_eq_true rfl) rfl rfl (Nat.le_of_ble_eq_true rfl) (Nat.le_of_ble_eq_true rfl) rfl ?_
  refine s_X2_giveEldest hj (by omega) (show 2 * y + s < 24 by omega) (show 2 * x + s ≠ 2 * y + s by omega) (hA.s hx hs) (hA.s hy hs) hn hr (fun M1 h1 h2 hf1 => hGo_v ?_)
  have hA1 : CR M1 j (giveA A x y s n) := hA.upS2 (by omega) h1 h2 hf1
  refine G_aload_n dX3_payPieces_25 rfl ?_
  refine gf_X3_24 dX3_payPieces_26 hj ?_
  refine G_iconst (v := 4) dX3_payPieces_29 (by decide) ?_
  refine G_dup2 dX3_payPieces_30 rfl rfl ?_
  refine G_iald dX3_payPieces_31 ⟨hj, rfl⟩ rfl (rfl : (4 : Int32) = nI 4) (by decide) (by decide) ?_
  refine G_iload dX3_payPieces_32 rfl ?_
  refine G_iadd dX3_payPieces_34 ?_
  refine G_iast dX3_payPieces_35 ⟨hj, rfl⟩ (fun _ => rfl) (rfl : (4 : Int32) = nI 4) (by decide) (by decide) ?_
  rw [show M1.1 11 j 0 4 = (giveA A x y s n).g (7 + 4) from hA1.tl (t := 4) (by decide)]
  have hA3 := hA1.upT (t := 4) (v := (giveA A x y s n).g (7 + 4) + nI n) (by decide)
  refine G_aload_n dX3_payPieces_36 rfl ?_
  refine G_iload_n dX3_payPieces_37 rfl ?_
  refine G_iload_n dX3_payPieces_38 rfl ?_
  refine cv_X3_215 (cs' := 0) (ss' := 0) dX3_payPieces_39 hj (Nat.le_of_ble_eq_true rfl) (Nat.le_of_ble_eq_true rfl) (Nat.le_of_ble_eq_true rfl) rfl rfl (Nat.le_of_ble_eq_true rfl) (Nat.le_of_ble_eq_true rfl) rfl ?_
  refine s_X3_letSpiesSee hj hA3 hx hy hne (fun M4 hA4 hf4 => hGo_i ?_)
  refine G_pop dX3_payPieces_42 rfl ?_
  refine G_aload_n dX3_payPieces_43 rfl ?_
  refine gf_X3_20 dX3_payPieces_44 hj ?_
  refine G_iload_n dX3_payPieces_47 rfl ?_
  refine G_iload_n dX3_payPieces_48 rfl ?_
  refine G_iload_n dX3_payPieces_49 rfl ?_
  refine G_iload dX3_payPieces_50 rfl ?_
  refine cv_X3_221 (cs' := 0) (ss' := 0) dX3_payPieces_52 hj (Nat.le_of_ble_eq_true rfl) (Nat.le_of_ble_eq_true rfl) (Nat.le_of_ble_eq_true rfl) rfl rfl (Nat.le_of_ble_eq_true rfl) (Nat.le_of_ble_eq_true rfl) rfl ?_
  refine s_X0_shrinkOne hj hA4.d hc (fun M5 h5 hf5 => hGo_i ?_)
  refine G_iret dX3_payPieces_55 rfl rfl (Nat.le_of_ble_eq_true rfl) (Nat.le_of_ble_eq_true rfl) ?_
  exact h M5 (hA4.upD h5 hf5) (((hf1.mono dC_S2).trans ((Fr.rfl.upC (by decide) (by decide)).trans hf4)).trans (hf5.mono dC_D))
def seatA (A : Ab) (x : Nat) (r t : Int32) : Ab := (A.sF x 0 r).sF x 1 t
theorem s_X3_seatPupil {x : Nat} {r t : Int32} (hj : j < 10) (hA : CR M j A) (hx : x < A.n) (h : ∀ M', CR M' j (seatA A x r t) → Fr (dC j) M M' → P (.inl (some (.int (bc (nearsV (seatA A x r t) x))))) M') : Sp E yX3_seatPupil cX3_seatPupil zX3_seatPupil [.ref (ad E 7 j 0), .int (nI x), .int r, .int t] M P := by
  have h12 := hA.n12
  refine Sp_of (own := RX3) (by decide) rfl rfl (Nat.le_of_ble_eq_true rfl) (fun C => ?_)
  refine G_aload_n dX3_seatPupil_0 rfl ?_
  refine gf_X3_11 dX3_seatPupil_1 hj ?_
  refine G_iload_n dX3_seatPupil_4 rfl ?_
  refine G_aald dX3_seatPupil_5 ⟨hj, rfl⟩ rfl rfl rfl (show x < 12 by omega) (by decide) rfl ?_
  refine G_iload_n dX3_seatPupil_6 rfl ?_
  refine G_iload_n dX3_seatPupil_7 rfl ?_
  refine cv_X3_121 (cs' := 0) (ss' := 0) dX3_seatPupil_8 hj (show x < 12 by omega) (Nat.le_of_ble_eq_true rfl) (Nat.le_of_ble_eq_true rfl) (Nat.le_of_ble_eq_true rfl) rfl rfl (Nat.le_of_ble_eq_true rfl) (Nat.le_of_ble_eq_true rfl) rfl ?_
  refine s_X1_sitOn hj (by omega) (hGo_v ?_)
  have hA1 : CR ((M.up 12 j x 3 r).up 12 j x 4 t) j (seatA A x r t) := (hA.upF (t := 0) (by decide)).upF (t := 1) (by decide)
  refine G_aload_n dX3_seatPupil_11 rfl ?_
  refine G_iload_n dX3_seatPupil_12 rfl ?_
  refine cv_X3_224 (cs' := 0) (ss' := 0) dX3_seatPupil_13 hj (Nat.le_of_ble_eq_true rfl) (Nat.le_of_ble_eq_true rfl) (Nat.le_of_ble_eq_true rfl) rfl rfl (Nat.le_of_ble_eq_true rfl) (Nat.le_of_ble_eq_true rfl) rfl ?_
  refine s_X3_pupilsNear hj hA1 hx (hGo_i ?_)
  refine cv_bc dX3_seatPupil_16 (hqx 1275 (by decide +kernel) rfl) (Nat.le_of_ble_eq_true rfl) (Nat.le_of_ble_eq_true rfl) (Nat.le_of_ble_eq_true rfl) (Nat.le_of_ble_eq_true rfl) (Nat.le_of_ble_eq_true rfl) rfl ?_
  refine G_iret dX3_seatPupil_19 rfl rfl (Nat.le_of_ble_eq_true rfl) (Nat.le_of_ble_eq_true rfl) ?_
  exact h _ hA1 ((Fr.rfl.upC (by decide) (by decide)).upC (by decide) (by decide))
-- the end of a week
def handA (A : Ab) (x : Nat) : Ab := ((((A.sF x 7 (A.f x 7 + (A.g 4 - nI (hdN A x 0) + A.g 5 - nI (hdN A x 1)))).sF x 6 (A.f x 6 + growV A x)).sS (2 * x) ((A.s (2 * x)).drop (hdN A x 0))).sS (2 * x + 1) ((A.s (2 * x + 1)).drop (hdN A x 1))).sG 12 (A.g 12 + (nI (hdN A x 0) + nI (hdN A x 1)))
theorem s_X3_handIn {x : Nat} (hj : j < 10) (hA : CR M j A) (hx : x < A.n) (h4 : 0 ≤ A.g 4) (h5 : 0 ≤ A.g 5) (h : ∀ M', CR M' j (handA A x) → Fr (dC j) M M' → P (.inl none) M') : Sp E yX3_handIn cX3_handIn zX3_handIn [.ref (ad E 7 j 0), .ref (ad E 12 j x)] M P := by
  have h12 := hA.n12
  have e7 : M.1 12 j x 8 = A.f x 7 := hA.f hx 7 (by decide)
  have eg4 : M.1 7 j 0 7 = A.g 4 := hA.g (t := 3) (by decide)
  have eg5 : M.1 7 j 0 8 = A.g 5 := hA.g (t := 4) (by decide)
  refine Sp_of (own := RX3) (by decide) rfl rfl (Nat.le_of_ble_eq_true rfl) (fun C => ?_)
  refine G_aload_n dX3_handIn_0 rfl ?_
  refine G_aload_n dX3_handIn_1 rfl ?_
  refine G_iconst (v := 0) dX3_handIn_2 (by decide) ?_
  refine cv_X3_238 (cs' := 0) (ss' := 0) dX3_handIn_3 hj (Nat.le_of_ble_eq_true rfl) (Nat.le_of_ble_eq_true rfl) (Nat.le_of_ble_eq_true rfl) rfl rfl (Nat.le_of_ble_eq_true rfl) (Nat.le_of_ble_eq_true rfl) rfl ?_
  refine s_X3_handedIn (s := 0) hj hA hx (by decide) (hGo_i ?_)
  rw [hd_N (s := 0) (hA.s hx (t := 0) (by decide)).2.1 h4]
  refine G_istore_n dX3_handIn_6 (Nat.le_of_ble_eq_true rfl) ?_
  refine G_aload_n dX3_handIn_7 rfl ?_
  refine G_aload_n dX3_handIn_8 rfl ?_
  refine G_iconst (v := 1) dX3_handIn_9 (by decide) ?_
  refine cv_X3_238 (cs' := 0) (ss' := 0) dX3_handIn_10 hj (Nat.le_of_ble_eq_true rfl) (Nat.le_of_ble_eq_true rfl) (Nat.le_of_ble_eq_true rfl) rfl rfl (Nat.le_of_ble_eq_true rfl) (Nat.le_of_ble_eq_true rfl) rfl ?_
  refine s_X3_handedIn (s := 1) hj hA hx (by decide) (hGo_i ?_)
  rw [hd_N (s := 1) (hA.s hx (t := 1) (by decide)).2.1 h5]
  refine G_istore_n dX3_handIn_13 (Nat.le_of_ble_eq_true rfl) ?_
  refine G_aload_n dX3_handIn_14 rfl ?_
  refine G_dup dX3_handIn_15 rfl ?_
  refine gf_X3_145 dX3_handIn_16 hj (show x < 12 by omega) ?_
  refine G_aload_n dX3_handIn_19 rfl ?_
  refine gf_X3_57 dX3_handIn_20 hj ?_
  refine G_iload_n dX3_handIn_23 rfl ?_
  refine G_isub dX3_handIn_24 ?_
  refine G_aload_n dX3_handIn_25 rfl ?_
  refine gf_X3_60 dX3_handIn_26 hj ?_
  refine G_iadd dX3_handIn_29 ?_
  rw [e7, eg4, eg5]
  refine G_iload_n dX3_handIn_30 rfl ?_
  refine G_isub dX3_handIn_31 ?_
  refine G_iadd dX3_handIn_32 ?_
  refine pf_X3_145 dX3_handIn_33 hj (show x < 12 by omega) ?_
  refine G_aload_n dX3_handIn_36 rfl ?_
  refine G_dup dX3_handIn_37 rfl ?_
  refine gf_X3_242 dX3_handIn_38 hj (show x < 12 by omega) ?_
  have hA1 := hA.upF (p := x) (t := 7) (v := A.f x 7 + (A.g 4 - nI (hdN A x 0) + A.g 5 - nI (hdN A x 1))) (by decide)
  have hf1 : Fr (dC j) M (M.up 12 j x (pF 7) (A.f x 7 + (A.g 4 - nI (hdN A x 0) + A.g 5 - nI (hdN A x 1)))) := Fr.rfl.upC (by decide) (by decide)
  have e6 : (M.up 12 j x 8 (A.f x 7 + (A.g 4 - nI (hdN A x 0) + A.g 5 - nI (hdN A x 1)))).1 12 j x 7 = A.f x 6 := (up_t (by decide)).trans (hA.f hx 6 (by decide))
  rw [e6]
  refine G_aload_n dX3_handIn_41 rfl ?_
  refine G_iload_n dX3_handIn_42 rfl ?_
  refine G_iload_n dX3_handIn_43 rfl ?_
  refine cv_X3_245 (cs' := 0) (ss' := 0) dX3_handIn_44 hj (show x < 12 by omega) (Nat.le_of_ble_eq_true rfl) (Nat.le_of_ble_eq_true rfl) (Nat.le_of_ble_eq_true rfl) rfl rfl (Nat.le_of_ble_eq_true rfl) (Nat.le_of_ble_eq_true rfl) rfl ?_
  refine s_X1_proofOf hj (by omega) (hA1.pup hx) (Nat.min_le_right _ _) (Nat.min_le_right _ _) (hGo_i ?_)
  refine G_iadd dX3_handIn_47 ?_
  refine pf_X3_242 dX3_handIn_48 hj (show x < 12 by omega) ?_
  refine G_aload_n dX3_handIn_51 rfl ?_
  refine gf_X3_186 dX3_handIn_52 hj (show x < 12 by omega) ?_
  refine G_iload_n dX3_handIn_55 rfl ?_
  refine cv_X3_248 (cs' := 0) (ss' := 0) dX3_handIn_56 hj (show 2 * x < 24 by omega) (Nat.le_of_ble_eq_true rfl) (Nat.le_of_ble_eq_true rfl) (Nat.le_of_ble_eq_true rfl) rfl rfl (Nat.le_of_ble_eq_true rfl) (Nat.le_of_ble_eq_true rfl) rfl ?_
  have hA2 := hA1.upF (p := x) (t := 6) (v := A.f x 6 + growV A x) (by decide)
  have hf2 : Fr (dC j) M ((M.up 12 j x (pF 7) (A.f x 7 + (A.g 4 - nI (hdN A x 0) + A.g 5 - nI (hdN A x 1)))).up 12 j x (pF 6) (A.f x 6 + growV A x)) := hf1.upC (by decide) (by decide)
  refine s_X2_dropEldest hj (by omega) (hA2.s hx (t := 0) (by decide)) (Nat.min_le_right _ _) (fun M3 h3 hf3 => hGo_v ?_)
  have hA3 := hA2.upS h3 hf3
  refine G_aload_n dX3_handIn_59 rfl ?_
  refine gf_X3_190 dX3_handIn_60 hj (show x < 12 by omega) ?_
  refine G_iload_n dX3_handIn_63 rfl ?_
  refine cv_X3_248 (cs' := 0) (ss' := 0) dX3_handIn_64 hj (show 2 * x + 1 < 24 by omega) (Nat.le_of_ble_eq_true rfl) (Nat.le_of_ble_eq_true rfl) (Nat.le_of_ble_eq_true rfl) rfl rfl (Nat.le_of_ble_eq_true rfl) (Nat.le_of_ble_eq_true rfl) rfl ?_
  have es : ((((A.sF x 7 (A.f x 7 + (A.g 4 - nI (hdN A x 0) + A.g 5 - nI (hdN A x 1)))).sF x 6 (A.f x 6 + growV A x)).sS (2 * x) ((A.s (2 * x)).drop (hdN A x 0))).s (2 * x + 1)) = A.s (2 * x + 1) := by
    show (if 2 * x + 1 = 2 * x then _ else _) = _
    rw [if_neg (by omega)]
    rfl
  have hs1 : Sat M3 j (2 * x + 1) ((((A.sF x 7 (A.f x 7 + (A.g 4 - nI (hdN A x 0) + A.g 5 - nI (hdN A x 1)))).sF x 6 (A.f x 6 + growV A x)).sS (2 * x) ((A.s (2 * x)).drop (hdN A x 0))).s (2 * x + 1)) := hA3.s hx (t := 1) (by decide)
  rw [es] at hs1
  refine s_X2_dropEldest hj (by omega) hs1 (Nat.min_le_right _ _) (fun M4 h4' hf4 => hGo_v ?_)
  have hA4 := hA3.upS (q := 2 * x + 1) (L := (A.s (2 * x + 1)).drop (hdN A x 1)) h4' hf4
  refine G_aload_n dX3_handIn_67 rfl ?_
  refine gf_X3_24 dX3_handIn_68 hj ?_
  refine G_iconst (v := 5) dX3_handIn_71 (by decide) ?_
  refine G_dup2 dX3_handIn_72 rfl rfl ?_
  refine G_iald dX3_handIn_73 ⟨hj, rfl⟩ rfl (rfl : (5 : Int32) = nI 5) (by decide) (by decide) ?_
  refine G_iload_n dX3_handIn_74 rfl ?_
  refine G_iload_n dX3_handIn_75 rfl ?_
  refine G_iadd dX3_handIn_76 ?_
  refine G_iadd dX3_handIn_77 ?_
  refine G_iast dX3_handIn_78 ⟨hj, rfl⟩ (fun _ => rfl) (rfl : (5 : Int32) = nI 5) (by decide) (by decide) ?_
  rw [show M4.1 11 j 0 5 = A.g 12 from hA4.tl (t := 5) (by decide)]
  have hA5 := hA4.upT (t := 5) (v := A.g 12 + (nI (hdN A x 0) + nI (hdN A x 1))) (by decide)
  refine G_vret dX3_handIn_79 rfl (Nat.le_of_ble_eq_true rfl) (Nat.le_of_ble_eq_true rfl) ?_
  exact h _ hA5 (((hf2.trans (hf3.mono dC_S)).trans (hf4.mono dC_S)).upC (by decide) (by decide))
end CACT
