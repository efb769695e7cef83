/-! ===== HomeworkBarter$Debts ===== -/
section CDEB
theorem G_dup2 {E : Ed} {C : Cx} {own : String} {b : ByteArray} {z : Zd} {P : Res → Mm → Prop} {cs ss pc : Nat} {M : Mm} {lv : List (Nat × Value)} {st : List Value} {va vb : Value} (d : decode b pc = .ok (.dup2, 1)) (ha : va.category = 1) (hb2 : vb.category = 1) (g : G E C own b z P cs ss M (pc + 1) lv (va :: vb :: va :: vb :: st)) : G E C own b z P cs ss M pc lv (va :: vb :: st) := by
  obtain ⟨p, l, e, s, m, args, below, meth, c, Q⟩ := C
  intro K H locs ls hP hS hl
  exact lv_dup2_11 K.1 K.2.1 d ha hb2 (g K H locs ls hP hS hl)
theorem up_t {M : Mm} {k j p t : Nat} {v : Int32} {k' j' p' t' : Nat} (h : t' ≠ t) : (M.up k j p t v).1 k' j' p' t' = M.1 k' j' p' t' := by
  show mU M.1 k j p t v k' j' p' t' = _
  unfold mU
  rw [if_neg (fun q => h q.2.2.2)]
abbrev De : Type := Int32 × Int32 × Int32 × Int32
def dgE (e : De) : Nat → Int32
  | 0 => e.1
  | 1 => e.2.1
  | 2 => e.2.2.1
  | _ => e.2.2.2
theorem dg_E (d : List De) (i t : Nat) : dg d i t = dgE (d.getD i (0, 0, 0, 0)) t := by
  match t with
  | 0 => rfl
  | 1 => rfl
  | 2 => rfl
  | _ + 3 => rfl
/-- the pieces of debt i become v -/
def setP (d : List De) (i : Nat) (v : Int32) : List De := d.set i (dg d i 0, dg d i 1, dg d i 2, v)
theorem setP_len {d : List De} {i : Nat} {v : Int32} : (setP d i v).length = d.length := List.length_set
theorem dg_setP {d : List De} {i : Nat} {v : Int32} (hi : i < d.length) {k t : Nat} (ht : t < 4) : dg (setP d i v) k t = if k = i ∧ t = 3 then v else dg d k t := by
  rw [dg_E, dg_E]
  unfold setP
  by_cases h : k = i
  · subst h
    rw [List.getD_eq_getElem?_getD, List.getElem?_set_self hi]
    rcases (show t = 0 ∨ t = 1 ∨ t = 2 ∨ t = 3 by omega) with rfl | rfl | rfl | rfl
    · rw [if_neg (fun q => by cases q.2)]; rfl
    · rw [if_neg (fun q => by cases q.2)]; rfl
    · rw [if_neg (fun q => by cases q.2)]; rfl
    · rw [if_pos ⟨rfl, rfl⟩]; rfl
  · rw [if_neg (fun q => h q.1), List.getD_eq_getElem?_getD, List.getD_eq_getElem?_getD, List.getElem?_set_ne (fun q => h q.symm)]
theorem dg_app {d : List De} {e : De} {k t : Nat} : dg (d ++ [e]) k t = if k = d.length then dgE e t else dg d k t := by
  rw [dg_E, dg_E, List.getD_eq_getElem?_getD, List.getD_eq_getElem?_getD]
  by_cases h : k = d.length
  · subst h
    rw [if_pos rfl]
    simp
  · rw [if_neg h]
    by_cases h2 : k < d.length
    · rw [List.getElem?_append_left h2]
    · rw [List.getElem?_eq_none (by simp; omega), List.getElem?_eq_none (by omega)]
theorem dg_erase {d : List De} {i k t : Nat} : dg (d.eraseIdx i) k t = if k < i then dg d k t else dg d (k + 1) t := by
  rw [dg_E, dg_E, dg_E, List.getD_eq_getElem?_getD, List.getD_eq_getElem?_getD, List.getD_eq_getElem?_getD, List.getElem?_eraseIdx]
  by_cases h : k < i
  · rw [if_pos h, if_pos h]
  · rw [if_neg h, if_neg h]
theorem first_cases (n : Nat) (p : Nat → Bool) : (first n p = -1 ∧ ∀ k, k < n → p k = false) ∨ ∃ i, i < n ∧ first n p = nI i ∧ p i = true ∧ ∀ k, k < i → p k = false := by
  cases h : (List.range n).find? p with
  | none =>
    refine Or.inl ⟨by unfold first; rw [h], fun k hk => ?_⟩
    have := List.find?_eq_none.mp h k (List.mem_range.mpr hk)
    simpa using this
  | some i =>
    have h2 := h
    rw [List.find?_range_eq_some] at h2
    refine Or.inr ⟨i, List.mem_range.mp h2.2.1, by unfold first; rw [h], h2.1, fun k hk => ?_⟩
    have := h2.2.2 k hk
    simpa using this
def fP (d : List De) (x y s : Int32) (i : Nat) : Bool := decide (dg d i 0 = x ∧ dg d i 1 = y ∧ dg d i 2 = s)
def fnd (d : List De) (x y s : Int32) : Int32 := first d.length (fP d x y s)
theorem fnd_cases (d : List De) (x y s : Int32) : (fnd d x y s = -1 ∧ ∀ k, k < d.length → fP d x y s k = false) ∨ ∃ i, i < d.length ∧ fnd d x y s = nI i ∧ fP d x y s i = true ∧ ∀ k, k < i → fP d x y s k = false := first_cases _ _
def owedV (d : List De) (x y s : Int32) : Int32 := if fnd d x y s = -1 then 0 else dg d (fnd d x y s).toNatClampNeg 3
theorem nI_nm1 {i : Nat} (h : i < 2 ^ 31) : nI i ≠ -1 := by
  intro e
  have := congrArg Int32.toInt e
  rw [nI_toInt h] at this
  have h2 : (-1 : Int32).toInt = -1 := by decide
  omega
variable {E : Ed} {M : Mm} {P : Res → Mm → Prop} {j : Nat} {d : List De}
def dD (j : Nat) : Nat → Nat → Nat → Prop := fun k j' _ => (k = 9 ∨ k = 10) ∧ j' = j
theorem Dbt.setP {i : Nat} {v : Int32} (h : Dbt M j d) (hi : i < d.length) : Dbt (M.up 10 j 3 i v) j (setP d i v) := by
  refine ⟨?_, ?_, fun k hk t ht => ?_⟩
  · rw [up_nk (k' := 9) (by decide), setP_len]; exact h.1
  · rw [setP_len]; exact h.2.1
  · rw [setP_len] at hk
    rw [dg_setP hi ht]
    by_cases h3 : t = 3
    · subst h3
      by_cases h4 : k = i
      · subst h4
        rw [up_at, if_pos ⟨rfl, rfl⟩]
      · rw [up_nt h4, if_neg (fun q => h4 q.1)]
        exact h.2.2 k hk 3 ht
    · rw [up_np h3, if_neg (fun q => h3 q.2)]
      exact h.2.2 k hk t ht
theorem s_X0_find {x y s : Int32} (hj : j < 10) (hd : Dbt M j d) (h : P (.inl (some (.int (fnd d x y s)))) M) : Sp E yX0_find cX0_find zX0_find [.ref (ad E 9 j 0), .int x, .int y, .int s] M P := by
  have h30 := hd.2.1
  refine Sp_of (own := RX0) (by decide) rfl rfl (Nat.le_of_ble_eq_true rfl) (fun C => ?_)
  refine G_iconst (v := 0) dX0_find_0 (by decide) ?_
  refine G_istore dX0_find_1 (Nat.le_of_ble_eq_true rfl) ?_
  refine G_lv (lv' := [(0, .ref (ad E 9 j 0)), (1, .int x), (2, .int y), (3, .int s), (4, .int (nI 0))]) ⟨rfl, rfl, rfl, rfl, rfl, trivial⟩ ?_
  refine up0 (c := d.length) (H := fun i => (∀ k, k < i → fP d x y s k = false) → G E C RX0 cX0_find zX0_find P 0 0 M 3 [(0, .ref (ad E 9 j 0)), (1, .int x), (2, .int y), (3, .int s), (4, .int (nI i))] []) ?_ (fun i hi ih => ?_) (fun k hk => absurd hk (Nat.not_lt_zero k))
  · intro hn
    refine G_iload dX0_find_3 rfl ?_
    refine G_aload_n dX0_find_5 rfl ?_
    refine gf_X0_30 dX0_find_6 hj ?_
    refine G_icmp_ge (tgt := 54) dX0_find_9 (by decide) (fun c9 => ?_) (fun c9 => ?_)
    · refine G_iconst (v := (-1)) dX0_find_54 (by decide) ?_
      refine G_iret dX0_find_55 rfl rfl (Nat.le_of_ble_eq_true rfl) (Nat.le_of_ble_eq_true rfl) ?_
      rw [show fnd d x y s = -1 from first_none hn] at h
      exact h
    · rw [hd.1] at c9
      exact absurd (Int32.le_refl _) c9
  · intro hn
    have next : fP d x y s i = false → G E C RX0 cX0_find zX0_find P 0 0 M 48 [(0, .ref (ad E 9 j 0)), (1, .int x), (2, .int y), (3, .int s), (4, .int (nI i))] [] := by
      intro hp
      refine G_iinc (v := 1) dX0_find_48 rfl (Nat.le_of_ble_eq_true rfl) (by decide) ?_
      refine G_goto (tgt := 3) dX0_find_51 (by decide) ?_
      refine G_lv ?_ (ih (fun k hk => (Nat.lt_succ_iff_lt_or_eq.mp hk).elim (hn k) (fun q => q ▸ hp)))
      exact ⟨rfl, rfl, rfl, rfl, lvi (nI_1 i), trivial⟩
    refine G_iload dX0_find_3 rfl ?_
    refine G_aload_n dX0_find_5 rfl ?_
    refine gf_X0_30 dX0_find_6 hj ?_
    refine G_icmp_ge (tgt := 54) dX0_find_9 (by decide) (fun c9 => ?_) (fun c9 => ?_)
    · rw [hd.1] at c9
      exact absurd c9 (nI_ge hi (by omega))
    · refine G_aload_n dX0_find_12 rfl ?_
      refine gf_X0_9 dX0_find_13 hj ?_
      refine G_iload dX0_find_16 rfl ?_
      refine G_iald dX0_find_18 ⟨hj, (by decide)⟩ rfl rfl (show i < 30 by omega) (by decide) ?_
      refine G_iload_n dX0_find_19 rfl ?_
      refine G_icmp_ne (tgt := 48) dX0_find_20 (by decide) (fun c20 => ?_) (fun c20 => ?_)
      · refine next (decide_eq_false (fun q => c20 ?_))
        rw [hd.2.2 i hi 0 (by decide)]
        exact q.1
      · refine G_aload_n dX0_find_23 rfl ?_
        refine gf_X0_15 dX0_find_24 hj ?_
        refine G_iload dX0_find_27 rfl ?_
        refine G_iald dX0_find_29 ⟨hj, (by decide)⟩ rfl rfl (show i < 30 by omega) (by decide) ?_
        refine G_iload_n dX0_find_30 rfl ?_
        refine G_icmp_ne (tgt := 48) dX0_find_31 (by decide) (fun c31 => ?_) (fun c31 => ?_)
        · refine next (decide_eq_false (fun q => c31 ?_))
          rw [hd.2.2 i hi 1 (by decide)]
          exact q.2.1
        · refine G_aload_n dX0_find_34 rfl ?_
          refine gf_X0_18 dX0_find_35 hj ?_
          refine G_iload dX0_find_38 rfl ?_
          refine G_iald dX0_find_40 ⟨hj, (by decide)⟩ rfl rfl (show i < 30 by omega) (by decide) ?_
          refine G_iload_n dX0_find_41 rfl ?_
          refine G_icmp_ne (tgt := 48) dX0_find_42 (by decide) (fun c42 => ?_) (fun c42 => ?_)
          · refine next (decide_eq_false (fun q => c42 ?_))
            rw [hd.2.2 i hi 2 (by decide)]
            exact q.2.2
          · refine G_iload dX0_find_45 rfl ?_
            refine G_iret dX0_find_47 rfl rfl (Nat.le_of_ble_eq_true rfl) (Nat.le_of_ble_eq_true rfl) ?_
            rw [hd.2.2 i hi 0 (by decide)] at c20
            rw [hd.2.2 i hi 1 (by decide)] at c31
            rw [hd.2.2 i hi 2 (by decide)] at c42
            rw [show fnd d x y s = nI i from first_at hi hn (decide_eq_true ⟨c20, c31, c42⟩)] at h
            exact h
theorem s_X0_owed {x y s : Int32} (hj : j < 10) (hd : Dbt M j d) (h : P (.inl (some (.int (owedV d x y s)))) M) : Sp E yX0_owed cX0_owed zX0_owed [.ref (ad E 9 j 0), .int x, .int y, .int s] M P := by
  have h30 := hd.2.1
  refine Sp_of (own := RX0) (by decide) rfl rfl (Nat.le_of_ble_eq_true rfl) (fun C => ?_)
  refine G_aload_n dX0_owed_0 rfl ?_
  refine G_iload_n dX0_owed_1 rfl ?_
  refine G_iload_n dX0_owed_2 rfl ?_
  refine G_iload_n dX0_owed_3 rfl ?_
  refine cv_X0_34 (cs' := 0) (ss' := 0) dX0_owed_4 hj (Nat.le_of_ble_eq_true rfl) (Nat.le_of_ble_eq_true rfl) (Nat.le_of_ble_eq_true rfl) rfl rfl (Nat.le_of_ble_eq_true rfl) (Nat.le_of_ble_eq_true rfl) rfl ?_
  refine s_X0_find hj hd (hGo_i ?_)
  refine G_istore dX0_owed_7 (Nat.le_of_ble_eq_true rfl) ?_
  refine G_iload dX0_owed_9 rfl ?_
  refine G_iconst (v := (-1)) dX0_owed_11 (by decide) ?_
  refine G_icmp_ne (tgt := 19) dX0_owed_12 (by decide) (fun c12 => ?_) (fun c12 => ?_)
  · unfold owedV at h
    rw [if_neg c12] at h
    rcases fnd_cases d x y s with ⟨e, -⟩ | ⟨i, hi, e, -⟩
    · exact absurd e c12
    · rw [e] at h ⊢
      rw [nI_clamp (by omega)] at h
      refine G_aload_n dX0_owed_19 rfl ?_
      refine gf_X0_21 dX0_owed_20 hj ?_
      refine G_iload dX0_owed_23 rfl ?_
      refine G_iald dX0_owed_25 ⟨hj, (by decide)⟩ rfl rfl (show i < 30 by omega) (by decide) ?_
      refine G_iret dX0_owed_26 rfl rfl (Nat.le_of_ble_eq_true rfl) (Nat.le_of_ble_eq_true rfl) ?_
      rw [hd.2.2 i hi 3 (by decide)]
      exact h
  · refine G_iconst (v := 0) dX0_owed_15 (by decide) ?_
    refine G_goto (tgt := 26) dX0_owed_16 (by decide) ?_
    refine G_iret dX0_owed_26 rfl rfl (Nat.le_of_ble_eq_true rfl) (Nat.le_of_ble_eq_true rfl) ?_
    unfold owedV at h
    rw [if_pos c12] at h
    exact h
def canG (d : List De) (x y s m : Int32) : Prop := if fnd d x y s = -1 then d.length < 30 else dg d (fnd d x y s).toNatClampNeg 3 + m ≤ 99
theorem s_X0_canGrow {x y s m : Int32} (hj : j < 10) (hd : Dbt M j d) (h1 : canG d x y s m → P (.inl (some (.int 1))) M) (h0 : ¬ canG d x y s m → P (.inl (some (.int 0))) M) : Sp E yX0_canGrow cX0_canGrow zX0_canGrow [.ref (ad E 9 j 0), .int x, .int y, .int s, .int m] M P := by
  have h30 := hd.2.1
  refine Sp_of (own := RX0) (by decide) rfl rfl (Nat.le_of_ble_eq_true rfl) (fun C => ?_)
  refine G_aload_n dX0_canGrow_0 rfl ?_
  refine G_iload_n dX0_canGrow_1 rfl ?_
  refine G_iload_n dX0_canGrow_2 rfl ?_
  refine G_iload_n dX0_canGrow_3 rfl ?_
  refine cv_X0_34 (cs' := 0) (ss' := 0) dX0_canGrow_4 hj (Nat.le_of_ble_eq_true rfl) (Nat.le_of_ble_eq_true rfl) (Nat.le_of_ble_eq_true rfl) rfl rfl (Nat.le_of_ble_eq_true rfl) (Nat.le_of_ble_eq_true rfl) rfl ?_
  refine s_X0_find hj hd (hGo_i ?_)
  unfold canG at h1 h0
  refine G_istore dX0_canGrow_7 (Nat.le_of_ble_eq_true rfl) ?_
  refine G_iload dX0_canGrow_9 rfl ?_
  refine G_iconst (v := (-1)) dX0_canGrow_11 (by decide) ?_
  refine G_icmp_ne (tgt := 32) dX0_canGrow_12 (by decide) (fun c12 => ?_) (fun c12 => ?_)
  · rw [if_neg c12] at h1 h0
    rcases fnd_cases d x y s with ⟨e, -⟩ | ⟨i, hi, e, -⟩
    · exact absurd e c12
    · rw [e, nI_clamp (by omega)] at h1 h0
      rw [e]
      refine G_aload_n dX0_canGrow_32 rfl ?_
      refine gf_X0_21 dX0_canGrow_33 hj ?_
      refine G_iload dX0_canGrow_36 rfl ?_
      refine G_iald dX0_canGrow_38 ⟨hj, (by decide)⟩ rfl rfl (show i < 30 by omega) (by decide) ?_
      refine G_iload dX0_canGrow_39 rfl ?_
      refine G_iadd dX0_canGrow_41 ?_
      refine G_bipush (v := 99) dX0_canGrow_42 (by decide) ?_
      refine G_icmp_gt (tgt := 51) dX0_canGrow_44 (by decide) (fun c44 => ?_) (fun c44 => ?_)
      · refine G_iconst (v := 0) dX0_canGrow_51 (by decide) ?_
        refine G_iret dX0_canGrow_52 rfl rfl (Nat.le_of_ble_eq_true rfl) (Nat.le_of_ble_eq_true rfl) ?_
        rw [hd.2.2 i hi 3 (by decide)] at c44
        exact h0 (Int32.not_le.mpr c44)
      · refine G_iconst (v := 1) dX0_canGrow_47 (by decide) ?_
        refine G_goto (tgt := 52) dX0_canGrow_48 (by decide) ?_
        refine G_iret dX0_canGrow_52 rfl rfl (Nat.le_of_ble_eq_true rfl) (Nat.le_of_ble_eq_true rfl) ?_
        rw [hd.2.2 i hi 3 (by decide)] at c44
        exact h1 (Int32.not_lt.mp c44)
  · rw [if_pos c12] at h1 h0
    refine G_aload_n dX0_canGrow_15 rfl ?_
    refine gf_X0_30 dX0_canGrow_16 hj ?_
    refine G_bipush (v := 30) dX0_canGrow_19 (by decide) ?_
    refine G_icmp_ge (tgt := 28) dX0_canGrow_21 (by decide) (fun c21 => ?_) (fun c21 => ?_)
    · refine G_iconst (v := 0) dX0_canGrow_28 (by decide) ?_
      refine G_goto (tgt := 52) dX0_canGrow_29 (by decide) ?_
      refine G_iret dX0_canGrow_52 rfl rfl (Nat.le_of_ble_eq_true rfl) (Nat.le_of_ble_eq_true rfl) ?_
      rw [hd.1] at c21
      exact h0 (fun q => nI_ge (b := 30) q (by decide) c21)
    · refine G_iconst (v := 1) dX0_canGrow_24 (by decide) ?_
      refine G_goto (tgt := 52) dX0_canGrow_25 (by decide) ?_
      refine G_iret dX0_canGrow_52 rfl rfl (Nat.le_of_ble_eq_true rfl) (Nat.le_of_ble_eq_true rfl) ?_
      rw [hd.1] at c21
      exact h1 (Nat.lt_of_not_le (fun q => c21 (nI_le (a := 30) q (by omega))))
/-- debts behind a loan of m -/
def lendD (d : List De) (x y s m : Int32) : List De := if fnd d x y s = -1 then d ++ [(x, y, s, 0 + m)] else setP d (fnd d x y s).toNatClampNeg (dg d (fnd d x y s).toNatClampNeg 3 + m)
def lendV (d : List De) (x y s m : Int32) : Int32 := if fnd d x y s = -1 then 0 + m else dg d (fnd d x y s).toNatClampNeg 3 + m
theorem s_X0_open {x y s : Int32} (hj : j < 10) (hd : Dbt M j d) (hl : d.length < 30) (h : ∀ M', Dbt M' j (d ++ [(x, y, s, 0)]) → Fr (dD j) M M' → P (.inl (some (.int (nI d.length)))) M') : Sp E yX0_open cX0_open zX0_open [.ref (ad E 9 j 0), .int x, .int y, .int s] M P := by
  refine Sp_of (own := RX0) (by decide) rfl rfl (Nat.le_of_ble_eq_true rfl) (fun C => ?_)
  refine G_aload_n dX0_open_0 rfl ?_
  refine gf_X0_30 dX0_open_1 hj ?_
  refine G_bipush (v := 30) dX0_open_4 (by decide) ?_
  refine G_icmp_lt (tgt := 11) dX0_open_6 (by decide) (fun c6 => ?_) (fun c6 => ?_)
  · refine G_aload_n dX0_open_11 rfl ?_
    refine gf_X0_9 dX0_open_12 hj ?_
    refine G_aload_n dX0_open_15 rfl ?_
    refine gf_X0_30 dX0_open_16 hj ?_
    rw [hd.1]
    refine G_iload_n dX0_open_19 rfl ?_
    refine G_iast dX0_open_20 ⟨hj, (by decide)⟩ (fun _ => rfl) rfl hl (by decide) ?_
    refine G_aload_n dX0_open_21 rfl ?_
    refine gf_X0_15 dX0_open_22 hj ?_
    refine G_aload_n dX0_open_25 rfl ?_
    refine gf_X0_30 dX0_open_26 hj ?_
    rw [up_nk (k' := 9) (by decide), hd.1]
    refine G_iload_n dX0_open_29 rfl ?_
    refine G_iast dX0_open_30 ⟨hj, (by decide)⟩ (fun _ => rfl) rfl hl (by decide) ?_
    refine G_aload_n dX0_open_31 rfl ?_
    refine gf_X0_18 dX0_open_32 hj ?_
    refine G_aload_n dX0_open_35 rfl ?_
    refine gf_X0_30 dX0_open_36 hj ?_
    rw [up_nk (k' := 9) (by decide), up_nk (k' := 9) (by decide), hd.1]
    refine G_iload_n dX0_open_39 rfl ?_
    refine G_iast dX0_open_40 ⟨hj, (by decide)⟩ (fun _ => rfl) rfl hl (by decide) ?_
    refine G_aload_n dX0_open_41 rfl ?_
    refine gf_X0_21 dX0_open_42 hj ?_
    refine G_aload_n dX0_open_45 rfl ?_
    refine gf_X0_30 dX0_open_46 hj ?_
    rw [up_nk (k' := 9) (by decide), up_nk (k' := 9) (by decide), up_nk (k' := 9) (by decide), hd.1]
    refine G_iconst (v := 0) dX0_open_49 (by decide) ?_
    refine G_iast dX0_open_50 ⟨hj, (by decide)⟩ (fun _ => rfl) rfl hl (by decide) ?_
    refine G_aload_n dX0_open_51 rfl ?_
    refine G_dup dX0_open_52 rfl ?_
    refine gf_X0_30 dX0_open_53 hj ?_
    rw [up_nk (k' := 9) (by decide), up_nk (k' := 9) (by decide), up_nk (k' := 9) (by decide), up_nk (k' := 9) (by decide), hd.1]
    refine G_iconst (v := 1) dX0_open_56 (by decide) ?_
    refine G_iadd dX0_open_57 ?_
    refine pf_X0_30 dX0_open_58 hj ?_
    refine G_aload_n dX0_open_61 rfl ?_
    refine gf_X0_30 dX0_open_62 hj ?_
    rw [up_at]
    refine G_iconst (v := 1) dX0_open_65 (by decide) ?_
    refine G_isub dX0_open_66 ?_
    refine G_iret dX0_open_67 rfl rfl (Nat.le_of_ble_eq_true rfl) (Nat.le_of_ble_eq_true rfl) ?_
    rw [show nI d.length + 1 - 1 = nI d.length by rw [nI_1, nI_pred]]
    refine h _ ⟨?_, by simp; omega, fun k hk t ht => ?_⟩ (((((Fr.rfl.up ⟨Or.inr rfl, rfl⟩).up ⟨Or.inr rfl, rfl⟩).up ⟨Or.inr rfl, rfl⟩).up ⟨Or.inr rfl, rfl⟩).up ⟨Or.inl rfl, rfl⟩)
    · rw [up_at, nI_1]; simp
    · rw [up_nk (k' := 10) (by decide), dg_app]
      simp only [List.length_append, List.length_cons, List.length_nil] at hk
      by_cases hk2 : k = d.length
      · subst hk2
        rw [if_pos rfl]
        rcases (show t = 0 ∨ t = 1 ∨ t = 2 ∨ t = 3 by omega) with rfl | rfl | rfl | rfl
        · rw [up_np (by decide), up_np (by decide), up_np (by decide), up_at]; rfl
        · rw [up_np (by decide), up_np (by decide), up_at]; rfl
        · rw [up_np (by decide), up_at]; rfl
        · rw [up_at]; rfl
      · rw [if_neg hk2, up_t hk2, up_t hk2, up_t hk2, up_t hk2]
        exact hd.2.2 k (by omega) t ht
  · rw [hd.1] at c6
    exact absurd (nI_lt hl (by decide)) c6
theorem s_X0_growOne {x y s m : Int32} (hj : j < 10) (hd : Dbt M j d) (hc : canG d x y s m) (h : ∀ M', Dbt M' j (lendD d x y s m) → Fr (dD j) M M' → P (.inl (some (.int (lendV d x y s m)))) M') : Sp E yX0_growOne cX0_growOne zX0_growOne [.ref (ad E 9 j 0), .int x, .int y, .int s, .int m] M P := by
  have h30 := hd.2.1
  unfold canG at hc
  unfold lendD lendV at h
  refine Sp_of (own := RX0) (by decide) rfl rfl (Nat.le_of_ble_eq_true rfl) (fun C => ?_)
  refine G_aload_n dX0_growOne_0 rfl ?_
  refine G_iload_n dX0_growOne_1 rfl ?_
  refine G_iload_n dX0_growOne_2 rfl ?_
  refine G_iload_n dX0_growOne_3 rfl ?_
  refine cv_X0_34 (cs' := 0) (ss' := 0) dX0_growOne_4 hj (Nat.le_of_ble_eq_true rfl) (Nat.le_of_ble_eq_true rfl) (Nat.le_of_ble_eq_true rfl) rfl rfl (Nat.le_of_ble_eq_true rfl) (Nat.le_of_ble_eq_true rfl) rfl ?_
  refine s_X0_find hj hd (hGo_i ?_)
  refine G_istore dX0_growOne_7 (Nat.le_of_ble_eq_true rfl) ?_
  refine G_iload dX0_growOne_9 rfl ?_
  refine G_iconst (v := (-1)) dX0_growOne_11 (by decide) ?_
  refine G_icmp_ne (tgt := 24) dX0_growOne_12 (by decide) (fun c12 => ?_) (fun c12 => ?_)
  · rw [if_neg c12] at hc h
    rw [if_neg c12] at h
    rcases fnd_cases d x y s with ⟨e, -⟩ | ⟨i, hi, e, -⟩
    · exact absurd e c12
    · rw [e, nI_clamp (by omega)] at hc h
      rw [e]
      refine G_iload dX0_growOne_24 rfl ?_
      refine G_iconst (v := (-1)) dX0_growOne_26 (by decide) ?_
      refine G_icmp_ne (tgt := 32) dX0_growOne_27 (by decide) (fun c27 => ?_) (fun c27 => ?_)
      · refine G_aload_n dX0_growOne_32 rfl ?_
        refine gf_X0_21 dX0_growOne_33 hj ?_
        refine G_iload dX0_growOne_36 rfl ?_
        refine G_dup2 dX0_growOne_38 rfl rfl ?_
        refine G_iald dX0_growOne_39 ⟨hj, (by decide)⟩ rfl rfl (show i < 30 by omega) (by decide) ?_
        refine G_iload dX0_growOne_40 rfl ?_
        refine G_iadd dX0_growOne_42 ?_
        refine G_iast dX0_growOne_43 ⟨hj, (by decide)⟩ (fun _ => rfl) rfl (show i < 30 by omega) (by decide) ?_
        rw [hd.2.2 i hi 3 (by decide)]
        refine G_aload_n dX0_growOne_44 rfl ?_
        refine gf_X0_21 dX0_growOne_45 hj ?_
        refine G_iload dX0_growOne_48 rfl ?_
        refine G_iald dX0_growOne_50 ⟨hj, (by decide)⟩ rfl rfl (show i < 30 by omega) (by decide) ?_
        refine G_iret dX0_growOne_51 rfl rfl (Nat.le_of_ble_eq_true rfl) (Nat.le_of_ble_eq_true rfl) ?_
        rw [up_at]
        exact h _ (hd.setP hi) (Fr.rfl.up ⟨Or.inr rfl, rfl⟩)
      · exact absurd c27 (nI_nm1 (by omega))
  · rw [if_pos c12] at hc h
    rw [if_pos c12] at h
    refine G_aload_n dX0_growOne_15 rfl ?_
    refine G_iload_n dX0_growOne_16 rfl ?_
    refine G_iload_n dX0_growOne_17 rfl ?_
    refine G_iload_n dX0_growOne_18 rfl ?_
    refine cv_X0_38 (cs' := 0) (ss' := 0) dX0_growOne_19 hj (Nat.le_of_ble_eq_true rfl) (Nat.le_of_ble_eq_true rfl) (Nat.le_of_ble_eq_true rfl) rfl rfl (Nat.le_of_ble_eq_true rfl) (Nat.le_of_ble_eq_true rfl) rfl ?_
    refine s_X0_open hj hd hc (fun M1 hd1 hf1 => hGo_i ?_)
    have hl1 : d.length < (d ++ [(x, y, s, (0 : Int32))]).length := by simp
    refine G_istore dX0_growOne_22 (Nat.le_of_ble_eq_true rfl) ?_
    refine G_iload dX0_growOne_24 rfl ?_
    refine G_iconst (v := (-1)) dX0_growOne_26 (by decide) ?_
    refine G_icmp_ne (tgt := 32) dX0_growOne_27 (by decide) (fun c27 => ?_) (fun c27 => ?_)
    · refine G_aload_n dX0_growOne_32 rfl ?_
      refine gf_X0_21 dX0_growOne_33 hj ?_
      refine G_iload dX0_growOne_36 rfl ?_
      refine G_dup2 dX0_growOne_38 rfl rfl ?_
      refine G_iald dX0_growOne_39 ⟨hj, (by decide)⟩ rfl rfl (show d.length < 30 by omega) (by decide) ?_
      refine G_iload dX0_growOne_40 rfl ?_
      refine G_iadd dX0_growOne_42 ?_
      refine G_iast dX0_growOne_43 ⟨hj, (by decide)⟩ (fun _ => rfl) rfl (show d.length < 30 by omega) (by decide) ?_
      rw [hd1.2.2 d.length hl1 3 (by decide), dg_app, if_pos rfl]
      refine G_aload_n dX0_growOne_44 rfl ?_
      refine gf_X0_21 dX0_growOne_45 hj ?_
      refine G_iload dX0_growOne_48 rfl ?_
      refine G_iald dX0_growOne_50 ⟨hj, (by decide)⟩ rfl rfl (show d.length < 30 by omega) (by decide) ?_
      refine G_iret dX0_growOne_51 rfl rfl (Nat.le_of_ble_eq_true rfl) (Nat.le_of_ble_eq_true rfl) ?_
      rw [up_at]
      have h5 := hd1.setP (v := 0 + m) hl1
      have e5 : setP (d ++ [(x, y, s, (0 : Int32))]) d.length (0 + m) = d ++ [(x, y, s, 0 + m)] := by
        unfold setP
        rw [dg_app, dg_app, dg_app, if_pos rfl, if_pos rfl, if_pos rfl, List.set_append_right _ _ (Nat.le_refl _)]
        simp [dgE]
      rw [e5] at h5
      exact h _ h5 (hf1.up ⟨Or.inr rfl, rfl⟩)
    · exact absurd c27 (nI_nm1 (by omega))
/-- debts behind a payment of m -/
def payV (d : List De) (x y s m : Int32) : Int32 := dg d (fnd d x y s).toNatClampNeg 3 - m
def payD (d : List De) (x y s m : Int32) : List De := if payV d x y s m ≤ 0 then (setP d (fnd d x y s).toNatClampNeg (payV d x y s m)).eraseIdx (fnd d x y s).toNatClampNeg else setP d (fnd d x y s).toNatClampNeg (payV d x y s m)
theorem s_X0_close {i : Nat} (hj : j < 10) (hd : Dbt M j d) (hi : i < d.length) (h : ∀ M', Dbt M' j (d.eraseIdx i) → Fr (dD j) M M' → P (.inl none) M') : Sp E yX0_close cX0_close zX0_close [.ref (ad E 9 j 0), .int (nI i)] M P := by
  have h30 := hd.2.1
  refine Sp_of (own := RX0) (by decide) rfl rfl (Nat.le_of_ble_eq_true rfl) (fun C => ?_)
  refine G_aload_n dX0_close_0 rfl ?_
  refine G_dup dX0_close_1 rfl ?_
  refine gf_X0_30 dX0_close_2 hj ?_
  refine G_iconst (v := 1) dX0_close_5 (by decide) ?_
  refine G_isub dX0_close_6 ?_
  rw [hd.1, show nI d.length - 1 = nI (d.length - 1) from pk_sub (a := d.length) (b := 1) (by omega)]
  refine pf_X0_30 dX0_close_7 hj ?_
  refine G_iload_n dX0_close_10 rfl ?_
  refine G_istore_n dX0_close_11 (Nat.le_of_ble_eq_true rfl) ?_
  refine G_lv (lv' := [(0, .ref (ad E 9 j 0)), (1, .int (nI i)), (2, .int (nI i))]) ⟨rfl, rfl, rfl, trivial⟩ ?_
  refine upTo (c := d.length - 1) (H := fun k => i ≤ k → ∀ M', M'.1 9 j 0 4 = nI (d.length - 1) → (∀ n, n < d.length → ∀ t, t < 4 → M'.1 10 j t n = if i ≤ n ∧ n < k then dg d (n + 1) t else dg d n t) → Fr (dD j) M M' → G E C RX0 cX0_close zX0_close P 0 0 M' 12 [(0, .ref (ad E 9 j 0)), (1, .int (nI i)), (2, .int (nI k))] []) ?_ (fun k hk ih => ?_) i (by omega) (Nat.le_refl _) _ up_at (fun n hn t ht => ?_) (Fr.rfl.up ⟨Or.inl rfl, rfl⟩)
  · intro hik M' hs hm hf
    refine G_iload_n dX0_close_12 rfl ?_
    refine G_aload_n dX0_close_13 rfl ?_
    refine gf_X0_30 dX0_close_14 hj ?_
    refine G_icmp_ge (tgt := 82) dX0_close_17 (by decide) (fun c17 => ?_) (fun c17 => ?_)
    · refine G_vret dX0_close_82 rfl (Nat.le_of_ble_eq_true rfl) (Nat.le_of_ble_eq_true rfl) ?_
      refine h M' ⟨?_, ?_, fun n hn t ht => ?_⟩ hf
      · rw [hs, List.length_eraseIdx_of_lt hi]
      · rw [List.length_eraseIdx_of_lt hi]; omega
      · rw [List.length_eraseIdx_of_lt hi] at hn
        rw [hm n (by omega) t ht, dg_erase]
        by_cases hn2 : n < i
        · rw [if_neg (by omega), if_pos hn2]
        · rw [if_pos (by omega), if_neg hn2]
    · rw [hs] at c17
      exact absurd (Int32.le_refl _) c17
  · intro hik M' hs hm hf
    have rd : ∀ t, t < 4 → ∀ M2 : Mm, M2.1 10 j t (k + 1) = M'.1 10 j t (k + 1) → M2.1 10 j t (k + 1) = dg d (k + 1) t := fun t ht M2 e => by
      rw [e, hm (k + 1) (by omega) t ht, if_neg (by omega)]
    refine G_iload_n dX0_close_12 rfl ?_
    refine G_aload_n dX0_close_13 rfl ?_
    refine gf_X0_30 dX0_close_14 hj ?_
    refine G_icmp_ge (tgt := 82) dX0_close_17 (by decide) (fun c17 => ?_) (fun c17 => ?_)
    · rw [hs] at c17
      exact absurd c17 (nI_ge hk (by omega))
    · refine G_aload_n dX0_close_20 rfl ?_
      refine gf_X0_9 dX0_close_21 hj ?_
      refine G_iload_n dX0_close_24 rfl ?_
      refine G_aload_n dX0_close_25 rfl ?_
      refine gf_X0_9 dX0_close_26 hj ?_
      refine G_iload_n dX0_close_29 rfl ?_
      refine G_iconst (v := 1) dX0_close_30 (by decide) ?_
      refine G_iadd dX0_close_31 ?_
      refine G_iald dX0_close_32 ⟨hj, (by decide)⟩ rfl (nI_1 k) (show k + 1 < 30 by omega) (by decide) ?_
      refine G_iast dX0_close_33 ⟨hj, (by decide)⟩ (fun _ => rfl) rfl (show k < 30 by omega) (by decide) ?_
      refine G_aload_n dX0_close_34 rfl ?_
      refine gf_X0_15 dX0_close_35 hj ?_
      refine G_iload_n dX0_close_38 rfl ?_
      refine G_aload_n dX0_close_39 rfl ?_
      refine gf_X0_15 dX0_close_40 hj ?_
      refine G_iload_n dX0_close_43 rfl ?_
      refine G_iconst (v := 1) dX0_close_44 (by decide) ?_
      refine G_iadd dX0_close_45 ?_
      refine G_iald dX0_close_46 ⟨hj, (by decide)⟩ rfl (nI_1 k) (show k + 1 < 30 by omega) (by decide) ?_
      refine G_iast dX0_close_47 ⟨hj, (by decide)⟩ (fun _ => rfl) rfl (show k < 30 by omega) (by decide) ?_
      refine G_aload_n dX0_close_48 rfl ?_
      refine gf_X0_18 dX0_close_49 hj ?_
      refine G_iload_n dX0_close_52 rfl ?_
      refine G_aload_n dX0_close_53 rfl ?_
      refine gf_X0_18 dX0_close_54 hj ?_
      refine G_iload_n dX0_close_57 rfl ?_
      refine G_iconst (v := 1) dX0_close_58 (by decide) ?_
      refine G_iadd dX0_close_59 ?_
      refine G_iald dX0_close_60 ⟨hj, (by decide)⟩ rfl (nI_1 k) (show k + 1 < 30 by omega) (by decide) ?_
      refine G_iast dX0_close_61 ⟨hj, (by decide)⟩ (fun _ => rfl) rfl (show k < 30 by omega) (by decide) ?_
      refine G_aload_n dX0_close_62 rfl ?_
      refine gf_X0_21 dX0_close_63 hj ?_
      refine G_iload_n dX0_close_66 rfl ?_
      refine G_aload_n dX0_close_67 rfl ?_
      refine gf_X0_21 dX0_close_68 hj ?_
      refine G_iload_n dX0_close_71 rfl ?_
      refine G_iconst (v := 1) dX0_close_72 (by decide) ?_
      refine G_iadd dX0_close_73 ?_
      refine G_iald dX0_close_74 ⟨hj, (by decide)⟩ rfl (nI_1 k) (show k + 1 < 30 by omega) (by decide) ?_
      refine G_iast dX0_close_75 ⟨hj, (by decide)⟩ (fun _ => rfl) rfl (show k < 30 by omega) (by decide) ?_
      refine G_iinc (v := 1) dX0_close_76 rfl (Nat.le_of_ble_eq_true rfl) (by decide) ?_
      refine G_goto (tgt := 12) dX0_close_79 (by decide) ?_
      refine G_lv ?_ (ih (by omega) _ ?_ (fun n hn t ht => ?_) ((((hf.up ⟨Or.inr rfl, rfl⟩).up ⟨Or.inr rfl, rfl⟩).up ⟨Or.inr rfl, rfl⟩).up ⟨Or.inr rfl, rfl⟩))
      · exact ⟨rfl, rfl, lvi (nI_1 k), trivial⟩
      · rw [up_nk (k' := 9) (by decide), up_nk (k' := 9) (by decide), up_nk (k' := 9) (by decide), up_nk (k' := 9) (by decide)]
        exact hs
      · by_cases hn2 : n = k
        · subst hn2
          rw [if_pos (by omega)]
          rcases (show t = 0 ∨ t = 1 ∨ t = 2 ∨ t = 3 by omega) with rfl | rfl | rfl | rfl
          · rw [up_np (by decide), up_np (by decide), up_np (by decide), up_at]; exact rd 0 (by decide) _ rfl
          · rw [up_np (by decide), up_np (by decide), up_at]; exact rd 1 (by decide) _ (by rw [up_np (by decide)])
          · rw [up_np (by decide), up_at]; exact rd 2 (by decide) _ (by rw [up_np (by decide), up_np (by decide)])
          · rw [up_at]; exact rd 3 (by decide) _ (by rw [up_np (by decide), up_np (by decide), up_np (by decide)])
        · rw [up_t hn2, up_t hn2, up_t hn2, up_t hn2, hm n hn t ht]
          by_cases hn3 : i ≤ n ∧ n < k
          · rw [if_pos hn3, if_pos (by omega)]
          · rw [if_neg hn3, if_neg (by omega)]
  · rw [up_nk (k' := 10) (by decide), if_neg (by omega)]
    exact hd.2.2 n hn t ht
theorem s_X0_shrinkOne {x y s m : Int32} (hj : j < 10) (hd : Dbt M j d) (hf : fnd d x y s ≠ -1) (h : ∀ M', Dbt M' j (payD d x y s m) → Fr (dD j) M M' → P (.inl (some (.int (payV d x y s m)))) M') : Sp E yX0_shrinkOne cX0_shrinkOne zX0_shrinkOne [.ref (ad E 9 j 0), .int x, .int y, .int s, .int m] M P := by
  have h30 := hd.2.1
  unfold payD payV at h
  refine Sp_of (own := RX0) (by decide) rfl rfl (Nat.le_of_ble_eq_true rfl) (fun C => ?_)
  refine G_aload_n dX0_shrinkOne_0 rfl ?_
  refine G_iload_n dX0_shrinkOne_1 rfl ?_
  refine G_iload_n dX0_shrinkOne_2 rfl ?_
  refine G_iload_n dX0_shrinkOne_3 rfl ?_
  refine cv_X0_34 (cs' := 0) (ss' := 0) dX0_shrinkOne_4 hj (Nat.le_of_ble_eq_true rfl) (Nat.le_of_ble_eq_true rfl) (Nat.le_of_ble_eq_true rfl) rfl rfl (Nat.le_of_ble_eq_true rfl) (Nat.le_of_ble_eq_true rfl) rfl ?_
  refine s_X0_find hj hd (hGo_i ?_)
  rcases fnd_cases d x y s with ⟨e, -⟩ | ⟨i, hi, e, -⟩
  · exact absurd e hf
  · rw [e, nI_clamp (by omega)] at h
    rw [e]
    refine G_istore dX0_shrinkOne_7 (Nat.le_of_ble_eq_true rfl) ?_
    refine G_iload dX0_shrinkOne_9 rfl ?_
    refine G_iconst (v := (-1)) dX0_shrinkOne_11 (by decide) ?_
    refine G_icmp_ne (tgt := 17) dX0_shrinkOne_12 (by decide) (fun c12 => ?_) (fun c12 => ?_)
    · refine G_aload_n dX0_shrinkOne_17 rfl ?_
      refine gf_X0_21 dX0_shrinkOne_18 hj ?_
      refine G_iload dX0_shrinkOne_21 rfl ?_
      refine G_iald dX0_shrinkOne_23 ⟨hj, (by decide)⟩ rfl rfl (show i < 30 by omega) (by decide) ?_
      rw [hd.2.2 i hi 3 (by decide)]
      refine G_iload dX0_shrinkOne_24 rfl ?_
      refine G_isub dX0_shrinkOne_26 ?_
      refine G_istore dX0_shrinkOne_27 (Nat.le_of_ble_eq_true rfl) ?_
      refine G_aload_n dX0_shrinkOne_29 rfl ?_
      refine gf_X0_21 dX0_shrinkOne_30 hj ?_
      refine G_iload dX0_shrinkOne_33 rfl ?_
      refine G_iload dX0_shrinkOne_35 rfl ?_
      refine G_iast dX0_shrinkOne_37 ⟨hj, (by decide)⟩ (fun _ => rfl) rfl (show i < 30 by omega) (by decide) ?_
      refine G_iload dX0_shrinkOne_38 rfl ?_
      refine G_if_gt (tgt := 49) dX0_shrinkOne_40 (by decide) (fun c40 => ?_) (fun c40 => ?_)
      · refine G_iload dX0_shrinkOne_49 rfl ?_
        refine G_iret dX0_shrinkOne_51 rfl rfl (Nat.le_of_ble_eq_true rfl) (Nat.le_of_ble_eq_true rfl) ?_
        rw [if_neg (Int32.not_le.mpr c40)] at h
        exact h _ (hd.setP hi) (Fr.rfl.up ⟨Or.inr rfl, rfl⟩)
      · refine G_aload_n dX0_shrinkOne_43 rfl ?_
        refine G_iload dX0_shrinkOne_44 rfl ?_
        refine cv_X0_41 (cs' := 0) (ss' := 0) dX0_shrinkOne_46 hj (Nat.le_of_ble_eq_true rfl) (Nat.le_of_ble_eq_true rfl) (Nat.le_of_ble_eq_true rfl) rfl rfl (Nat.le_of_ble_eq_true rfl) (Nat.le_of_ble_eq_true rfl) rfl ?_
        rw [if_pos (Int32.not_lt.mp c40)] at h
        refine s_X0_close hj (hd.setP hi) (by rw [setP_len]; exact hi) (fun M2 h2 hf2 => hGo_v ?_)
        refine G_iload dX0_shrinkOne_49 rfl ?_
        refine G_iret dX0_shrinkOne_51 rfl rfl (Nat.le_of_ble_eq_true rfl) (Nat.le_of_ble_eq_true rfl) ?_
        exact h M2 h2 ((Fr.rfl.up ⟨Or.inr rfl, rfl⟩).trans hf2)
    · exact absurd c12 (nI_nm1 (by omega))
end CDEB
