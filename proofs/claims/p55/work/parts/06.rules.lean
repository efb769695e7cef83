/-! ===== rules of memory, calls, ends ===== -/
section HRULES2
variable {E : Ed} {C : Cx} {own : String} {b : ByteArray} {z : Zd} {P : Res → Mm → Prop} {cs ss : Nat} {M : Mm} {pc : Nat} {lv : List (Nat × Value)} {st : List Value}
theorem G_getf {index ci N t k j p : Nat} {Cn ref : String} {T : u_T} {fs : List Value} {v : Value} (d : decode b pc = .ok (.getfield index, 3)) (hw : Cond.fieldLink own index ref (T t).2.1 (T t).2.2.1 ∈ hTB) (hin : ∀ w ∈ u_ws Cn T N, w ∈ hTB) (hc : hCl[ci]? = some (Cn, T, N)) (ht : t < N) (hr : (T t).1 = ref) (hok : hOk k j p) (hcell : hC E M k j p = .inr (ci, fs)) (hv : fs[t]? = some v)
    (g : G E C own b z P cs ss M (pc + 3) lv (v :: st)) : G E C own b z P cs ss M pc lv (.ref (ad E k j p) :: st) := by
  subst hr
  obtain ⟨p', l, e, s, m, args, below, meth, c, Q⟩ := C
  intro K H locs ls hP hS hl
  obtain ⟨hx, hb, hr, hlk, hml, hown, hts, htab, hK, hF, hst, hAm, hQ⟩ := id K
  exact va_get (D := E.2.1) (cl := hCl) (C := Cn) (T := T) (N := N) hx hb hts hin hown hK hP (hOff k j p) (hW_at2 hok hcell) hc t ht (hts _ hw) (fun _ h => h) hv d (g K H locs ls hP hS hl)
theorem G_putf {index ci N t k j p : Nat} {Cn ref : String} {T : u_T} {fs : List Value} {x : Int32} {ty : FieldType} {ty0 : Nat → FieldType} (d : decode b pc = .ok (.putfield index, 3)) (hw : Cond.fieldLink own index ref (T t).2.1 (T t).2.2.1 ∈ hTB) (hin : ∀ w ∈ u_ws Cn T N, w ∈ hTB) (hc : hCl[ci]? = some (Cn, T, N)) (hty : ∀ k, k < N → parseFieldDescriptor (T k).2.2.1 = some (ty0 k)) (hnm : ∀ a, a < N → ∀ b, b < N → a ≠ b → (T a).2.1 ≠ (T b).2.1) (ht : t < N) (hr : (T t).1 = ref) (hfin : (T t).2.2.2 = false) (hd : parseFieldDescriptor (T t).2.2.1 = some ty) (hn : narrow ty (.int x) = .int x) (hfit : fits ty (.int x) = true) (hok : hOk k j p) (hcell : hC E M k j p = .inr (ci, fs)) (hl : t < fs.length) (hcell2 : hC E (M.up k j p t x) k j p = .inr (ci, fs.set t (.int x)))
    (g : G E C own b z P cs ss (M.up k j p t x) (pc + 3) lv st) : G E C own b z P cs ss M pc lv (.int x :: .ref (ad E k j p) :: st) := by
  subst hr
  obtain ⟨p', l, e, s, m, args, below, meth, c, Q⟩ := C
  intro K H locs ls hP hS hlv
  obtain ⟨hx, hb, hr, hlk, hml, hown, hts, htab, hK, hF, hst, hAm, hQ⟩ := id K
  refine va_put (D := E.2.1) (cl := hCl) (A := hA E) (C := Cn) (T := T) (N := N) hx hb hts hin ty0 hty hnm hown hK hP (hW_D E M) hS (hOff k j p) (hW_at2 hok hcell) hc t ht (hts _ hw) (fun _ h => h) hfin hd hn hfit hl d (fun H1 locs1 hP1 _ hS1 => ?_)
  rw [hW_set hok hcell2 (fun k' j' p' h => hC_cong (mU_row h) rfl)] at hP1
  exact g K H1 locs1 ls hP1 hS1 hlv
theorem G_iald {n k j p a : Nat} {i : Int32} (d : decode b pc = .ok (.iaload, 1)) (hok : hOk k j p) (hcell : hC E M k j p = .inl (E.2.2.1 0, n, .inl (M.1 k j p))) (hi : i = nI a) (ha : a < n) (hn : n < 2 ^ 31)
    (g : G E C own b z P cs ss M (pc + 1) lv (.int (M.1 k j p a) :: st)) : G E C own b z P cs ss M pc lv (.int i :: .ref (ad E k j p) :: st) := by
  subst hi
  obtain ⟨p', l, e, s, m, args, below, meth, c, Q⟩ := C
  intro K H locs ls hP hS hl
  obtain ⟨hx, hb, hr, hlk, hml, hown, hts, htab, hK, hF, hst, hAm, hQ⟩ := id K
  refine va_iald (D := E.2.1) (cl := hCl) hx hb hK hP (hOff k j p) 0 (hW_at2 hok hcell) rfl (vp_in_nI ha hn) d ?_
  rw [nI_clamp (Nat.lt_trans ha hn)]
  exact g K H locs ls hP hS hl
theorem G_bald {n k j p a : Nat} {i : Int32} (d : decode b pc = .ok (.baload, 1)) (hok : hOk k j p) (hcell : hC E M k j p = .inl (E.2.2.1 1, n, .inl (M.1 k j p))) (hi : i = nI a) (ha : a < n) (hn : n < 2 ^ 31)
    (g : G E C own b z P cs ss M (pc + 1) lv (.int (M.1 k j p a) :: st)) : G E C own b z P cs ss M pc lv (.int i :: .ref (ad E k j p) :: st) := by
  subst hi
  obtain ⟨p', l, e, s, m, args, below, meth, c, Q⟩ := C
  intro K H locs ls hP hS hl
  obtain ⟨hx, hb, hr, hlk, hml, hown, hts, htab, hK, hF, hst, hAm, hQ⟩ := id K
  refine va_bald (D := E.2.1) (cl := hCl) hx hb hK hP (hOff k j p) 1 (hW_at2 hok hcell) rfl (vp_in_nI ha hn) d ?_
  rw [nI_clamp (Nat.lt_trans ha hn)]
  exact g K H locs ls hP hS hl
theorem G_zald {n k j p a : Nat} {i : Int32} (d : decode b pc = .ok (.baload, 1)) (hok : hOk k j p) (hcell : hC E M k j p = .inl (E.2.2.1 2, n, .inl (M.1 k j p))) (hi : i = nI a) (ha : a < n) (hn : n < 2 ^ 31)
    (g : G E C own b z P cs ss M (pc + 1) lv (.int (M.1 k j p a) :: st)) : G E C own b z P cs ss M pc lv (.int i :: .ref (ad E k j p) :: st) := by
  subst hi
  obtain ⟨p', l, e, s, m, args, below, meth, c, Q⟩ := C
  intro K H locs ls hP hS hl
  obtain ⟨hx, hb, hr, hlk, hml, hown, hts, htab, hK, hF, hst, hAm, hQ⟩ := id K
  refine va_zald (D := E.2.1) (cl := hCl) hx hb hK hP (hOff k j p) 2 (hW_at2 hok hcell) rfl (vp_in_nI ha hn) d ?_
  rw [nI_clamp (Nat.lt_trans ha hn)]
  exact g K H locs ls hP hS hl
theorem G_iast {n k j p a : Nat} {i x : Int32} (d : decode b pc = .ok (.iastore, 1)) (hok : hOk k j p) (hcell : ∀ M', hC E M' k j p = .inl (E.2.2.1 0, n, .inl (M'.1 k j p))) (hi : i = nI a) (ha : a < n) (hn : n < 2 ^ 31)
    (g : G E C own b z P cs ss (M.up k j p a x) (pc + 1) lv st) : G E C own b z P cs ss M pc lv (.int x :: .int i :: .ref (ad E k j p) :: st) := by
  subst hi
  obtain ⟨p', l, e, s, m, args, below, meth, c, Q⟩ := C
  intro K H locs ls hP hS hlv
  obtain ⟨hx, hb, hr, hlk, hml, hown, hts, htab, hK, hF, hst, hAm, hQ⟩ := id K
  refine va_iast (D := E.2.1) (cl := hCl) (A := hA E) hx hb hK hP (hW_D E M) hS (hOff k j p) 0 (hW_at2 hok (hcell M)) rfl (vp_in_nI ha hn) d (fun H1 locs1 hP1 _ hS1 => ?_)
  rw [nI_clamp (Nat.lt_trans ha hn)] at hP1
  rw [hW_set (M' := M.up k j p a x) hok (by rw [show hC E (M.up k j p a x) k j p = _ from hcell _]; unfold Mm.up; dsimp only; rw [mU_arr]) (fun k' j' p' h => hC_cong (mU_row h) rfl)] at hP1
  exact g K H1 locs1 ls hP1 hS1 hlv
theorem G_bast {n k j p a : Nat} {i x : Int32} (d : decode b pc = .ok (.bastore, 1)) (hok : hOk k j p) (hcell : ∀ M', hC E M' k j p = .inl (E.2.2.1 1, n, .inl (M'.1 k j p))) (hi : i = nI a) (ha : a < n) (hn : n < 2 ^ 31)
    (g : G E C own b z P cs ss (M.up k j p a (vp_nar .byte x)) (pc + 1) lv st) : G E C own b z P cs ss M pc lv (.int x :: .int i :: .ref (ad E k j p) :: st) := by
  subst hi
  obtain ⟨p', l, e, s, m, args, below, meth, c, Q⟩ := C
  intro K H locs ls hP hS hlv
  obtain ⟨hx, hb, hr, hlk, hml, hown, hts, htab, hK, hF, hst, hAm, hQ⟩ := id K
  refine va_bast (D := E.2.1) (cl := hCl) (A := hA E) hx hb hK hP (hW_D E M) hS (hOff k j p) 1 (hW_at2 hok (hcell M)) rfl (vp_in_nI ha hn) d (fun H1 locs1 hP1 _ hS1 => ?_)
  rw [nI_clamp (Nat.lt_trans ha hn)] at hP1
  rw [hW_set (M' := M.up k j p a (vp_nar .byte x)) hok (by rw [show hC E (M.up k j p a (vp_nar .byte x)) k j p = _ from hcell _]; unfold Mm.up; dsimp only; rw [mU_arr]) (fun k' j' p' h => hC_cong (mU_row h) rfl)] at hP1
  exact g K H1 locs1 ls hP1 hS1 hlv
theorem G_zast {n k j p a : Nat} {i x : Int32} (d : decode b pc = .ok (.bastore, 1)) (hok : hOk k j p) (hcell : ∀ M', hC E M' k j p = .inl (E.2.2.1 2, n, .inl (M'.1 k j p))) (hi : i = nI a) (ha : a < n) (hn : n < 2 ^ 31)
    (g : G E C own b z P cs ss (M.up k j p a (vp_nar .boolean x)) (pc + 1) lv st) : G E C own b z P cs ss M pc lv (.int x :: .int i :: .ref (ad E k j p) :: st) := by
  subst hi
  obtain ⟨p', l, e, s, m, args, below, meth, c, Q⟩ := C
  intro K H locs ls hP hS hlv
  obtain ⟨hx, hb, hr, hlk, hml, hown, hts, htab, hK, hF, hst, hAm, hQ⟩ := id K
  refine va_zast (D := E.2.1) (cl := hCl) (A := hA E) hx hb hK hP (hW_D E M) hS (hOff k j p) 2 (hW_at2 hok (hcell M)) rfl (vp_in_nI ha hn) d (fun H1 locs1 hP1 _ hS1 => ?_)
  rw [nI_clamp (Nat.lt_trans ha hn)] at hP1
  rw [hW_set (M' := M.up k j p a (vp_nar .boolean x)) hok (by rw [show hC E (M.up k j p a (vp_nar .boolean x)) k j p = _ from hcell _]; unfold Mm.up; dsimp only; rw [mU_arr]) (fun k' j' p' h => hC_cong (mU_row h) rfl)] at hP1
  exact g K H1 locs1 ls hP1 hS1 hlv
theorem G_aald {n t k j p a q : Nat} {i : Int32} {Cn : String} {f : Nat → Option Nat} (d : decode b pc = .ok (.aaload, 1)) (hok : hOk k j p) (hcell : hC E M k j p = .inl (E.2.2.1 t, n, .inr (.inr (.inr (.inr f))))) (ht : (hTys E)[t]? = some (E.2.2.1 t, .object Cn)) (hi : i = nI a) (ha : a < n) (hn : n < 2 ^ 31) (hf : f a = some q)
    (g : G E C own b z P cs ss M (pc + 1) lv (.ref q :: st)) : G E C own b z P cs ss M pc lv (.int i :: .ref (ad E k j p) :: st) := by
  subst hi
  obtain ⟨p', l, e, s, m, args, below, meth, c, Q⟩ := C
  intro K H locs ls hP hS hl
  obtain ⟨hx, hb, hr, hlk, hml, hown, hts, htab, hK, hF, hst, hAm, hQ⟩ := id K
  refine va_aldq (D := E.2.1) (cl := hCl) hx hb hK hP (hOff k j p) t (hW_at2 hok hcell) ht (vp_in_nI ha hn) d ?_
  rw [nI_clamp (Nat.lt_trans ha hn), hf]
  exact g K H locs ls hP hS hl
theorem G_alen {t k j p : Nat} {x : vp_A} {v : Int32} {ty : FieldType} (d : decode b pc = .ok (.arraylength, 1)) (hok : hOk k j p) (hcell : hC E M k j p = .inl (E.2.2.1 t, x)) (ht : (hTys E)[t]? = some (E.2.2.1 t, ty)) (hv : Int32.ofNat x.1 = v)
    (g : G E C own b z P cs ss M (pc + 1) lv (.int v :: st)) : G E C own b z P cs ss M pc lv (.ref (ad E k j p) :: st) := by
  obtain ⟨p', l, e, s, m, args, below, meth, c, Q⟩ := C
  intro K H locs ls hP hS hl
  obtain ⟨hx, hb, hr, hlk, hml, hown, hts, htab, hK, hF, hst, hAm, hQ⟩ := id K
  exact va_alen (D := E.2.1) (cl := hCl) hx hb hK hP (hOff k j p) t (hW_at2 hok hcell) ht hv d (g K H locs ls hP hS hl)
/-- an array copied into another one, or into itself -/
def mCp (f : Nat → Nat → Nat → Nat → Int32) (k j p : Nat) (row : Nat → Int32) : Nat → Nat → Nat → Nat → Int32 := fun k' j' p' => if k' = k ∧ j' = j ∧ p' = p then row else f k' j' p'
theorem mCp_row {f : Nat → Nat → Nat → Nat → Int32} {k j p : Nat} {row : Nat → Int32} {k' j' p' : Nat} (h : (k', j', p') ≠ (k, j, p)) : mCp f k j p row k' j' p' = f k' j' p' := by
  unfold mCp
  rw [if_neg]
  rintro ⟨rfl, rfl, rfl⟩
  exact h rfl
theorem mCp_at {f : Nat → Nat → Nat → Nat → Int32} {k j p : Nat} {row : Nat → Int32} : mCp f k j p row k j p = row := by
  unfold mCp
  rw [if_pos ⟨rfl, rfl, rfl⟩]
theorem G_copy {index n0 n1 k j p k1 j1 p1 sp dp n : Nat} (d : decode b pc = .ok (.invokestatic index, 3)) (hw : Cond.methodLink own index arraycopyName ∈ hTB) (hw2 : Cond.native arraycopyName ∈ hTB) (hw3 : Cond.static arraycopyName ∈ hTB) (hw4 : Cond.initialized "java/lang/System" ∈ hTB) (hok : hOk k j p) (hok1 : hOk k1 j1 p1) (hcell : hC E M k j p = .inl (E.2.2.1 0, n0, .inl (M.1 k j p))) (hcell1 : ∀ M', hC E M' k1 j1 p1 = .inl (E.2.2.1 0, n1, .inl (M'.1 k1 j1 p1)))
    (h4 : sp + n ≤ n0) (h5 : dp + n ≤ n1) (hn0 : n0 < 2 ^ 31) (hn1 : n1 < 2 ^ 31) (hfr : 1 ≤ z.2.2.2.1) (hlo : (st.map fun v => v.category).sum + (nativeFrameWords "java/lang/System" "arraycopy" 5 + 11) ≤ z.2.2.2.2.1)
    (g : G E C own b z P cs ss (mCp M.1 k1 j1 p1 (va_cpy (M.1 k j p) (M.1 k1 j1 p1) sp dp n), M.2) (pc + 3) lv st) : G E C own b z P cs ss M pc lv (.int (nI n) :: .int (nI dp) :: .ref (ad E k1 j1 p1) :: .int (nI sp) :: .ref (ad E k j p) :: st) := by
  obtain ⟨p', l, e, s, m, args, below, meth, c, Q⟩ := C
  intro K H locs ls hP hS hlv
  obtain ⟨hx, hb, hr, hlk, hml, hown, hts, htab, hK, hF, hst, hAm, hQ⟩ := id K
  have e1 : (nI sp).toNatClampNeg = sp := nI_clamp (by omega)
  have e2 : (nI dp).toNatClampNeg = dp := nI_clamp (by omega)
  have e3 : (nI n).toNatClampNeg = n := nI_clamp (by omega)
  refine va_copyi (D := E.2.1) (cl := hCl) (A := hA E) hx hb (hml.trans hlv.1.symm) hown (hts _ hw) (hts _ hw2) (hts _ hw3) (hts _ hw4) hK hP (hW_D E M) hS (hOff k j p) (hOff k1 j1 p1) 0 0 (hW_at2 hok hcell) (hW_at2 hok1 (hcell1 M)) rfl rfl rfl (nI_pos (by omega)) (nI_pos (by omega)) (nI_pos (by omega)) (by rw [e1, e3]; exact h4) (by rw [e2, e3]; exact h5) (fun _ _ => rfl) hfr hlo d (fun H1 locs1 hP1 _ hS1 => ?_)
  rw [e1, e2, e3] at hP1
  rw [hW_set (M' := (mCp M.1 k1 j1 p1 (va_cpy (M.1 k j p) (M.1 k1 j1 p1) sp dp n), M.2)) hok1 (by rw [show hC E (mCp M.1 k1 j1 p1 (va_cpy (M.1 k j p) (M.1 k1 j1 p1) sp dp n), M.2) k1 j1 p1 = _ from hcell1 _]; dsimp only; rw [mCp_at]) (fun k' j' p' h => hC_cong (mCp_row h) rfl)] at hP1
  exact g K H1 locs1 ls hP1 hS1 hlv
-- Math
theorem G_mmin {index : Nat} {x y : Int32} (d : decode b pc = .ok (.invokestatic index, 3)) (hw : Cond.methodLink own index Lib.Math.min.name ∈ hTB) (hw2 : Cond.static Lib.Math.min.name ∈ hTB) (hw3 : Cond.initialized "java/lang/Math" ∈ hTB) (hw4 : Cond.code Lib.Math.min.name Lib.Math.min.code 2 (some .int) ∈ hTB) (hfr : 1 ≤ z.2.2.2.1) (hlo : (st.map fun v => v.category).sum + 13 ≤ z.2.2.2.2.1) (hc : cs ≤ z.2.2.1.1) (hs : ss ≤ z.2.2.1.2)
    (g : G E C own b z P cs ss M (pc + 3) lv (.int (if y < x then y else x) :: st)) : G E C own b z P cs ss M pc lv (.int y :: .int x :: st) := by
  obtain ⟨p', l, e, s, m, args, below, meth, c, Q⟩ := C
  intro K H locs ls hP hS hlv
  obtain ⟨hx, hb, hr, hlk, hml, hown, hts, htab, hK, hF, hst, hAm, hQ⟩ := id K
  exact va_mmin hx hb (hml.trans hlv.1.symm) hown (hts _ hw) (hts _ hw2) (hts _ hw3) (hts _ hw4) hfr hlo hc hs d (g K H locs ls hP hS hlv)
theorem G_mmax {index : Nat} {x y : Int32} (d : decode b pc = .ok (.invokestatic index, 3)) (hw : Cond.methodLink own index Lib.Math.max.name ∈ hTB) (hw2 : Cond.static Lib.Math.max.name ∈ hTB) (hw3 : Cond.initialized "java/lang/Math" ∈ hTB) (hw4 : Cond.code Lib.Math.max.name Lib.Math.max.code 2 (some .int) ∈ hTB) (hfr : 1 ≤ z.2.2.2.1) (hlo : (st.map fun v => v.category).sum + 13 ≤ z.2.2.2.2.1) (hc : cs ≤ z.2.2.1.1) (hs : ss ≤ z.2.2.1.2)
    (g : G E C own b z P cs ss M (pc + 3) lv (.int (if x < y then y else x) :: st)) : G E C own b z P cs ss M pc lv (.int y :: .int x :: st) := by
  obtain ⟨p', l, e, s, m, args, below, meth, c, Q⟩ := C
  intro K H locs ls hP hS hlv
  obtain ⟨hx, hb, hr, hlk, hml, hown, hts, htab, hK, hF, hst, hAm, hQ⟩ := id K
  exact va_mmax hx hb (hml.trans hlv.1.symm) hown (hts _ hw) (hts _ hw2) (hts _ hw3) (hts _ hw4) hfr hlo hc hs d (g K H locs ls hP hS hlv)
theorem G_mabs {index : Nat} {x : Int32} (d : decode b pc = .ok (.invokestatic index, 3)) (hw : Cond.methodLink own index Lib.Math.abs.name ∈ hTB) (hw2 : Cond.static Lib.Math.abs.name ∈ hTB) (hw3 : Cond.initialized "java/lang/Math" ∈ hTB) (hw4 : Cond.code Lib.Math.abs.name Lib.Math.abs.code 1 (some .int) ∈ hTB) (hfr : 1 ≤ z.2.2.2.1) (hlo : (st.map fun v => v.category).sum + 13 ≤ z.2.2.2.2.1) (hc : cs ≤ z.2.2.1.1) (hs : ss ≤ z.2.2.1.2)
    (g : G E C own b z P cs ss M (pc + 3) lv (.int (if 0 ≤ x then x else 0 - x) :: st)) : G E C own b z P cs ss M pc lv (.int x :: st) := by
  obtain ⟨p', l, e, s, m, args, below, meth, c, Q⟩ := C
  intro K H locs ls hP hS hlv
  obtain ⟨hx, hb, hr, hlk, hml, hown, hts, htab, hK, hF, hst, hAm, hQ⟩ := id K
  exact va_mabs hx hb (hml.trans hlv.1.symm) hown (hts _ hw) (hts _ hw2) (hts _ hw3) (hts _ hw4) hfr hlo hc hs d (g K H locs ls hP hS hlv)
theorem G_ldc {index : Nat} {v : Int32} (d : decode b pc = .ok (.ldc index, 2)) (hw : Cond.constant own index v ∈ hTB) (g : G E C own b z P cs ss M (pc + 2) lv (.int v :: st)) : G E C own b z P cs ss M pc lv st := by
  obtain ⟨p', l, e, s, m, args, below, meth, c, Q⟩ := C
  intro K H locs ls hP hS hlv
  obtain ⟨hx, hb, hr, hlk, hml, hown, hts, htab, hK, hF, hst, hAm, hQ⟩ := id K
  exact lv_ldc hx hb hown (hts _ hw) d (g K H locs ls hP hS hlv)
-- ends
theorem W_imp {p : Program} {l : Launch} {e : Env} {R : Room} {s : State} {m : MethodId} {args : Array Value} {below : List Frame} {meth : Method} {c : Code} {H : Heap} {locs : List Loc} {cells slots : Nat} {Q1 Q : State → Prop} {g : JFrame} (h : ∀ t, Q1 t → Q t) (k : W p l e R s m args below meth c H locs cells slots Q1 g) : W p l e R s m args below meth c H locs cells slots Q g := fun T hT X => by
  obtain ⟨t, a1, b1⟩ := k T hT X
  exact ⟨t, a1, h t b1⟩
theorem G_iret {x : Int32} {ty : FieldType} (d : decode b pc = .ok (.ireturn, 1)) (hz : z.2.1 = some ty) (hn : narrow ty (.int x) = .int x) (hc : cs ≤ z.2.2.1.1) (hs : ss ≤ z.2.2.1.2) (h : P (.inl (some (.int x))) M) : G E C own b z P cs ss M pc lv [.int x] := by
  obtain ⟨p', l, e, s, m, args, below, meth, c, Q⟩ := C
  intro K H locs ls hP hS hlv
  obtain ⟨hx, hb, hr, hlk, hml, hown, hts, htab, hK, hF, hst, hAm, hQ⟩ := id K
  exact W_imp hQ (W.widen hc hs (vx_ret (W.zret hx hb (hr.trans hz) hn (fun t ht hW => ⟨_, M, rfl, h, by rw [ht]; exact hP, hS.F ht⟩) hS.2.2 d hlk)))
theorem G_vret (d : decode b pc = .ok (.return_, 1)) (hz : z.2.1 = none) (hc : cs ≤ z.2.2.1.1) (hs : ss ≤ z.2.2.1.2) (h : P (.inl none) M) : G E C own b z P cs ss M pc lv [] := by
  obtain ⟨p', l, e, s, m, args, below, meth, c, Q⟩ := C
  intro K H locs ls hP hS hlv
  obtain ⟨hx, hb, hr, hlk, hml, hown, hts, htab, hK, hF, hst, hAm, hQ⟩ := id K
  exact W_imp hQ (W.widen hc hs (vx_ret (W.vret hx hb (hr.trans hz) (fun t ht hW => ⟨_, M, rfl, h, by rw [ht]; exact hP, hS.F ht⟩) hS.2.2 d hlk)))
theorem G_aret {q : Nat} {n : String} (d : decode b pc = .ok (.areturn, 1)) (hz : z.2.1 = some (.object n)) (hc : cs ≤ z.2.2.1.1) (hs : ss ≤ z.2.2.1.2) (h : P (.inl (some (.ref q))) M) : G E C own b z P cs ss M pc lv [.ref q] := by
  obtain ⟨p', l, e, s, m, args, below, meth, c, Q⟩ := C
  intro K H locs ls hP hS hlv
  obtain ⟨hx, hb, hr, hlk, hml, hown, hts, htab, hK, hF, hst, hAm, hQ⟩ := id K
  exact W_imp hQ (W.widen hc hs (vx_ret (W.aret hx hb (hr.trans hz) (Or.inl ⟨_, rfl⟩) (Or.inr ⟨_, rfl⟩) (fun t ht hW => ⟨_, M, rfl, h, by rw [ht]; exact hP, hS.F ht⟩) hS.2.2 d hlk)))
-- calls
/-- what goes on behind a call -/
def hGo (E : Ed) (C : Cx) (own : String) (b : ByteArray) (z : Zd) (P : Res → Mm → Prop) (cs ss pc : Nat) (lv : List (Nat × Value)) (rest : List Value) : Res → Mm → Prop := fun r M' => match r with
  | .inl v => G E C own b z P cs ss M' pc lv (v.toList ++ rest)
  | .inr X => P (.inr X) M'
theorem hN_go {E : Ed} {C : Cx} {own : String} {b : ByteArray} {z : Zd} {P : Res → Mm → Prop} {cs ss pc : Nat} {lv : List (Nat × Value)} {rest : List Value} (h : hN P) : hN (hGo E C own b z P cs ss pc lv rest) := fun X M q => h X M q
/-- what isn't thrown -/
theorem G_thrN {X : String} (h : P (.inr X) M) : G E C own b z P cs ss M pc lv st := by
  obtain ⟨p', l, e, s, m, args, below, meth, c, Q⟩ := C
  intro K H locs ls hP hS hlv
  obtain ⟨hx, hb, hr, hlk, hml, hown, hts, htab, hK, hF, hst, hAm, hQ⟩ := id K
  exact absurd h (hAm.2 X M)
def hLk (own : String) (idx : Nat) (y : MethodName) (b : ByteArray) (z : Zd) (n : Nat) : Prop :=
  Cond.methodLink own idx y ∈ hTB ∧ Cond.initialized y.cls ∈ hTB ∧ Cond.code y b z.1 z.2.1 ∈ hTB ∧ z.2.2.2.2.2 = [] ∧ (y.cls ≠ "java/lang/invoke/MethodHandle" ∧ y.cls ≠ "java/lang/invoke/VarHandle" ∧ (parseMethodDescriptor y.desc).map (fun d => d.parameters.length) = some n)
def hLV (own : String) (idx : Nat) (y : MethodName) (b : ByteArray) (z : Zd) (n : Nat) : Prop := hLk own idx y b z n ∧ Cond.instanceMethod y ∈ hTB ∧ Cond.selects y.cls y y ∈ hTB
def hLS (own : String) (idx : Nat) (y : MethodName) (b : ByteArray) (z : Zd) (n : Nat) : Prop := hLk own idx y b z n ∧ Cond.static y ∈ hTB
theorem hWd_nil {y : MethodName} {b : ByteArray} {z : Zd} (h : z.2.2.2.2.2 = []) : hWd y b z = Cond.code y b z.1 z.2.1 :: hTB := by
  unfold hWd
  rw [h]
theorem hF_blind {E : Ed} {as : List Value} {M : Mm} : FrameBlind (va_Pc as (hRep E M)) := fun a U g mk q => ⟨q.1, q.2.1, va_K.moved (u := U) (U := U.calling g mk a) (Vm.Alike.refl U.vm) q.2.2.1, hFx_keep (s := U) (U := U.calling g mk a) (State.WarmedH.refl U) (fun _ _ _ => rfl) q.2.2.2⟩
theorem hRep_at {E : Ed} {M : Mm} {s U : State} {H : Heap} {locs : List Loc} (hU : U.heap = H) (hW2 : s.WarmedH U.vm) (hP : va_P E.2.1 hCl (hW E M) H) (hK : va_K E.2.1 hCl (hTys E) s) (hF1 : hF E s s.heap) (hS : va_S (hA E) s.heap H locs) : hRep E M U := by
  subst hU
  exact ⟨hP, va_K.moved hW2.alike hK, hFx_keep hW2 hS.2.1 hF1⟩
theorem G_callV {index n k j p ci cs' ss' : Nat} {y : MethodName} {b' : ByteArray} {z' : Zd} {as rest st0 fs : List Value} {T : u_T} {N : Nat} (d : decode b pc = .ok (.invokevirtual index, 3)) (lk : hLV own index y b' z' n) (hok : hOk k j p) (hcell : hC E M k j p = .inr (ci, fs)) (hci : hCl[ci]? = some (y.cls, T, N)) (hn : as.length = n) (hst0 : st0 = as.reverse ++ .ref (ad E k j p) :: rest) (hroom : (rest.map fun v => v.category).sum ≤ 8) (hfr : z'.2.2.2.1 + 1 ≤ z.2.2.2.1) (hlo : 8 + (z'.1 + 11) + z'.2.2.2.2.1 ≤ z.2.2.2.2.1) (hcs : cs + z'.2.2.1.1 = cs') (hss : ss + z'.2.2.1.2 = ss') (hcm : cs' ≤ z.2.2.1.1) (hsm : ss' ≤ z.2.2.1.2) (hz : z.2.2.2.2.2 = [])
    (sp : Sp E y b' z' (.ref (ad E k j p) :: as) M (hGo E C own b z P cs' ss' (pc + 3) lv rest)) : G E C own b z P cs ss M pc lv st0 := by
  subst hcs
  subst hss
  subst hst0
  obtain ⟨p', l, e, s, m, args, below, meth, c, Q⟩ := C
  intro K H locs ls hP hS hlv
  obtain ⟨hx, hb, hr, hlk, hml, hown, hts, htab, hK, hF1, hst, hAm, hQ⟩ := id K
  obtain ⟨⟨w1, w2, w3, w4, w5⟩, w6, w7⟩ := lk
  have hM := sp (hN_go hAm.2) l hst
  rw [hWd_nil w4] at hM
  have hrun := vx_runV (e := e) (below := below) (meth := meth) (locs := locs) (g := F0 m pc ls (as.reverse ++ .ref (ad E k j p) :: rest)) (As := as) (rest := rest) (R := zRoom z) (cells := cs) (slots := ss) ⟨hx, hb, hml, hown, hts⟩ hM (cwV (C := y.cls) n hts (hGood (fun w hw => by
      rcases List.mem_append.mp hw with h | h
      · rcases List.mem_cons.mp h with rfl | h
        · exact w1
        · rcases List.mem_cons.mp h with rfl | h
          · exact w6
          · rcases List.mem_cons.mp h with rfl | h
            · exact w7
            · rcases List.mem_cons.mp h with rfl | h
              · exact w2
              · cases h
      · rcases List.mem_cons.mp h with rfl | h
        · exact w3
        · exact h)) rfl rfl rfl ⟨rfl, w5⟩ ⟨hfr, hlo⟩) ⟨hF_blind, va_recv hK hP hci (hW_at2 hok hcell), fun U hU hW2 => ⟨rfl, hRep_at hU hW2 hP hK hF1 hS⟩⟩ rfl hn hlv.1 rfl (lv_room hroom) d ⟨hcm, hsm⟩
  intro T hT X
  rcases hrun T hT X with ⟨v, st₀, t, T', L, h0, X', hL, e1, e2, ⟨v', M', hv, hPm, hPt, hFr⟩, stp⟩ | ⟨q, st₀, t, T', L, Xn, ce, h0, X', hL, e1, e2, ⟨M', hPm, hPt, hFr⟩, hce, hcv, hcl, stp⟩
  · cases hv
    obtain ⟨-, -, k3⟩ := vx_keep h0 e1 hS (fun _ _ h => h) (fun _ h => h) hL hFr
    obtain ⟨t2, a1, b1⟩ := hPm K T'.heap (locs ++ L) ls (by rw [e1]; exact hPt) k3 hlv T' rfl X'
    exact ⟨t2, stp t2 a1, b1⟩
  · obtain ⟨-, -, k3⟩ := vx_keep h0 e1 hS (fun _ _ h => h) (fun _ h => h) hL hFr
    obtain ⟨t2, a1, b1⟩ := vx_out (Qc := hQc E P) (XC := hXc E P) (mc := z.2.2.1.1) (ms := z.2.2.1.2) (free := hA E) (pc := pc) (ls := ls) (rest := rest) (fun x hx2 => by rw [htab, hz] at hx2; cases hx2) hlk (by rw [e1]; exact hce) hcv hcl (fun t3 ht3 _ => ⟨M', hPm, by rw [ht3, e1]; exact hPt, k3.F ht3⟩) k3.2.2 hcm hsm T' rfl X'
    exact ⟨t2, stp.trans a1, hQ _ b1⟩
theorem G_callS {index n cs' ss' : Nat} {y : MethodName} {b' : ByteArray} {z' : Zd} {as rest st0 : List Value} (d : decode b pc = .ok (.invokestatic index, 3)) (lk : hLS own index y b' z' n) (hcl : y.cls = own) (hn : as.length = n) (hst0 : st0 = as.reverse ++ rest) (hroom : (rest.map fun v => v.category).sum ≤ 8) (hfr : z'.2.2.2.1 + 1 ≤ z.2.2.2.1) (hlo : 8 + (z'.1 + 11) + z'.2.2.2.2.1 ≤ z.2.2.2.2.1) (hcs : cs + z'.2.2.1.1 = cs') (hss : ss + z'.2.2.1.2 = ss') (hcm : cs' ≤ z.2.2.1.1) (hsm : ss' ≤ z.2.2.1.2) (hz : z.2.2.2.2.2 = [])
    (sp : Sp E y b' z' as M (hGo E C own b z P cs' ss' (pc + 3) lv rest)) : G E C own b z P cs ss M pc lv st0 := by
  subst hcs
  subst hss
  subst hst0
  obtain ⟨p', l, e, s, m, args, below, meth, c, Q⟩ := C
  intro K H locs ls hP hS hlv
  obtain ⟨hx, hb, hr, hlk, hml, hown, hts, htab, hK, hF1, hst, hAm, hQ⟩ := id K
  obtain ⟨⟨w1, w2, w3, w4, w5⟩, w6⟩ := lk
  have hM := sp (hN_go hAm.2) l hst
  rw [hWd_nil w4] at hM
  have hrun := vx_runS (e := e) (below := below) (meth := meth) (locs := locs) (g := F0 m pc ls (as.reverse ++ rest)) (As := as) (rest := rest) (R := zRoom z) (cells := cs) (slots := ss) ⟨hx, hb, hml, hown, hts⟩ hM ⟨callB_of n hts (hGoodC w3 (fun w h => h)) rfl rfl rfl (hts _ w2) (hts _ w1) w5 ⟨hfr, hlo⟩, hts _ w6⟩ ⟨hF_blind, fun U hU hW2 => ⟨rfl, hRep_at hU hW2 hP hK hF1 hS⟩⟩ rfl hn hlv.1 rfl (lv_room hroom) d ⟨hcm, hsm⟩
  intro T hT X
  rcases hrun T hT X with ⟨v, st₀, t, T', L, h0, X', hL, e1, e2, ⟨v', M', hv, hPm, hPt, hFr⟩, stp⟩ | ⟨q, st₀, t, T', L, Xn, ce, h0, X', hL, e1, e2, ⟨M', hPm, hPt, hFr⟩, hce, hcv, hcl2, stp⟩
  · cases hv
    obtain ⟨-, -, k3⟩ := vx_keep h0 e1 hS (fun _ _ h => h) (fun _ h => h) hL hFr
    obtain ⟨t2, a1, b1⟩ := hPm K T'.heap (locs ++ L) ls (by rw [e1]; exact hPt) k3 hlv T' rfl X'
    exact ⟨t2, stp t2 a1, b1⟩
  · obtain ⟨-, -, k3⟩ := vx_keep h0 e1 hS (fun _ _ h => h) (fun _ h => h) hL hFr
    obtain ⟨t2, a1, b1⟩ := vx_out (Qc := hQc E P) (XC := hXc E P) (mc := z.2.2.1.1) (ms := z.2.2.1.2) (free := hA E) (pc := pc) (ls := ls) (rest := rest) (fun x hx2 => by rw [htab, hz] at hx2; cases hx2) hlk (by rw [e1]; exact hce) hcv hcl2 (fun t3 ht3 _ => ⟨M', hPm, by rw [ht3, e1]; exact hPt, k3.F ht3⟩) k3.2.2 hcm hsm T' rfl X'
    exact ⟨t2, stp.trans a1, hQ _ b1⟩
/-- a contract out of a walk -/
theorem Sp_of {E : Ed} {y : MethodName} {as : List Value} (hy : plainName y.cls = true) (hyc : y.cls = own) (hz : z.2.2.2.2.2 = []) (hlen : (lg_sl as).length ≤ z.1)
    (g : ∀ C : Cx, G E C own b z P 0 0 M 0 (lv_args 0 as) []) : Sp E y b z as M P := by
  intro hNP l hst
  rw [hWd_nil hz]
  refine vx_ofW (cc := b) (maxL := z.1) (ret := z.2.1) (ws' := hTB) hy rfl ?_
  intro p e s m args below meth c s₁ B hml htab hv
  obtain ⟨rfl, hP, hK, hF1⟩ := hv
  have hts := atoms_spec (ws := Cond.code y b z.1 z.2.1 :: hTB) B.pre
  have hown : s.vm.findClass own = some m.cls := hyc ▸ findClass_of_methodNamed B.named
  have hE : E.1 ≤ s.heap.size := by
    have h1 := hP (hOff 3 0 0) _ (hW_at (E := E) (M := M) (show hOk 3 0 0 from ⟨by decide, rfl⟩))
    have h2 : s.heap[ad E 3 0 0]? = some _ := h1
    have h3 := (Array.getElem?_eq_some_iff.mp h2).1
    unfold ad at h3
    exact Nat.le_of_lt (Nat.lt_of_le_of_lt (Nat.le_add_right _ _) h3)
  have h9 := g (p, l, e, s, m, as.toArray, below, meth, c, vx_MQ below (hQc E P) (hXc E P) as.toArray s z.2.2.1.1 z.2.2.1.2 (hA E))
  rw [lg_entry_eq]
  exact h9 ⟨B.exec, B.bytes, B.returns, B.notSynchronized, hml, hown, fun w hw => hts w (List.mem_cons_of_mem _ hw), by
      have : c.exceptionTable.toList = [] := List.eq_nil_iff_forall_not_mem.mpr (fun x hx => htab x hx)
      rw [this, hz]; rfl, hK, hF1, hst, ⟨fun q hq => Nat.le_trans hE (Nat.le_trans hq (Nat.le_succ _)), hNP⟩, fun t ht => ht⟩ s.heap [] _ hP va_S.rf (lv_entry as hlen)
end HRULES2
