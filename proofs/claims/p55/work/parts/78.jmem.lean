/-! ===== J over the first N cells of a memory; the start ===== -/
section JMEM
variable {E : Ed} {C : Cx} {own : String} {b : ByteArray} {z : Zd} {P : Rn} {cs ss N : Nat} {M : Mm} {f : Nat → va_E} {pc : Nat} {lv : List (Nat × Value)} {st : List Value}
def fE (E : Ed) (M : Mm) (i : Nat) : va_E := hC E M (hInv i).1 (hInv i).2.1 (hInv i).2.2
theorem fE_at {k j p : Nat} {e : va_E} (h : hOk k j p) (he : hC E M k j p = e) : fE E M (hOff k j p) = e := by
  unfold fE
  rw [hInv_off h]
  exact he
theorem fE_set {M' : Mm} {k j p : Nat} {e : va_E} (h : hOk k j p) (he : hC E M' k j p = e) (ho : ∀ k' j' p', (k', j', p') ≠ (k, j, p) → hC E M' k' j' p' = hC E M k' j' p') : ∀ i, i < 694 → va_up (fE E M) (hOff k j p) e i = fE E M' i := by
  intro i hi
  by_cases q : i = hOff k j p
  · subst q
    rw [vu_at]
    exact (fE_at h he).symm
  · rw [vu_ne q]
    unfold fE
    rw [ho]
    intro e2
    apply q
    have hb := hBack i hi
    rw [show (hInv i).1 = k from congrArg Prod.fst e2, show (hInv i).2.1 = j from congrArg (fun z => z.2.1) e2, show (hInv i).2.2 = p from congrArg (fun z => z.2.2) e2] at hb
    exact hb.symm
theorem J_iald {i n a : Nat} {x : Int32} {r : Nat → Int32} (d : decode b pc = .ok (.iaload, 1)) (hi : i < N) (hf : f i = .inl (E.2.2.1 0, n, .inl r)) (hx0 : x = nI a) (ha : a < n) (hn : n < 2 ^ 31) (g : J E C own b z P cs ss N f (pc + 1) lv (.int (r a) :: st)) : J E C own b z P cs ss N f pc lv (.int x :: .ref (E.1 + i) :: st) := by
  subst hx0
  obtain ⟨p, l, e, s, m, args, below, meth, c, Q⟩ := C
  intro K H locs ls hP hN hS hl
  obtain ⟨hx, hb, hr, hlk, hml, hown, hts, hK, hNs1, hAm, hQ⟩ := id K
  refine va_iald (D := E.2.1) (cl := hCl) hx hb hK hP i 0 (hV_at2 hi hf) rfl (vp_in_nI ha hn) d ?_
  rw [nI_clamp (Nat.lt_trans ha hn)]
  exact g K H locs ls hP hN hS hl
theorem J_aald {i n t a q : Nat} {x : Int32} {Cn : String} {r : Nat → Option Nat} (d : decode b pc = .ok (.aaload, 1)) (hi : i < N) (hf : f i = .inl (E.2.2.1 t, n, .inr (.inr (.inr (.inr r))))) (ht : (hTys E)[t]? = some (E.2.2.1 t, .object Cn)) (hx0 : x = nI a) (ha : a < n) (hn : n < 2 ^ 31) (hr9 : r a = some q) (g : J E C own b z P cs ss N f (pc + 1) lv (.ref q :: st)) : J E C own b z P cs ss N f pc lv (.int x :: .ref (E.1 + i) :: st) := by
  subst hx0
  obtain ⟨p, l, e, s, m, args, below, meth, c, Q⟩ := C
  intro K H locs ls hP hN hS hl
  obtain ⟨hx, hb, hr, hlk, hml, hown, hts, hK, hNs1, hAm, hQ⟩ := id K
  refine va_aldq (D := E.2.1) (cl := hCl) hx hb hK hP i t (hV_at2 hi hf) ht (vp_in_nI ha hn) d ?_
  rw [nI_clamp (Nat.lt_trans ha hn), hr9]
  exact g K H locs ls hP hN hS hl
theorem J_iast {i n a : Nat} {x v : Int32} {r : Nat → Int32} (d : decode b pc = .ok (.iastore, 1)) (hi : i < N) (hf : f i = .inl (E.2.2.1 0, n, .inl r)) (hx0 : x = nI a) (ha : a < n) (hn : n < 2 ^ 31) (g : J E C own b z P cs ss N (va_up f i (.inl (E.2.2.1 0, n, .inl (upd r a v)))) (pc + 1) lv st) : J E C own b z P cs ss N f pc lv (.int v :: .int x :: .ref (E.1 + i) :: st) := by
  subst hx0
  obtain ⟨p, l, e, s, m, args, below, meth, c, Q⟩ := C
  intro K H locs ls hP hN hS hl
  obtain ⟨hx, hb, hr, hlk, hml, hown, hts, hK, hNs1, hAm, hQ⟩ := id K
  have hD := hV_D E N f
  have hcl : (nI a).toNatClampNeg = a := nI_clamp (Nat.lt_trans ha hn)
  refine W.iast hx hb (hP i _ (hV_at2 hi hf)) ((hK.2 0 _ rfl).1 n (fun j => .int (r j))) (fun q => by cases q) (by show ¬ (_ < (0 : Int32) ∨ (arrV _ _ _).slots.size ≤ _); rw [arrV_size]; exact vp_in_nI ha hn) rfl rfl d fun H1 e1 z1 oq => ?_
  have hw : va_at E.2.1 hCl (E.1 + i, .inl (E.2.2.1 0, n, .inl (upd r a v))) H1 := by
    show H1[E.1 + i]? = some (vp_cell _ _)
    rw [e1, hcl, vp_cell_i, vp_cell_i, arrV_store]
    congr 2
    funext q
    by_cases hq : q = a
    · subst hq
      simp [updV, upd]
    · simp [updV, upd, hq]
  have hP2 := hP.set hD (hV_at2 hi hf) hw oq
  rw [hV_set hi] at hP2
  exact g K H1 _ ls hP2 (by rw [z1]; exact hN) (hS.put z1 oq (hD.2 i _ (hV_at2 hi hf))) hl
theorem JM_getf {index ci n t k j p : Nat} {Cn ref : String} {T : u_T} {fs : List Value} {v : Value} (d : decode b pc = .ok (.getfield index, 3)) (hw : Cond.fieldLink own index ref (T t).2.1 (T t).2.2.1 ∈ hTB) (hin : ∀ w ∈ u_ws Cn T n, w ∈ hTB) (hc : hCl[ci]? = some (Cn, T, n)) (ht : t < n) (hr : (T t).1 = ref) (hok : hOk k j p) (hn : hOff k j p < N) (hcell : hC E M k j p = .inr (ci, fs)) (hv : fs[t]? = some v)
    (g : J E C own b z P cs ss N (fE E M) (pc + 3) lv (v :: st)) : J E C own b z P cs ss N (fE E M) pc lv (.ref (ad E k j p) :: st) := J_getf (i := hOff k j p) d hw hin hc ht hr hn (fE_at hok hcell) hv g
theorem JM_putf {index ci n t k j p : Nat} {Cn ref : String} {T : u_T} {fs : List Value} {x : Int32} {ty : FieldType} {ty0 : Nat → FieldType} (d : decode b pc = .ok (.putfield index, 3)) (hw : Cond.fieldLink own index ref (T t).2.1 (T t).2.2.1 ∈ hTB) (hin : ∀ w ∈ u_ws Cn T n, w ∈ hTB) (hc : hCl[ci]? = some (Cn, T, n)) (hty : ∀ k, k < n → parseFieldDescriptor (T k).2.2.1 = some (ty0 k)) (hnm : ∀ a, a < n → ∀ b, b < n → a ≠ b → (T a).2.1 ≠ (T b).2.1) (ht : t < n) (hr : (T t).1 = ref) (hfin : (T t).2.2.2 = false) (hd : parseFieldDescriptor (T t).2.2.1 = some ty) (hna : narrow ty (.int x) = .int x) (hfit : fits ty (.int x) = true) (hok : hOk k j p) (hn : hOff k j p < N) (hNM : N ≤ 694) (hcell : hC E M k j p = .inr (ci, fs)) (hl : t < fs.length) (hcell2 : hC E (M.up k j p t x) k j p = .inr (ci, fs.set t (.int x)))
    (g : J E C own b z P cs ss N (fE E (M.up k j p t x)) (pc + 3) lv st) : J E C own b z P cs ss N (fE E M) pc lv (.int x :: .ref (ad E k j p) :: st) :=
  J_putN (i := hOff k j p) d hw hin hc hty hnm ht hr hfin hd hna hfit hn (fE_at hok hcell) hl (J_ext (fun i hi => fE_set hok hcell2 (fun k' j' p' h => hC_cong (mU_row h) rfl) i (Nat.lt_of_lt_of_le hi hNM)) g)
theorem JM_iald {n k j p a : Nat} {x : Int32} (d : decode b pc = .ok (.iaload, 1)) (hok : hOk k j p) (hn : hOff k j p < N) (hcell : hC E M k j p = .inl (E.2.2.1 0, n, .inl (M.1 k j p))) (hx0 : x = nI a) (ha : a < n) (h31 : n < 2 ^ 31) (g : J E C own b z P cs ss N (fE E M) (pc + 1) lv (.int (M.1 k j p a) :: st)) : J E C own b z P cs ss N (fE E M) pc lv (.int x :: .ref (ad E k j p) :: st) := J_iald (i := hOff k j p) d hn (fE_at hok hcell) hx0 ha h31 g
theorem JM_aald {n t k j p a q : Nat} {x : Int32} {Cn : String} {r : Nat → Option Nat} (d : decode b pc = .ok (.aaload, 1)) (hok : hOk k j p) (hn : hOff k j p < N) (hcell : hC E M k j p = .inl (E.2.2.1 t, n, .inr (.inr (.inr (.inr r))))) (ht : (hTys E)[t]? = some (E.2.2.1 t, .object Cn)) (hx0 : x = nI a) (ha : a < n) (h31 : n < 2 ^ 31) (hr9 : r a = some q) (g : J E C own b z P cs ss N (fE E M) (pc + 1) lv (.ref q :: st)) : J E C own b z P cs ss N (fE E M) pc lv (.int x :: .ref (ad E k j p) :: st) := J_aald (i := hOff k j p) d hn (fE_at hok hcell) ht hx0 ha h31 hr9 g
theorem JM_iast {n k j p a : Nat} {x v : Int32} (d : decode b pc = .ok (.iastore, 1)) (hok : hOk k j p) (hn : hOff k j p < N) (hNM : N ≤ 694) (hcell : ∀ M' : Mm, hC E M' k j p = .inl (E.2.2.1 0, n, .inl (M'.1 k j p))) (hx0 : x = nI a) (ha : a < n) (h31 : n < 2 ^ 31) (g : J E C own b z P cs ss N (fE E (M.up k j p a v)) (pc + 1) lv st) : J E C own b z P cs ss N (fE E M) pc lv (.int v :: .int x :: .ref (ad E k j p) :: st) :=
  J_iast (i := hOff k j p) d hn (fE_at hok (hcell M)) hx0 ha h31 (J_ext (f' := fE E (M.up k j p a v)) (fun i hi => fE_set (M' := M.up k j p a v) hok (by rw [show hC E (M.up k j p a v) k j p = _ from hcell _]; unfold Mm.up; dsimp only; rw [mU_arr]) (fun k' j' p' h => hC_cong (mU_row h) rfl) i (Nat.lt_of_lt_of_le hi hNM)) g)
theorem jpf_X3_51 {j : Nat} {x : Int32} (d : decode b pc = .ok (.putfield 51, 3)) (hj : j < 10) (hof : hOff 7 j 0 < N) (hNM : N ≤ 694) (g : J E C RX3 b z P cs ss N (fE E (M.up 7 j 0 5 x)) (pc + 3) lv st) : J E C RX3 b z P cs ss N (fE E M) pc lv (.int x :: .ref (ad E 7 j 0) :: st) := JM_putf (ci := 3) (ty0 := tyX3) (ty := tyX3 5) d fl_X3_51 inX3 rfl tyX3_ok nmX3 (by decide) rfl rfl (tyX3_ok 5 (by decide)) rfl rfl ⟨hj, rfl⟩ hof hNM rfl (Nat.le_of_ble_eq_true rfl) (by simp [hC, Mm.up, mU]) g
theorem jpf_X3_54 {j : Nat} {x : Int32} (d : decode b pc = .ok (.putfield 54, 3)) (hj : j < 10) (hof : hOff 7 j 0 < N) (hNM : N ≤ 694) (g : J E C RX3 b z P cs ss N (fE E (M.up 7 j 0 6 x)) (pc + 3) lv st) : J E C RX3 b z P cs ss N (fE E M) pc lv (.int x :: .ref (ad E 7 j 0) :: st) := JM_putf (ci := 3) (ty0 := tyX3) (ty := tyX3 6) d fl_X3_54 inX3 rfl tyX3_ok nmX3 (by decide) rfl rfl (tyX3_ok 6 (by decide)) rfl rfl ⟨hj, rfl⟩ hof hNM rfl (Nat.le_of_ble_eq_true rfl) (by simp [hC, Mm.up, mU]) g
theorem jpf_X3_57 {j : Nat} {x : Int32} (d : decode b pc = .ok (.putfield 57, 3)) (hj : j < 10) (hof : hOff 7 j 0 < N) (hNM : N ≤ 694) (g : J E C RX3 b z P cs ss N (fE E (M.up 7 j 0 7 x)) (pc + 3) lv st) : J E C RX3 b z P cs ss N (fE E M) pc lv (.int x :: .ref (ad E 7 j 0) :: st) := JM_putf (ci := 3) (ty0 := tyX3) (ty := tyX3 7) d fl_X3_57 inX3 rfl tyX3_ok nmX3 (by decide) rfl rfl (tyX3_ok 7 (by decide)) rfl rfl ⟨hj, rfl⟩ hof hNM rfl (Nat.le_of_ble_eq_true rfl) (by simp [hC, Mm.up, mU]) g
theorem jpf_X3_60 {j : Nat} {x : Int32} (d : decode b pc = .ok (.putfield 60, 3)) (hj : j < 10) (hof : hOff 7 j 0 < N) (hNM : N ≤ 694) (g : J E C RX3 b z P cs ss N (fE E (M.up 7 j 0 8 x)) (pc + 3) lv st) : J E C RX3 b z P cs ss N (fE E M) pc lv (.int x :: .ref (ad E 7 j 0) :: st) := JM_putf (ci := 3) (ty0 := tyX3) (ty := tyX3 8) d fl_X3_60 inX3 rfl tyX3_ok nmX3 (by decide) rfl rfl (tyX3_ok 8 (by decide)) rfl rfl ⟨hj, rfl⟩ hof hNM rfl (Nat.le_of_ble_eq_true rfl) (by simp [hC, Mm.up, mU]) g
theorem jpf_X3_31 {j : Nat} {x : Int32} (d : decode b pc = .ok (.putfield 31, 3)) (hj : j < 10) (hof : hOff 7 j 0 < N) (hNM : N ≤ 694) (g : J E C RX3 b z P cs ss N (fE E (M.up 7 j 0 3 x)) (pc + 3) lv st) : J E C RX3 b z P cs ss N (fE E M) pc lv (.int x :: .ref (ad E 7 j 0) :: st) := JM_putf (ci := 3) (ty0 := tyX3) (ty := tyX3 3) d fl_X3_31 inX3 rfl tyX3_ok nmX3 (by decide) rfl rfl (tyX3_ok 3 (by decide)) rfl rfl ⟨hj, rfl⟩ hof hNM rfl (Nat.le_of_ble_eq_true rfl) (by simp [hC, Mm.up, mU]) g
theorem jpf_X3_48 {j : Nat} {x : Int32} (d : decode b pc = .ok (.putfield 48, 3)) (hj : j < 10) (hof : hOff 7 j 0 < N) (hNM : N ≤ 694) (g : J E C RX3 b z P cs ss N (fE E (M.up 7 j 0 4 x)) (pc + 3) lv st) : J E C RX3 b z P cs ss N (fE E M) pc lv (.int x :: .ref (ad E 7 j 0) :: st) := JM_putf (ci := 3) (ty0 := tyX3) (ty := tyX3 4) d fl_X3_48 inX3 rfl tyX3_ok nmX3 (by decide) rfl rfl (tyX3_ok 4 (by decide)) rfl rfl ⟨hj, rfl⟩ hof hNM rfl (Nat.le_of_ble_eq_true rfl) (by simp [hC, Mm.up, mU]) g
theorem jpf_X3_96 {j : Nat} {x : Int32} (d : decode b pc = .ok (.putfield 96, 3)) (hj : j < 10) (hof : hOff 9 j 0 < N) (hNM : N ≤ 694) (g : J E C RX3 b z P cs ss N (fE E (M.up 9 j 0 4 x)) (pc + 3) lv st) : J E C RX3 b z P cs ss N (fE E M) pc lv (.int x :: .ref (ad E 9 j 0) :: st) := JM_putf (ci := 0) (ty0 := tyX0) (ty := tyX0 4) d fl_X3_96 inX0 rfl tyX0_ok nmX0 (by decide) rfl rfl (tyX0_ok 4 (by decide)) rfl rfl ⟨hj, rfl⟩ hof hNM rfl (Nat.le_of_ble_eq_true rfl) (by simp [hC, Mm.up, mU]) g
theorem jgf_X3_20 {j : Nat} (d : decode b pc = .ok (.getfield 20, 3)) (hj : j < 10) (hof : hOff 7 j 0 < N) (g : J E C RX3 b z P cs ss N (fE E M) (pc + 3) lv (.ref (ad E 9 j 0) :: st)) : J E C RX3 b z P cs ss N (fE E M) pc lv (.ref (ad E 7 j 0) :: st) := JM_getf (ci := 3) d fl_X3_20 inX3 rfl (by decide) rfl ⟨hj, rfl⟩ hof rfl rfl g
theorem jgf_X3_24 {j : Nat} (d : decode b pc = .ok (.getfield 24, 3)) (hj : j < 10) (hof : hOff 7 j 0 < N) (g : J E C RX3 b z P cs ss N (fE E M) (pc + 3) lv (.ref (ad E 11 j 0) :: st)) : J E C RX3 b z P cs ss N (fE E M) pc lv (.ref (ad E 7 j 0) :: st) := JM_getf (ci := 3) d fl_X3_24 inX3 rfl (by decide) rfl ⟨hj, rfl⟩ hof rfl rfl g
theorem jgf_X3_31 {j : Nat} (d : decode b pc = .ok (.getfield 31, 3)) (hj : j < 10) (hof : hOff 7 j 0 < N) (g : J E C RX3 b z P cs ss N (fE E M) (pc + 3) lv (.int (M.1 7 j 0 3) :: st)) : J E C RX3 b z P cs ss N (fE E M) pc lv (.ref (ad E 7 j 0) :: st) := JM_getf (ci := 3) d fl_X3_31 inX3 rfl (by decide) rfl ⟨hj, rfl⟩ hof rfl rfl g
theorem jgf_X3_11 {j : Nat} (d : decode b pc = .ok (.getfield 11, 3)) (hj : j < 10) (hof : hOff 7 j 0 < N) (g : J E C RX3 b z P cs ss N (fE E M) (pc + 3) lv (.ref (ad E 8 j 0) :: st)) : J E C RX3 b z P cs ss N (fE E M) pc lv (.ref (ad E 7 j 0) :: st) := JM_getf (ci := 3) d fl_X3_11 inX3 rfl (by decide) rfl ⟨hj, rfl⟩ hof rfl rfl g
theorem jgf_X3_51 {j : Nat} (d : decode b pc = .ok (.getfield 51, 3)) (hj : j < 10) (hof : hOff 7 j 0 < N) (g : J E C RX3 b z P cs ss N (fE E M) (pc + 3) lv (.int (M.1 7 j 0 5) :: st)) : J E C RX3 b z P cs ss N (fE E M) pc lv (.ref (ad E 7 j 0) :: st) := JM_getf (ci := 3) d fl_X3_51 inX3 rfl (by decide) rfl ⟨hj, rfl⟩ hof rfl rfl g
theorem jpf_X3_128 {j p : Nat} {x : Int32} (d : decode b pc = .ok (.putfield 128, 3)) (hj : j < 10) (hp : p < 12) (hn : narrow .boolean (.int x) = .int x) (hf : fits .boolean (.int x) = true) (hof : hOff 12 j p < N) (hNM : N ≤ 694) (g : J E C RX3 b z P cs ss N (fE E (M.up 12 j p 5 x)) (pc + 3) lv st) : J E C RX3 b z P cs ss N (fE E M) pc lv (.int x :: .ref (ad E 12 j p) :: st) := JM_putf (ci := 1) (ty0 := tyX1) (ty := tyX1 5) d fl_X3_128 inX1 rfl tyX1_ok nmX1 (by decide) rfl rfl (tyX1_ok 5 (by decide)) hn hf ⟨hj, hp⟩ hof hNM rfl (Nat.le_of_ble_eq_true rfl) (by simp [hC, Mm.up, mU]) g
theorem jpf_X1_29 {j p : Nat} {x : Int32} (d : decode b pc = .ok (.putfield 29, 3)) (hj : j < 10) (hp : p < 12) (hof : hOff 12 j p < N) (hNM : N ≤ 694) (g : J E C RX1 b z P cs ss N (fE E (M.up 12 j p 3 x)) (pc + 3) lv st) : J E C RX1 b z P cs ss N (fE E M) pc lv (.int x :: .ref (ad E 12 j p) :: st) := JM_putf (ci := 1) (ty0 := tyX1) (ty := tyX1 3) d fl_X1_29 inX1 rfl tyX1_ok nmX1 (by decide) rfl rfl (tyX1_ok 3 (by decide)) rfl rfl ⟨hj, hp⟩ hof hNM rfl (Nat.le_of_ble_eq_true rfl) (by simp [hC, Mm.up, mU]) g
theorem jpf_X1_32 {j p : Nat} {x : Int32} (d : decode b pc = .ok (.putfield 32, 3)) (hj : j < 10) (hp : p < 12) (hof : hOff 12 j p < N) (hNM : N ≤ 694) (g : J E C RX1 b z P cs ss N (fE E (M.up 12 j p 4 x)) (pc + 3) lv st) : J E C RX1 b z P cs ss N (fE E M) pc lv (.int x :: .ref (ad E 12 j p) :: st) := JM_putf (ci := 1) (ty0 := tyX1) (ty := tyX1 4) d fl_X1_32 inX1 rfl tyX1_ok nmX1 (by decide) rfl rfl (tyX1_ok 4 (by decide)) rfl rfl ⟨hj, hp⟩ hof hNM rfl (Nat.le_of_ble_eq_true rfl) (by simp [hC, Mm.up, mU]) g
theorem jpf_X1_54 {j p : Nat} {x : Int32} (d : decode b pc = .ok (.putfield 54, 3)) (hj : j < 10) (hp : p < 12) (hof : hOff 12 j p < N) (hNM : N ≤ 694) (g : J E C RX1 b z P cs ss N (fE E (M.up 12 j p 11 x)) (pc + 3) lv st) : J E C RX1 b z P cs ss N (fE E M) pc lv (.int x :: .ref (ad E 12 j p) :: st) := JM_putf (ci := 1) (ty0 := tyX1) (ty := tyX1 11) d fl_X1_54 inX1 rfl tyX1_ok nmX1 (by decide) rfl rfl (tyX1_ok 11 (by decide)) rfl rfl ⟨hj, hp⟩ hof hNM rfl (Nat.le_of_ble_eq_true rfl) (by simp [hC, Mm.up, mU]) g
theorem jpf_X1_57 {j p : Nat} {x : Int32} (d : decode b pc = .ok (.putfield 57, 3)) (hj : j < 10) (hp : p < 12) (hof : hOff 12 j p < N) (hNM : N ≤ 694) (g : J E C RX1 b z P cs ss N (fE E (M.up 12 j p 12 x)) (pc + 3) lv st) : J E C RX1 b z P cs ss N (fE E M) pc lv (.int x :: .ref (ad E 12 j p) :: st) := JM_putf (ci := 1) (ty0 := tyX1) (ty := tyX1 12) d fl_X1_57 inX1 rfl tyX1_ok nmX1 (by decide) rfl rfl (tyX1_ok 12 (by decide)) rfl rfl ⟨hj, hp⟩ hof hNM rfl (Nat.le_of_ble_eq_true rfl) (by simp [hC, Mm.up, mU]) g
theorem jpf_X1_39 {j p : Nat} {x : Int32} (d : decode b pc = .ok (.putfield 39, 3)) (hj : j < 10) (hp : p < 12) (hof : hOff 12 j p < N) (hNM : N ≤ 694) (g : J E C RX1 b z P cs ss N (fE E (M.up 12 j p 6 x)) (pc + 3) lv st) : J E C RX1 b z P cs ss N (fE E M) pc lv (.int x :: .ref (ad E 12 j p) :: st) := JM_putf (ci := 1) (ty0 := tyX1) (ty := tyX1 6) d fl_X1_39 inX1 rfl tyX1_ok nmX1 (by decide) rfl rfl (tyX1_ok 6 (by decide)) rfl rfl ⟨hj, hp⟩ hof hNM rfl (Nat.le_of_ble_eq_true rfl) (by simp [hC, Mm.up, mU]) g
theorem jpf_X1_42 {j p : Nat} {x : Int32} (d : decode b pc = .ok (.putfield 42, 3)) (hj : j < 10) (hp : p < 12) (hof : hOff 12 j p < N) (hNM : N ≤ 694) (g : J E C RX1 b z P cs ss N (fE E (M.up 12 j p 7 x)) (pc + 3) lv st) : J E C RX1 b z P cs ss N (fE E M) pc lv (.int x :: .ref (ad E 12 j p) :: st) := JM_putf (ci := 1) (ty0 := tyX1) (ty := tyX1 7) d fl_X1_42 inX1 rfl tyX1_ok nmX1 (by decide) rfl rfl (tyX1_ok 7 (by decide)) rfl rfl ⟨hj, hp⟩ hof hNM rfl (Nat.le_of_ble_eq_true rfl) (by simp [hC, Mm.up, mU]) g
theorem jpf_X1_45 {j p : Nat} {x : Int32} (d : decode b pc = .ok (.putfield 45, 3)) (hj : j < 10) (hp : p < 12) (hof : hOff 12 j p < N) (hNM : N ≤ 694) (g : J E C RX1 b z P cs ss N (fE E (M.up 12 j p 8 x)) (pc + 3) lv st) : J E C RX1 b z P cs ss N (fE E M) pc lv (.int x :: .ref (ad E 12 j p) :: st) := JM_putf (ci := 1) (ty0 := tyX1) (ty := tyX1 8) d fl_X1_45 inX1 rfl tyX1_ok nmX1 (by decide) rfl rfl (tyX1_ok 8 (by decide)) rfl rfl ⟨hj, hp⟩ hof hNM rfl (Nat.le_of_ble_eq_true rfl) (by simp [hC, Mm.up, mU]) g
theorem jpf_X1_48 {j p : Nat} {x : Int32} (d : decode b pc = .ok (.putfield 48, 3)) (hj : j < 10) (hp : p < 12) (hof : hOff 12 j p < N) (hNM : N ≤ 694) (g : J E C RX1 b z P cs ss N (fE E (M.up 12 j p 9 x)) (pc + 3) lv st) : J E C RX1 b z P cs ss N (fE E M) pc lv (.int x :: .ref (ad E 12 j p) :: st) := JM_putf (ci := 1) (ty0 := tyX1) (ty := tyX1 9) d fl_X1_48 inX1 rfl tyX1_ok nmX1 (by decide) rfl rfl (tyX1_ok 9 (by decide)) rfl rfl ⟨hj, hp⟩ hof hNM rfl (Nat.le_of_ble_eq_true rfl) (by simp [hC, Mm.up, mU]) g
theorem jpf_X1_51 {j p : Nat} {x : Int32} (d : decode b pc = .ok (.putfield 51, 3)) (hj : j < 10) (hp : p < 12) (hof : hOff 12 j p < N) (hNM : N ≤ 694) (g : J E C RX1 b z P cs ss N (fE E (M.up 12 j p 10 x)) (pc + 3) lv st) : J E C RX1 b z P cs ss N (fE E M) pc lv (.int x :: .ref (ad E 12 j p) :: st) := JM_putf (ci := 1) (ty0 := tyX1) (ty := tyX1 10) d fl_X1_51 inX1 rfl tyX1_ok nmX1 (by decide) rfl rfl (tyX1_ok 10 (by decide)) rfl rfl ⟨hj, hp⟩ hof hNM rfl (Nat.le_of_ble_eq_true rfl) (by simp [hC, Mm.up, mU]) g
theorem jpf_X1_63 {j p : Nat} {x : Int32} (d : decode b pc = .ok (.putfield 63, 3)) (hj : j < 10) (hp : p < 24) (hof : hOff 13 j p < N) (hNM : N ≤ 694) (g : J E C RX1 b z P cs ss N (fE E (M.up 13 j p 1 x)) (pc + 3) lv st) : J E C RX1 b z P cs ss N (fE E M) pc lv (.int x :: .ref (ad E 13 j p) :: st) := JM_putf (ci := 2) (ty0 := tyX2) (ty := tyX2 1) d fl_X1_63 inX2 rfl tyX2_ok nmX2 (by decide) rfl rfl (tyX2_ok 1 (by decide)) rfl rfl ⟨hj, hp⟩ hof hNM rfl (Nat.le_of_ble_eq_true rfl) (by simp [hC, Mm.up, mU]) g
theorem jgf_X1_12 {j p : Nat} (d : decode b pc = .ok (.getfield 12, 3)) (hj : j < 10) (hp : p < 12) (hof : hOff 12 j p < N) (g : J E C RX1 b z P cs ss N (fE E M) (pc + 3) lv (.ref (ad E 13 j (2 * p)) :: st)) : J E C RX1 b z P cs ss N (fE E M) pc lv (.ref (ad E 12 j p) :: st) := JM_getf (ci := 1) d fl_X1_12 inX1 rfl (by decide) rfl ⟨hj, hp⟩ hof rfl rfl g
theorem jgf_X1_18 {j p : Nat} (d : decode b pc = .ok (.getfield 18, 3)) (hj : j < 10) (hp : p < 12) (hof : hOff 12 j p < N) (g : J E C RX1 b z P cs ss N (fE E M) (pc + 3) lv (.ref (ad E 13 j (2 * p + 1)) :: st)) : J E C RX1 b z P cs ss N (fE E M) pc lv (.ref (ad E 12 j p) :: st) := JM_getf (ci := 1) d fl_X1_18 inX1 rfl (by decide) rfl ⟨hj, hp⟩ hof rfl rfl g
theorem jgf_X8_26 (d : decode b pc = .ok (.getfield 26, 3)) (hof : hOff 0 0 0 < N) (g : J E C RX8 b z P cs ss N (fE E M) (pc + 3) lv (.ref (ad E 7 0 0) :: st)) : J E C RX8 b z P cs ss N (fE E M) pc lv (.ref (ad E 0 0 0) :: st) := JM_getf (ci := 8) d fl_X8_26 inX8 rfl (by decide) rfl ⟨by decide, rfl, rfl⟩ hof rfl rfl g
theorem jgf_X8_40 (d : decode b pc = .ok (.getfield 40, 3)) (hof : hOff 0 0 0 < N) (g : J E C RX8 b z P cs ss N (fE E M) (pc + 3) lv (.ref (ad E 17 0 0) :: st)) : J E C RX8 b z P cs ss N (fE E M) pc lv (.ref (ad E 0 0 0) :: st) := JM_getf (ci := 8) d fl_X8_40 inX8 rfl (by decide) rfl ⟨by decide, rfl, rfl⟩ hof rfl rfl g
theorem ho0B : ((List.range 15).all fun k => (List.range 24).all fun p => !(decide (7 ≤ k) && hOkb k 0 p) || decide (hOff k 0 p < 75)) = true := by decide +kernel
theorem ho0 {k p : Nat} (h : hOk k 0 p) (h7 : 7 ≤ k) (h15 : k < 15) : hOff k 0 p < 75 := by
  have h1 := List.all_eq_true.mp (List.all_eq_true.mp ho0B k (List.mem_range.mpr h15)) p (List.mem_range.mpr (hOk_lt h).2.2)
  rw [hOk_b h] at h1
  simpa [h7] using h1
theorem hOS {k p : Nat} (h75 : 75 ≤ N) (h : hOk k 0 p) (h7 : 7 ≤ k) (h15 : k < 15) : hOff k 0 p < N := Nat.lt_of_lt_of_le (ho0 h h7 h15) h75
-- the class's acts of the start
variable {n : Nat}
theorem k_X1_sitOn {r t : Int32} (hNM : N ≤ 694) (h75 : 75 ≤ N) (hp : n < 12) (h : P none N (fE E ((M.up 12 0 n 3 r).up 12 0 n 4 t))) : Kp E yX1_sitOn cX1_sitOn zX1_sitOn [.ref (ad E 12 0 n), .int r, .int t] N (fE E M) P := by
  have ho := hOS (k := 12) (p := n) h75 ⟨by decide, hp⟩ (by decide) (by decide)
  refine Kp_of (own := RX1) (by decide) rfl (Nat.le_of_ble_eq_true rfl) (fun C hI => ?_)
  refine J_aload_n dX1_sitOn_0 rfl ?_
  refine J_iload_n dX1_sitOn_1 rfl ?_
  refine jpf_X1_29 dX1_sitOn_2 (by decide) (by omega) ho hNM ?_
  refine J_aload_n dX1_sitOn_5 rfl ?_
  refine J_iload_n dX1_sitOn_6 rfl ?_
  refine jpf_X1_32 dX1_sitOn_7 (by decide) (by omega) ho hNM ?_
  refine J_vret dX1_sitOn_10 rfl (Nat.le_of_ble_eq_true rfl) (Nat.le_of_ble_eq_true rfl) ?_
  exact h
theorem k_X1_learn {r t : Int32} (hNM : N ≤ 694) (h75 : 75 ≤ N) (hp : n < 12) (h : P none N (fE E ((M.up 12 0 n 11 r).up 12 0 n 12 t))) : Kp E yX1_learn cX1_learn zX1_learn [.ref (ad E 12 0 n), .int r, .int t] N (fE E M) P := by
  have ho := hOS (k := 12) (p := n) h75 ⟨by decide, hp⟩ (by decide) (by decide)
  refine Kp_of (own := RX1) (by decide) rfl (Nat.le_of_ble_eq_true rfl) (fun C hI => ?_)
  refine J_aload_n dX1_learn_0 rfl ?_
  refine J_iload_n dX1_learn_1 rfl ?_
  refine jpf_X1_54 dX1_learn_2 (by decide) (by omega) ho hNM ?_
  refine J_aload_n dX1_learn_5 rfl ?_
  refine J_iload_n dX1_learn_6 rfl ?_
  refine jpf_X1_57 dX1_learn_7 (by decide) (by omega) ho hNM ?_
  refine J_vret dX1_learn_10 rfl (Nat.le_of_ble_eq_true rfl) (Nat.le_of_ble_eq_true rfl) ?_
  exact h
theorem k_X1_emptySatchels (hNM : N ≤ 694) (h75 : 75 ≤ N) (hp : n < 12) (h : P none N (fE E ((M.up 13 0 (2 * n) 1 0).up 13 0 (2 * n + 1) 1 0))) : Kp E yX1_emptySatchels cX1_emptySatchels zX1_emptySatchels [.ref (ad E 12 0 n)] N (fE E M) P := by
  have ho := hOS (k := 12) (p := n) h75 ⟨by decide, hp⟩ (by decide) (by decide)
  have h1 := hOS (k := 13) (p := 2 * n) h75 ⟨by decide, by omega⟩ (by decide) (by decide)
  have h2 := hOS (k := 13) (p := 2 * n + 1) h75 ⟨by decide, by omega⟩ (by decide) (by decide)
  refine Kp_of (own := RX1) (by decide) rfl (Nat.le_of_ble_eq_true rfl) (fun C hI => ?_)
  refine J_aload_n dX1_emptySatchels_0 rfl ?_
  refine jgf_X1_12 dX1_emptySatchels_1 (by decide) (by omega) ho ?_
  refine J_iconst (v := 0) dX1_emptySatchels_4 (by decide) ?_
  refine jpf_X1_63 dX1_emptySatchels_5 (by decide) (by omega) h1 hNM ?_
  refine J_aload_n dX1_emptySatchels_8 rfl ?_
  refine jgf_X1_18 dX1_emptySatchels_9 (by decide) (by omega) ho ?_
  refine J_iconst (v := 0) dX1_emptySatchels_12 (by decide) ?_
  refine jpf_X1_63 dX1_emptySatchels_13 (by decide) (by omega) h2 hNM ?_
  refine J_vret dX1_emptySatchels_16 rfl (Nat.le_of_ble_eq_true rfl) (Nat.le_of_ble_eq_true rfl) ?_
  exact h
def bgM (M : Mm) (n : Nat) (x : Int32) : Mm := ((((((M.up 12 0 n 6 x).up 12 0 n 7 0).up 12 0 n 8 0).up 12 0 n 9 0).up 12 0 n 10 0).up 13 0 (2 * n) 1 0).up 13 0 (2 * n + 1) 1 0
theorem k_X1_beginSchool {x : Int32} (hNM : N ≤ 694) (h75 : 75 ≤ N) (hp : n < 12) (h : P none N (fE E (bgM M n x))) : Kp E yX1_beginSchool cX1_beginSchool zX1_beginSchool [.ref (ad E 12 0 n), .int x] N (fE E M) P := by
  have ho := hOS (k := 12) (p := n) h75 ⟨by decide, hp⟩ (by decide) (by decide)
  refine Kp_of (own := RX1) (by decide) rfl (Nat.le_of_ble_eq_true rfl) (fun C hI => ?_)
  refine J_aload_n dX1_beginSchool_0 rfl ?_
  refine J_iload_n dX1_beginSchool_1 rfl ?_
  refine jpf_X1_39 dX1_beginSchool_2 (by decide) (by omega) ho hNM ?_
  refine J_aload_n dX1_beginSchool_5 rfl ?_
  refine J_iconst (v := 0) dX1_beginSchool_6 (by decide) ?_
  refine jpf_X1_42 dX1_beginSchool_7 (by decide) (by omega) ho hNM ?_
  refine J_aload_n dX1_beginSchool_10 rfl ?_
  refine J_iconst (v := 0) dX1_beginSchool_11 (by decide) ?_
  refine jpf_X1_45 dX1_beginSchool_12 (by decide) (by omega) ho hNM ?_
  refine J_aload_n dX1_beginSchool_15 rfl ?_
  refine J_iconst (v := 0) dX1_beginSchool_16 (by decide) ?_
  refine jpf_X1_48 dX1_beginSchool_17 (by decide) (by omega) ho hNM ?_
  refine J_aload_n dX1_beginSchool_20 rfl ?_
  refine J_iconst (v := 0) dX1_beginSchool_21 (by decide) ?_
  refine jpf_X1_51 dX1_beginSchool_22 (by decide) (by omega) ho hNM ?_
  refine J_aload_n dX1_beginSchool_25 rfl ?_
  refine J_callV (i := hOff 12 0 n) (ci := 1) (T := TX1) (n9 := 13) (as := []) (rest := []) (cs' := 0) (ss' := 0) dX1_beginSchool_26 lk_X1_60 ho (fE_at ⟨by decide, hp⟩ rfl) rfl rfl rfl (Nat.le_of_ble_eq_true rfl) (Nat.le_of_ble_eq_true rfl) (Nat.le_of_ble_eq_true rfl) rfl rfl (Nat.le_of_ble_eq_true rfl) (Nat.le_of_ble_eq_true rfl) ?_
  refine k_X1_emptySatchels hNM h75 hp (hGj_v ?_)
  refine J_vret dX1_beginSchool_29 rfl (Nat.le_of_ble_eq_true rfl) (Nat.le_of_ble_eq_true rfl) ?_
  exact h
def enM (M : Mm) (n : Nat) (r t a c s : Int32) : Mm := (bgM (((((M.up 12 0 n 3 r).up 12 0 n 4 t).up 12 0 n 11 a).up 12 0 n 12 c).up 12 0 n 5 s) n (M.1 7 0 0 5)).up 7 0 0 3 (M.1 7 0 0 3 + 1)
theorem k_X3_enrol {r t a c s : Int32} (hNM : N ≤ 694) (h75 : 75 ≤ N) (hp : n < 12) (hn : M.1 7 0 0 3 = nI n) (hs : s = 0 ∨ s = 1) (h : P none N (fE E (enM M n r t a c s))) : Kp E yX3_enrol cX3_enrol zX3_enrol [.ref (ad E 7 0 0), .int r, .int t, .int a, .int c, .int s] N (fE E M) P := by
  have ho := hOS (k := 12) (p := n) h75 ⟨by decide, hp⟩ (by decide) (by decide)
  have h7 := hOS (k := 7) (p := 0) h75 ⟨by decide, rfl⟩ (by decide) (by decide)
  have h8 := hOS (k := 8) (p := 0) h75 ⟨by decide, rfl⟩ (by decide) (by decide)
  have hb : narrow .boolean (.int s) = .int s ∧ fits .boolean (.int s) = true := by
    rcases hs with rfl | rfl
    · exact ⟨rfl, rfl⟩
    · exact ⟨rfl, rfl⟩
  refine Kp_of (own := RX3) (by decide) rfl (Nat.le_of_ble_eq_true rfl) (fun C hI => ?_)
  refine J_aload_n dX3_enrol_0 rfl ?_
  refine jgf_X3_31 dX3_enrol_1 (by decide) h7 ?_
  refine J_bipush (v := 12) dX3_enrol_4 (by decide) ?_
  refine J_icmp_lt (tgt := 10) dX3_enrol_6 (by decide) (fun c6 => ?_) (fun c6 => ?_)
  · refine J_aload_n dX3_enrol_10 rfl ?_
    refine jgf_X3_11 dX3_enrol_11 (by decide) h7 ?_
    refine J_aload_n dX3_enrol_14 rfl ?_
    refine jgf_X3_31 dX3_enrol_15 (by decide) h7 ?_
    refine JM_aald dX3_enrol_18 ⟨by decide, rfl⟩ h8 rfl rfl hn hp (by decide) rfl ?_
    refine J_astore dX3_enrol_19 (Nat.le_of_ble_eq_true rfl) ?_
    refine J_aload dX3_enrol_21 rfl ?_
    refine J_iload_n dX3_enrol_23 rfl ?_
    refine J_iload_n dX3_enrol_24 rfl ?_
    refine J_callV (i := hOff 12 0 n) (ci := 1) (T := TX1) (n9 := 13) (as := [.int r, .int t]) (rest := []) (cs' := 0) (ss' := 0) dX3_enrol_25 lk_X3_121 ho (fE_at ⟨by decide, hp⟩ rfl) rfl rfl rfl (Nat.le_of_ble_eq_true rfl) (Nat.le_of_ble_eq_true rfl) (Nat.le_of_ble_eq_true rfl) rfl rfl (Nat.le_of_ble_eq_true rfl) (Nat.le_of_ble_eq_true rfl) ?_
    refine k_X1_sitOn hNM h75 hp (hGj_v ?_)
    refine J_aload dX3_enrol_28 rfl ?_
    refine J_iload_n dX3_enrol_30 rfl ?_
    refine J_iload dX3_enrol_31 rfl ?_
    refine J_callV (i := hOff 12 0 n) (ci := 1) (T := TX1) (n9 := 13) (as := [.int a, .int c]) (rest := []) (cs' := 0) (ss' := 0) dX3_enrol_33 lk_X3_125 ho (fE_at ⟨by decide, hp⟩ rfl) rfl rfl rfl (Nat.le_of_ble_eq_true rfl) (Nat.le_of_ble_eq_true rfl) (Nat.le_of_ble_eq_true rfl) rfl rfl (Nat.le_of_ble_eq_true rfl) (Nat.le_of_ble_eq_true rfl) ?_
    refine k_X1_learn hNM h75 hp (hGj_v ?_)
    refine J_aload dX3_enrol_36 rfl ?_
    refine J_iload dX3_enrol_38 rfl ?_
    refine jpf_X3_128 dX3_enrol_40 (by decide) (by omega) hb.1 hb.2 ho hNM ?_
    refine J_aload dX3_enrol_43 rfl ?_
    refine J_aload_n dX3_enrol_45 rfl ?_
    refine jgf_X3_51 dX3_enrol_46 (by decide) h7 ?_
    refine J_callV (i := hOff 12 0 n) (ci := 1) (T := TX1) (n9 := 13) (as := [.int (M.1 7 0 0 5)]) (rest := []) (cs' := 0) (ss' := 0) dX3_enrol_49 lk_X3_132 ho (fE_at ⟨by decide, hp⟩ rfl) rfl rfl rfl (Nat.le_of_ble_eq_true rfl) (Nat.le_of_ble_eq_true rfl) (Nat.le_of_ble_eq_true rfl) rfl rfl (Nat.le_of_ble_eq_true rfl) (Nat.le_of_ble_eq_true rfl) ?_
    refine k_X1_beginSchool hNM h75 hp (hGj_v ?_)
    refine J_aload_n dX3_enrol_52 rfl ?_
    refine J_dup dX3_enrol_53 rfl ?_
    refine jgf_X3_31 dX3_enrol_54 (by decide) h7 ?_
    refine J_iconst (v := 1) dX3_enrol_57 (by decide) ?_
    refine J_iadd dX3_enrol_58 ?_
    refine jpf_X3_31 dX3_enrol_59 (by decide) h7 hNM ?_
    refine J_vret dX3_enrol_62 rfl (Nat.le_of_ble_eq_true rfl) (Nat.le_of_ble_eq_true rfl) ?_
    exact h
  · rw [hn] at c6
    exact absurd (nI_lt hp (by decide)) c6
def taM (M : Mm) : Nat → Mm
  | 0 => M
  | k + 1 => (taM M k).up 11 0 0 k 0
def opM (M : Mm) (x l u v : Int32) : Mm := taM (((((((M.up 7 0 0 5 x).up 7 0 0 6 l).up 7 0 0 7 u).up 7 0 0 8 v).up 7 0 0 3 0).up 7 0 0 4 0).up 9 0 0 4 0) 10
theorem k_X3_open {x l u v : Int32} (hNM : N ≤ 694) (h75 : 75 ≤ N) (h : P none N (fE E (opM M x l u v))) : Kp E yX3_open cX3_open zX3_open [.ref (ad E 7 0 0), .int x, .int l, .int u, .int v] N (fE E M) P := by
  have h7 := hOS (k := 7) (p := 0) h75 ⟨by decide, rfl⟩ (by decide) (by decide)
  have h9 := hOS (k := 9) (p := 0) h75 ⟨by decide, rfl⟩ (by decide) (by decide)
  have h11 := hOS (k := 11) (p := 0) h75 ⟨by decide, rfl⟩ (by decide) (by decide)
  refine Kp_of (own := RX3) (by decide) rfl (Nat.le_of_ble_eq_true rfl) (fun C hI => ?_)
  refine J_aload_n dX3_open_0 rfl ?_
  refine J_iload_n dX3_open_1 rfl ?_
  refine jpf_X3_51 dX3_open_2 (by decide) h7 hNM ?_
  refine J_aload_n dX3_open_5 rfl ?_
  refine J_iload_n dX3_open_6 rfl ?_
  refine jpf_X3_54 dX3_open_7 (by decide) h7 hNM ?_
  refine J_aload_n dX3_open_10 rfl ?_
  refine J_iload_n dX3_open_11 rfl ?_
  refine jpf_X3_57 dX3_open_12 (by decide) h7 hNM ?_
  refine J_aload_n dX3_open_15 rfl ?_
  refine J_iload dX3_open_16 rfl ?_
  refine jpf_X3_60 dX3_open_18 (by decide) h7 hNM ?_
  refine J_aload_n dX3_open_21 rfl ?_
  refine J_iconst (v := 0) dX3_open_22 (by decide) ?_
  refine jpf_X3_31 dX3_open_23 (by decide) h7 hNM ?_
  refine J_aload_n dX3_open_26 rfl ?_
  refine J_iconst (v := 0) dX3_open_27 (by decide) ?_
  refine jpf_X3_48 dX3_open_28 (by decide) h7 hNM ?_
  refine J_aload_n dX3_open_31 rfl ?_
  refine jgf_X3_20 dX3_open_32 (by decide) h7 ?_
  refine J_iconst (v := 0) dX3_open_35 (by decide) ?_
  refine jpf_X3_96 dX3_open_36 (by decide) h9 hNM ?_
  refine J_iconst (v := 0) dX3_open_39 (by decide) ?_
  refine J_istore dX3_open_40 (Nat.le_of_ble_eq_true rfl) ?_
  refine J_lv (lv' := [(0, .ref (ad E 7 0 0)), (5, .int (nI 0))]) ⟨rfl, rfl, trivial⟩ ?_
  refine up0 (c := 10) (H := fun i => J E C RX3 cX3_open zX3_open P 0 0 N (fE E (taM (((((((M.up 7 0 0 5 x).up 7 0 0 6 l).up 7 0 0 7 u).up 7 0 0 8 v).up 7 0 0 3 0).up 7 0 0 4 0).up 9 0 0 4 0) i)) 42 [(0, .ref (ad E 7 0 0)), (5, .int (nI i))] []) ?_ (fun i hi ih => ?_)
  · refine J_iload dX3_open_42 rfl ?_
    refine J_bipush (v := 10) dX3_open_44 (by decide) ?_
    refine J_icmp_ge (tgt := 63) dX3_open_46 (by decide) (fun c46 => ?_) (fun c46 => ?_)
    · refine J_vret dX3_open_63 rfl (Nat.le_of_ble_eq_true rfl) (Nat.le_of_ble_eq_true rfl) ?_
      exact h
    · exact absurd (show nI 10 ≤ nI 10 from Int32.le_refl _) c46
  · refine J_iload dX3_open_42 rfl ?_
    refine J_bipush (v := 10) dX3_open_44 (by decide) ?_
    refine J_icmp_ge (tgt := 63) dX3_open_46 (by decide) (fun c46 => ?_) (fun c46 => ?_)
    · exact absurd (show nI 10 ≤ nI i from c46) (nI_ge hi (by decide))
    · refine J_aload_n dX3_open_49 rfl ?_
      refine jgf_X3_24 dX3_open_50 (by decide) h7 ?_
      refine J_iload dX3_open_53 rfl ?_
      refine J_iconst (v := 0) dX3_open_55 (by decide) ?_
      refine JM_iast dX3_open_56 ⟨by decide, rfl⟩ h11 hNM (fun _ => rfl) rfl hi (by decide) ?_
      refine J_iinc (v := 1) dX3_open_57 rfl (Nat.le_of_ble_eq_true rfl) (by decide) ?_
      refine J_goto (tgt := 42) dX3_open_60 (by decide) ?_
      exact J_lv2 ih ⟨rfl, lvi (nI_1 i), trivial⟩
end JMEM
