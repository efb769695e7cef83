/-! ===== the law's digest and isSame ===== -/
section LDIGEST
variable {E : Ed} {M : Mm} {P : Res → Mm → Prop} {g : Gs} {C : Cx}
def rowF (L : List Int32) : Nat → Int32 := fun k => L.getD k 0
theorem rowF_nil : rowF [] = fun _ => 0 := by
  funext k
  simp [rowF]
theorem rowF_up {L : List Int32} {v : Int32} : upd (rowF L) L.length v = rowF (L ++ [v]) := by
  funext k
  unfold upd rowF
  by_cases q : k = L.length
  · rw [if_pos q, q]
    simp [List.getD_eq_getElem?_getD]
  · rw [if_neg q]
    by_cases z : k < L.length
    · simp [List.getD_eq_getElem?_getD, List.getElem?_append_left z]
    · rw [List.getD_eq_getElem?_getD, List.getD_eq_getElem?_getD, List.getElem?_eq_none (by omega), List.getElem?_eq_none (by simp; omega)]
theorem xI_ok {X : va_W} {a n : Nat} {f f' : Nat → Int32} (h : xOk E (xI E X a n f)) : xOk E (xI E X a n f') := by
  rw [← xI_set (f := f) (f' := f')]
  exact xOk_set h xI_at
theorem xI_2 {X : va_W} {a n : Nat} {f : Nat → Int32} : (M.x (xI E X a n f)).2 = xI E X a n f := rfl
/-- a number laid behind those of the row -/
theorem G_dig {own : String} {b : ByteArray} {z : Zd} {cs ss pc a : Nat} {lv : List (Nat × Value)} {st : List Value} {L : List Int32} {v y : Int32} (hx : xOk E (xI E M.2 a 900 (rowF L))) (hl : L.length < 900) (hy : y = nI L.length) (d : decode b pc = .ok (.iastore, 1)) (k : G E C own b z P cs ss (M.x (xI E M.2 a 900 (rowF (L ++ [v])))) (pc + 1) lv st) : G E C own b z P cs ss (M.x (xI E M.2 a 900 (rowF L))) pc lv (.int v :: .int y :: .ref a :: st) := by
  subst hy
  refine G_xiast (M := M.x (xI E M.2 a 900 (rowF L))) hx xI_at d rfl hl (by decide) (fun _ => ?_)
  have e : (xI E M.2 a 900 (rowF L)).set M.2.length (a, .inl (E.2.2.1 0, 900, .inl (upd (rowF L) L.length v))) = xI E M.2 a 900 (rowF (L ++ [v])) := by
    rw [rowF_up]
    exact xI_set
  exact G_st rfl rfl (by rw [← e]) k
/-- what count answers, of the school alone -/
def cntA (A : Ab) : Nat → Int32
  | 0 => nI A.n
  | 6 => piecesV A 0
  | 7 => piecesV A 1
  | 8 => nI A.d.length
  | 9 => sm A.d.length (fun i => dg A.d i 3)
  | 10 => sm A.n (fun p => if 0 < A.f p 8 then 1 else 0)
  | 11 => sm A.n (fun p => if A.f p 4 = 0 then 0 else 1)
  | k => A.g k
theorem cntV_A {k : Nat} (hk : k < 12) : cntV g k = cntA g.A k := by
  rcases (show k = 0 ∨ k = 1 ∨ k = 2 ∨ k = 3 ∨ k = 4 ∨ k = 5 ∨ k = 6 ∨ k = 7 ∨ k = 8 ∨ k = 9 ∨ k = 10 ∨ k = 11 by omega) with rfl | rfl | rfl | rfl | rfl | rfl | rfl | rfl | rfl | rfl | rfl | rfl <;> rfl
def dL1 (A : Ab) (i : Nat) : List Int32 := (List.range i).map (cntA A)
def dL2 (A : Ab) (i : Nat) : List Int32 := (List.range i).map (fun k => A.g (7 + k))
def dL3 (A : Ab) (p i : Nat) : List Int32 := (List.range i).map (pupV A p)
def dL4 (L : List Int32) (i : Nat) : List Int32 := (List.range i).map (fun k => L.getD k 0)
def dLs (A : Ab) (p : Nat) : Nat → List Int32
  | 0 => []
  | j + 1 => dLs A p j ++ dL4 (A.s (2 * p + j)) (A.s (2 * p + j)).length
def dLp (A : Ab) : Nat → List Int32
  | 0 => []
  | p + 1 => dLp A p ++ (dL3 A p 14 ++ dLs A p 2)
def dL5 (d : List De) (k i : Nat) : List Int32 := (List.range i).map (dg d k)
def dLd (d : List De) : Nat → List Int32
  | 0 => []
  | k + 1 => dLd d k ++ dL5 d k 4
/-- all that the digest holds -/
def digL (A : Ab) : List Int32 := dL1 A 12 ++ dL2 A 10 ++ dLp A A.n ++ dLd A.d A.d.length
theorem range_map {f : Nat → Int32} {i : Nat} : (List.range (i + 1)).map f = (List.range i).map f ++ [f i] := by
  rw [List.range_succ, List.map_append]
  rfl
theorem len_map {f : Nat → Int32} {i : Nat} : ((List.range i).map f).length = i := by simp
theorem dLs_len {A : Ab} {p j : Nat} (hO : Ok A) (hp : p < A.n) (hj : j ≤ 2) : (dLs A p j).length ≤ 20 * j := by
  induction j with
  | zero => exact Nat.le_refl 0
  | succ j ih =>
    have h1 := (hO.2.2.2.1 (2 * p + j) (by omega)).1
    have h2 := ih (by omega)
    show (dLs A p j ++ dL4 (A.s (2 * p + j)) (A.s (2 * p + j)).length).length ≤ _
    rw [List.length_append, show (dL4 (A.s (2 * p + j)) (A.s (2 * p + j)).length).length = _ from len_map]
    omega
theorem dLp_len {A : Ab} {p : Nat} (hO : Ok A) (hp : p ≤ A.n) : (dLp A p).length ≤ 54 * p := by
  induction p with
  | zero => exact Nat.le_refl 0
  | succ p ih =>
    have h1 := dLs_len (j := 2) hO (show p < A.n by omega) (Nat.le_refl 2)
    have h2 := ih (by omega)
    show (dLp A p ++ (dL3 A p 14 ++ dLs A p 2)).length ≤ _
    rw [List.length_append, List.length_append, show (dL3 A p 14).length = 14 from len_map]
    omega
theorem dLd_len {d : List De} : ∀ k, (dLd d k).length = 4 * k
  | 0 => rfl
  | k + 1 => by
    show (dLd d k ++ dL5 d k 4).length = _
    rw [List.length_append, dLd_len k, show (dL5 d k 4).length = 4 from len_map]
    omega
theorem ixL {L : List Int32} {v : Int32} : nI L.length + 1 = nI (L ++ [v]).length := by
  rw [List.length_append, nI_1]
  rfl
theorem dg_1 {a : Nat} (hC : CG M g) (hO : Okg g) (hX : ∀ f, xOk E (xI E M.2 a 900 f)) (k : G E C RL cL_digest zL_digest P 1 900 (M.x (xI E M.2 a 900 (rowF (dL1 g.A 12)))) 33 [(0, .ref (ad E 0 0 0)), (1, .ref a), (2, .int (nI (dL1 g.A 12).length))] []) : G E C RL cL_digest zL_digest P 1 900 (M.x (xI E M.2 a 900 (rowF ([])))) 8 [(0, .ref (ad E 0 0 0)), (1, .ref a), (2, .int (0))] [] := by
  have hC1 : CG (M.x (xI E M.2 a 900 (fun _ => 0))) g := hC
  refine G_iconst (v := 0) dL_digest_8 (by decide) ?_
  refine G_istore_n dL_digest_9 (Nat.le_of_ble_eq_true rfl) ?_
  refine G_lv (lv' := [(0, .ref (ad E 0 0 0)), (1, .ref a), (2, .int (nI (dL1 g.A 0).length)), (3, .int (nI 0))]) ⟨rfl, rfl, rfl, rfl, trivial⟩ ?_
  refine up0 (c := 12) (H := fun i => G E C RL cL_digest zL_digest P 1 900 (M.x (xI E M.2 a 900 (rowF (dL1 g.A i)))) 10 [(0, .ref (ad E 0 0 0)), (1, .ref a), (2, .int (nI (dL1 g.A i).length)), (3, .int (nI i))] []) ?_ (fun i hi ih => ?_)
  · refine G_iload_n dL_digest_10 rfl ?_
    refine G_bipush (v := 12) dL_digest_11 (by decide) ?_
    refine G_icmp_ge (tgt := 33) dL_digest_13 (by decide) (fun c13 => ?_) (fun c13 => ?_)
    · exact G_lv2 k ⟨rfl, rfl, rfl, trivial⟩
    · exact absurd (show nI 12 ≤ nI 12 from Int32.le_refl _) c13
  · refine G_iload_n dL_digest_10 rfl ?_
    refine G_bipush (v := 12) dL_digest_11 (by decide) ?_
    refine G_icmp_ge (tgt := 33) dL_digest_13 (by decide) (fun c13 => ?_) (fun c13 => ?_)
    · exact absurd (show nI 12 ≤ nI i from c13) (nI_ge hi (by decide))
    · refine G_aload_n dL_digest_16 rfl ?_
      refine G_iload_n dL_digest_17 rfl ?_
      refine G_iinc (v := 1) dL_digest_18 rfl (Nat.le_of_ble_eq_true rfl) (by decide) ?_
      refine G_aload_n dL_digest_21 rfl ?_
      refine G_iload_n dL_digest_22 rfl ?_
      refine cv_L_68 (cs' := 1) (ss' := 900) dL_digest_23  (Nat.le_of_ble_eq_true rfl) (Nat.le_of_ble_eq_true rfl) (Nat.le_of_ble_eq_true rfl) rfl rfl (Nat.le_of_ble_eq_true rfl) (Nat.le_of_ble_eq_true rfl) rfl ?_
      refine u_count (k := i) (by omega) (CG.x hC) (hGo_i ?_)
      rw [cntV_A hi]
      refine G_dig (hX _) (by rw [show (dL1 g.A i).length = i from len_map]; omega) rfl dL_digest_26 ?_
      refine G_iinc (v := 1) dL_digest_27 rfl (Nat.le_of_ble_eq_true rfl) (by decide) ?_
      refine G_goto (tgt := 10) dL_digest_30 (by decide) ?_
      refine G_lv2 (G_st rfl rfl (by rw [show dL1 g.A (i + 1) = dL1 g.A i ++ [cntA g.A i] from range_map]) ih) ⟨rfl, rfl, lvi ?_, lvi (nI_1 i), trivial⟩
      rw [show dL1 g.A (i + 1) = dL1 g.A i ++ [cntA g.A i] from range_map]
      exact ixL
theorem dg_2 {a : Nat} (hC : CG M g) (hO : Okg g) (hX : ∀ f, xOk E (xI E M.2 a 900 f)) (k : G E C RL cL_digest zL_digest P 1 900 (M.x (xI E M.2 a 900 (rowF (dL1 g.A 12 ++ dL2 g.A 10)))) 58 [(0, .ref (ad E 0 0 0)), (1, .ref a), (2, .int (nI (dL1 g.A 12 ++ dL2 g.A 10).length))] []) : G E C RL cL_digest zL_digest P 1 900 (M.x (xI E M.2 a 900 (rowF (dL1 g.A 12)))) 33 [(0, .ref (ad E 0 0 0)), (1, .ref a), (2, .int (nI (dL1 g.A 12).length))] [] := by
  refine G_iconst (v := 0) dL_digest_33 (by decide) ?_
  refine G_istore_n dL_digest_34 (Nat.le_of_ble_eq_true rfl) ?_
  refine G_lv (lv' := [(0, .ref (ad E 0 0 0)), (1, .ref a), (2, .int (nI (dL1 g.A 12 ++ dL2 g.A 0).length)), (3, .int (nI 0))]) ⟨rfl, rfl, lvi (by rw [show dL2 g.A 0 = [] from rfl, List.append_nil]), rfl, trivial⟩ ?_
  refine G_st (M' := M.x (xI E M.2 a 900 (rowF (dL1 g.A 12 ++ dL2 g.A 0)))) rfl rfl (by rw [show dL2 g.A 0 = [] from rfl, List.append_nil]) ?_
  refine up0 (c := 10) (H := fun i => G E C RL cL_digest zL_digest P 1 900 (M.x (xI E M.2 a 900 (rowF (dL1 g.A 12 ++ dL2 g.A i)))) 35 [(0, .ref (ad E 0 0 0)), (1, .ref a), (2, .int (nI (dL1 g.A 12 ++ dL2 g.A i).length)), (3, .int (nI i))] []) ?_ (fun i hi ih => ?_)
  · refine G_iload_n dL_digest_35 rfl ?_
    refine G_bipush (v := 10) dL_digest_36 (by decide) ?_
    refine G_icmp_ge (tgt := 58) dL_digest_38 (by decide) (fun c38 => ?_) (fun c38 => ?_)
    · exact G_lv2 k ⟨rfl, rfl, rfl, trivial⟩
    · exact absurd (show nI 10 ≤ nI 10 from Int32.le_refl _) c38
  · refine G_iload_n dL_digest_35 rfl ?_
    refine G_bipush (v := 10) dL_digest_36 (by decide) ?_
    refine G_icmp_ge (tgt := 58) dL_digest_38 (by decide) (fun c38 => ?_) (fun c38 => ?_)
    · exact absurd (show nI 10 ≤ nI i from c38) (nI_ge hi (by decide))
    · refine G_aload_n dL_digest_41 rfl ?_
      refine G_iload_n dL_digest_42 rfl ?_
      refine G_iinc (v := 1) dL_digest_43 rfl (Nat.le_of_ble_eq_true rfl) (by decide) ?_
      refine G_aload_n dL_digest_46 rfl ?_
      refine G_iload_n dL_digest_47 rfl ?_
      refine cv_L_137 (cs' := 1) (ss' := 900) dL_digest_48  (Nat.le_of_ble_eq_true rfl) (Nat.le_of_ble_eq_true rfl) (Nat.le_of_ble_eq_true rfl) rfl rfl (Nat.le_of_ble_eq_true rfl) (Nat.le_of_ble_eq_true rfl) rfl ?_
      refine u_tally (k := i) (by omega) (CG.x hC) (hGo_i ?_)
      have e : dL1 g.A 12 ++ dL2 g.A (i + 1) = (dL1 g.A 12 ++ dL2 g.A i) ++ [g.A.g (7 + i)] := by
        rw [show dL2 g.A (i + 1) = dL2 g.A i ++ [g.A.g (7 + i)] from range_map, List.append_assoc]
      refine G_dig (hX _) (by rw [List.length_append, show (dL1 g.A 12).length = 12 from len_map, show (dL2 g.A i).length = i from len_map]; omega) rfl dL_digest_51 ?_
      refine G_iinc (v := 1) dL_digest_52 rfl (Nat.le_of_ble_eq_true rfl) (by decide) ?_
      refine G_goto (tgt := 35) dL_digest_55 (by decide) ?_
      refine G_lv2 (G_st rfl rfl (by rw [e]) ih) ⟨rfl, rfl, lvi ?_, lvi (nI_1 i), trivial⟩
      rw [e]
      exact ixL
theorem dg_3 {a p : Nat} (hp : p < g.A.n) (hC : CG M g) (hO : Okg g) (hX : ∀ f, xOk E (xI E M.2 a 900 f)) (k : G E C RL cL_digest zL_digest P 1 900 (M.x (xI E M.2 a 900 (rowF (dL1 g.A 12 ++ dL2 g.A 10 ++ dLp g.A p ++ dL3 g.A p 14)))) 98 [(0, .ref (ad E 0 0 0)), (1, .ref a), (2, .int (nI (dL1 g.A 12 ++ dL2 g.A 10 ++ dLp g.A p ++ dL3 g.A p 14).length)), (3, .int (nI p))] []) : G E C RL cL_digest zL_digest P 1 900 (M.x (xI E M.2 a 900 (rowF (dL1 g.A 12 ++ dL2 g.A 10 ++ dLp g.A p)))) 69 [(0, .ref (ad E 0 0 0)), (1, .ref a), (2, .int (nI (dL1 g.A 12 ++ dL2 g.A 10 ++ dLp g.A p).length)), (3, .int (nI p))] [] := by
  have h12 := hC.1.n12
  have hlp := dLp_len hO.1 (Nat.le_of_lt hp)
  refine G_iconst (v := 0) dL_digest_69 (by decide) ?_
  refine G_istore dL_digest_70 (Nat.le_of_ble_eq_true rfl) ?_
  refine G_lv (lv' := [(0, .ref (ad E 0 0 0)), (1, .ref a), (2, .int (nI (dL1 g.A 12 ++ dL2 g.A 10 ++ dLp g.A p ++ dL3 g.A p 0).length)), (3, .int (nI p)), (4, .int (nI 0))]) ⟨rfl, rfl, lvi (by rw [show dL3 g.A p 0 = [] from rfl, List.append_nil]), rfl, rfl, trivial⟩ ?_
  refine G_st (M' := M.x (xI E M.2 a 900 (rowF (dL1 g.A 12 ++ dL2 g.A 10 ++ dLp g.A p ++ dL3 g.A p 0)))) rfl rfl (by rw [show dL3 g.A p 0 = [] from rfl, List.append_nil]) ?_
  refine up0 (c := 14) (H := fun i => G E C RL cL_digest zL_digest P 1 900 (M.x (xI E M.2 a 900 (rowF (dL1 g.A 12 ++ dL2 g.A 10 ++ dLp g.A p ++ dL3 g.A p i)))) 72 [(0, .ref (ad E 0 0 0)), (1, .ref a), (2, .int (nI (dL1 g.A 12 ++ dL2 g.A 10 ++ dLp g.A p ++ dL3 g.A p i).length)), (3, .int (nI p)), (4, .int (nI i))] []) ?_ (fun i hi ih => ?_)
  · refine G_iload dL_digest_72 rfl ?_
    refine G_bipush (v := 14) dL_digest_74 (by decide) ?_
    refine G_icmp_ge (tgt := 98) dL_digest_76 (by decide) (fun c76 => ?_) (fun c76 => ?_)
    · exact G_lv2 k ⟨rfl, rfl, rfl, rfl, trivial⟩
    · exact absurd (show nI 14 ≤ nI 14 from Int32.le_refl _) c76
  · refine G_iload dL_digest_72 rfl ?_
    refine G_bipush (v := 14) dL_digest_74 (by decide) ?_
    refine G_icmp_ge (tgt := 98) dL_digest_76 (by decide) (fun c76 => ?_) (fun c76 => ?_)
    · exact absurd (show nI 14 ≤ nI i from c76) (nI_ge hi (by decide))
    · refine G_aload_n dL_digest_79 rfl ?_
      refine G_iload_n dL_digest_80 rfl ?_
      refine G_iinc (v := 1) dL_digest_81 rfl (Nat.le_of_ble_eq_true rfl) (by decide) ?_
      refine G_aload_n dL_digest_84 rfl ?_
      refine G_iload_n dL_digest_85 rfl ?_
      refine G_iload dL_digest_86 rfl ?_
      refine cv_L_59 (cs' := 1) (ss' := 900) dL_digest_88  (Nat.le_of_ble_eq_true rfl) (Nat.le_of_ble_eq_true rfl) (Nat.le_of_ble_eq_true rfl) rfl rfl (Nat.le_of_ble_eq_true rfl) (Nat.le_of_ble_eq_true rfl) rfl ?_
      refine u_pupil (k := i) hp (by omega) (CG.x hC) hO (hGo_i ?_)
      have e : dL1 g.A 12 ++ dL2 g.A 10 ++ dLp g.A p ++ dL3 g.A p (i + 1) = (dL1 g.A 12 ++ dL2 g.A 10 ++ dLp g.A p ++ dL3 g.A p i) ++ [pupV g.A p i] := by
        rw [show dL3 g.A p (i + 1) = dL3 g.A p i ++ [pupV g.A p i] from range_map, ← List.append_assoc]
      refine G_dig (hX _) (by rw [List.length_append, List.length_append, List.length_append, show (dL1 g.A 12).length = 12 from len_map, show (dL2 g.A 10).length = 10 from len_map, show (dL3 g.A p i).length = i from len_map]; omega) rfl dL_digest_91 ?_
      refine G_iinc (v := 1) dL_digest_92 rfl (Nat.le_of_ble_eq_true rfl) (by decide) ?_
      refine G_goto (tgt := 72) dL_digest_95 (by decide) ?_
      refine G_lv2 (G_st rfl rfl (by rw [e]) ih) ⟨rfl, rfl, lvi ?_, rfl, lvi (nI_1 i), trivial⟩
      rw [e]
      exact ixL
theorem dg_4 {a p j : Nat} (hp : p < g.A.n) (hj : j < 2) (hC : CG M g) (hO : Okg g) (hX : ∀ f, xOk E (xI E M.2 a 900 f)) (k : G E C RL cL_digest zL_digest P 1 900 (M.x (xI E M.2 a 900 (rowF (dL1 g.A 12 ++ dL2 g.A 10 ++ dLp g.A p ++ dL3 g.A p 14 ++ dLs g.A p (j + 1))))) 101 [(0, .ref (ad E 0 0 0)), (1, .ref a), (2, .int (nI (dL1 g.A 12 ++ dL2 g.A 10 ++ dLp g.A p ++ dL3 g.A p 14 ++ dLs g.A p (j + 1)).length)), (3, .int (nI p)), (4, .int (nI (j + 1)))] []) : G E C RL cL_digest zL_digest P 1 900 (M.x (xI E M.2 a 900 (rowF (dL1 g.A 12 ++ dL2 g.A 10 ++ dLp g.A p ++ dL3 g.A p 14 ++ dLs g.A p j)))) 107 [(0, .ref (ad E 0 0 0)), (1, .ref a), (2, .int (nI (dL1 g.A 12 ++ dL2 g.A 10 ++ dLp g.A p ++ dL3 g.A p 14 ++ dLs g.A p j).length)), (3, .int (nI p)), (4, .int (nI j))] [] := by
  have h12 := hC.1.n12
  have hlp := dLp_len hO.1 (Nat.le_of_lt hp)
  have hls := dLs_len hO.1 hp (show j ≤ 2 by omega)
  have hl := (hO.1.2.2.2.1 (2 * p + j) (by omega)).1
  have e9 : (9 : Int32) + nI j = nI (9 + j) := nI_add 9 j
  refine G_iconst (v := 0) dL_digest_107 (by decide) ?_
  refine G_istore dL_digest_108 (Nat.le_of_ble_eq_true rfl) ?_
  refine G_lv (lv' := [(0, .ref (ad E 0 0 0)), (1, .ref a), (2, .int (nI (dL1 g.A 12 ++ dL2 g.A 10 ++ dLp g.A p ++ dL3 g.A p 14 ++ dLs g.A p j ++ dL4 (g.A.s (2 * p + j)) 0).length)), (3, .int (nI p)), (4, .int (nI j)), (5, .int (nI 0))]) ⟨rfl, rfl, lvi (by rw [show dL4 (g.A.s (2 * p + j)) 0 = [] from rfl, List.append_nil]), rfl, rfl, rfl, trivial⟩ ?_
  refine G_st (M' := M.x (xI E M.2 a 900 (rowF (dL1 g.A 12 ++ dL2 g.A 10 ++ dLp g.A p ++ dL3 g.A p 14 ++ dLs g.A p j ++ dL4 (g.A.s (2 * p + j)) 0)))) rfl rfl (by rw [show dL4 (g.A.s (2 * p + j)) 0 = [] from rfl, List.append_nil]) ?_
  refine up0 (c := (g.A.s (2 * p + j)).length) (H := fun i => G E C RL cL_digest zL_digest P 1 900 (M.x (xI E M.2 a 900 (rowF (dL1 g.A 12 ++ dL2 g.A 10 ++ dLp g.A p ++ dL3 g.A p 14 ++ dLs g.A p j ++ dL4 (g.A.s (2 * p + j)) i)))) 110 [(0, .ref (ad E 0 0 0)), (1, .ref a), (2, .int (nI (dL1 g.A 12 ++ dL2 g.A 10 ++ dLp g.A p ++ dL3 g.A p 14 ++ dLs g.A p j ++ dL4 (g.A.s (2 * p + j)) i).length)), (3, .int (nI p)), (4, .int (nI j)), (5, .int (nI i))] []) ?_ (fun i hi ih => ?_)
  · refine G_iload dL_digest_110 rfl ?_
    refine G_aload_n dL_digest_112 rfl ?_
    refine G_iload_n dL_digest_113 rfl ?_
    refine G_bipush (v := 9) dL_digest_114 (by decide) ?_
    refine G_iload dL_digest_116 rfl ?_
    refine G_iadd dL_digest_118 ?_
    rw [e9]
    refine cv_L_59 (cs' := 1) (ss' := 900) dL_digest_119  (Nat.le_of_ble_eq_true rfl) (Nat.le_of_ble_eq_true rfl) (Nat.le_of_ble_eq_true rfl) rfl rfl (Nat.le_of_ble_eq_true rfl) (Nat.le_of_ble_eq_true rfl) rfl ?_
    refine u_pupil (k := 9 + j) hp (by omega) (CG.x hC) hO (hGo_i ?_)
    rw [pupV_s (by omega)]
    refine G_icmp_ge (tgt := 146) dL_digest_122 (by decide) (fun c122 => ?_) (fun c122 => ?_)
    · refine G_iinc (v := 1) dL_digest_146 rfl (Nat.le_of_ble_eq_true rfl) (by decide) ?_
      refine G_goto (tgt := 101) dL_digest_149 (by decide) ?_
      refine G_lv2 (G_st rfl rfl (by rw [show dLs g.A p (j + 1) = dLs g.A p j ++ dL4 (g.A.s (2 * p + j)) (g.A.s (2 * p + j)).length from rfl, ← List.append_assoc]) k) ⟨rfl, rfl, lvi ?_, rfl, lvi (nI_1 j), trivial⟩
      rw [show dLs g.A p (j + 1) = dLs g.A p j ++ dL4 (g.A.s (2 * p + j)) (g.A.s (2 * p + j)).length from rfl, ← List.append_assoc]
    · exact absurd (show nI (g.A.s (2 * p + j)).length ≤ nI (g.A.s (2 * p + j)).length from Int32.le_refl _) c122
  · refine G_iload dL_digest_110 rfl ?_
    refine G_aload_n dL_digest_112 rfl ?_
    refine G_iload_n dL_digest_113 rfl ?_
    refine G_bipush (v := 9) dL_digest_114 (by decide) ?_
    refine G_iload dL_digest_116 rfl ?_
    refine G_iadd dL_digest_118 ?_
    rw [e9]
    refine cv_L_59 (cs' := 1) (ss' := 900) dL_digest_119  (Nat.le_of_ble_eq_true rfl) (Nat.le_of_ble_eq_true rfl) (Nat.le_of_ble_eq_true rfl) rfl rfl (Nat.le_of_ble_eq_true rfl) (Nat.le_of_ble_eq_true rfl) rfl ?_
    refine u_pupil (k := 9 + j) hp (by omega) (CG.x hC) hO (hGo_i ?_)
    rw [pupV_s (by omega)]
    refine G_icmp_ge (tgt := 146) dL_digest_122 (by decide) (fun c122 => ?_) (fun c122 => ?_)
    · exact absurd (show nI (g.A.s (2 * p + j)).length ≤ nI i from c122) (nI_ge hi (by omega))
    · refine G_aload_n dL_digest_125 rfl ?_
      refine G_iload_n dL_digest_126 rfl ?_
      refine G_iinc (v := 1) dL_digest_127 rfl (Nat.le_of_ble_eq_true rfl) (by decide) ?_
      refine G_aload_n dL_digest_130 rfl ?_
      refine G_iload_n dL_digest_131 rfl ?_
      refine G_iload dL_digest_132 rfl ?_
      refine G_iload dL_digest_134 rfl ?_
      refine cv_L_80 (cs' := 1) (ss' := 900) dL_digest_136  (Nat.le_of_ble_eq_true rfl) (Nat.le_of_ble_eq_true rfl) (Nat.le_of_ble_eq_true rfl) rfl rfl (Nat.le_of_ble_eq_true rfl) (Nat.le_of_ble_eq_true rfl) rfl ?_
      refine u_piece (s := j) hp (by omega) (CG.x hC) (hGo_i ?_)
      rw [atL_in hi (by omega)]
      have e : dL1 g.A 12 ++ dL2 g.A 10 ++ dLp g.A p ++ dL3 g.A p 14 ++ dLs g.A p j ++ dL4 (g.A.s (2 * p + j)) (i + 1) = (dL1 g.A 12 ++ dL2 g.A 10 ++ dLp g.A p ++ dL3 g.A p 14 ++ dLs g.A p j ++ dL4 (g.A.s (2 * p + j)) i) ++ [(g.A.s (2 * p + j)).getD i 0] := by
        rw [show dL4 (g.A.s (2 * p + j)) (i + 1) = dL4 (g.A.s (2 * p + j)) i ++ [(g.A.s (2 * p + j)).getD i 0] from range_map, ← List.append_assoc]
      refine G_dig (hX _) (by rw [List.length_append, List.length_append, List.length_append, List.length_append, List.length_append, show (dL1 g.A 12).length = 12 from len_map, show (dL2 g.A 10).length = 10 from len_map, show (dL3 g.A p 14).length = 14 from len_map, show (dL4 (g.A.s (2 * p + j)) i).length = i from len_map]; omega) rfl dL_digest_139 ?_
      refine G_iinc (v := 1) dL_digest_140 rfl (Nat.le_of_ble_eq_true rfl) (by decide) ?_
      refine G_goto (tgt := 110) dL_digest_143 (by decide) ?_
      refine G_lv2 (G_st rfl rfl (by rw [e]) ih) ⟨rfl, rfl, lvi ?_, rfl, rfl, lvi (nI_1 i), trivial⟩
      rw [e]
      exact ixL
theorem dg_5 {a p : Nat} (hp : p < g.A.n) (hC : CG M g) (hO : Okg g) (hX : ∀ f, xOk E (xI E M.2 a 900 f)) (k : G E C RL cL_digest zL_digest P 1 900 (M.x (xI E M.2 a 900 (rowF (dL1 g.A 12 ++ dL2 g.A 10 ++ dLp g.A (p + 1))))) 60 [(0, .ref (ad E 0 0 0)), (1, .ref a), (2, .int (nI (dL1 g.A 12 ++ dL2 g.A 10 ++ dLp g.A (p + 1)).length)), (3, .int (nI (p + 1)))] []) : G E C RL cL_digest zL_digest P 1 900 (M.x (xI E M.2 a 900 (rowF (dL1 g.A 12 ++ dL2 g.A 10 ++ dLp g.A p ++ dL3 g.A p 14)))) 98 [(0, .ref (ad E 0 0 0)), (1, .ref a), (2, .int (nI (dL1 g.A 12 ++ dL2 g.A 10 ++ dLp g.A p ++ dL3 g.A p 14).length)), (3, .int (nI p))] [] := by
  have e : dL1 g.A 12 ++ dL2 g.A 10 ++ dLp g.A p ++ dL3 g.A p 14 ++ dLs g.A p 2 = dL1 g.A 12 ++ dL2 g.A 10 ++ dLp g.A (p + 1) := by
    show _ = dL1 g.A 12 ++ dL2 g.A 10 ++ (dLp g.A p ++ (dL3 g.A p 14 ++ dLs g.A p 2))
    rw [← List.append_assoc, ← List.append_assoc]
  refine G_iconst (v := 0) dL_digest_98 (by decide) ?_
  refine G_istore dL_digest_99 (Nat.le_of_ble_eq_true rfl) ?_
  refine G_lv (lv' := [(0, .ref (ad E 0 0 0)), (1, .ref a), (2, .int (nI (dL1 g.A 12 ++ dL2 g.A 10 ++ dLp g.A p ++ dL3 g.A p 14 ++ dLs g.A p 0).length)), (3, .int (nI p)), (4, .int (nI 0))]) ⟨rfl, rfl, lvi (by rw [show dLs g.A p 0 = [] from rfl, List.append_nil]), rfl, rfl, trivial⟩ ?_
  refine G_st (M' := M.x (xI E M.2 a 900 (rowF (dL1 g.A 12 ++ dL2 g.A 10 ++ dLp g.A p ++ dL3 g.A p 14 ++ dLs g.A p 0)))) rfl rfl (by rw [show dLs g.A p 0 = [] from rfl, List.append_nil]) ?_
  refine up0 (c := 2) (H := fun j => G E C RL cL_digest zL_digest P 1 900 (M.x (xI E M.2 a 900 (rowF (dL1 g.A 12 ++ dL2 g.A 10 ++ dLp g.A p ++ dL3 g.A p 14 ++ dLs g.A p j)))) 101 [(0, .ref (ad E 0 0 0)), (1, .ref a), (2, .int (nI (dL1 g.A 12 ++ dL2 g.A 10 ++ dLp g.A p ++ dL3 g.A p 14 ++ dLs g.A p j).length)), (3, .int (nI p)), (4, .int (nI j))] []) ?_ (fun j hj ih => ?_)
  · refine G_iload dL_digest_101 rfl ?_
    refine G_iconst (v := 2) dL_digest_103 (by decide) ?_
    refine G_icmp_ge (tgt := 152) dL_digest_104 (by decide) (fun c104 => ?_) (fun c104 => ?_)
    · refine G_iinc (v := 1) dL_digest_152 rfl (Nat.le_of_ble_eq_true rfl) (by decide) ?_
      refine G_goto (tgt := 60) dL_digest_155 (by decide) ?_
      refine G_lv2 (G_st rfl rfl (by rw [e]) k) ⟨rfl, rfl, lvi (by rw [e]), lvi (nI_1 p), trivial⟩
    · exact absurd (show nI 2 ≤ nI 2 from Int32.le_refl _) c104
  · refine G_iload dL_digest_101 rfl ?_
    refine G_iconst (v := 2) dL_digest_103 (by decide) ?_
    refine G_icmp_ge (tgt := 152) dL_digest_104 (by decide) (fun c104 => ?_) (fun c104 => ?_)
    · exact absurd (show nI 2 ≤ nI j from c104) (nI_ge hj (by decide))
    · exact dg_4 hp hj hC hO hX ih
theorem dg_6 {a : Nat} (hC : CG M g) (hO : Okg g) (hX : ∀ f, xOk E (xI E M.2 a 900 f)) (k : G E C RL cL_digest zL_digest P 1 900 (M.x (xI E M.2 a 900 (rowF (dL1 g.A 12 ++ dL2 g.A 10 ++ dLp g.A g.A.n)))) 158 [(0, .ref (ad E 0 0 0)), (1, .ref a), (2, .int (nI (dL1 g.A 12 ++ dL2 g.A 10 ++ dLp g.A g.A.n).length))] []) : G E C RL cL_digest zL_digest P 1 900 (M.x (xI E M.2 a 900 (rowF (dL1 g.A 12 ++ dL2 g.A 10)))) 58 [(0, .ref (ad E 0 0 0)), (1, .ref a), (2, .int (nI (dL1 g.A 12 ++ dL2 g.A 10).length))] [] := by
  have h12 := hC.1.n12
  refine G_iconst (v := 0) dL_digest_58 (by decide) ?_
  refine G_istore_n dL_digest_59 (Nat.le_of_ble_eq_true rfl) ?_
  refine G_lv (lv' := [(0, .ref (ad E 0 0 0)), (1, .ref a), (2, .int (nI (dL1 g.A 12 ++ dL2 g.A 10 ++ dLp g.A 0).length)), (3, .int (nI 0))]) ⟨rfl, rfl, lvi (by rw [show dLp g.A 0 = [] from rfl, List.append_nil]), rfl, trivial⟩ ?_
  refine G_st (M' := M.x (xI E M.2 a 900 (rowF (dL1 g.A 12 ++ dL2 g.A 10 ++ dLp g.A 0)))) rfl rfl (by rw [show dLp g.A 0 = [] from rfl, List.append_nil]) ?_
  refine up0 (c := g.A.n) (H := fun p => G E C RL cL_digest zL_digest P 1 900 (M.x (xI E M.2 a 900 (rowF (dL1 g.A 12 ++ dL2 g.A 10 ++ dLp g.A p)))) 60 [(0, .ref (ad E 0 0 0)), (1, .ref a), (2, .int (nI (dL1 g.A 12 ++ dL2 g.A 10 ++ dLp g.A p).length)), (3, .int (nI p))] []) ?_ (fun p hp ih => ?_)
  · refine G_iload_n dL_digest_60 rfl ?_
    refine G_aload_n dL_digest_61 rfl ?_
    refine G_iconst (v := 0) dL_digest_62 (by decide) ?_
    refine cv_L_68 (cs' := 1) (ss' := 900) dL_digest_63  (Nat.le_of_ble_eq_true rfl) (Nat.le_of_ble_eq_true rfl) (Nat.le_of_ble_eq_true rfl) rfl rfl (Nat.le_of_ble_eq_true rfl) (Nat.le_of_ble_eq_true rfl) rfl ?_
    refine u_count (k := 0) (by decide) (CG.x hC) (hGo_i ?_)
    refine G_icmp_ge (tgt := 158) dL_digest_66 (by decide) (fun c66 => ?_) (fun c66 => ?_)
    · exact G_lv2 k ⟨rfl, rfl, rfl, trivial⟩
    · exact absurd (show nI g.A.n ≤ nI g.A.n from Int32.le_refl _) c66
  · refine G_iload_n dL_digest_60 rfl ?_
    refine G_aload_n dL_digest_61 rfl ?_
    refine G_iconst (v := 0) dL_digest_62 (by decide) ?_
    refine cv_L_68 (cs' := 1) (ss' := 900) dL_digest_63  (Nat.le_of_ble_eq_true rfl) (Nat.le_of_ble_eq_true rfl) (Nat.le_of_ble_eq_true rfl) rfl rfl (Nat.le_of_ble_eq_true rfl) (Nat.le_of_ble_eq_true rfl) rfl ?_
    refine u_count (k := 0) (by decide) (CG.x hC) (hGo_i ?_)
    refine G_icmp_ge (tgt := 158) dL_digest_66 (by decide) (fun c66 => ?_) (fun c66 => ?_)
    · exact absurd (show nI g.A.n ≤ nI p from c66) (nI_ge hp (by omega))
    · exact dg_3 hp hC hO hX (dg_5 hp hC hO hX ih)
theorem dg_7 {a c : Nat} (hc : c < g.A.d.length) (hC : CG M g) (hO : Okg g) (hX : ∀ f, xOk E (xI E M.2 a 900 f)) (k : G E C RL cL_digest zL_digest P 1 900 (M.x (xI E M.2 a 900 (rowF (dL1 g.A 12 ++ dL2 g.A 10 ++ dLp g.A g.A.n ++ dLd g.A.d (c + 1))))) 160 [(0, .ref (ad E 0 0 0)), (1, .ref a), (2, .int (nI (dL1 g.A 12 ++ dL2 g.A 10 ++ dLp g.A g.A.n ++ dLd g.A.d (c + 1)).length)), (3, .int (nI (c + 1)))] []) : G E C RL cL_digest zL_digest P 1 900 (M.x (xI E M.2 a 900 (rowF (dL1 g.A 12 ++ dL2 g.A 10 ++ dLp g.A g.A.n ++ dLd g.A.d c)))) 170 [(0, .ref (ad E 0 0 0)), (1, .ref a), (2, .int (nI (dL1 g.A 12 ++ dL2 g.A 10 ++ dLp g.A g.A.n ++ dLd g.A.d c).length)), (3, .int (nI c))] [] := by
  have h12 := hC.1.n12
  have h30 := hC.1.d.2.1
  have hlp := dLp_len hO.1 (Nat.le_refl g.A.n)
  have e : dL1 g.A 12 ++ dL2 g.A 10 ++ dLp g.A g.A.n ++ dLd g.A.d c ++ dL5 g.A.d c 4 = dL1 g.A 12 ++ dL2 g.A 10 ++ dLp g.A g.A.n ++ dLd g.A.d (c + 1) := by
    show _ = dL1 g.A 12 ++ dL2 g.A 10 ++ dLp g.A g.A.n ++ (dLd g.A.d c ++ dL5 g.A.d c 4)
    rw [← List.append_assoc]
  refine G_iconst (v := 0) dL_digest_170 (by decide) ?_
  refine G_istore dL_digest_171 (Nat.le_of_ble_eq_true rfl) ?_
  refine G_lv (lv' := [(0, .ref (ad E 0 0 0)), (1, .ref a), (2, .int (nI (dL1 g.A 12 ++ dL2 g.A 10 ++ dLp g.A g.A.n ++ dLd g.A.d c ++ dL5 g.A.d c 0).length)), (3, .int (nI c)), (4, .int (nI 0))]) ⟨rfl, rfl, lvi (by rw [show dL5 g.A.d c 0 = [] from rfl, List.append_nil]), rfl, rfl, trivial⟩ ?_
  refine G_st (M' := M.x (xI E M.2 a 900 (rowF (dL1 g.A 12 ++ dL2 g.A 10 ++ dLp g.A g.A.n ++ dLd g.A.d c ++ dL5 g.A.d c 0)))) rfl rfl (by rw [show dL5 g.A.d c 0 = [] from rfl, List.append_nil]) ?_
  refine up0 (c := 4) (H := fun i => G E C RL cL_digest zL_digest P 1 900 (M.x (xI E M.2 a 900 (rowF (dL1 g.A 12 ++ dL2 g.A 10 ++ dLp g.A g.A.n ++ dLd g.A.d c ++ dL5 g.A.d c i)))) 173 [(0, .ref (ad E 0 0 0)), (1, .ref a), (2, .int (nI (dL1 g.A 12 ++ dL2 g.A 10 ++ dLp g.A g.A.n ++ dLd g.A.d c ++ dL5 g.A.d c i).length)), (3, .int (nI c)), (4, .int (nI i))] []) ?_ (fun i hi ih => ?_)
  · refine G_iload dL_digest_173 rfl ?_
    refine G_iconst (v := 4) dL_digest_175 (by decide) ?_
    refine G_icmp_ge (tgt := 198) dL_digest_176 (by decide) (fun c176 => ?_) (fun c176 => ?_)
    · refine G_iinc (v := 1) dL_digest_198 rfl (Nat.le_of_ble_eq_true rfl) (by decide) ?_
      refine G_goto (tgt := 160) dL_digest_201 (by decide) ?_
      refine G_lv2 (G_st rfl rfl (by rw [e]) k) ⟨rfl, rfl, lvi (by rw [e]), lvi (nI_1 c), trivial⟩
    · exact absurd (show nI 4 ≤ nI 4 from Int32.le_refl _) c176
  · refine G_iload dL_digest_173 rfl ?_
    refine G_iconst (v := 4) dL_digest_175 (by decide) ?_
    refine G_icmp_ge (tgt := 198) dL_digest_176 (by decide) (fun c176 => ?_) (fun c176 => ?_)
    · exact absurd (show nI 4 ≤ nI i from c176) (nI_ge hi (by decide))
    · refine G_aload_n dL_digest_179 rfl ?_
      refine G_iload_n dL_digest_180 rfl ?_
      refine G_iinc (v := 1) dL_digest_181 rfl (Nat.le_of_ble_eq_true rfl) (by decide) ?_
      refine G_aload_n dL_digest_184 rfl ?_
      refine G_iload_n dL_digest_185 rfl ?_
      refine G_iload dL_digest_186 rfl ?_
      refine cv_L_91 (cs' := 1) (ss' := 900) dL_digest_188  (Nat.le_of_ble_eq_true rfl) (Nat.le_of_ble_eq_true rfl) (Nat.le_of_ble_eq_true rfl) rfl rfl (Nat.le_of_ble_eq_true rfl) (Nat.le_of_ble_eq_true rfl) rfl ?_
      refine u_debt (k := i) hc (by omega) (CG.x hC) (hGo_i ?_)
      have e2 : dL1 g.A 12 ++ dL2 g.A 10 ++ dLp g.A g.A.n ++ dLd g.A.d c ++ dL5 g.A.d c (i + 1) = (dL1 g.A 12 ++ dL2 g.A 10 ++ dLp g.A g.A.n ++ dLd g.A.d c ++ dL5 g.A.d c i) ++ [dg g.A.d c i] := by
        rw [show dL5 g.A.d c (i + 1) = dL5 g.A.d c i ++ [dg g.A.d c i] from range_map, ← List.append_assoc]
      refine G_dig (hX _) (by rw [List.length_append, List.length_append, List.length_append, List.length_append, show (dL1 g.A 12).length = 12 from len_map, show (dL2 g.A 10).length = 10 from len_map, dLd_len, show (dL5 g.A.d c i).length = i from len_map]; omega) rfl dL_digest_191 ?_
      refine G_iinc (v := 1) dL_digest_192 rfl (Nat.le_of_ble_eq_true rfl) (by decide) ?_
      refine G_goto (tgt := 173) dL_digest_195 (by decide) ?_
      refine G_lv2 (G_st rfl rfl (by rw [e2]) ih) ⟨rfl, rfl, lvi ?_, rfl, lvi (nI_1 i), trivial⟩
      rw [e2]
      exact ixL
theorem l_digest (hC : CG M g) (hO : Okg g) (hX : xOk E M.2) (h : ∀ a, xOk E (xI E M.2 a 900 (rowF (digL g.A))) → P (.inl (some (.ref a))) (M.x (xI E M.2 a 900 (rowF (digL g.A))))) : Sp E yL_digest cL_digest zL_digest [.ref (ad E 0 0 0)] M P := by
  have h12 := hC.1.n12
  have h30 := hC.1.d.2.1
  refine Sp_of (own := RL) (by decide) rfl rfl (Nat.le_of_ble_eq_true rfl) (fun C => ?_)
  refine G_sipush (v := 900) dL_digest_0 (by decide) ?_
  refine G_xnewa (t0 := 0) (n := 900) (atype := .int) (ty := .int) (a0 := (900, .inl (fun _ => 0))) (cs' := 1) (ss' := 900) hX dL_digest_3 (hqx 96 (by decide +kernel) rfl) rfl (fun _ h => by cases h) rfl (fun _ => rfl) rfl (by decide) (by decide) rfl rfl (Nat.le_of_ble_eq_true rfl) (Nat.le_of_ble_eq_true rfl) (fun a hX1 => ?_)
  have hXX : ∀ f, xOk E (xI E M.2 a 900 f) := fun f => xI_ok (f := fun _ => 0) hX1
  refine G_st (M' := M.x (xI E M.2 a 900 (rowF []))) rfl rfl (by rw [rowF_nil]; rfl) ?_
  refine G_astore_n dL_digest_5 (Nat.le_of_ble_eq_true rfl) ?_
  refine G_iconst (v := 0) dL_digest_6 (by decide) ?_
  refine G_istore_n dL_digest_7 (Nat.le_of_ble_eq_true rfl) ?_
  refine G_lv2 (dg_1 hC hO hXX (dg_2 hC hO hXX (dg_6 hC hO hXX ?_))) ⟨rfl, rfl, rfl, trivial⟩
  refine G_iconst (v := 0) dL_digest_158 (by decide) ?_
  refine G_istore_n dL_digest_159 (Nat.le_of_ble_eq_true rfl) ?_
  refine G_lv (lv' := [(0, .ref (ad E 0 0 0)), (1, .ref a), (2, .int (nI (dL1 g.A 12 ++ dL2 g.A 10 ++ dLp g.A g.A.n ++ dLd g.A.d 0).length)), (3, .int (nI 0))]) ⟨rfl, rfl, lvi (by rw [show dLd g.A.d 0 = [] from rfl, List.append_nil]), rfl, trivial⟩ ?_
  refine G_st (M' := M.x (xI E M.2 a 900 (rowF (dL1 g.A 12 ++ dL2 g.A 10 ++ dLp g.A g.A.n ++ dLd g.A.d 0)))) rfl rfl (by rw [show dLd g.A.d 0 = [] from rfl, List.append_nil]) ?_
  refine up0 (c := g.A.d.length) (H := fun c => G E C RL cL_digest zL_digest P 1 900 (M.x (xI E M.2 a 900 (rowF (dL1 g.A 12 ++ dL2 g.A 10 ++ dLp g.A g.A.n ++ dLd g.A.d c)))) 160 [(0, .ref (ad E 0 0 0)), (1, .ref a), (2, .int (nI (dL1 g.A 12 ++ dL2 g.A 10 ++ dLp g.A g.A.n ++ dLd g.A.d c).length)), (3, .int (nI c))] []) ?_ (fun c hc ih => ?_)
  · refine G_iload_n dL_digest_160 rfl ?_
    refine G_aload_n dL_digest_161 rfl ?_
    refine G_bipush (v := 8) dL_digest_162 (by decide) ?_
    refine cv_L_68 (cs' := 1) (ss' := 900) dL_digest_164  (Nat.le_of_ble_eq_true rfl) (Nat.le_of_ble_eq_true rfl) (Nat.le_of_ble_eq_true rfl) rfl rfl (Nat.le_of_ble_eq_true rfl) (Nat.le_of_ble_eq_true rfl) rfl ?_
    refine u_count (k := 8) (by decide) (CG.x hC) (hGo_i ?_)
    refine G_icmp_ge (tgt := 204) dL_digest_167 (by decide) (fun c167 => ?_) (fun c167 => ?_)
    · refine G_aload_n dL_digest_204 rfl ?_
      exact G_aretA dL_digest_205 rfl (Nat.le_of_ble_eq_true rfl) (Nat.le_of_ble_eq_true rfl) (h a (hXX _))
    · exact absurd (show nI g.A.d.length ≤ nI g.A.d.length from Int32.le_refl _) c167
  · refine G_iload_n dL_digest_160 rfl ?_
    refine G_aload_n dL_digest_161 rfl ?_
    refine G_bipush (v := 8) dL_digest_162 (by decide) ?_
    refine cv_L_68 (cs' := 1) (ss' := 900) dL_digest_164  (Nat.le_of_ble_eq_true rfl) (Nat.le_of_ble_eq_true rfl) (Nat.le_of_ble_eq_true rfl) rfl rfl (Nat.le_of_ble_eq_true rfl) (Nat.le_of_ble_eq_true rfl) rfl ?_
    refine u_count (k := 8) (by decide) (CG.x hC) (hGo_i ?_)
    refine G_icmp_ge (tgt := 204) dL_digest_167 (by decide) (fun c167 => ?_) (fun c167 => ?_)
    · exact absurd (show nI g.A.d.length ≤ nI c from c167) (nI_ge hc (by omega))
    · exact dg_7 hc hC hO hXX ih
theorem l_isSame {a b i j n : Nat} {f f' : Nat → Int32} (hx : xOk E M.2) (hi : M.2[i]? = some (a, .inl (E.2.2.1 0, n, .inl f))) (hj : M.2[j]? = some (b, .inl (E.2.2.1 0, n, .inl f'))) (hn : n < 2 ^ 31) (h1 : (∀ k, k < n → f k = f' k) → P (.inl (some (.int 1))) M) (h0 : ¬ (∀ k, k < n → f k = f' k) → P (.inl (some (.int 0))) M) : Sp E yL_isSame cL_isSame zL_isSame [.ref a, .ref b] M P := by
  refine Sp_of (own := RL) (by decide) rfl rfl (Nat.le_of_ble_eq_true rfl) (fun C => ?_)
  refine G_iconst (v := 0) dL_isSame_0 (by decide) ?_
  refine G_istore_n dL_isSame_1 (Nat.le_of_ble_eq_true rfl) ?_
  refine G_lv (lv' := [(0, .ref a), (1, .ref b), (2, .int (nI 0))]) ⟨rfl, rfl, rfl, trivial⟩ ?_
  refine up0 (c := n) (H := fun k => (∀ q, q < k → f q = f' q) → G E C RL cL_isSame zL_isSame P 0 0 M 2 [(0, .ref a), (1, .ref b), (2, .int (nI k))] []) (fun hk => ?_) (fun k hk ih hq => ?_) (fun q z => absurd z (Nat.not_lt_zero q))
  · refine G_iload_n dL_isSame_2 rfl ?_
    refine G_aload_n dL_isSame_3 rfl ?_
    refine G_xalen hx hi dL_isSame_4 rfl rfl ?_
    refine G_icmp_ge (tgt := 25) dL_isSame_5 (by decide) (fun c5 => ?_) (fun c5 => ?_)
    · refine G_iconst (v := 1) dL_isSame_25 (by decide) ?_
      refine G_iret dL_isSame_26 rfl rfl (Nat.le_of_ble_eq_true rfl) (Nat.le_of_ble_eq_true rfl) ?_
      exact h1 hk
    · exact absurd (show nI n ≤ nI n from Int32.le_refl _) c5
  · refine G_iload_n dL_isSame_2 rfl ?_
    refine G_aload_n dL_isSame_3 rfl ?_
    refine G_xalen hx hi dL_isSame_4 rfl rfl ?_
    refine G_icmp_ge (tgt := 25) dL_isSame_5 (by decide) (fun c5 => ?_) (fun c5 => ?_)
    · exact absurd (show nI n ≤ nI k from c5) (nI_ge hk hn)
    · refine G_aload_n dL_isSame_8 rfl ?_
      refine G_iload_n dL_isSame_9 rfl ?_
      refine G_xiald hx hi dL_isSame_10 rfl hk hn ?_
      refine G_aload_n dL_isSame_11 rfl ?_
      refine G_iload_n dL_isSame_12 rfl ?_
      refine G_xiald hx hj dL_isSame_13 rfl hk hn ?_
      refine G_icmp_eq (tgt := 19) dL_isSame_14 (by decide) (fun c14 => ?_) (fun c14 => ?_)
      · refine G_iinc (v := 1) dL_isSame_19 rfl (Nat.le_of_ble_eq_true rfl) (by decide) ?_
        refine G_goto (tgt := 2) dL_isSame_22 (by decide) ?_
        refine G_lv2 (ih (fun q z => ?_)) ⟨rfl, rfl, lvi (nI_1 k), trivial⟩
        by_cases e : q = k
        · rw [e]; exact c14
        · exact hq q (by omega)
      · refine G_iconst (v := 0) dL_isSame_17 (by decide) ?_
        refine G_iret dL_isSame_18 rfl rfl (Nat.le_of_ble_eq_true rfl) (Nat.le_of_ble_eq_true rfl) ?_
        exact h0 (fun z => c14 (z k hk))
end LDIGEST
