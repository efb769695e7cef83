/-! ===== a StringBuilder and its bytes among the further cells ===== -/
section JSB
variable {E : Ed} {M : Mm} {P : Res → Mm → Prop} {C : Cx} {own : String} {b : ByteArray} {z : Zd} {cs ss pc : Nat} {lv : List (Nat × Value)} {st : List Value} {T : va_W} {a v n cap : Nat} {f : Nat → Int32}
theorem inJ4 : ∀ w ∈ u_ws RJ4 TJ4 4, w ∈ hTB := hqall (by decide +kernel)
theorem inJ0 : ∀ w ∈ u_ws RJ0 TJ0 4, w ∈ hTB := hqall (by decide +kernel)
def sbC (a v n : Nat) : Nat × va_E := (a, .inr (11, [.ref v, .int 0, .int 0, .int (nI n)]))
def byC (E : Ed) (v cap : Nat) (f : Nat → Int32) : Nat × va_E := (v, .inl (E.2.2.1 1, cap, .inl f))
/-- .. behind other cells: the StringBuilder at a, of n letters; its bytes at v -/
def sbX (E : Ed) (T : va_W) (a v n cap : Nat) (f : Nat → Int32) : va_W := T ++ [sbC a v n, byC E v cap f]
theorem app_at {T L : va_W} {k : Nat} : (T ++ L)[T.length + k]? = L[k]? := by
  rw [List.getElem?_append_right (by omega), Nat.add_sub_cancel_left]
theorem app_set {T L : va_W} {k : Nat} {c : Nat × va_E} : (T ++ L).set (T.length + k) c = T ++ L.set k c := by
  rw [List.set_append_right _ _ (by omega), Nat.add_sub_cancel_left]
theorem sbX_at0 (h : M.2 = sbX E T a v n cap f) : M.2[T.length + 0]? = some (a, .inr (11, [.ref v, .int 0, .int 0, .int (nI n)])) := by
  rw [h]
  exact app_at
theorem sbX_at1 (h : M.2 = sbX E T a v n cap f) : M.2[T.length + 1]? = some (v, .inl (E.2.2.1 1, cap, .inl f)) := by
  rw [h]
  exact app_at
theorem sbX_s0 {n' : Nat} : (sbX E T a v n cap f).set (T.length + 0) (a, .inr (11, [.ref v, .int 0, .int 0, .int (nI n')])) = sbX E T a v n' cap f := app_set
theorem sbX_s1 {f' : Nat → Int32} : (sbX E T a v n cap f).set (T.length + 1) (v, .inl (E.2.2.1 1, cap, .inl f')) = sbX E T a v n cap f' := app_set
theorem G_sbget {index t : Nat} {v9 : Value} (hx : xOk E M.2) (hM : M.2 = sbX E T a v n cap f) (d : decode b pc = .ok (.getfield index, 3)) (hw : Cond.fieldLink own index (TJ4 t).1 (TJ4 t).2.1 (TJ4 t).2.2.1 ∈ hTB) (ht : t < 4) (hv : ([.ref v, .int 0, .int 0, .int (nI n)] : List Value)[t]? = some v9)
    (g : G E C own b z P cs ss M (pc + 3) lv (v9 :: st)) : G E C own b z P cs ss M pc lv (.ref a :: st) := G_xget (T := TJ4) (N := 4) hx (sbX_at0 hM) d hw inJ4 rfl ht rfl hv g
theorem G_sbcnt {index n' : Nat} {x : Int32} (hx : xOk E M.2) (hM : M.2 = sbX E T a v n cap f) (d : decode b pc = .ok (.putfield index, 3)) (hw : Cond.fieldLink own index (TJ4 3).1 (TJ4 3).2.1 (TJ4 3).2.2.1 ∈ hTB) (hx9 : x = nI n')
    (g : xOk E (sbX E T a v n' cap f) → G E C own b z P cs ss (M.x (sbX E T a v n' cap f)) (pc + 3) lv st) : G E C own b z P cs ss M pc lv (.int x :: .ref a :: st) := by
  subst hx9
  refine G_xput (T := TJ4) (t := 3) (N := 4) (ty := .int) (ty0 := tyJ4) hx (sbX_at0 hM) d hw inJ4 rfl tyJ4_ok nmJ4 (by decide) rfl rfl (tyJ4_ok 3 (by decide)) rfl rfl (by show 3 < 4; decide) (fun hX1 => ?_)
  have e1 : M.2.set (T.length + 0) (a, .inr (11, ([.ref v, .int 0, .int 0, .int (nI n)] : List Value).set 3 (.int (nI n')))) = sbX E T a v n' cap f := by
    rw [hM]
    exact sbX_s0
  have hX2 : xOk E (sbX E T a v n' cap f) := e1 ▸ hX1
  exact G_st (M' := M.x (sbX E T a v n' cap f)) rfl rfl (by rw [← e1]) (g hX2)
theorem G_sbval {index v' cap' : Nat} {f' : Nat → Int32} (hx : xOk E M.2) (hM : M.2 = sbX E T a v n cap f ++ [byC E v' cap' f']) (d : decode b pc = .ok (.putfield index, 3)) (hw : Cond.fieldLink own index (TJ4 0).1 (TJ4 0).2.1 (TJ4 0).2.2.1 ∈ hTB)
    (g : xOk E (sbX E T a v' n cap' f') → G E C own b z P cs ss (M.x (sbX E T a v' n cap' f')) (pc + 3) lv st) : G E C own b z P cs ss M pc lv (.ref v' :: .ref a :: st) := by
  have eM : M.2 = T ++ [sbC a v n, byC E v cap f, byC E v' cap' f'] := by
    rw [hM]
    unfold sbX
    rw [List.append_assoc]
    rfl
  have h0 : M.2[T.length + 0]? = some (a, .inr (11, [.ref v, .int 0, .int 0, .int (nI n)])) := by
    rw [eM]
    exact app_at
  refine G_xput (T := TJ4) (t := 0) (N := 4) (ty := .array .byte) (ty0 := tyJ4) hx h0 d hw inJ4 rfl tyJ4_ok nmJ4 (by decide) rfl rfl (tyJ4_ok 0 (by decide)) rfl rfl (by show 0 < 4; decide) (fun hX1 => ?_)
  have e1 : M.2.set (T.length + 0) (a, .inr (11, ([.ref v, .int 0, .int 0, .int (nI n)] : List Value).set 0 (.ref v'))) = T ++ [sbC a v' n, byC E v cap f, byC E v' cap' f'] := by
    rw [eM]
    exact app_set
  have hX2 : xOk E (T ++ [sbC a v' n, byC E v cap f, byC E v' cap' f']) := e1 ▸ hX1
  refine G_st (M' := M.x (T ++ [sbC a v' n, byC E v cap f, byC E v' cap' f'])) rfl rfl (by rw [← e1]) ?_
  refine G_xsub (X' := sbX E T a v' n cap' f') (fun k => if k ≤ T.length then k else k + 1) hX2 (fun k q hk => ?_) (fun i j hi hj he => ?_) g
  · have hk3 : k < T.length + 2 := by
      have := (List.getElem?_eq_some_iff.mp hk).1
      simpa [sbX] using this
    rcases Nat.lt_trichotomy k T.length with q1 | q1 | q1
    · rw [if_pos (by omega)]
      show (T ++ _)[k]? = _
      unfold sbX at hk
      rw [List.getElem?_append_left q1] at hk ⊢
      exact hk
    · rw [if_pos (by omega)]
      subst q1
      have h9 : (sbX E T a v' n cap' f')[T.length + 0]? = some q := hk
      have h8 : (T ++ [sbC a v' n, byC E v cap f, byC E v' cap' f'])[T.length + 0]? = some q := by
        rw [app_at]
        unfold sbX at h9
        rw [app_at] at h9
        exact h9
      exact h8
    · rw [if_neg (by omega)]
      obtain rfl : k = T.length + 1 := by omega
      have h9 : (sbX E T a v' n cap' f')[T.length + 1]? = some q := hk
      have h8 : (T ++ [sbC a v' n, byC E v cap f, byC E v' cap' f'])[T.length + 2]? = some q := by
        rw [app_at]
        unfold sbX at h9
        rw [app_at] at h9
        exact h9
      exact h8
  · have he : (if i ≤ T.length then i else i + 1) = (if j ≤ T.length then j else j + 1) := he
    split at he <;> split at he <;> omega
theorem G_sblen (hx : xOk E M.2) (hM : M.2 = sbX E T a v n cap f) (d : decode b pc = .ok (.arraylength, 1)) (g : G E C own b z P cs ss M (pc + 1) lv (.int (nI cap) :: st)) : G E C own b z P cs ss M pc lv (.ref v :: st) := G_xalen (t := 1) (ty := .byte) hx (sbX_at1 hM) d rfl rfl g
theorem G_sbast {k : Nat} {x y y' : Int32} (hx : xOk E M.2) (hM : M.2 = sbX E T a v n cap f) (d : decode b pc = .ok (.bastore, 1)) (hk : x = nI k) (hkc : k < cap) (hc : cap < 2 ^ 31) (hy : vp_nar .byte y = y')
    (g : xOk E (sbX E T a v n cap (upd f k y')) → G E C own b z P cs ss (M.x (sbX E T a v n cap (upd f k y'))) (pc + 1) lv st) : G E C own b z P cs ss M pc lv (.int y :: .int x :: .ref v :: st) := by
  subst hy
  refine G_xbast hx (sbX_at1 hM) d hk hkc hc (fun hX1 => ?_)
  have e1 : M.2.set (T.length + 1) (v, .inl (E.2.2.1 1, cap, .inl (upd f k (vp_nar .byte y)))) = sbX E T a v n cap (upd f k (vp_nar .byte y)) := by
    rw [hM]
    exact sbX_s1
  have hX2 : xOk E (sbX E T a v n cap (upd f k (vp_nar .byte y))) := e1 ▸ hX1
  exact G_st (M' := M.x (sbX E T a v n cap (upd f k (vp_nar .byte y)))) rfl rfl (by rw [← e1]) (g hX2)
/-- the text L lies in bytes f -/
def sbR (L : List Int32) (cap : Nat) (f : Nat → Int32) : Prop := L.length ≤ cap ∧ cap ≤ 402 ∧ (∀ k, fits .byte (.int (f k)) = true) ∧ ∀ k, k < L.length → f k = L.getD k 0
theorem fit_cpy {f g : Nat → Int32} {sp dp n : Nat} (hf : ∀ k, k < n → fits .byte (.int (f (sp + k))) = true) (hg : ∀ k, fits .byte (.int (g k)) = true) (k : Nat) : fits .byte (.int (va_cpy f g sp dp n k)) = true := by
  unfold va_cpy
  split
  · exact hf _ (by omega)
  · exact hg k
theorem fit_0 (k : Nat) : fits .byte (.int ((fun _ => 0 : Nat → Int32) k)) = true := by
  show fits .byte (.int 0) = true
  decide
theorem fit_upd {f : Nat → Int32} {i : Nat} {x : Int32} (hf : ∀ k, fits .byte (.int (f k)) = true) (hx : fits .byte (.int x) = true) (k : Nat) : fits .byte (.int (upd f i x k)) = true := by
  unfold upd
  split
  · exact hx
  · exact hf k
theorem shr0 (x : Int32) : x >>> ((0 : Int32) &&& 31) = x := by
  rw [show ((0 : Int32) &&& 31) = 0 by decide]
  exact Int32.shiftRight_zero
theorem shl0 (x : Int32) : x <<< ((0 : Int32) &&& 31) = x := by
  rw [show ((0 : Int32) &&& 31) = 0 by decide]
  exact Int32.shiftLeft_zero
end JSB
