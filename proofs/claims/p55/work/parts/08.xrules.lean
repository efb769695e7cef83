/-! ===== rules of the further cells: arrays and objects that the law makes ===== -/
section XRULES
variable {E : Ed} {C : Cx} {own : String} {b : ByteArray} {z : Zd} {P : Res → Mm → Prop} {cs ss : Nat} {M : Mm} {pc : Nat} {lv : List (Nat × Value)} {st : List Value}
theorem va_RA_p {U : State} {cA cB : ClassId} {ty : FieldType} (hp : ∀ C, ty ≠ .object C) (h : va_RA U cA ty) (h2 : U.vm.findClass ("[" ++ ty.toString) = some cB) : cA = cB := by
  have h1 : U.vm.findClass ("[" ++ ty.toString) = some cA := by
    cases ty <;> first | exact h | exact absurd rfl (hp _)
  exact Option.some.inj (h1.symm.trans h2)
abbrev Mm.x (M : Mm) (X : va_W) : Mm := (M.1, X)
theorem hC_x {X : va_W} {k j p : Nat} : hC E (M.x X) k j p = hC E M k j p := by
  unfold hC
  split <;> rfl
theorem hB_x {X : va_W} : hB E (M.x X) = hB E M := by
  unfold hB
  apply List.map_congr_left
  intro i _
  unfold hE
  rw [hC_x]
theorem hW_of {M : Mm} (h : xOk E M.2) : hW E M = hB E M ++ M.2 := by
  unfold hW
  rw [hX_ok h]
theorem xOk_lt {H : Heap} (hx : xOk E M.2) (hP : va_P E.2.1 hCl (hW E M) H) {i : Nat} {q : Nat × va_E} (h : M.2[i]? = some q) : q.1 < H.size := (hP (694 + i) q (hW_x hx h)).lt
theorem hW_big {H : Heap} (hP : va_P E.2.1 hCl (hW E M) H) : E.1 + 694 ≤ H.size := by
  have h1 := (hP (hOff 19 0 0) _ (hW_at (E := E) (M := M) (show hOk 19 0 0 from ⟨by decide, rfl, rfl⟩))).lt
  have h2 : E.1 + 555 < H.size := h1
  have h3 := (hP (hOff 14 9 23) _ (hW_at (E := E) (M := M) (show hOk 14 9 23 from ⟨by decide, by decide⟩))).lt
  have h4 : E.1 + 693 < H.size := h3
  omega
theorem xOk_app {H : Heap} {e : va_E} (hx : xOk E M.2) (hP : va_P E.2.1 hCl (hW E M) H) : xOk E (M.2 ++ [(H.size, e)]) := by
  have hb := hW_big hP
  have key : ∀ (k : Nat) (q : Nat × va_E), (M.2 ++ [(H.size, e)])[k]? = some q → (M.2[k]? = some q ∧ q.1 < H.size) ∨ (k = M.2.length ∧ q.1 = H.size) := by
    intro k q hk
    by_cases hl : k < M.2.length
    · rw [List.getElem?_append_left hl] at hk
      exact Or.inl ⟨hk, xOk_lt hx hP hk⟩
    · rw [List.getElem?_append_right (by omega)] at hk
      have hz : k - M.2.length < 1 := (List.getElem?_eq_some_iff.mp hk).1
      have hk0 : k = M.2.length := by omega
      subst hk0
      rw [Nat.sub_self] at hk
      cases hk
      exact Or.inr ⟨rfl, rfl⟩
  refine ⟨fun i j p q hi hj he => ?_, fun k q hk => ?_⟩
  · rcases key i p hi with ⟨h1, l1⟩ | ⟨h1, l1⟩ <;> rcases key j q hj with ⟨h2, l2⟩ | ⟨h2, l2⟩
    · exact hx.1 i j p q h1 h2 he
    · omega
    · omega
    · omega
  · rcases key k q hk with ⟨h1, -⟩ | ⟨-, h1⟩
    · exact hx.2 k q h1
    · omega
theorem xOk_set {X : va_W} {i a : Nat} {e0 e : va_E} (hx : xOk E X) (h : X[i]? = some (a, e0)) : xOk E (X.set i (a, e)) := by
  have hl := (List.getElem?_eq_some_iff.mp h).1
  have key : ∀ (k : Nat) (q : Nat × va_E), (X.set i (a, e))[k]? = some q → ∃ q0, X[k]? = some q0 ∧ q0.1 = q.1 := by
    intro k q hk
    by_cases hki : k = i
    · subst hki
      rw [List.getElem?_set_self hl] at hk
      cases hk
      exact ⟨_, h, rfl⟩
    · rw [List.getElem?_set_ne (Ne.symm hki)] at hk
      exact ⟨q, hk, rfl⟩
  refine ⟨fun k j p q hk hj he => ?_, fun k q hk => ?_⟩
  · obtain ⟨x0, h1, h2⟩ := key k p hk
    obtain ⟨y0, h3, h4⟩ := key j q hj
    exact hx.1 k j x0 y0 h1 h3 (h2.trans (he.trans h4.symm))
  · obtain ⟨q0, h1, h2⟩ := key k q hk
    rw [← h2]
    exact hx.2 k q0 h1
theorem xOk_left {X Y : va_W} (h : xOk E (X ++ Y)) : xOk E X := by
  have key : ∀ (k : Nat) (q : Nat × va_E), X[k]? = some q → (X ++ Y)[k]? = some q := fun k q hk => by
    rw [List.getElem?_append_left (List.getElem?_eq_some_iff.mp hk).1]
    exact hk
  exact ⟨fun i j p q hi hj he => h.1 i j p q (key i p hi) (key j q hj) he, fun k q hk => h.2 k q (key k q hk)⟩
theorem hW_setx {i a : Nat} {e0 e : va_E} (hx : xOk E M.2) (h : M.2[i]? = some (a, e0)) : (hW E M).set (694 + i) (a, e) = hW E (M.x (M.2.set i (a, e))) := by
  rw [hW_of hx, hW_of (M := M.x (M.2.set i (a, e))) (xOk_set hx h), hB_x (X := M.2.set i (a, e)), List.set_append_right _ _ (by rw [hB_len]; omega), hB_len, Nat.add_sub_cancel_left]
theorem hW_appx {H : Heap} {e : va_E} (hx : xOk E M.2) (hP : va_P E.2.1 hCl (hW E M) H) : hW E (M.x (M.2 ++ [(H.size, e)])) = hW E M ++ [(H.size, e)] := by
  rw [hW_of hx, hW_of (M := M.x (M.2 ++ [(H.size, e)])) (xOk_app hx hP), hB_x (X := M.2 ++ [(H.size, e)]), List.append_assoc]
/-- further cells forgotten -/
theorem G_xdrop {X Y : va_W} (hx : xOk E (X ++ Y)) (hM : M.2 = X ++ Y) (g : G E C own b z P cs ss (M.x X) pc lv st) : G E C own b z P cs ss M pc lv st := by
  obtain ⟨p', l, e, s, m, args, below, meth, c, Q⟩ := C
  intro K H locs ls hP hS hlv
  refine g K H locs ls (fun k q hk => ?_) hS hlv
  rw [hW_of (M := M.x X) (xOk_left hx), hB_x] at hk
  refine hP k q ?_
  rw [hW_of (show xOk E M.2 by rw [hM]; exact hx), hM, ← List.append_assoc, List.getElem?_append_left (List.getElem?_eq_some_iff.mp hk).1]
  exact hk
/-- a new array of numbers -/
theorem G_xnewa {t0 n cs' ss' : Nat} {atype : ArrayType} {ty : FieldType} {x : Int32} {a0 : vp_A} (hx : xOk E M.2) (d : decode b pc = .ok (.newarray atype, 2)) (w1 : Cond.arrayClass (newarray.typeOf atype) ∈ hTB) (hty : newarray.typeOf atype = ty) (hp : ∀ C, ty ≠ .object C) (ht : (hTys E)[t0]? = some (E.2.2.1 t0, ty)) (ha : ∀ cA : ClassId, vp_cell cA a0 = arrV cA n (fun _ => defaultValue ty)) (hx0 : x = nI n) (hn31 : n < 2 ^ 31) (hby : n * componentBytes ty ≤ 536870912) (hcs : cs + 1 = cs') (hss : ss + n = ss') (hcm : cs' ≤ z.2.2.1.1) (hsm : ss' ≤ z.2.2.1.2)
    (g : ∀ a : Nat, xOk E (M.2 ++ [(a, .inl (E.2.2.1 t0, a0))]) → G E C own b z P cs' ss' (M.x (M.2 ++ [(a, .inl (E.2.2.1 t0, a0))])) (pc + 2) lv (.ref a :: st)) : G E C own b z P cs ss M pc lv (.int x :: st) := by
  subst hcs
  subst hss
  subst hty
  subst hx0
  obtain ⟨p', l, e, s, m, args, below, meth, c, Q⟩ := C
  intro K H locs ls hP hS hlv
  obtain ⟨hx', hb, hr, hlk, hml, hown, hts, htab, hK, hF1, hst, hAm, hQ⟩ := id K
  refine va_newaK hx' hb (hts _ w1) rfl d rfl (nI_pos hn31) (nI_clamp hn31) hby hcm hsm rfl fun H1 cA e1 z1 o1 hAr hNm => ?_
  have hcA : E.2.2.1 t0 = cA := va_RA_p hp (hK.2 t0 _ ht).2 hNm
  have hk : ∀ (k : Nat) (x : Nat × va_E), (hW E M)[k]? = some x → H1[x.1]? = H[x.1]? := fun k x hx => o1 x.1 ((hP k x hx).lt)
  refine g H.size (xOk_app hx hP) K H1 locs ls ?_ ⟨Nat.le_trans hS.1 (by omega), fun x h1 h2 => (o1 x (Nat.lt_of_lt_of_le h1 hS.1)).trans (hS.2.1 x h1 h2), hS.2.2⟩ hlv
  rw [hW_appx hx hP]
  refine (hP.kept hk).app (fun k x hx => ?_)
  have hz : k < 1 := (List.getElem?_eq_some_iff.mp hx).1
  rw [show k = 0 by omega] at hx
  cases hx
  show H1[H.size]? = some (vp_cell _ _)
  rw [ha, hcA]
  exact e1
/-- a new object -/
theorem G_xnewo {index ci n cs' ss' : Nat} {Cn : String} {T : u_T} {fs : List Value} {ty : Nat → FieldType} (hx : xOk E M.2) (d : decode b pc = .ok (.new index, 3)) (hin : ∀ w ∈ u_ws Cn T n, w ∈ hTB) (hc : hCl[ci]? = some (Cn, T, n)) (hty : ∀ k, k < n → parseFieldDescriptor (T k).2.2.1 = some (ty k)) (w1 : Cond.classLink own index Cn ∈ hTB) (w2 : Cond.instantiable Cn n ∈ hTB) (w3 : Cond.initialized Cn ∈ hTB) (hfs : ∀ j, j < n → defaultValue (ty j) = vp_V fs j) (hcs : cs + 1 = cs') (hss : ss + n = ss') (hcm : cs' ≤ z.2.2.1.1) (hsm : ss' ≤ z.2.2.1.2)
    (g : ∀ a : Nat, xOk E (M.2 ++ [(a, .inr (ci, fs))]) → G E C own b z P cs' ss' (M.x (M.2 ++ [(a, .inr (ci, fs))])) (pc + 3) lv (.ref a :: st)) : G E C own b z P cs ss M pc lv st := by
  subst hcs
  subst hss
  obtain ⟨p', l, e, s, m, args, below, meth, c, Q⟩ := C
  intro K H locs ls hP hS hlv
  obtain ⟨hx', hb, hr, hlk, hml, hown, hts, htab, hK, hF1, hst, hAm, hQ⟩ := id K
  have hKn := hK.1 ci _ hc
  refine W.newcK hx' hb hown (hts _ w1) (hts _ w2) (hts _ w3) rfl d hcm hsm hKn.2.1 rfl fun H1 kC hkC e1 z1 o1 => ?_
  have hk : ∀ (k : Nat) (x : Nat × va_E), (hW E M)[k]? = some x → H1[x.1]? = H[x.1]? := fun k x hx => o1 x.1 ((hP k x hx).lt)
  refine g H.size (xOk_app hx hP) K H1 locs ls ?_ ⟨Nat.le_trans hS.1 (by omega), fun x h1 h2 => (o1 x (Nat.lt_of_lt_of_le h1 hS.1)).trans (hS.2.1 x h1 h2), hS.2.2⟩ hlv
  rw [hW_appx hx hP]
  refine (hP.kept hk).app (fun k x hx => ?_)
  have hz : k < 1 := (List.getElem?_eq_some_iff.mp hx).1
  rw [show k = 0 by omega] at hx
  cases hx
  exact ⟨_, hc, (u_born ty hts hin hKn hkC e1 hty).to hfs⟩
theorem G_xiald {n a v i : Nat} {x : Int32} {f : Nat → Int32} (hx : xOk E M.2) (hi : M.2[i]? = some (a, .inl (E.2.2.1 0, n, .inl f))) (d : decode b pc = .ok (.iaload, 1)) (hv : x = nI v) (hvn : v < n) (hn : n < 2 ^ 31) (g : G E C own b z P cs ss M (pc + 1) lv (.int (f v) :: st)) : G E C own b z P cs ss M pc lv (.int x :: .ref a :: st) := by
  subst hv
  obtain ⟨p', l, e, s, m, args, below, meth, c, Q⟩ := C
  intro K H locs ls hP hS hlv
  obtain ⟨hx', hb, hr, hlk, hml, hown, hts, htab, hK, hF1, hst, hAm, hQ⟩ := id K
  refine va_iald (D := E.2.1) (cl := hCl) hx' hb hK hP (694 + i) 0 (hW_x hx hi) rfl (vp_in_nI hvn hn) d ?_
  rw [nI_clamp (Nat.lt_trans hvn hn)]
  exact g K H locs ls hP hS hlv
theorem G_xiast {n a v i : Nat} {x y : Int32} {f : Nat → Int32} (hx : xOk E M.2) (hi : M.2[i]? = some (a, .inl (E.2.2.1 0, n, .inl f))) (d : decode b pc = .ok (.iastore, 1)) (hv : x = nI v) (hvn : v < n) (hn : n < 2 ^ 31) (g : xOk E (M.2.set i (a, .inl (E.2.2.1 0, n, .inl (upd f v y)))) → G E C own b z P cs ss (M.x (M.2.set i (a, .inl (E.2.2.1 0, n, .inl (upd f v y))))) (pc + 1) lv st) : G E C own b z P cs ss M pc lv (.int y :: .int x :: .ref a :: st) := by
  subst hv
  obtain ⟨p', l, e, s, m, args, below, meth, c, Q⟩ := C
  intro K H locs ls hP hS hlv
  obtain ⟨hx', hb, hr, hlk, hml, hown, hts, htab, hK, hF1, hst, hAm, hQ⟩ := id K
  refine va_iast (D := E.2.1) (cl := hCl) (A := hA E) hx' hb hK hP (hW_D E M) hS (694 + i) 0 (hW_x hx hi) rfl (vp_in_nI hvn hn) d (fun H1 locs1 hP1 _ hS1 => ?_)
  rw [nI_clamp (Nat.lt_trans hvn hn), hW_setx hx hi] at hP1
  exact g (xOk_set hx hi) K H1 locs1 ls hP1 hS1 hlv
theorem G_xzald {n a v i : Nat} {x : Int32} {f : Nat → Int32} (hx : xOk E M.2) (hi : M.2[i]? = some (a, .inl (E.2.2.1 2, n, .inl f))) (d : decode b pc = .ok (.baload, 1)) (hv : x = nI v) (hvn : v < n) (hn : n < 2 ^ 31) (g : G E C own b z P cs ss M (pc + 1) lv (.int (f v) :: st)) : G E C own b z P cs ss M pc lv (.int x :: .ref a :: st) := by
  subst hv
  obtain ⟨p', l, e, s, m, args, below, meth, c, Q⟩ := C
  intro K H locs ls hP hS hlv
  obtain ⟨hx', hb, hr, hlk, hml, hown, hts, htab, hK, hF1, hst, hAm, hQ⟩ := id K
  refine va_zald (D := E.2.1) (cl := hCl) hx' hb hK hP (694 + i) 2 (hW_x hx hi) rfl (vp_in_nI hvn hn) d ?_
  rw [nI_clamp (Nat.lt_trans hvn hn)]
  exact g K H locs ls hP hS hlv
theorem G_xzast {n a v i : Nat} {x y : Int32} {f : Nat → Int32} (hx : xOk E M.2) (hi : M.2[i]? = some (a, .inl (E.2.2.1 2, n, .inl f))) (d : decode b pc = .ok (.bastore, 1)) (hv : x = nI v) (hvn : v < n) (hn : n < 2 ^ 31) (g : xOk E (M.2.set i (a, .inl (E.2.2.1 2, n, .inl (upd f v (vp_nar .boolean y))))) → G E C own b z P cs ss (M.x (M.2.set i (a, .inl (E.2.2.1 2, n, .inl (upd f v (vp_nar .boolean y)))))) (pc + 1) lv st) : G E C own b z P cs ss M pc lv (.int y :: .int x :: .ref a :: st) := by
  subst hv
  obtain ⟨p', l, e, s, m, args, below, meth, c, Q⟩ := C
  intro K H locs ls hP hS hlv
  obtain ⟨hx', hb, hr, hlk, hml, hown, hts, htab, hK, hF1, hst, hAm, hQ⟩ := id K
  refine va_zast (D := E.2.1) (cl := hCl) (A := hA E) hx' hb hK hP (hW_D E M) hS (694 + i) 2 (hW_x hx hi) rfl (vp_in_nI hvn hn) d (fun H1 locs1 hP1 _ hS1 => ?_)
  rw [nI_clamp (Nat.lt_trans hvn hn), hW_setx hx hi] at hP1
  exact g (xOk_set hx hi) K H1 locs1 ls hP1 hS1 hlv
theorem G_xbald {n a v i : Nat} {x : Int32} {f : Nat → Int32} (hx : xOk E M.2) (hi : M.2[i]? = some (a, .inl (E.2.2.1 1, n, .inl f))) (d : decode b pc = .ok (.baload, 1)) (hv : x = nI v) (hvn : v < n) (hn : n < 2 ^ 31) (g : G E C own b z P cs ss M (pc + 1) lv (.int (f v) :: st)) : G E C own b z P cs ss M pc lv (.int x :: .ref a :: st) := by
  subst hv
  obtain ⟨p', l, e, s, m, args, below, meth, c, Q⟩ := C
  intro K H locs ls hP hS hlv
  obtain ⟨hx', hb, hr, hlk, hml, hown, hts, htab, hK, hF1, hst, hAm, hQ⟩ := id K
  refine va_bald (D := E.2.1) (cl := hCl) hx' hb hK hP (694 + i) 1 (hW_x hx hi) rfl (vp_in_nI hvn hn) d ?_
  rw [nI_clamp (Nat.lt_trans hvn hn)]
  exact g K H locs ls hP hS hlv
theorem G_xbast {n a v i : Nat} {x y : Int32} {f : Nat → Int32} (hx : xOk E M.2) (hi : M.2[i]? = some (a, .inl (E.2.2.1 1, n, .inl f))) (d : decode b pc = .ok (.bastore, 1)) (hv : x = nI v) (hvn : v < n) (hn : n < 2 ^ 31) (g : xOk E (M.2.set i (a, .inl (E.2.2.1 1, n, .inl (upd f v (vp_nar .byte y))))) → G E C own b z P cs ss (M.x (M.2.set i (a, .inl (E.2.2.1 1, n, .inl (upd f v (vp_nar .byte y)))))) (pc + 1) lv st) : G E C own b z P cs ss M pc lv (.int y :: .int x :: .ref a :: st) := by
  subst hv
  obtain ⟨p', l, e, s, m, args, below, meth, c, Q⟩ := C
  intro K H locs ls hP hS hlv
  obtain ⟨hx', hb, hr, hlk, hml, hown, hts, htab, hK, hF1, hst, hAm, hQ⟩ := id K
  refine va_bast (D := E.2.1) (cl := hCl) (A := hA E) hx' hb hK hP (hW_D E M) hS (694 + i) 1 (hW_x hx hi) rfl (vp_in_nI hvn hn) d (fun H1 locs1 hP1 _ hS1 => ?_)
  rw [nI_clamp (Nat.lt_trans hvn hn), hW_setx hx hi] at hP1
  exact g (xOk_set hx hi) K H1 locs1 ls hP1 hS1 hlv
theorem G_xalen {t a i : Nat} {x : vp_A} {v : Int32} {ty : FieldType} (hx : xOk E M.2) (hi : M.2[i]? = some (a, .inl (E.2.2.1 t, x))) (d : decode b pc = .ok (.arraylength, 1)) (ht : (hTys E)[t]? = some (E.2.2.1 t, ty)) (hv : Int32.ofNat x.1 = v) (g : G E C own b z P cs ss M (pc + 1) lv (.int v :: st)) : G E C own b z P cs ss M pc lv (.ref a :: st) := by
  obtain ⟨p', l, e, s, m, args, below, meth, c, Q⟩ := C
  intro K H locs ls hP hS hlv
  obtain ⟨hx', hb, hr, hlk, hml, hown, hts, htab, hK, hF1, hst, hAm, hQ⟩ := id K
  exact va_alen (D := E.2.1) (cl := hCl) hx' hb hK hP (694 + i) t (hW_x hx hi) ht hv d (g K H locs ls hP hS hlv)
theorem G_xget {index ci N t a i : Nat} {Cn ref : String} {T : u_T} {fs : List Value} {v : Value} (hx : xOk E M.2) (hi : M.2[i]? = some (a, .inr (ci, fs))) (d : decode b pc = .ok (.getfield index, 3)) (hw : Cond.fieldLink own index ref (T t).2.1 (T t).2.2.1 ∈ hTB) (hin : ∀ w ∈ u_ws Cn T N, w ∈ hTB) (hc : hCl[ci]? = some (Cn, T, N)) (ht : t < N) (hr : (T t).1 = ref) (hv : fs[t]? = some v)
    (g : G E C own b z P cs ss M (pc + 3) lv (v :: st)) : G E C own b z P cs ss M pc lv (.ref a :: st) := by
  subst hr
  obtain ⟨p', l, e, s, m, args, below, meth, c, Q⟩ := C
  intro K H locs ls hP hS hlv
  obtain ⟨hx', hb, hr, hlk, hml, hown, hts, htab, hK, hF1, hst, hAm, hQ⟩ := id K
  exact va_get (D := E.2.1) (cl := hCl) (C := Cn) (T := T) (N := N) hx' hb hts hin hown hK hP (694 + i) (hW_x hx hi) hc t ht (hts _ hw) (fun _ h => h) hv d (g K H locs ls hP hS hlv)
theorem G_xput {index ci N t a i : Nat} {Cn ref : String} {T : u_T} {fs : List Value} {v : Value} {ty : FieldType} {ty0 : Nat → FieldType} (hx : xOk E M.2) (hi : M.2[i]? = some (a, .inr (ci, fs))) (d : decode b pc = .ok (.putfield index, 3)) (hw : Cond.fieldLink own index ref (T t).2.1 (T t).2.2.1 ∈ hTB) (hin : ∀ w ∈ u_ws Cn T N, w ∈ hTB) (hc : hCl[ci]? = some (Cn, T, N)) (hty : ∀ k, k < N → parseFieldDescriptor (T k).2.2.1 = some (ty0 k)) (hnm : ∀ a, a < N → ∀ b, b < N → a ≠ b → (T a).2.1 ≠ (T b).2.1) (ht : t < N) (hr : (T t).1 = ref) (hfin : (T t).2.2.2 = false) (hd : parseFieldDescriptor (T t).2.2.1 = some ty) (hn : narrow ty v = v) (hfit : fits ty v = true) (hl : t < fs.length)
    (g : xOk E (M.2.set i (a, .inr (ci, fs.set t v))) → G E C own b z P cs ss (M.x (M.2.set i (a, .inr (ci, fs.set t v)))) (pc + 3) lv st) : G E C own b z P cs ss M pc lv (v :: .ref a :: st) := by
  subst hr
  obtain ⟨p', l, e, s, m, args, below, meth, c, Q⟩ := C
  intro K H locs ls hP hS hlv
  obtain ⟨hx', hb, hr, hlk, hml, hown, hts, htab, hK, hF1, hst, hAm, hQ⟩ := id K
  refine va_put (D := E.2.1) (cl := hCl) (A := hA E) (C := Cn) (T := T) (N := N) hx' hb hts hin ty0 hty hnm hown hK hP (hW_D E M) hS (694 + i) (hW_x hx hi) hc t ht (hts _ hw) (fun _ h => h) hfin hd hn hfit hl d (fun H1 locs1 hP1 _ hS1 => ?_)
  rw [hW_setx hx hi] at hP1
  exact g (xOk_set hx hi) K H1 locs1 ls hP1 hS1 hlv
theorem G_aretA {q : Nat} {ty : FieldType} (d : decode b pc = .ok (.areturn, 1)) (hz : z.2.1 = some (.array ty)) (hc : cs ≤ z.2.2.1.1) (hs : ss ≤ z.2.2.1.2) (h : P (.inl (some (.ref q))) M) : G E C own b z P cs ss M pc lv [.ref q] := by
  obtain ⟨p', l, e, s, m, args, below, meth, c, Q⟩ := C
  intro K H locs ls hP hS hlv
  obtain ⟨hx, hb, hr, hlk, hml, hown, hts, htab, hK, hF, hst, hAm, hQ⟩ := id K
  exact W_imp hQ (W.widen hc hs (vx_ret (W.aret hx hb (hr.trans hz) (Or.inr ⟨_, rfl⟩) (Or.inr ⟨_, rfl⟩) (fun t ht hW => ⟨_, M, rfl, h, by rw [ht]; exact hP, hS.F ht⟩) hS.2.2 d hlk)))
end XRULES
