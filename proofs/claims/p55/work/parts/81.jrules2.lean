/-! ===== more rules: a constant's bytes copied, a clone, a cast, cells told in another order; the private methods' selects ===== -/
section JRULES2
variable {E : Ed} {C : Cx} {own : String} {b : ByteArray} {z : Zd} {P : Res → Mm → Prop} {cs ss : Nat} {M : Mm} {pc : Nat} {lv : List (Nat × Value)} {st : List Value}
theorem sb2_fit : ∀ i, i < 16 → ∀ k, k < (hSb2 i).length → fits .byte (.int ((hSb2 i).getD k 0)) = true := by decide +kernel
theorem sb2_len : ∀ i, i < 16 → (hSb2 i).length < 100 := by decide +kernel
/-- a constant's bytes copied behind what is there -/
theorem G_copyS {index i i1 a1 n1 dp : Nat} {g0 : Nat → Int32} {x1 x2 x3 : Int32} (hx : xOk E M.2) (hi : i < 16) (h1 : M.2[i1]? = some (a1, .inl (E.2.2.1 1, n1, .inl g0))) (d : decode b pc = .ok (.invokestatic index, 3)) (hw : Cond.methodLink own index arraycopyName ∈ hTB) (hx1 : x1 = 0) (hx2 : x2 = nI dp) (hx3 : x3 = nI (hSb2 i).length) (h5 : dp + (hSb2 i).length ≤ n1) (hn1 : n1 < 2 ^ 31) (hfr : 1 ≤ z.2.2.2.1) (hlo : (st.map fun v => v.category).sum + (nativeFrameWords "java/lang/System" "arraycopy" 5 + 11) ≤ z.2.2.2.2.1)
    (g : xOk E (M.2.set i1 (a1, .inl (E.2.2.1 1, n1, .inl (va_cpy (fun k => (hSb2 i).getD k 0) g0 0 dp (hSb2 i).length)))) → G E C own b z P cs ss (M.x (M.2.set i1 (a1, .inl (E.2.2.1 1, n1, .inl (va_cpy (fun k => (hSb2 i).getD k 0) g0 0 dp (hSb2 i).length))))) (pc + 3) lv st) : G E C own b z P cs ss M pc lv (.int x3 :: .int x2 :: .ref a1 :: .int x1 :: .ref (sV E i) :: st) := by
  subst hx1; subst hx2; subst hx3
  have hl9 := sb2_len i hi
  have hf9 := sb2_fit i hi
  generalize eL : (hSb2 i).length = L at *
  have e2 : (nI dp).toNatClampNeg = dp := nI_clamp (by omega)
  have e3 : (nI L).toNatClampNeg = L := nI_clamp (by omega)
  have e0 : (0 : Int32).toNatClampNeg = 0 := rfl
  have i2 : (nI dp).toInt = (dp : Int) := nI_toInt (by omega)
  have i3 : (nI L).toInt = (L : Int) := nI_toInt (by omega)
  obtain ⟨p', l, e, s, m, args, below, meth, c, Q⟩ := C
  intro K H locs ls hP hS hlv
  obtain ⟨hx', hb, hr, hlk, hml, hown, hts, htab, hK, hF1, hst, hAm, hQ⟩ := id K
  obtain ⟨cell, t1, t2, t3, t4, t5, t6, t7⟩ := (hF1.2.2.1 i hi).2.2.2
  rw [eL] at t4 t5 t6
  have hc0 : H[sV E i]? = some cell := (hS.2.1 _ (Array.getElem?_eq_some_iff.mp t1).1 t7).trans t1
  have hc1 : H[a1]? = some (vp_cell (E.2.2.1 1) (n1, .inl g0)) := hP (694 + i1) _ (hW_x hx h1)
  obtain ⟨t2a, k0, hk0, cm0, hkk0⟩ := t2
  obtain ⟨-, k1, hk1, cm1, hkk1⟩ := (hK.2 1 _ rfl).1 n1 (fun j => .int (g0 j))
  have hslot : ∀ k, k < L → cell.slots[k]? = some (.int ((fun k => (hSb2 i).getD k 0) k)) := fun k hk => t6 k hk
  intro T hT X
  obtain ⟨vm', X', step⟩ := X.arraycopy hx' hown (hts _ hw) (hts _ hq_cp.1) (hts _ hq_cp.2.1) (hts _ hq_cp.2.2) (src := sV E i) (dst := a1) (cs := cell) (cd := vp_cell (E.2.2.1 1) (n1, .inl g0)) (srcPos := 0) (destPos := nI dp) (n := nI L) (by rw [hT]; exact hc0) (by rw [hT]; exact hc1)
    t2a (fun _ h => by cases h) t3 (fun h => by cases h) hk0 hk1 hkk0 hkk1 (by simp [refKind]) (by decide) (nI_pos (by omega)) (nI_pos (by omega))
    (by rw [i3]; show ¬ ((0 : Int) + (L : Int) > (cell.slots.size : Int)); omega)
    (by rw [i2, i3]; show ¬ _ > ((arrV (E.2.2.1 1) n1 (fun j => .int (g0 j))).slots.size : Int); rw [arrV_size]; omega)
    (fun vm₁ _ k hk => by
      rw [e3] at hk
      have e9 : cell.slots.getD ((0 : Int32).toNatClampNeg + k) .null = .int ((hSb2 i).getD k 0) := by
        rw [e0, Nat.zero_add, Array.getD_eq_getD_getElem?, t6 k hk]
        rfl
      rw [e9]
      exact ⟨hf9 k hk, trivial⟩)
    (g := F0 m pc ls (.int (nI L) :: .int (nI dp) :: .ref a1 :: .int 0 :: .ref (sV E i) :: st)) rfl (by rw [hml]; exact hlv.1) (rest := st) rfl (by rw [hb]; exact d) hfr (by show 2 * 0 + (st.map fun v => v.category).sum + (nativeFrameWords "java/lang/System" "arraycopy" 5 + 11) ≤ z.2.2.2.2.1; omega)
  have e1 : copied cell (vp_cell (E.2.2.1 1) (n1, .inl g0)) 0 (nI dp) (nI L) = vp_cell (E.2.2.1 1) (n1, .inl (va_cpy (fun k => (hSb2 i).getD k 0) g0 0 dp L)) := by
    have h9 := va_copiedX (fun z => .int z) cell (E.2.2.1 1) (n0 := L) (n1 := n1) (sp := 0) (dp := dp) (n := L) (fun k => (hSb2 i).getD k 0) g0 hslot (by omega)
    unfold copied
    rw [e0, e2, e3]
    exact h9
  rw [e1] at X' step
  generalize hN : vp_cell (E.2.2.1 1) (n1, .inl (va_cpy (fun k => (hSb2 i).getD k 0) g0 0 dp L)) = N at X' step
  have hl : a1 < H.size := (Array.getElem?_eq_some_iff.mp hc1).1
  have hA1 : hA E a1 := (hW_D E M).2 (694 + i1) _ (hW_x hx h1)
  have hheap : ((T.setVm vm').setCell a1 N).heap = H.setIfInBounds a1 N := by rw [← hT]; rfl
  have oq : ∀ q : Nat, q ≠ a1 → (H.setIfInBounds a1 N)[q]? = H[q]? := fun q hq => by simp [Array.getElem?_setIfInBounds, Ne.symm hq]
  have hP1 := hP.set (hW_D E M) (hW_x hx h1) (e := .inl (E.2.2.1 1, n1, .inl (va_cpy (fun k => (hSb2 i).getD k 0) g0 0 dp L))) (show (H.setIfInBounds a1 N)[a1]? = some _ by rw [hN]; simp [Array.getElem?_setIfInBounds, hl]) oq
  rw [hW_setx hx h1] at hP1
  obtain ⟨t, a9, b9⟩ := g (xOk_set hx h1) K _ _ ls hP1 ⟨by simp; exact hS.1, fun q g1 g2 => by
      rw [oq q (fun e => g2 (by rw [e]; exact hA1))]
      exact hS.2.1 q g1 g2, fun q hq => (List.mem_append.mp hq).elim (fun h => hS.2.2 q h) (fun h => by
        obtain ⟨z9, -, hz9⟩ := List.mem_map.mp h
        rw [← hz9]
        exact hA1)⟩ hlv _ hheap X'
  exact ⟨t, step t a9, b9⟩
theorem xOk_ofD {M0 : Mm} {X : va_W} (h : va_D (hA E) (hB E M0 ++ X)) : xOk E X := by
  have at2 : ∀ (i : Nat) (q : Nat × va_E), X[i]? = some q → (hB E M0 ++ X)[694 + i]? = some q := fun i q hi => by
    rw [List.getElem?_append_right (by rw [hB_len]; omega), hB_len, Nat.add_sub_cancel_left]
    exact hi
  refine ⟨fun i j p q hi hj he => ?_, fun i q hi => ⟨h.2 _ q (at2 i q hi), ?_⟩⟩
  · have h9 := h.1 _ _ p q (at2 i p hi) (at2 j q hj) he
    omega
  · rcases Nat.lt_or_ge q.1 E.1 with h1 | h1
    · exact Or.inl h1
    · rcases Nat.lt_or_ge q.1 (E.1 + 694) with h2 | h2
      · have h3 : (hB E M0 ++ X)[q.1 - E.1]? = some (hE E M0 (q.1 - E.1)) := by
          rw [List.getElem?_append_left (by rw [hB_len]; omega), hB_at (by omega)]
        have h9 := h.1 _ _ _ q h3 (at2 i q hi) (by rw [hE_ad]; omega)
        omega
      · exact Or.inr h2
theorem hW_add {c : Nat × va_E} (hx : xOk E M.2) (h9 : xOk E (M.2 ++ [c])) : hW E (M.x (M.2 ++ [c])) = hW E M ++ [c] := by
  rw [hW_of hx, hW_of (M := M.x (M.2 ++ [c])) h9, hB_x (X := M.2 ++ [c]), List.append_assoc]
/-- an array of bytes cloned -/
theorem G_cloneX {index i a n cs' ss' : Nat} {f : Nat → Int32} (hx : xOk E M.2) (hi : M.2[i]? = some (a, .inl (E.2.2.1 1, n, .inl f))) (d : decode b pc = .ok (.invokevirtual index, 3)) (hf : ∀ k, fits .byte (.int (f k)) = true) (w1 : Cond.methodLink own index ⟨"[B", "clone", "()Ljava/lang/Object;"⟩ ∈ hTB) (w2 : Cond.sameMethod "[B" "java/lang/Object" "clone" "()Ljava/lang/Object;" ∈ hTB) (w3 : Cond.native ⟨"java/lang/Object", "clone", "()Ljava/lang/Object;"⟩ ∈ hTB) (w4 : Cond.instanceMethod ⟨"java/lang/Object", "clone", "()Ljava/lang/Object;"⟩ ∈ hTB) (w5 : Cond.selects "[B" ⟨"[B", "clone", "()Ljava/lang/Object;"⟩ ⟨"java/lang/Object", "clone", "()Ljava/lang/Object;"⟩ ∈ hTB) (hfr : 1 ≤ z.2.2.2.1) (hlo : (st.map fun v => v.category).sum + 14 ≤ z.2.2.2.2.1) (hcs : cs + 1 = cs') (hss : ss + n = ss') (hcm : cs' ≤ z.2.2.1.1) (hsm : ss' ≤ z.2.2.1.2)
    (g : ∀ q : Nat, xOk E (M.2 ++ [(q, .inl (E.2.2.1 1, n, .inl f))]) → G E C own b z P cs' ss' (M.x (M.2 ++ [(q, .inl (E.2.2.1 1, n, .inl f))])) (pc + 3) lv (.ref q :: st)) : G E C own b z P cs ss M pc lv (.ref a :: st) := by
  subst hcs; subst hss
  obtain ⟨p', l, e, s, m, args, below, meth, c, Q⟩ := C
  intro K H locs ls hP hS hlv
  obtain ⟨hx', hb, hr, hlk, hml, hown, hts, htab, hK, hF1, hst, hAm, hQ⟩ := id K
  refine va_clone (D := E.2.1) (cl := hCl) (A := hA E) hx' hb (by rw [hml]; exact hlv.1.symm) hown (hts _ w1) (hts _ w2) (hts _ w3) (hts _ w4) (hts _ w5) hF1.2.2.2.2.2.2 hK hP (hW_D E M) hS hAm.1 (694 + i) 1 (hW_x hx hi) rfl (hK.2 1 _ rfl).2 (fun k v hv => ?_) hfr hlo hcm hsm d (fun q H1 _ hP1 hD1 hS1 => ?_)
  · by_cases hk : k < n
    · have h9 : (arrV (E.2.2.1 1) n (fun j => .int (f j))).slots[k]? = some v := hv
      rw [arrV_read _ _ hk] at h9
      cases h9
      exact hf k
    · have h9 : (arrV (E.2.2.1 1) n (fun j => .int (f j))).slots[k]? = some v := hv
      rw [Array.getElem?_eq_none (by rw [arrV_size]; omega)] at h9
      cases h9
  · have hx9 : xOk E (M.2 ++ [(q, .inl (E.2.2.1 1, n, .inl f))]) := by
      rw [hW_of hx, List.append_assoc] at hD1
      exact xOk_ofD hD1
    refine g q hx9 K H1 locs ls ?_ hS1 hlv
    rw [hW_add hx hx9]
    exact hP1
theorem G_castB {index i a n : Nat} {f : Nat → Int32} (hx : xOk E M.2) (hi : M.2[i]? = some (a, .inl (E.2.2.1 1, n, .inl f))) (d : decode b pc = .ok (.checkcast index, 3)) (w1 : Cond.classLink own index "[B" ∈ hTB) (g : G E C own b z P cs ss M (pc + 3) lv (.ref a :: st)) : G E C own b z P cs ss M pc lv (.ref a :: st) := by
  obtain ⟨p', l, e, s, m, args, below, meth, c, Q⟩ := C
  intro K H locs ls hP hS hlv
  obtain ⟨hx', hb, hr, hlk, hml, hown, hts, htab, hK, hF1, hst, hAm, hQ⟩ := id K
  exact va_castA (D := E.2.1) (cl := hCl) hx' hb hown (hts _ w1) hP (694 + i) (hW_x hx hi) (hK.2 1 _ rfl).2 d (g K H locs ls hP hS hlv)
theorem xOk_sub {X X' : va_W} (σ : Nat → Nat) (hx : xOk E X) (h1 : ∀ (k : Nat) (q : Nat × va_E), X'[k]? = some q → X[σ k]? = some q) (h2 : ∀ i j, i < X'.length → j < X'.length → σ i = σ j → i = j) : xOk E X' :=
  ⟨fun i j p q hi hj he => h2 i j (List.getElem?_eq_some_iff.mp hi).1 (List.getElem?_eq_some_iff.mp hj).1 (hx.1 _ _ p q (h1 i p hi) (h1 j q hj) he), fun k q hk => hx.2 _ q (h1 k q hk)⟩
/-- further cells in another order, some forgotten -/
theorem G_xsub {X' : va_W} (σ : Nat → Nat) (hx : xOk E M.2) (h1 : ∀ (k : Nat) (q : Nat × va_E), X'[k]? = some q → M.2[σ k]? = some q) (h2 : ∀ i j, i < X'.length → j < X'.length → σ i = σ j → i = j) (g : xOk E X' → G E C own b z P cs ss (M.x X') pc lv st) : G E C own b z P cs ss M pc lv st := by
  have hx2 : xOk E X' := xOk_sub σ hx h1 h2
  obtain ⟨p', l, e, s, m, args, below, meth, c, Q⟩ := C
  intro K H locs ls hP hS hlv
  refine g hx2 K H locs ls (fun k q hk => ?_) hS hlv
  rcases hW_cases hk with ⟨h3, h4⟩ | ⟨h3, h4⟩
  · refine hP k q ?_
    unfold hW
    rw [List.getElem?_append_left (by rw [hB_len]; exact h3), ← hB_x (X := X'), hB_at h3, h4]
  · have h5 : X'[k - 694]? = some q := by
      rw [← hX_ok hx2]
      exact h4
    exact hP _ q (hW_x hx (h1 _ q h5))
/-- the private methods of AbstractStringBuilder, called of a StringBuilder -/
theorem j_selects {y : MethodName} {s : State} {args : Array Value} {n : Nat} (hy : y.cls ≠ "java/lang/invoke/MethodHandle" ∧ y.cls ≠ "java/lang/invoke/VarHandle") (hins : (Cond.instantiable RJ4 n).before args s = true) (hpriv : (Cond.privateMethod y).before args s = true) (hinst : (Cond.instanceMethod y).before args s = true) (hsame : (Cond.sameMethod y.cls y.cls y.name y.desc).before args s = true) : (Cond.selects RJ4 y y).before args s = true := by
  obtain ⟨c, k, hc, hk, -⟩ := Cond.instantiable_spec hins
  obtain ⟨mk, methM, hnamed, hmethM, -, -⟩ := Cond.instanceMethod_spec hinst
  have hfound : s.methodFound? y.cls y.name y.desc = some mk := State.methodFound?_of_named hnamed hy
  have hsel : selectMethod {} s.vm c mk = .method mk := selectMethod_private hmethM (Cond.privateMethod_at hpriv mk methM hnamed hmethM)
  have hcls : s.vm.findClass y.cls = some mk.cls := findClass_of_methodNamed hnamed
  have h9 : (s.vm.classes[mk.cls]?).any (fun k => !k.isInterface) = true := by
    simp only [Cond.before, Cond.holds, Cond.value, hcls, hfound, hnamed] at hsame
    simpa using hsame
  simp only [Cond.before, Cond.holds, Cond.value, hc, hfound, hnamed, hsel]
  simpa using h9
end JRULES2
