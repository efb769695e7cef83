/-! ===== rules for the JDK's code: calls on a StringBuilder, fields, statics, bytes copied ===== -/
section JRULES
variable {E : Ed} {C : Cx} {own : String} {b : ByteArray} {z : Zd} {P : Res → Mm → Prop} {cs ss : Nat} {M : Mm} {pc : Nat} {lv : List (Nat × Value)} {st : List Value}
theorem Sp_ofI {E : Ed} {y : MethodName} {as : List Value} (hy : plainName y.cls = true) (hyc : y.cls = own) (hz : z.2.2.2.2.2 = []) (hlen : (lg_sl as).length ≤ z.1)
    (g : ∀ C : Cx, hNm C = y.name → G E C own b z P 0 0 M 0 (lv_args 0 as) []) : Sp E y b z as M P := by
  intro hNP l hst
  rw [hWd_nil hz]
  refine vx_ofW (cc := b) (maxL := z.1) (ret := z.2.1) (ws' := hTB) hy rfl ?_
  intro p e s m args below meth c s₁ B hml htab hv
  obtain ⟨rfl, hP, hK, hF1⟩ := hv
  have hts := atoms_spec (ws := Cond.code y b z.1 z.2.1 :: hTB) B.pre
  have hown : s.vm.findClass own = some m.cls := hyc ▸ findClass_of_methodNamed B.named
  have hin : meth.name = y.name := (name_of_methodNamed B.named B.method).1
  have hE : E.1 ≤ s.heap.size := by
    have h1 := hP (hOff 3 0 0) _ (hW_at (E := E) (M := M) (show hOk 3 0 0 from ⟨by decide, rfl⟩))
    have h2 : s.heap[ad E 3 0 0]? = some _ := h1
    have h3 := (Array.getElem?_eq_some_iff.mp h2).1
    unfold ad at h3
    exact Nat.le_of_lt (Nat.lt_of_le_of_lt (Nat.le_add_right _ _) h3)
  have h9 := g (p, l, e, s, m, as.toArray, below, meth, c, vx_MQ below (hQc E P) (hXc E P) as.toArray s z.2.2.1.1 z.2.2.1.2 (hA E)) hin
  rw [lg_entry_eq]
  exact h9 ⟨B.exec, B.bytes, B.returns, B.notSynchronized, hml, hown, fun w hw => hts w (List.mem_cons_of_mem _ hw), by
      have : c.exceptionTable.toList = [] := List.eq_nil_iff_forall_not_mem.mpr (fun x hx => htab x hx)
      rw [this, hz]; rfl, hK, hF1, hst, ⟨fun q hq => Nat.le_trans hE (Nat.le_trans hq (Nat.le_succ _)), hNP⟩, fun t ht => ht⟩ s.heap [] _ hP va_S.rf (lv_entry as hlen)
/-- a call by a superclass's name -/
theorem G_callVO {index n a i ci cs' ss' N : Nat} {x y : MethodName} {b' : ByteArray} {z' : Zd} {as rest st0 fs : List Value} {Cn : String} {T : u_T} {b0 : ByteArray} {m0 : Nat} {r0 : Option FieldType} (hx : xOk E M.2) (hi : M.2[i]? = some (a, .inr (ci, fs))) (d : decode b pc = .ok (.invokevirtual index, 3)) (w1 : Cond.methodLink own index x ∈ hTB) (w2 : Cond.sameMethod x.cls x.cls x.name x.desc ∈ hTB) (w3 : Cond.instanceMethod x ∈ hTB) (w4 : Cond.selects Cn x y ∈ hTB) (w5 : Cond.instanceMethod y ∈ hTB) (w6 : Cond.initialized y.cls ∈ hTB) (w7 : Cond.code y b' z'.1 z'.2.1 ∈ hTB) (w8 : Cond.code x b0 m0 r0 ∈ hTB) (hz' : z'.2.2.2.2.2 = []) (hd : x.cls ≠ "java/lang/invoke/MethodHandle" ∧ x.cls ≠ "java/lang/invoke/VarHandle" ∧ (parseMethodDescriptor x.desc).map (fun d => d.parameters.length) = some n) (hci : hCl[ci]? = some (Cn, T, N)) (hn : as.length = n) (hst0 : st0 = as.reverse ++ .ref a :: rest) (hroom : (rest.map fun v => v.category).sum ≤ 8) (hfr : z'.2.2.2.1 + 1 ≤ z.2.2.2.1) (hlo : 8 + (z'.1 + 11) + z'.2.2.2.2.1 ≤ z.2.2.2.2.1) (hcs : cs + z'.2.2.1.1 = cs') (hss : ss + z'.2.2.1.2 = ss') (hcm : cs' ≤ z.2.2.1.1) (hsm : ss' ≤ z.2.2.1.2)
    (sp : Sp E y b' z' (.ref a :: as) M (hGo E C own b z P cs' ss' (pc + 3) lv rest)) : G E C own b z P cs ss M pc lv st0 := by
  subst hst0
  obtain ⟨p', l, e, s, m, args, below, meth, c, Q⟩ := C
  intro K H locs ls hP hS hlv
  obtain ⟨hx', hb, hr, hlk, hml, hown, hts, htab, hK, hF1, hst, hAm, hQ⟩ := id K
  have hM := Sp_met (hN_go hAm.2) sp l hst
  rw [hWd_nil hz'] at hM
  have hrun := va_runU (x := x) (y := y) (owner := x.cls) (C := Cn) (e := e) (below := below) (meth := meth) (locs := locs) (g := F0 m pc ls (as.reverse ++ .ref a :: rest)) (As := as) (rest := rest) (R := zRoom z) (cells := cs) (slots := ss) ⟨hx', hb, hml, hown, hts⟩ hM (va_cwO n hts (hGood (fun w hw => by
      rcases List.mem_append.mp hw with h | h
      · rcases List.mem_cons.mp h with rfl | h
        · exact w1
        · rcases List.mem_cons.mp h with rfl | h
          · exact w2
          · rcases List.mem_cons.mp h with rfl | h
            · exact w3
            · rcases List.mem_cons.mp h with rfl | h
              · exact w4
              · rcases List.mem_cons.mp h with rfl | h
                · exact w5
                · rcases List.mem_cons.mp h with rfl | h
                  · exact w6
                  · cases h
      · rcases List.mem_cons.mp h with rfl | h
        · exact w7
        · exact h)) rfl rfl rfl w8 hd ⟨hfr, hlo⟩) ⟨hF_blind, va_recv hK hP hci (hW_x hx hi), fun U hU hW2 => ⟨rfl, hRep_at hU hW2 hP hK hF1 hS⟩⟩ rfl hn hlv.1 rfl (lv_room hroom) d ⟨by rw [hcs]; exact hcm, by rw [hss]; exact hsm⟩
  refine va_end trivial hS hrun rfl hcs hss (fun v st₀ t H1 locs1 h0 h1 hq _ hS1 => ?_) (fun v st₀ t hq => by obtain ⟨v', M', -, -, -, h⟩ := hq; exact h)
  obtain ⟨v', M', hv, hPm, hPt, -⟩ := hq
  cases hv
  exact hPm K H1 locs1 ls (by rw [← h1]; exact hPt) hS1 hlv
/-- a call of the superclass's own -/
theorem G_callSU {index n a i ci cs' ss' N : Nat} {y : MethodName} {b' : ByteArray} {z' : Zd} {as rest st0 fs : List Value} {Cn : String} {T : u_T} (hx : xOk E M.2) (hi : M.2[i]? = some (a, .inr (ci, fs))) (d : decode b pc = .ok (.invokespecial index, 3)) (w1 : Cond.methodLink own index y ∈ hTB) (w2 : Cond.sameMethod y.cls y.cls y.name y.desc ∈ hTB) (w3 : Cond.superclass own y.cls ∈ hTB) (w4 : Cond.instanceMethod y ∈ hTB) (w5 : Cond.initialized y.cls ∈ hTB) (w6 : Cond.code y b' z'.1 z'.2.1 ∈ hTB) (hz' : z'.2.2.2.2.2 = []) (hd : y.name ≠ "<init>" ∧ (parseMethodDescriptor y.desc).map (fun d => d.parameters.length) = some n) (hci : hCl[ci]? = some (Cn, T, N)) (hn : as.length = n) (hst0 : st0 = as.reverse ++ .ref a :: rest) (hroom : (rest.map fun v => v.category).sum ≤ 8) (hfr : z'.2.2.2.1 + 1 ≤ z.2.2.2.1) (hlo : 8 + (z'.1 + 11) + z'.2.2.2.2.1 ≤ z.2.2.2.2.1) (hcs : cs + z'.2.2.1.1 = cs') (hss : ss + z'.2.2.1.2 = ss') (hcm : cs' ≤ z.2.2.1.1) (hsm : ss' ≤ z.2.2.1.2)
    (sp : Sp E y b' z' (.ref a :: as) M (hGo E C own b z P cs' ss' (pc + 3) lv rest)) : G E C own b z P cs ss M pc lv st0 := by
  subst hst0
  obtain ⟨p', l, e, s, m, args, below, meth, c, Q⟩ := C
  intro K H locs ls hP hS hlv
  obtain ⟨hx', hb, hr, hlk, hml, hown, hts, htab, hK, hF1, hst, hAm, hQ⟩ := id K
  have hM := Sp_met (hN_go hAm.2) sp l hst
  rw [hWd_nil hz'] at hM
  have hrun := va_runSU (C := Cn) (e := e) (below := below) (meth := meth) (locs := locs) (g := F0 m pc ls (as.reverse ++ .ref a :: rest)) (As := as) (rest := rest) (R := zRoom z) (cells := cs) (slots := ss) (hK.1 ci _ hci).2 ⟨hx', hb, hml, hown, hts⟩ hM (va_cwSU n hts (hGood (fun w hw => by
      rcases List.mem_append.mp hw with h | h
      · rcases List.mem_cons.mp h with rfl | h
        · exact w1
        · rcases List.mem_cons.mp h with rfl | h
          · exact w2
          · rcases List.mem_cons.mp h with rfl | h
            · exact w3
            · rcases List.mem_cons.mp h with rfl | h
              · exact w4
              · rcases List.mem_cons.mp h with rfl | h
                · exact w5
                · cases h
      · rcases List.mem_cons.mp h with rfl | h
        · exact w6
        · exact h)) rfl rfl rfl hd ⟨hfr, hlo⟩) ⟨hF_blind, va_recv hK hP hci (hW_x hx hi), fun U hU hW2 => ⟨rfl, hRep_at hU hW2 hP hK hF1 hS⟩⟩ rfl hn hlv.1 rfl (lv_room hroom) d ⟨by rw [hcs]; exact hcm, by rw [hss]; exact hsm⟩
  refine va_end trivial hS hrun rfl hcs hss (fun v st₀ t H1 locs1 h0 h1 hq _ hS1 => ?_) (fun v st₀ t hq => by obtain ⟨v', M', -, -, -, h⟩ := hq; exact h)
  obtain ⟨v', M', hv, hPm, hPt, -⟩ := hq
  cases hv
  exact hPm K H1 locs1 ls (by rw [← h1]; exact hPt) hS1 hlv
/-- a call of a constructor -/
theorem G_callI {index n a cs' ss' : Nat} {y : MethodName} {b' : ByteArray} {z' : Zd} {as rest st0 : List Value} (d : decode b pc = .ok (.invokespecial index, 3)) (w1 : Cond.methodLink own index y ∈ hTB) (w2 : Cond.initialized y.cls ∈ hTB) (w3 : Cond.code y b' z'.1 z'.2.1 ∈ hTB) (w4 : Cond.instanceMethod y ∈ hTB) (hy1 : y.name = "<init>") (hr' : z'.2.1 = none) (hz' : z'.2.2.2.2.2 = []) (w5 : y.cls ≠ "java/lang/invoke/MethodHandle" ∧ y.cls ≠ "java/lang/invoke/VarHandle" ∧ (parseMethodDescriptor y.desc).map (fun d => d.parameters.length) = some n) (hn : as.length = n) (hst0 : st0 = as.reverse ++ .ref a :: rest) (hroom : (rest.map fun v => v.category).sum ≤ 8) (hfr : z'.2.2.2.1 + 1 ≤ z.2.2.2.1) (hlo : 8 + (z'.1 + 11) + z'.2.2.2.2.1 ≤ z.2.2.2.2.1) (hcs : cs + z'.2.2.1.1 = cs') (hss : ss + z'.2.2.1.2 = ss') (hcm : cs' ≤ z.2.2.1.1) (hsm : ss' ≤ z.2.2.1.2)
    (sp : Sp E y b' z' (.ref a :: as) M (hGo E C own b z P cs' ss' (pc + 3) lv rest)) : G E C own b z P cs ss M pc lv st0 := by
  subst hst0
  obtain ⟨p', l, e, s, m, args, below, meth, c, Q⟩ := C
  intro K H locs ls hP hS hlv
  obtain ⟨hx', hb, hr, hlk, hml, hown, hts, htab, hK, hF1, hst, hAm, hQ⟩ := id K
  have hM := Sp_met (hN_go hAm.2) sp l hst
  rw [hWd_nil hz'] at hM
  rw [hr'] at hM w3
  have hrun := va_runI (e := e) (below := below) (meth := meth) (locs := locs) (g := F0 m pc ls (as.reverse ++ .ref a :: rest)) (As := as) (rest := rest) (R := zRoom z) (cells := cs) (slots := ss) ⟨hx', hb, hml, hown, hts⟩ hM (cwI n hts (hGoodC w3 (fun w h => h)) rfl rfl rfl (hts _ w2) (hts _ w1) (hts _ w4) hy1 w5 ⟨hfr, hlo⟩) ⟨hF_blind, fun U hU hW2 => ⟨rfl, hRep_at hU hW2 hP hK hF1 hS⟩⟩ rfl hn hlv.1 rfl (lv_room hroom) d ⟨by rw [hcs]; exact hcm, by rw [hss]; exact hsm⟩
  refine va_end trivial hS hrun rfl hcs hss (fun v st₀ t H1 locs1 h0 h1 hq _ hS1 => ?_) (fun v st₀ t hq => by obtain ⟨v', M', -, -, -, h⟩ := hq; exact h)
  obtain ⟨v', M', hv, hPm, hPt, -⟩ := hq
  cases hv
  exact hPm K H1 locs1 ls (by rw [← h1]; exact hPt) hS1 hlv
theorem G_obj {index i : Nat} (d : decode b pc = .ok (.invokespecial index, 3)) (w1 : Cond.methodLink own index Lib.objectInit ∈ hTB) (w2 : Cond.instanceMethod Lib.objectInit ∈ hTB) (w3 : Cond.code Lib.objectInit ⟨#[0xb1]⟩ 1 none ∈ hTB) (hfr : 1 ≤ z.2.2.2.1) (hlo : (st.map fun v => v.category).sum + 12 ≤ z.2.2.2.2.1) (g : G E C own b z P cs ss M (pc + 3) lv st) : G E C own b z P cs ss M pc lv (.ref i :: st) := by
  obtain ⟨p, l, e, s, m, args, below, meth, c, Q⟩ := C
  intro K H locs ls hP hS hl
  obtain ⟨hx', hb, hr, hlk, hml, hown, hts, htab, hK, hF1, hst, hAm, hQ⟩ := id K
  refine W.objInit hx' hb hown (hts _ w1) (hts _ w2) (hts _ w3) rfl (by rw [hml]; exact hl.1) rfl d hfr (by simpa [F0, JFrame.monitorRoom, zRoom] using hlo) ?_
  exact g K H locs ls hP hS hl
theorem G_xputF {index ci N t a i : Nat} {Cn ref : String} {T : u_T} {fs : List Value} {v : Value} {ty : FieldType} {ty0 : Nat → FieldType} (hI : hNm C = "<init>") (hx : xOk E M.2) (hi : M.2[i]? = some (a, .inr (ci, fs))) (d : decode b pc = .ok (.putfield index, 3)) (hw : Cond.fieldLink own index ref (T t).2.1 (T t).2.2.1 ∈ hTB) (hin : ∀ w ∈ u_ws Cn T N, w ∈ hTB) (hc : hCl[ci]? = some (Cn, T, N)) (hty : ∀ k, k < N → parseFieldDescriptor (T k).2.2.1 = some (ty0 k)) (hnm : ∀ a, a < N → ∀ b, b < N → a ≠ b → (T a).2.1 ≠ (T b).2.1) (ht : t < N) (hr : (T t).1 = ref) (hfin : (T t).2.2.2 = true) (hdecl : (T t).1 = own) (hd : parseFieldDescriptor (T t).2.2.1 = some ty) (hn : narrow ty v = v) (hfit : fits ty v = true) (hl : t < fs.length)
    (g : xOk E (M.2.set i (a, .inr (ci, fs.set t v))) → G E C own b z P cs ss (M.x (M.2.set i (a, .inr (ci, fs.set t v)))) (pc + 3) lv st) : G E C own b z P cs ss M pc lv (v :: .ref a :: st) := by
  subst hr
  obtain ⟨p', l, e, s, m, args, below, meth, c, Q⟩ := C
  intro K H locs ls hP hS hlv
  obtain ⟨hx', hb, hr, hlk, hml, hown, hts, htab, hK, hF1, hst, hAm, hQ⟩ := id K
  refine va_putF (D := E.2.1) (cl := hCl) (A := hA E) (C := Cn) (T := T) (N := N) hx' hb hts hin ty0 hty hnm hown hK hP (hW_D E M) hS (694 + i) (hW_x hx hi) hc t ht (hts _ hw) (fun _ h => h) hfin hI hdecl hd hn hfit hl d (fun H1 locs1 hP1 _ hS1 => ?_)
  rw [hW_setx hx hi] at hP1
  exact g (xOk_set hx hi) K H1 locs1 ls hP1 hS1 hlv
theorem G_dup_x1 {va vb : Value} (d : decode b pc = .ok (.dup_x1, 1)) (ha : va.category = 1) (hb' : vb.category = 1) (g : G E C own b z P cs ss M (pc + 1) lv (va :: vb :: va :: st)) : G E C own b z P cs ss M pc lv (va :: vb :: st) := by
  obtain ⟨p, l, e, s, m, args, below, meth, c, Q⟩ := C
  intro K H locs ls hP hS hl
  exact lv_dup_x1 K.1 K.2.1 d ha hb' (g K H locs ls hP hS hl)
theorem G_ifnonnull {x : Nat} {off : Int} {tgt : Nat} (d : decode b pc = .ok (.ifnonnull off, 3)) (ht : (pc : Int) + off = (tgt : Int)) (g : G E C own b z P cs ss M tgt lv st) : G E C own b z P cs ss M pc lv (.ref x :: st) := by
  obtain ⟨p, l, e, s, m, args, below, meth, c, Q⟩ := C
  intro K H locs ls hP hS hl
  exact lv_ifnonnull K.1 K.2.1 d ht (g K H locs ls hP hS hl)
theorem G_gcs {index : Nat} (d : decode b pc = .ok (.getstatic index, 3)) (hw : Cond.fieldLink own index "java/lang/String" "COMPACT_STRINGS" "Z" ∈ hTB) (g : G E C own b z P cs ss M (pc + 3) lv (.int 1 :: st)) : G E C own b z P cs ss M pc lv st := by
  obtain ⟨p', l, e, s, m, args, below, meth, c, Q⟩ := C
  intro K H locs ls hP hS hlv
  obtain ⟨hx, hb, hr, hlk, hml, hown, hts, htab, hK, hF1, hst, hAm, hQ⟩ := id K
  exact va_gets hx hb hF1.1.1 hS hown (hts _ hw) (fun x h => h) d (g K H locs ls hP hS hlv)
theorem G_gdg {index : Nat} (i : Nat) (hi : i < 2) (d : decode b pc = .ok (.getstatic index, 3)) (hw : Cond.fieldLink own index "java/lang/Integer" (hDn i) "[B" ∈ hTB) (g : G E C own b z P cs ss M (pc + 3) lv (.ref (E.2.2.2.1 (16 + i)) :: st)) : G E C own b z P cs ss M pc lv st := by
  obtain ⟨p', l, e, s, m, args, below, meth, c, Q⟩ := C
  intro K H locs ls hP hS hlv
  obtain ⟨hx, hb, hr, hlk, hml, hown, hts, htab, hK, hF1, hst, hAm, hQ⟩ := id K
  exact va_gets hx hb (hF1.2.2.2.1 i hi).1 hS hown (hts _ hw) (fun x h => h) d (g K H locs ls hP hS hlv)
theorem G_dald {k : Nat} {x : Int32} (i : Nat) (hi : i < 2) (d : decode b pc = .ok (.baload, 1)) (hx2 : x = nI k) (hk : k < 100) (g : G E C own b z P cs ss M (pc + 1) lv (.int (hDg i k) :: st)) : G E C own b z P cs ss M pc lv (.int x :: .ref (E.2.2.2.1 (16 + i)) :: st) := by
  subst hx2
  obtain ⟨p', l, e, s, m, args, below, meth, c, Q⟩ := C
  intro K H locs ls hP hS hlv
  obtain ⟨hx, hb, hr, hlk, hml, hown, hts, htab, hK, hF1, hst, hAm, hQ⟩ := id K
  exact va_tb hx hb (hF1.2.2.2.1 i hi).2 hS (nI_in hk (by decide)) (v := .int (hDg i k)) (by rw [nI_clamp (Nat.lt_trans hk (by decide))]) d (g K H locs ls hP hS hlv)
/-- bytes copied between two further cells -/
theorem G_copyX {index i0 i1 a0 a1 n0 n1 sp dp n : Nat} {f g0 : Nat → Int32} {x1 x2 x3 : Int32} (hx : xOk E M.2) (h0 : M.2[i0]? = some (a0, .inl (E.2.2.1 1, n0, .inl f))) (h1 : M.2[i1]? = some (a1, .inl (E.2.2.1 1, n1, .inl g0))) (d : decode b pc = .ok (.invokestatic index, 3)) (hw : Cond.methodLink own index arraycopyName ∈ hTB) (hx1 : x1 = nI sp) (hx2 : x2 = nI dp) (hx3 : x3 = nI n) (h4 : sp + n ≤ n0) (h5 : dp + n ≤ n1) (hn0 : n0 < 2 ^ 31) (hn1 : n1 < 2 ^ 31) (hfit : ∀ k, fits .byte (.int (f k)) = true) (hfr : 1 ≤ z.2.2.2.1) (hlo : (st.map fun v => v.category).sum + (nativeFrameWords "java/lang/System" "arraycopy" 5 + 11) ≤ z.2.2.2.2.1)
    (g : xOk E (M.2.set i1 (a1, .inl (E.2.2.1 1, n1, .inl (va_cpy f g0 sp dp n)))) → G E C own b z P cs ss (M.x (M.2.set i1 (a1, .inl (E.2.2.1 1, n1, .inl (va_cpy f g0 sp dp n))))) (pc + 3) lv st) : G E C own b z P cs ss M pc lv (.int x3 :: .int x2 :: .ref a1 :: .int x1 :: .ref a0 :: st) := by
  subst hx1; subst hx2; subst hx3
  have e1 : (nI sp).toNatClampNeg = sp := nI_clamp (by omega)
  have e2 : (nI dp).toNatClampNeg = dp := nI_clamp (by omega)
  have e3 : (nI n).toNatClampNeg = n := nI_clamp (by omega)
  obtain ⟨p', l, e, s, m, args, below, meth, c, Q⟩ := C
  intro K H locs ls hP hS hlv
  obtain ⟨hx', hb, hr, hlk, hml, hown, hts, htab, hK, hF1, hst, hAm, hQ⟩ := id K
  refine va_copyi (D := E.2.1) (cl := hCl) (A := hA E) hx' hb (by rw [hml]; exact hlv.1.symm) hown (hts _ hw) (hts _ hq_cp.1) (hts _ hq_cp.2.1) (hts _ hq_cp.2.2) hK hP (hW_D E M) hS (694 + i0) (694 + i1) 1 1 (hW_x hx h0) (hW_x hx h1) rfl rfl (by decide) (nI_pos (by omega)) (nI_pos (by omega)) (nI_pos (by omega)) (by rw [e1, e3]; exact h4) (by rw [e2, e3]; exact h5) (fun k _ => hfit _) hfr hlo d (fun H1 locs1 hP1 _ hS1 => ?_)
  rw [e1, e2, e3, hW_setx hx h1] at hP1
  exact g (xOk_set hx h1) K H1 locs1 ls hP1 hS1 hlv
end JRULES
