/-! ===== rules of frames with handlers; of the law ===== -/
section LRULES
variable {E : Ed} {C : Cx} {own : String} {b : ByteArray} {z : Zd} {P : Res → Mm → Prop} {cs ss : Nat} {M : Mm} {pc : Nat} {lv : List (Nat × Value)} {st : List Value}
theorem G_wid {cs' ss' : Nat} (h1 : cs ≤ cs') (h2 : ss ≤ ss') (g : G E C own b z P cs' ss' M pc lv st) : G E C own b z P cs ss M pc lv st := by
  obtain ⟨p, l, e, s, m, args, below, meth, c, Q⟩ := C
  intro K H locs ls hP hS hl
  exact W.widen h1 h2 (g K H locs ls hP hS hl)
theorem hWd_hh {y : MethodName} (hz : z.2.2.2.2.2 ≠ []) : hWd y b z = Cond.codeWith y b z.1 z.2.1 z.2.2.2.2.2 :: hTB := by
  unfold hWd
  split
  · rename_i h
    exact absurd h hz
  · rfl
/-- a thrown X is past a row that names nm -/
def hNcs (X nm : String) : Prop := (X = xIA ∧ nm = xIO) ∨ (X = xIS ∧ nm = xIA)
/-- a thrown X, at pc, is caught at h -/
def hCat (own : String) (z : Zd) (pc : Nat) (X : String) (h : Nat) : Prop := ∃ (pre suf : List ExceptionTableEntry) (x : ExceptionTableEntry) (name : String), tableOf z.2.2.2.2.2 = pre ++ x :: suf ∧ (∀ y ∈ pre, covers y pc = false ∨ (y.catchType ≠ 0 ∧ ∃ nm : String, Cond.classLink own y.catchType nm ∈ hTB ∧ hNcs X nm)) ∧ covers x pc = true ∧ x.catchType ≠ 0 ∧ Cond.classLink own x.catchType name ∈ hTB ∧ Cond.castable X name ∈ hXw ∧ x.handlerPc = h
theorem hCat1 {X : String} {lo hi h ct : Nat} {rest : List (Nat × Nat × Nat × Nat)} (hz : z.2.2.2.2.2 = (lo, hi, h, ct) :: rest) (hlo : lo ≤ pc) (hhi : pc < hi) (h0 : ct ≠ 0) (hl : Cond.classLink own ct X ∈ hTB) (hX : Cond.castable X X ∈ hXw) : hCat own z pc X h := by
  refine ⟨[], tableOf rest, ⟨lo, hi, h, ct⟩, X, by rw [hz]; rfl, (fun y hy => by cases hy), ?_, h0, hl, hX, rfl⟩
  show (decide (lo ≤ pc) && decide (pc < hi)) = true
  simp [hlo, hhi]
theorem hCat2 {X nm : String} {lo hi h ct lo1 hi1 h1 ct1 : Nat} (hz : z.2.2.2.2.2 = [(lo1, hi1, h1, ct1), (lo, hi, h, ct)]) (hlo : lo ≤ pc) (hhi : pc < hi) (h0 : ct ≠ 0) (hl : Cond.classLink own ct X ∈ hTB) (hX : Cond.castable X X ∈ hXw) (h10 : ct1 ≠ 0) (hl1 : Cond.classLink own ct1 nm ∈ hTB) (hn : hNcs X nm) : hCat own z pc X h := by
  refine ⟨[⟨lo1, hi1, h1, ct1⟩], [], ⟨lo, hi, h, ct⟩, X, by rw [hz]; rfl, fun y hy => ?_, ?_, h0, hl, hX, rfl⟩
  · rcases List.mem_cons.mp hy with e | e
    · rw [e]
      exact Or.inr ⟨h10, nm, hl1, hn⟩
    · cases e
  · show (decide (lo ≤ pc) && decide (pc < hi)) = true
    simp [hlo, hhi]
theorem lIO : Cond.classLink RL 30 xIO ∈ hTB := hq 955 (by decide +kernel) rfl
theorem lIA : Cond.classLink RL 18 xIA ∈ hTB := hq 900 (by decide +kernel) rfl
theorem lIS : Cond.classLink RL 13 xIS ∈ hTB := hq 821 (by decide +kernel) rfl
theorem xIOw : Cond.castable xIO xIO ∈ hXw := by simp [hXw]
theorem xIAw : Cond.castable xIA xIA ∈ hXw := by simp [hXw]
theorem xISw : Cond.castable xIS xIS ∈ hXw := by simp [hXw]
theorem nIAO : hNcs xIA xIO := Or.inl ⟨rfl, rfl⟩
theorem nISA : hNcs xIS xIA := Or.inr ⟨rfl, rfl⟩
def hGoH (E : Ed) (C : Cx) (own : String) (b : ByteArray) (z : Zd) (P : Res → Mm → Prop) (cs ss pc : Nat) (lv : List (Nat × Value)) (rest : List Value) : Res → Mm → Prop := fun r M' => match r with
  | .inl v => G E C own b z P cs ss M' (pc + 3) lv (v.toList ++ rest)
  | .inr X => ∃ h : Nat, hCat own z pc X h ∧ ∀ q : Nat, G E C own b z P cs ss M' h lv [.ref q]
theorem hGoH_i {r : Int32} (g : G E C own b z P cs ss M (pc + 3) lv (.int r :: st)) : hGoH E C own b z P cs ss pc lv st (.inl (some (.int r))) M := g
theorem hGoH_f {r : UInt32} (g : G E C own b z P cs ss M (pc + 3) lv (.float r :: st)) : hGoH E C own b z P cs ss pc lv st (.inl (some (.float r))) M := g
theorem hGoH_v (g : G E C own b z P cs ss M (pc + 3) lv st) : hGoH E C own b z P cs ss pc lv st (.inl none) M := g
theorem hGoH_x {X : String} {h : Nat} (hc : hCat own z pc X h) (g : ∀ q : Nat, G E C own b z P cs ss M h lv [.ref q]) : hGoH E C own b z P cs ss pc lv st (.inr X) M := ⟨h, hc, g⟩
def hLSH (own : String) (idx : Nat) (y : MethodName) (b : ByteArray) (z : Zd) (n : Nat) : Prop :=
  Cond.methodLink own idx y ∈ hTB ∧ Cond.initialized y.cls ∈ hTB ∧ Cond.codeWith y b z.1 z.2.1 z.2.2.2.2.2 ∈ hTB ∧ z.2.2.2.2.2 ≠ [] ∧ (y.cls ≠ "java/lang/invoke/MethodHandle" ∧ y.cls ≠ "java/lang/invoke/VarHandle" ∧ (parseMethodDescriptor y.desc).map (fun d => d.parameters.length) = some n) ∧ Cond.static y ∈ hTB
theorem G_callVH {index n k j p ci cs' ss' : Nat} {y : MethodName} {b' : ByteArray} {z' : Zd} {as rest st0 fs : List Value} {T : u_T} {N : Nat} (d : decode b pc = .ok (.invokevirtual index, 3)) (lk : hLV own index y b' z' n) (hok : hOk k j p) (hcell : hC E M k j p = .inr (ci, fs)) (hci : hCl[ci]? = some (y.cls, T, N)) (hn : as.length = n) (hst0 : st0 = as.reverse ++ .ref (ad E k j p) :: rest) (hroom : (rest.map fun v => v.category).sum ≤ 8) (hfr : z'.2.2.2.1 + 1 ≤ z.2.2.2.1) (hlo : 8 + (z'.1 + 11) + z'.2.2.2.2.1 ≤ z.2.2.2.2.1) (hcs : cs + z'.2.2.1.1 = cs') (hss : ss + z'.2.2.1.2 = ss') (hcm : cs' ≤ z.2.2.1.1) (hsm : ss' ≤ z.2.2.1.2)
    (sp : Sp E y b' z' (.ref (ad E k j p) :: as) M (hGoH E C own b z P cs' ss' pc lv rest)) : G E C own b z P cs ss M pc lv st0 := by
  subst hcs
  subst hss
  subst hst0
  obtain ⟨p', l, e, s, m, args, below, meth, c, Q⟩ := C
  intro K H locs ls hP hS hlv
  obtain ⟨hx, hb, hr, hlk, hml, hown, hts, htab, hK, hF1, hst, hAm, hQ⟩ := id K
  obtain ⟨⟨w1, w2, w3, w4, w5⟩, w6, w7⟩ := lk
  have hM := sp l hst
  rw [hWd_nil w4] at hM
  have hrun := vx_runV (e := e) (below := below) (meth := meth) (locs := locs) (g := F0 m pc ls (as.reverse ++ .ref (ad E k j p) :: rest)) (As := as) (rest := rest) (R := zRoom z) (cells := cs) (slots := ss) ⟨hx, hb, hml, hown, hts⟩ hM (cwV (C := y.cls) n hts (hGood (fun w hw => by
      rcases List.mem_append.mp hw with h | h
      · rcases List.mem_cons.mp h with rfl | h
        · exact w1
        · rcases List.mem_cons.mp h with rfl | h
          · exact w6
          · rcases List.mem_cons.mp h with rfl | h
            · exact w7
            · rcases List.mem_cons.mp h with rfl | h
              · exact w2
              · cases h
      · rcases List.mem_cons.mp h with rfl | h
        · exact w3
        · exact h)) rfl rfl rfl ⟨rfl, w5⟩ ⟨hfr, hlo⟩) ⟨hF_blind, va_recv hK hP hci (hW_at2 hok hcell), fun U hU hW2 => ⟨rfl, hRep_at hU hW2 hP hK hF1 hS⟩⟩ rfl hn hlv.1 rfl (lv_room hroom) d ⟨hcm, hsm⟩
  intro T hT X
  rcases hrun T hT X with ⟨v, st₀, t, T', L, h0, X', hL, e1, e2, ⟨v', M', hv, hPm, hPt, hFr⟩, stp⟩ | ⟨q, st₀, t, T', L, Xn, ce, h0, X', hL, e1, e2, ⟨M', hPm, hPt, hFr⟩, hce, hcv, hcl, stp⟩
  · cases hv
    obtain ⟨-, -, k3⟩ := vx_keep h0 e1 hS (fun _ _ h => h) (fun _ h => h) hL hFr
    obtain ⟨t2, a1, b1⟩ := hPm K T'.heap (locs ++ L) ls (by rw [e1]; exact hPt) k3 hlv T' rfl X'
    exact ⟨t2, stp t2 a1, b1⟩
  · obtain ⟨-, -, k3⟩ := vx_keep h0 e1 hS (fun _ _ h => h) (fun _ h => h) hL hFr
    obtain ⟨hh9, ⟨pre, suf, x, name, e1t, e2t, e3t, e4t, e5t, e6t, e7t⟩, hg⟩ := hPm
    have kk := hg q K T'.heap (locs ++ L) ls (by rw [e1]; exact hPt) k3 hlv
    rw [← e7t] at kk
    obtain ⟨t2, a1, b1⟩ := vx_catch (pc := pc) (ls := ls) (rest := rest) (name := name) hown pre x suf (by rw [htab, e1t]) (fun y9 hy9 => (e2t y9 hy9).imp id (fun z9 => ⟨z9.1, by
      obtain ⟨nm, q1, q2⟩ := z9.2
      refine ⟨nm, hts _ q1, ?_⟩
      rcases q2 with ⟨r1, r2⟩ | ⟨r1, r2⟩
      · rw [r1, r2]
        exact hF1.2.2.1.1
      · rw [r1, r2]
        exact hF1.2.2.1.2⟩)) e3t e4t (hts _ e5t) (hXw_args e6t (hF1.2.1 _ e6t)) (by rw [e1]; exact hce) hcv hcl kk T' rfl X'
    exact ⟨t2, stp.trans a1, b1⟩
theorem G_callSH {index n cs' ss' : Nat} {y : MethodName} {b' : ByteArray} {z' : Zd} {as rest st0 : List Value} (d : decode b pc = .ok (.invokestatic index, 3)) (lk : hLSH own index y b' z' n) (hn : as.length = n) (hst0 : st0 = as.reverse ++ rest) (hroom : (rest.map fun v => v.category).sum ≤ 8) (hfr : z'.2.2.2.1 + 1 ≤ z.2.2.2.1) (hlo : 8 + (z'.1 + 11) + z'.2.2.2.2.1 ≤ z.2.2.2.2.1) (hcs : cs + z'.2.2.1.1 = cs') (hss : ss + z'.2.2.1.2 = ss') (hcm : cs' ≤ z.2.2.1.1) (hsm : ss' ≤ z.2.2.1.2) (hz : z.2.2.2.2.2 = [])
    (sp : Sp E y b' z' as M (hGo E C own b z P cs' ss' (pc + 3) lv rest)) : G E C own b z P cs ss M pc lv st0 := by
  subst hcs
  subst hss
  subst hst0
  obtain ⟨p', l, e, s, m, args, below, meth, c, Q⟩ := C
  intro K H locs ls hP hS hlv
  obtain ⟨hx, hb, hr, hlk, hml, hown, hts, htab, hK, hF1, hst, hAm, hQ⟩ := id K
  obtain ⟨w1, w2, w3, w4, w5, w6⟩ := lk
  have hM := sp l hst
  rw [hWd_hh w4] at hM
  have hrun := vx_runSX (hh := z'.2.2.2.2.2) (e := e) (below := below) (meth := meth) (locs := locs) (g := F0 m pc ls (as.reverse ++ rest)) (As := as) (rest := rest) (R := zRoom z) (cells := cs) (slots := ss) ⟨hx, hb, hml, hown, hts⟩ hM (vx_cwSW n hts (hGood (fun w hw => by
      rcases List.mem_append.mp hw with h | h
      · rcases List.mem_cons.mp h with rfl | h
        · exact w1
        · rcases List.mem_cons.mp h with rfl | h
          · exact w6
          · rcases List.mem_cons.mp h with rfl | h
            · exact w2
            · cases h
      · rcases List.mem_cons.mp h with rfl | h
        · exact w3
        · exact h)) rfl rfl rfl w5 ⟨hfr, hlo⟩) ⟨hF_blind, fun U hU hW2 => ⟨rfl, hRep_at hU hW2 hP hK hF1 hS⟩⟩ rfl hn hlv.1 rfl (lv_room hroom) d ⟨hcm, hsm⟩
  intro T hT X
  rcases hrun T hT X with ⟨v, st₀, t, T', L, h0, X', hL, e1, e2, ⟨v', M', hv, hPm, hPt, hFr⟩, stp⟩ | ⟨q, st₀, t, T', L, Xn, ce, h0, X', hL, e1, e2, ⟨M', hPm, hPt, hFr⟩, hce, hcv, hcl2, stp⟩
  · cases hv
    obtain ⟨-, -, k3⟩ := vx_keep h0 e1 hS (fun _ _ h => h) (fun _ h => h) hL hFr
    obtain ⟨t2, a1, b1⟩ := hPm K T'.heap (locs ++ L) ls (by rw [e1]; exact hPt) k3 hlv T' rfl X'
    exact ⟨t2, stp t2 a1, b1⟩
  · obtain ⟨-, -, k3⟩ := vx_keep h0 e1 hS (fun _ _ h => h) (fun _ h => h) hL hFr
    obtain ⟨t2, a1, b1⟩ := vx_out (Qc := hQc E P) (XC := hXc E P) (mc := z.2.2.1.1) (ms := z.2.2.1.2) (free := hA E) (pc := pc) (ls := ls) (rest := rest) (fun x hx2 => by rw [htab, hz] at hx2; cases hx2) hlk (by rw [e1]; exact hce) hcv hcl2 (fun t3 ht3 _ => ⟨M', hPm, by rw [ht3, e1]; exact hPt, k3.F ht3⟩) k3.2.2 hcm hsm T' rfl X'
    exact ⟨t2, stp.trans a1, hQ _ b1⟩
theorem Sp_ofH {E : Ed} {y : MethodName} {as : List Value} (hy : plainName y.cls = true) (hyc : y.cls = own) (hz : z.2.2.2.2.2 ≠ []) (hlen : (lg_sl as).length ≤ z.1)
    (g : ∀ C : Cx, G E C own b z P 0 0 M 0 (lv_args 0 as) []) : Sp E y b z as M P := by
  intro l hst
  rw [hWd_hh hz]
  refine vx_ofWH (cc := b) (maxL := z.1) (ret := z.2.1) (hh := z.2.2.2.2.2) (ws' := hTB) hy rfl ?_
  intro p e s m args below meth c s₁ B hml hv
  obtain ⟨rfl, hP, hK, hF1⟩ := hv
  have hts := atoms_spec (ws := Cond.codeWith y b z.1 z.2.1 z.2.2.2.2.2 :: hTB) B.pre
  have hown : s.vm.findClass own = some m.cls := hyc ▸ findClass_of_methodNamed B.named
  have hE : E.1 ≤ s.heap.size := by
    have h1 := hP (hOff 3 0 0) _ (hW_at (E := E) (M := M) (show hOk 3 0 0 from ⟨by decide, rfl⟩))
    have h2 : s.heap[ad E 3 0 0]? = some _ := h1
    have h3 := (Array.getElem?_eq_some_iff.mp h2).1
    unfold ad at h3
    exact Nat.le_of_lt (Nat.lt_of_le_of_lt (Nat.le_add_right _ _) h3)
  have h9 := g (p, l, e, s, m, as.toArray, below, meth, c, vx_MQ below (hQc E P) (hXc E P) as.toArray s z.2.2.1.1 z.2.2.1.2 (hA E))
  rw [lg_entry_eq]
  exact h9 ⟨B.exec, B.bytes, B.returns, B.notSynchronized, hml, hown, fun w hw => hts w (List.mem_cons_of_mem _ hw), vx_table (x := y) B (hts _ List.mem_cons_self), hK, hF1, hst, fun q hq => Nat.le_trans hE hq, fun t ht => ht⟩ s.heap [] _ hP va_S.rf (lv_entry as hlen)
-- the law's arrays
theorem hI27B : ((List.range 703).all fun i => decide (i = 701 ∨ (hInv i).1 ≠ 27) && (decide (i = 702 ∨ (hInv i).1 < 28))) = true := by decide +kernel
theorem hI27 {i : Nat} (h : i < 703) : (i = 701 ∨ (hInv i).1 ≠ 27) ∧ (i = 702 ∨ (hInv i).1 < 28) := by
  have h1 := List.all_eq_true.mp hI27B i (List.mem_range.mpr h)
  rw [Bool.and_eq_true] at h1
  exact ⟨of_decide_eq_true h1.1, of_decide_eq_true h1.2⟩
theorem hC_27 {v : Int64} {k j p : Nat} (h : k ≠ 27) : hC E (M.1, v, M.2.2) k j p = hC E M k j p := by
  unfold hC
  split <;> first | rfl | exact absurd rfl h
theorem hC_28 {v : UInt64} {k j p : Nat} (h : k < 28) : hC E (M.1, M.2.1, v) k j p = hC E M k j p := by
  rcases (show k = 0 ∨ k = 1 ∨ k = 2 ∨ k = 3 ∨ k = 4 ∨ k = 5 ∨ k = 6 ∨ k = 7 ∨ k = 8 ∨ k = 9 ∨ k = 10 ∨ k = 11 ∨ k = 12 ∨ k = 13 ∨ k = 14 ∨ k = 15 ∨ k = 16 ∨ k = 17 ∨ k = 18 ∨ k = 19 ∨ k = 20 ∨ k = 21 ∨ k = 22 ∨ k = 23 ∨ k = 24 ∨ k = 25 ∨ k = 26 ∨ k = 27 by omega) with rfl | rfl | rfl | rfl | rfl | rfl | rfl | rfl | rfl | rfl | rfl | rfl | rfl | rfl | rfl | rfl | rfl | rfl | rfl | rfl | rfl | rfl | rfl | rfl | rfl | rfl | rfl | rfl <;> rfl
theorem va_P_alt {D : va_G} {cl : List vw_C} {ws : va_W} {H : Heap} {i a : Nat} {e e' : va_E} (h : va_P D cl (ws.set i (a, e)) H) (he : va_at D cl (a, e) H → va_at D cl (a, e') H) : va_P D cl (ws.set i (a, e')) H := by
  intro k q hk
  have h1 := h k
  rw [List.getElem?_set] at hk
  by_cases hki : i = k
  · rw [if_pos hki] at hk
    by_cases hl : k < ws.length
    · rw [if_pos (by omega)] at hk
      cases hk
      exact he (h1 _ (by rw [List.getElem?_set, if_pos hki, if_pos (by omega)]))
    · rw [if_neg (by omega)] at hk
      cases hk
  · rw [if_neg hki] at hk
    exact h1 q (by rw [List.getElem?_set, if_neg hki]; exact hk)
theorem hW_27 {v : Int64} : (hW E M).set (hOff 27 0 0) (ad E 27 0 0, .inl (E.2.2.1 5, 1, .inr (.inl (fun _ => v)))) = hW E (M.1, v, M.2.2) := by
  apply List.ext_getElem?
  intro i
  rw [List.getElem?_set]
  by_cases hi : hOff 27 0 0 = i
  · subst hi
    rw [if_pos rfl, if_pos (by simp [hW]; exact hOff_lt (k := 27) (j := 0) (p := 0) ⟨by decide, rfl, rfl⟩), hW_at (k := 27) (j := 0) (p := 0) ⟨by decide, rfl, rfl⟩]
    rfl
  · rw [if_neg hi]
    unfold hW
    rw [List.getElem?_map, List.getElem?_map]
    cases hr : (List.range 703)[i]? with
    | none => rfl
    | some a =>
      have hi7 : i < 703 := by
        have := (List.getElem?_eq_some_iff.mp hr).1
        simpa using this
      have ha : a = i := by
        rw [List.getElem?_range hi7] at hr
        exact (Option.some.inj hr).symm
      subst ha
      show some (hE E M a) = some (hE E _ a)
      unfold hE
      rw [hC_27 (M := M) (v := v) ((hI27 hi7).1.resolve_left (fun q => hi q.symm))]
theorem hW_28 {v : UInt64} : (hW E M).set (hOff 28 0 0) (ad E 28 0 0, .inl (E.2.2.1 6, 1, .inr (.inr (.inr (.inl (fun _ => v)))))) = hW E (M.1, M.2.1, v) := by
  apply List.ext_getElem?
  intro i
  rw [List.getElem?_set]
  by_cases hi : hOff 28 0 0 = i
  · subst hi
    rw [if_pos rfl, if_pos (by simp [hW]; exact hOff_lt (k := 28) (j := 0) (p := 0) ⟨by decide, rfl, rfl⟩), hW_at (k := 28) (j := 0) (p := 0) ⟨by decide, rfl, rfl⟩]
    rfl
  · rw [if_neg hi]
    unfold hW
    rw [List.getElem?_map, List.getElem?_map]
    cases hr : (List.range 703)[i]? with
    | none => rfl
    | some a =>
      have hi7 : i < 703 := by
        have := (List.getElem?_eq_some_iff.mp hr).1
        simpa using this
      have ha : a = i := by
        rw [List.getElem?_range hi7] at hr
        exact (Option.some.inj hr).symm
      subst ha
      show some (hE E M a) = some (hE E _ a)
      unfold hE
      rw [hC_28 (M := M) (v := v) ((hI27 hi7).2.resolve_left (fun q => hi q.symm))]
theorem G_last {v : Int64} (d : decode b pc = .ok (.lastore, 1)) (g : G E C own b z P cs ss (M.1, v, M.2.2) (pc + 1) lv st) : G E C own b z P cs ss M pc lv (.long v :: .int 0 :: .ref (ad E 27 0 0) :: st) := by
  obtain ⟨p', l, e, s, m, args, below, meth, c, Q⟩ := C
  intro K H locs ls hP hS hlv
  obtain ⟨hx, hb, hr, hlk, hml, hown, hts, htab, hK, hF, hst, hAm, hQ⟩ := id K
  refine va_last (D := E.2.1) (cl := hCl) (A := hA E) hx hb hK hP (hW_D E M) hS (hOff 27 0 0) 5 (hW_at2 (k := 27) (j := 0) (p := 0) ⟨by decide, rfl, rfl⟩ rfl) rfl (vp_in_nI (show 0 < 1 by decide) (by decide)) d (fun H1 locs1 hP1 _ hS1 => ?_)
  have hP2 := va_P_alt (e' := .inl (E.2.2.1 5, 1, .inr (.inl (fun _ => v)))) hP1 (fun h => by
    have h2 : H1[ad E 27 0 0]? = some (vp_cell _ _) := h
    rw [vp_cell_l, arrV_cong (g := fun _ => .long v) (fun q hq => by rw [show q = 0 by omega]; rfl)] at h2
    exact h2)
  rw [hW_27] at hP2
  exact g K H1 locs1 ls hP2 hS1 hlv
theorem G_dast {v : UInt64} (d : decode b pc = .ok (.dastore, 1)) (g : G E C own b z P cs ss (M.1, M.2.1, v) (pc + 1) lv st) : G E C own b z P cs ss M pc lv (.double v :: .int 0 :: .ref (ad E 28 0 0) :: st) := by
  obtain ⟨p', l, e, s, m, args, below, meth, c, Q⟩ := C
  intro K H locs ls hP hS hlv
  obtain ⟨hx, hb, hr, hlk, hml, hown, hts, htab, hK, hF, hst, hAm, hQ⟩ := id K
  refine va_dast (D := E.2.1) (cl := hCl) (A := hA E) hx hb hK hP (hW_D E M) hS (hOff 28 0 0) 6 (hW_at2 (k := 28) (j := 0) (p := 0) ⟨by decide, rfl, rfl⟩ rfl) rfl (vp_in_nI (show 0 < 1 by decide) (by decide)) d (fun H1 locs1 hP1 _ hS1 => ?_)
  have hP2 := va_P_alt (e' := .inl (E.2.2.1 6, 1, .inr (.inr (.inr (.inl (fun _ => v)))))) hP1 (fun h => by
    have h2 : H1[ad E 28 0 0]? = some (vp_cell _ _) := h
    rw [vp_cell_d, arrV_cong (g := fun _ => .double v) (fun q hq => by rw [show q = 0 by omega]; rfl)] at h2
    exact h2)
  rw [hW_28] at hP2
  exact g K H1 locs1 ls hP2 hS1 hlv
theorem G_lald (d : decode b pc = .ok (.laload, 1)) (g : G E C own b z P cs ss M (pc + 1) lv (.long M.2.1 :: st)) : G E C own b z P cs ss M pc lv (.int 0 :: .ref (ad E 27 0 0) :: st) := by
  obtain ⟨p', l, e, s, m, args, below, meth, c, Q⟩ := C
  intro K H locs ls hP hS hlv
  obtain ⟨hx, hb, hr, hlk, hml, hown, hts, htab, hK, hF, hst, hAm, hQ⟩ := id K
  exact va_lald (D := E.2.1) (cl := hCl) hx hb hK hP (hOff 27 0 0) 5 (hW_at2 (k := 27) (j := 0) (p := 0) ⟨by decide, rfl, rfl⟩ rfl) rfl (vp_in_nI (show 0 < 1 by decide) (by decide)) d (g K H locs ls hP hS hlv)
theorem G_dald (d : decode b pc = .ok (.daload, 1)) (g : G E C own b z P cs ss M (pc + 1) lv (.double M.2.2 :: st)) : G E C own b z P cs ss M pc lv (.int 0 :: .ref (ad E 28 0 0) :: st) := by
  obtain ⟨p', l, e, s, m, args, below, meth, c, Q⟩ := C
  intro K H locs ls hP hS hlv
  obtain ⟨hx, hb, hr, hlk, hml, hown, hts, htab, hK, hF, hst, hAm, hQ⟩ := id K
  exact va_dald (D := E.2.1) (cl := hCl) hx hb hK hP (hOff 28 0 0) 6 (hW_at2 (k := 28) (j := 0) (p := 0) ⟨by decide, rfl, rfl⟩ rfl) rfl (vp_in_nI (show 0 < 1 by decide) (by decide)) d (g K H locs ls hP hS hlv)
theorem G_lconst {n : Fin 2} {v : Int64} (d : decode b pc = .ok (.lconst n, 1)) (hv : Int64.ofNat (n : Nat) = v) (g : G E C own b z P cs ss M (pc + 1) lv (.long v :: st)) : G E C own b z P cs ss M pc lv st := by
  obtain ⟨p, l, e, s, m, args, below, meth, c, Q⟩ := C
  intro K H locs ls hP hS hl
  exact lv_lconst K.1 K.2.1 d hv (g K H locs ls hP hS hl)
theorem G_lcmpE {x y : Int64} (d : decode b pc = .ok (.lcmp, 1)) (e : x = y) (g : G E C own b z P cs ss M (pc + 1) lv (.int 0 :: st)) : G E C own b z P cs ss M pc lv (.long y :: .long x :: st) := by
  subst e
  obtain ⟨p, l, e, s, m, args, below, meth, c, Q⟩ := C
  intro K H locs ls hP hS hl
  refine W.lcmp K.1 K.2.1 d ?_
  rw [show lg_cmp x x = 0 by simp [lg_cmp]]
  exact g K H locs ls hP hS hl
theorem nn64 {x : UInt64} (h : vf_n64 x) : Jvm.FP.Core.dIsNaN x = false := by
  cases e : Jvm.FP.Core.dIsNaN x with
  | false => rfl
  | true =>
    have q := (Jvm.FP.Core.isNaN_bits x).mp e
    unfold vf_n64 at h
    have h1 : (0x7fffffffffffffff : UInt64).toNat = 2 ^ 63 - 1 := by decide
    have h2 : (0x7ff0000000000000 : UInt64).toNat = 9218868437227405312 := by decide
    rw [UInt64.le_iff_toNat_le, UInt64.toNat_and, h1, h2, Nat.and_two_pow_sub_one_eq_mod] at h
    exact absurd q (Nat.not_lt.mpr h)
theorem n64n {x : UInt64} (h : Jvm.FP.Core.dIsNaN x = false) : vf_n64 x := by
  unfold vf_n64
  rw [UInt64.le_iff_toNat_le, UInt64.toNat_and]
  have h1 : (0x7fffffffffffffff : UInt64).toNat = 2 ^ 63 - 1 := by decide
  have h2 : (0x7ff0000000000000 : UInt64).toNat = 9218868437227405312 := by decide
  rw [h1, h2, Nat.and_two_pow_sub_one_eq_mod]
  exact Nat.le_of_not_lt (fun q => absurd (h.symm.trans ((Jvm.FP.Core.isNaN_bits _).mpr q)) (by decide))
theorem nn32 {x : UInt32} (h : vf_n32 x) : Jvm.FP.Core.fIsNaN x = false := by
  cases e : Jvm.FP.Core.fIsNaN x with
  | false => rfl
  | true =>
    have q := (Jvm.FP.Core.isNaN_bits32 x).mp e
    unfold vf_n32 at h
    have h1 : (0x7fffffff : UInt32).toNat = 2 ^ 31 - 1 := by decide
    have h2 : (0x7f800000 : UInt32).toNat = 2139095040 := by decide
    rw [UInt32.le_iff_toNat_le, UInt32.toNat_and, h1, h2, Nat.and_two_pow_sub_one_eq_mod] at h
    exact absurd q (Nat.not_lt.mpr h)
theorem f2dn {x : UInt32} (h : vf_n32 x) : vf_n64 (FP.f2d x) := n64n ((Jvm.FP.f2d_nan x).trans (nn32 h))
theorem G_dcmpE {x : UInt64} (d : decode b pc = .ok (.dcmp .l, 1)) (hn : vf_n64 x) (g : G E C own b z P cs ss M (pc + 1) lv (.int 0 :: st)) : G E C own b z P cs ss M pc lv (.double x :: .double x :: st) := by
  obtain ⟨p, l, e, s, m, args, below, meth, c, Q⟩ := C
  intro K H locs ls hP hS hl
  refine lv_dcmp K.1 K.2.1 d ?_
  have e1 : FP.dcmp x x = some .eq := Jvm.FP.Core.dcmp_self ((Jvm.FP.Core.notNaN_iff x).mp (nn64 hn))
  rw [show Op.cmpValue (FP.dcmp x x) .l = 0 by rw [e1]; rfl]
  exact g K H locs ls hP hS hl
theorem G_f2d {x : UInt32} (d : decode b pc = .ok (.f2d, 1)) (hn : vf_n64 (FP.f2d x)) (g : G E C own b z P cs ss M (pc + 1) lv (.double (FP.f2d x) :: st)) : G E C own b z P cs ss M pc lv (.float x :: st) := by
  obtain ⟨p, l, e, s, m, args, below, meth, c, Q⟩ := C
  intro K H locs ls hP hS hl
  exact lv_f2d K.1 K.2.1 d hn (g K H locs ls hP hS hl)
theorem G_dstore {i : Nat} {x : UInt64} {lv' : List (Nat × Value)} (d : decode b pc = .ok (.dstore i, 2)) (hn : i + 1 < z.1) (hl9 : (i, Value.double x) :: lv.filter (fun q => !(q.1 == i) && (!(q.1 == i + 1) && !(q.1 + 1 == i && q.2.category == 2))) = lv') (g : G E C own b z P cs ss M (pc + 2) lv' st) : G E C own b z P cs ss M pc lv (.double x :: st) := by
  obtain ⟨p, l, e, s, m, args, below, meth, c, Q⟩ := C
  intro K H locs ls hP hS hl
  exact lv_dstore K.1 K.2.1 d hl hn hl9 (fun ls hl => g K H locs ls hP hS hl)
-- the script
def hSc (E : Ed) (C : Cx) (a L : Nat) (xs : Nat → Int32) : Prop := va_X a L xs C.2.2.2.1 C.2.2.2.1.heap ∧ a < C.2.2.2.1.heap.size ∧ ¬ hA E a
theorem G_sld {a L i : Nat} {x : Int32} {xs : Nat → Int32} (d : decode b pc = .ok (.iaload, 1)) (hX : hSc E C a L xs) (hx0 : x = nI i) (hi : i < L) (hL : L < 2 ^ 31) (g : G E C own b z P cs ss M (pc + 1) lv (.int (xs i) :: st)) : G E C own b z P cs ss M pc lv (.int x :: .ref a :: st) := by
  subst hx0
  obtain ⟨p', l, e, s, m, args, below, meth, c, Q⟩ := C
  intro K H locs ls hP hS hlv
  obtain ⟨hx, hb, hr, hlk, hml, hown, hts, htab, hK, hF, hst, hAm, hQ⟩ := id K
  refine va_sld hx hb hX.1 hX.2.1 hX.2.2 hS (vp_in_nI hi hL) d ?_
  rw [nI_clamp (Nat.lt_trans hi hL)]
  exact g K H locs ls hP hS hlv
theorem G_slenL {a L : Nat} {xs : Nat → Int32} (d : decode b pc = .ok (.arraylength, 1)) (hX : hSc E C a L xs) (g : G E C own b z P cs ss M (pc + 1) lv (.int (nI L) :: st)) : G E C own b z P cs ss M pc lv (.ref a :: st) := by
  obtain ⟨p', l, e, s, m, args, below, meth, c, Q⟩ := C
  intro K H locs ls hP hS hlv
  obtain ⟨hx, hb, hr, hlk, hml, hown, hts, htab, hK, hF, hst, hAm, hQ⟩ := id K
  exact va_slen hx hb hX.1 hX.2.1 hX.2.2 hS d (g K H locs ls hP hS hlv)
theorem CG.o {g : Gs} {q : Int64 × UInt64} (h : CG M g) : CG (M.1, q) g := h
theorem MG.o {g : Gs} {q : Int64 × UInt64} (h : MG M g) : MG (M.1, q) g := h
/-- what the class's call leaves of the model -/
theorem MG.cl {g : Gs} {M' : Mm} (h : MG M g) (hf : Fr dCl M M') : MG M' g := h.keep (fun t _ => hf.at (fun q => absurd (show 20 ≤ 19 from q) (by decide)) t) (fun k hk t => hf.at (fun q => absurd (show k ≤ 19 from q) (by omega)) t)
/-- what the model's call leaves of the class -/
theorem CG.pl {g : Gs} {M' : Mm} (h : CG M g) (hf : Fr dPl M M') : CG M' g := h.out hf (fun k j p q => q.1)
theorem CG.fm {g : Gs} {M' : Mm} (h : CG M g) (hf : Fm M M') : CG M' g := h.pl hf.pl
end LRULES
