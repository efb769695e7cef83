/-! ===== calls of objects among the further cells, of a nest mate, of inherited methods; rows for the JDK's code ===== -/
section XCALLS
variable {E : Ed} {C : Cx} {own : String} {b : ByteArray} {z : Zd} {P : Res → Mm → Prop} {cs ss : Nat} {M : Mm} {pc : Nat} {lv : List (Nat × Value)} {st : List Value}
theorem Sp_met {y : MethodName} {b' : ByteArray} {z' : Zd} {as : List Value} {P' : Res → Mm → Prop} (hN' : hN P') (sp : Sp E y b' z' as M P') (l : Launch) (hl : l.stackTraces = false) : Met l y (hWd y b' z') (zRoom z') (va_Pc as (hRep E M)) (hQc E P') z'.2.2.1.1 z'.2.2.1.2 (hA E) := by
  intro p e ha hc hk s m args below hf happ hP hK
  obtain ⟨n, o, h1, h2, h3, h4⟩ := sp hN' l hl p e ha hc hk s m args below hf happ hP hK
  rcases h4 with h | ⟨q, -, E', ce, L, ⟨M', hp, -⟩, -⟩
  · exact ⟨n, o, h1, h2, h3, h⟩
  · exact absurd hp (hN' E' M')
theorem va_end {p : Program} {l : Launch} {e : Env} {s : State} {m : MethodId} {args : Array Value} {below : List Frame} {meth : Method} {c : Code} {Q : State → Prop} {H : Heap} {locs : List Loc} {ls : Array Slot} {cs' ss' mc ms pc' : Nat} {R : Room} {Qa : State → Outcome → State → Prop} {rest st0 : List Value}
    (K : True) (hS : va_S (hA E) s.heap H locs) (hrun : va_Run p l e R s m args below meth c H locs cs ss mc ms (F0 m pc ls st0) rest Qa (hA E)) (hpc : pc' = pc + 3) (hcs : cs + mc = cs') (hss : ss + ms = ss')
    (kk : ∀ (v : Option Value) (st₀ t : State) (H1 : Heap) (locs1 : List Loc), st₀.heap = H → t.heap = H1 → Qa st₀ (.returned v) t → va_F (hA E) st₀ t → va_S (hA E) s.heap H1 locs1 → W p l e R s m args below meth c H1 locs1 cs' ss' Q (F0 m pc' ls (v.toList ++ rest))) (hF : ∀ v st₀ t, Qa st₀ (.returned v) t → va_F (hA E) st₀ t) : W p l e R s m args below meth c H locs cs ss Q (F0 m pc ls st0) := by
  subst hpc; subst hcs; subst hss
  intro T hT X
  obtain ⟨v, st₀, t, T', L, h0, X', hL, e1, e2, hq, stp⟩ := hrun T hT X
  have hFr := hF v st₀ t hq
  obtain ⟨-, -, k3⟩ := vx_keep h0 e1 hS (fun _ _ h => h) (fun _ h => h) hL hFr
  obtain ⟨t2, a1, b1⟩ := kk v st₀ t T'.heap (locs ++ L) h0 e1.symm hq hFr k3 T' rfl X'
  exact ⟨t2, stp t2 a1, b1⟩
theorem G_callVX {index n a i ci cs' ss' : Nat} {y : MethodName} {b' : ByteArray} {z' : Zd} {as rest st0 fs : List Value} {T : u_T} {N : Nat} (hx : xOk E M.2) (hi : M.2[i]? = some (a, .inr (ci, fs))) (d : decode b pc = .ok (.invokevirtual index, 3)) (lk : hLV own index y b' z' n) (hci : hCl[ci]? = some (y.cls, T, N)) (hn : as.length = n) (hst0 : st0 = as.reverse ++ .ref a :: rest) (hroom : (rest.map fun v => v.category).sum ≤ 8) (hfr : z'.2.2.2.1 + 1 ≤ z.2.2.2.1) (hlo : 8 + (z'.1 + 11) + z'.2.2.2.2.1 ≤ z.2.2.2.2.1) (hcs : cs + z'.2.2.1.1 = cs') (hss : ss + z'.2.2.1.2 = ss') (hcm : cs' ≤ z.2.2.1.1) (hsm : ss' ≤ z.2.2.1.2) (hz : z.2.2.2.2.2 = [])
    (sp : Sp E y b' z' (.ref a :: as) M (hGo E C own b z P cs' ss' (pc + 3) lv rest)) : G E C own b z P cs ss M pc lv st0 := by
  subst hcs
  subst hss
  subst hst0
  obtain ⟨p', l, e, s, m, args, below, meth, c, Q⟩ := C
  intro K H locs ls hP hS hlv
  obtain ⟨hx', hb, hr, hlk, hml, hown, hts, htab, hK, hF1, hst, hAm, hQ⟩ := id K
  obtain ⟨⟨w1, w2, w3, w4, w5⟩, w6, w7⟩ := lk
  have hM := sp (hN_go hAm.2) l hst
  rw [hWd_nil w4] at hM
  have hrun := vx_runV (e := e) (below := below) (meth := meth) (locs := locs) (g := F0 m pc ls (as.reverse ++ .ref a :: rest)) (As := as) (rest := rest) (R := zRoom z) (cells := cs) (slots := ss) ⟨hx', hb, hml, hown, hts⟩ hM (cwV (C := y.cls) n hts (hGood (fun w hw => by
      rcases List.mem_append.mp hw with h | h
      · rcases List.mem_cons.mp h with rfl | h
        · exact w1
        · rcases List.mem_cons.mp h with rfl | h
          · exact w6
          · rcases List.mem_cons.mp h with rfl | h
            · exact w7
            · rcases List.mem_cons.mp h with rfl | h
              · exact w2
              · cases h
      · rcases List.mem_cons.mp h with rfl | h
        · exact w3
        · exact h)) rfl rfl rfl ⟨rfl, w5⟩ ⟨hfr, hlo⟩) ⟨hF_blind, va_recv hK hP hci (hW_x hx hi), fun U hU hW2 => ⟨rfl, hRep_at hU hW2 hP hK hF1 hS⟩⟩ rfl hn hlv.1 rfl (lv_room hroom) d ⟨hcm, hsm⟩
  intro T hT X
  rcases hrun T hT X with ⟨v, st₀, t, T', L, h0, X', hL, e1, e2, ⟨v', M', hv, hPm, hPt, hFr⟩, stp⟩ | ⟨q, st₀, t, T', L, Xn, ce, h0, X', hL, e1, e2, ⟨M', hPm, hPt, hFr⟩, hce, hcv, hcl, stp⟩
  · cases hv
    obtain ⟨-, -, k3⟩ := vx_keep h0 e1 hS (fun _ _ h => h) (fun _ h => h) hL hFr
    obtain ⟨t2, a1, b1⟩ := hPm K T'.heap (locs ++ L) ls (by rw [e1]; exact hPt) k3 hlv T' rfl X'
    exact ⟨t2, stp t2 a1, b1⟩
  · exact absurd hPm (hAm.2 Xn M')
/-- a static private method of a nest mate -/
theorem G_callSN {index n cs' ss' : Nat} {host : String} {y : MethodName} {b' : ByteArray} {z' : Zd} {as rest st0 : List Value} (d : decode b pc = .ok (.invokestatic index, 3)) (w1 : ∀ (U : State) (H : Heap), hF E U H → va_Nw (.methodLinkNest own index y host) U) (w2 : Cond.initialized y.cls ∈ hTB) (w3 : Cond.code y b' z'.1 z'.2.1 ∈ hTB) (w4 : Cond.static y ∈ hTB) (hz' : z'.2.2.2.2.2 = []) (w5 : y.cls ≠ "java/lang/invoke/MethodHandle" ∧ y.cls ≠ "java/lang/invoke/VarHandle" ∧ (parseMethodDescriptor y.desc).map (fun d => d.parameters.length) = some n) (hn : as.length = n) (hst0 : st0 = as.reverse ++ rest) (hroom : (rest.map fun v => v.category).sum ≤ 8) (hfr : z'.2.2.2.1 + 1 ≤ z.2.2.2.1) (hlo : 8 + (z'.1 + 11) + z'.2.2.2.2.1 ≤ z.2.2.2.2.1) (hcs : cs + z'.2.2.1.1 = cs') (hss : ss + z'.2.2.1.2 = ss') (hcm : cs' ≤ z.2.2.1.1) (hsm : ss' ≤ z.2.2.1.2)
    (sp : Sp E y b' z' as M (hGo E C own b z P cs' ss' (pc + 3) lv rest)) : G E C own b z P cs ss M pc lv st0 := by
  subst hst0
  obtain ⟨p', l, e, s, m, args, below, meth, c, Q⟩ := C
  intro K H locs ls hP hS hlv
  obtain ⟨hx', hb, hr, hlk, hml, hown, hts, htab, hK, hF1, hst, hAm, hQ⟩ := id K
  have hM := Sp_met (hN_go hAm.2) sp l hst
  rw [hWd_nil hz'] at hM
  have hrun := va_runSN (e := e) (below := below) (meth := meth) (locs := locs) (g := F0 m pc ls (as.reverse ++ rest)) (As := as) (rest := rest) (R := zRoom z) (cells := cs) (slots := ss) ⟨hx', hb, hml, hown, hts⟩ hM ⟨va_cnB n hts (hGoodC w3 (fun w h => h)) rfl rfl rfl (w1 s s.heap hF1) (hts _ w2) w5 ⟨hfr, hlo⟩, hts _ w4, trivial⟩ ⟨hF_blind, fun U hU hW2 => ⟨rfl, hRep_at hU hW2 hP hK hF1 hS⟩⟩ rfl hn hlv.1 rfl (lv_room hroom) d ⟨by rw [hcs]; exact hcm, by rw [hss]; exact hsm⟩
  refine va_end trivial hS hrun rfl hcs hss (fun v st₀ t H1 locs1 h0 h1 hq _ hS1 => ?_) (fun v st₀ t hq => by obtain ⟨v', M', -, -, -, h⟩ := hq; exact h)
  obtain ⟨v', M', hv, hPm, hPt, -⟩ := hq
  cases hv
  exact hPm K H1 locs1 ls (by rw [← h1]; exact hPt) hS1 hlv
theorem and31 (x : Int32) : ¬ (x &&& 2147483647) < 0 := fun h => by
  rw [Int32.lt_iff_toInt_lt] at h
  have h2 : (x &&& 2147483647).toBitVec.msb = true := by
    rw [BitVec.msb_eq_toInt]
    exact decide_eq_true h
  rw [Int32.toBitVec_and, BitVec.msb_and, show (2147483647 : Int32).toBitVec.msb = false from by decide, Bool.and_false] at h2
  cases h2
theorem and31_nI (x : Int32) : ∃ v, v < 2 ^ 31 ∧ x &&& 2147483647 = nI v := nI_of (and31 x)
end XCALLS
