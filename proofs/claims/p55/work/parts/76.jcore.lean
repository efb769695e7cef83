/-! ===== CONSTRUCTORS: the judgement J over a world that grows: N cells at the addresses E.1, E.1 + 1, .. ===== -/
section JCORE
/-- what the constructors may write: from the base on -/
def hA0 (E : Ed) : Nat → Prop := fun q => E.1 ≤ q
def hV (E : Ed) (N : Nat) (f : Nat → va_E) : va_W := (List.range N).map (fun i => (E.1 + i, f i))
theorem hV_at {E : Ed} {N i : Nat} {f : Nat → va_E} (h : i < N) : (hV E N f)[i]? = some (E.1 + i, f i) := by
  unfold hV
  rw [List.getElem?_map, List.getElem?_range h]
  rfl
theorem hV_at2 {E : Ed} {N i : Nat} {f : Nat → va_E} {e : va_E} (h : i < N) (he : f i = e) : (hV E N f)[i]? = some (E.1 + i, e) := he ▸ hV_at h
theorem hV_of {E : Ed} {N i : Nat} {f : Nat → va_E} {q : Nat × va_E} (hq : (hV E N f)[i]? = some q) : i < N ∧ q = (E.1 + i, f i) := by
  have hl := (List.getElem?_eq_some_iff.mp hq).1
  have hi : i < N := by simpa [hV] using hl
  rw [hV_at hi] at hq
  exact ⟨hi, (Option.some.inj hq).symm⟩
theorem hV_D (E : Ed) (N : Nat) (f : Nat → va_E) : va_D (fun q => E.1 ≤ q) (hV E N f) := by
  refine ⟨fun i j p q hi hj he => ?_, fun k q hk => ?_⟩
  · have h1 := (hV_of hi).2
    have h2 := (hV_of hj).2
    subst h1
    subst h2
    exact Nat.add_left_cancel he
  · rw [(hV_of hk).2]
    exact Nat.le_add_right _ _
theorem hV_cong {E : Ed} {N : Nat} {f g : Nat → va_E} (h : ∀ i, i < N → f i = g i) : hV E N f = hV E N g := by
  unfold hV
  apply List.map_congr_left
  intro i hi
  rw [h i (List.mem_range.mp hi)]
theorem vu_at {f : Nat → va_E} {i : Nat} {e : va_E} : va_up f i e i = e := by unfold va_up; rw [if_pos rfl]
theorem vu_ne {f : Nat → va_E} {i k : Nat} {e : va_E} (h : k ≠ i) : va_up f i e k = f k := by unfold va_up; rw [if_neg h]
theorem hV_set {E : Ed} {N i : Nat} {f : Nat → va_E} {e : va_E} (h : i < N) : (hV E N f).set i (E.1 + i, e) = hV E N (va_up f i e) := by
  apply List.ext_getElem?
  intro k
  rw [List.getElem?_set]
  by_cases hk : k < N
  · rw [hV_at hk]
    by_cases e1 : i = k
    · subst e1
      rw [if_pos rfl, if_pos (by simp [hV]; exact h), hV_at h, vu_at]
    · rw [if_neg e1, hV_at hk, vu_ne (Ne.symm e1)]
  · rw [if_neg (by omega)]
    simp [hV, hk]
theorem hV_app {E : Ed} {N : Nat} {f : Nat → va_E} {e : va_E} : hV E (N + 1) (va_up f N e) = hV E N f ++ [(E.1 + N, e)] := by
  rw [show hV E N f = hV E N (va_up f N e) from hV_cong (fun i hi => (vu_ne (by omega)).symm)]
  unfold hV
  rw [List.range_succ, List.map_append, List.map_cons, List.map_nil, vu_at]
/-- what else of the tables the constructors need: links to private constructors, arrays of references -/
def hNs (U : State) : Prop := va_Nw (.methodLinkNest RX8 18 yX4_init RX8) U ∧ va_Nw (.methodLinkNest RX3 19 yX0_init RX8) U ∧ va_Nw (.methodLinkNest RX1 11 yX2_init RX8) U ∧ va_AO RX1 U ∧ va_AO RX3 U
theorem hNs.warm {s U : State} (hW : s.WarmedH U.vm) (h : hNs s) : hNs U := ⟨va_Nw.warmM hW h.1, va_Nw.warmM hW h.2.1, va_Nw.warmM hW h.2.2.1, h.2.2.2.1.moved hW.alike, h.2.2.2.2.moved hW.alike⟩
theorem hNs.same {u U : State} (e : u.vm = U.vm) (h : hNs u) : hNs U := ⟨va_Nw.same rfl e h.1, va_Nw.same rfl e h.2.1, va_Nw.same rfl e h.2.2.1, h.2.2.2.1.moved (e ▸ Vm.Alike.refl u.vm), h.2.2.2.2.moved (e ▸ Vm.Alike.refl u.vm)⟩
abbrev Rn : Type := Option Value → Nat → (Nat → va_E) → Prop
def hRn (E : Ed) (N : Nat) (f : Nat → va_E) (U : State) : Prop := (va_P E.2.1 hCl (hV E N f) U.heap ∧ U.heap.size = E.1 + N) ∧ va_K E.2.1 hCl (hTys E) U ∧ hNs U
def hQn (E : Ed) (P : Rn) : Array Value → State → Outcome → State → Prop := fun _ st o t => ∃ (v : Option Value) (N : Nat) (f : Nat → va_E), o = .returned v ∧ P v N f ∧ va_P E.2.1 hCl (hV E N f) t.heap ∧ t.heap.size = E.1 + N ∧ va_F (hA0 E) st t
/-- THE CONTRACT of a constructor -/
def Kp (E : Ed) (y : MethodName) (b : ByteArray) (z : Zd) (as : List Value) (N : Nat) (f : Nat → va_E) (P : Rn) : Prop :=
  ∀ l : Launch, Met l y (Cond.code y b z.1 z.2.1 :: hTB) (zRoom z) (va_Pc as (hRn E N f)) (hQn E P) z.2.2.1.1 z.2.2.1.2 (hA0 E)
def hNm (C : Cx) : String := C.2.2.2.2.2.2.2.1.name
def J (E : Ed) (C : Cx) (own : String) (b : ByteArray) (z : Zd) (P : Rn) (cs ss N : Nat) (f : Nat → va_E) (pc : Nat) (lv : List (Nat × Value)) (st : List Value) : Prop :=
  match C with
  | (p, l, e, s, m, args, below, meth, c, Q) =>
    (p.tables.exec = Jvm.exec ∧ c.code = b ∧ meth.sig.returnType = z.2.1 ∧ meth.locks = false ∧ c.maxLocals = z.1 ∧ s.vm.findClass own = some m.cls ∧ (∀ w ∈ hTB, w.before args s = true) ∧
      va_K E.2.1 hCl (hTys E) s ∧ hNs s ∧ (∀ q, s.heap.size ≤ q → hA0 E q) ∧ (∀ t, MQ below (hQn E P) args s z.2.2.1.1 z.2.2.1.2 (hA0 E) t → Q t)) →
    ∀ (H : Heap) (locs : List Loc) (ls : Array Slot), va_P E.2.1 hCl (hV E N f) H → H.size = E.1 + N → va_S (hA0 E) s.heap H locs → lv_has ls z.1 lv → W p l e (zRoom z) s m args below meth c H locs cs ss Q (F0 m pc ls st)
variable {E : Ed} {C : Cx} {own : String} {b : ByteArray} {z : Zd} {P : Rn} {cs ss N : Nat} {f : Nat → va_E} {pc : Nat} {lv : List (Nat × Value)} {st : List Value}
theorem J_lv {lv' : List (Nat × Value)} (h : lvAll lv lv') (g : J E C own b z P cs ss N f pc lv' st) : J E C own b z P cs ss N f pc lv st := by
  obtain ⟨p, l, e, s, m, args, below, meth, c, Q⟩ := C
  intro K H locs ls hP hN hS hl
  exact g K H locs ls hP hN hS (lvAll_has hl h)
theorem J_lv2 {lv' : List (Nat × Value)} (g : J E C own b z P cs ss N f pc lv' st) (h : lvAll lv lv') : J E C own b z P cs ss N f pc lv st := J_lv h g
theorem J_ext {f' : Nat → va_E} (h : ∀ i, i < N → f i = f' i) (g : J E C own b z P cs ss N f' pc lv st) : J E C own b z P cs ss N f pc lv st := by
  obtain ⟨p, l, e, s, m, args, below, meth, c, Q⟩ := C
  intro K H locs ls hP hN hS hl
  rw [hV_cong h] at hP
  exact g K H locs ls hP hN hS hl
theorem J_wid {cs' ss' : Nat} (h1 : cs ≤ cs') (h2 : ss ≤ ss') (g : J E C own b z P cs' ss' N f pc lv st) : J E C own b z P cs ss N f pc lv st := by
  obtain ⟨p, l, e, s, m, args, below, meth, c, Q⟩ := C
  intro K H locs ls hP hN hS hl
  exact W.widen h1 h2 (g K H locs ls hP hN hS hl)
theorem arrV_cong {cA : ClassId} {n : Nat} {f g : Nat → Value} (h : ∀ q, q < n → f q = g q) : arrV cA n f = arrV cA n g := by
  have e : (arrV cA n f).slots = (arrV cA n g).slots := by
    apply Array.ext_getElem?
    intro i
    by_cases hi : i < n
    · rw [arrV_read _ _ hi, arrV_read _ _ hi, h i hi]
    · rw [Array.getElem?_eq_none (by rw [arrV_size]; omega), Array.getElem?_eq_none (by rw [arrV_size]; omega)]
  have k : ∀ f : Nat → Value, arrV cA n f = { cls := cA, slots := (arrV cA n f).slots, vm := .none } := fun f => rfl
  rw [k f, k g, e]
/-- an array of references told otherwise -/
theorem J_arr {i n : Nat} {cA : ClassId} {g g' : Nat → Option Nat} (hi : i < N) (hf : f i = .inl (cA, n, .inr (.inr (.inr (.inr g))))) (hg : ∀ q, q < n → g q = g' q) (k : J E C own b z P cs ss N (va_up f i (.inl (cA, n, .inr (.inr (.inr (.inr g')))))) pc lv st) : J E C own b z P cs ss N f pc lv st := by
  obtain ⟨p, l, e, s, m, args, below, meth, c, Q⟩ := C
  intro K H locs ls hP hN hS hl
  refine k K H locs ls (fun k9 q hk => ?_) hN hS hl
  obtain ⟨hk1, rfl⟩ := hV_of hk
  have h1 := hP k9 _ (hV_at hk1)
  by_cases e1 : k9 = i
  · subst e1
    rw [vu_at]
    rw [hf] at h1
    have h2 : H[E.1 + k9]? = some (vp_cell cA (n, .inr (.inr (.inr (.inr g))))) := h1
    rw [vp_cell_q, arrV_cong (g := fun j => va_rf (g' j)) (fun q hq => by rw [hg q hq]), ← vp_cell_q] at h2
    exact h2
  · rw [vu_ne e1]
    exact h1
theorem J_iload_n {k : Fin 4} {x : Int32} (d : decode b pc = .ok (.iload_n k, 1)) (hv : lvf lv k = some (.int x)) (g : J E C own b z P cs ss N f (pc + 1) lv (.int x :: st)) : J E C own b z P cs ss N f pc lv st := by
  obtain ⟨p, l, e, s, m, args, below, meth, c, Q⟩ := C
  intro K H locs ls hP hN hS hl
  exact lv_iload_n K.1 K.2.1 d rfl (lvf_at hl hv) (g K H locs ls hP hN hS hl)
theorem J_iload {k : Nat} {x : Int32} (d : decode b pc = .ok (.iload k, 2)) (hv : lvf lv k = some (.int x)) (g : J E C own b z P cs ss N f (pc + 2) lv (.int x :: st)) : J E C own b z P cs ss N f pc lv st := by
  obtain ⟨p, l, e, s, m, args, below, meth, c, Q⟩ := C
  intro K H locs ls hP hN hS hl
  exact lv_iload K.1 K.2.1 d (lvf_at hl hv) (g K H locs ls hP hN hS hl)
theorem J_aload_n {k : Fin 4} {x : Nat} (d : decode b pc = .ok (.aload_n k, 1)) (hv : lvf lv k = some (.ref x)) (g : J E C own b z P cs ss N f (pc + 1) lv (.ref x :: st)) : J E C own b z P cs ss N f pc lv st := by
  obtain ⟨p, l, e, s, m, args, below, meth, c, Q⟩ := C
  intro K H locs ls hP hN hS hl
  exact lv_aload_n K.1 K.2.1 d rfl (lvf_at hl hv) (g K H locs ls hP hN hS hl)
theorem J_aload {k : Nat} {x : Nat} (d : decode b pc = .ok (.aload k, 2)) (hv : lvf lv k = some (.ref x)) (g : J E C own b z P cs ss N f (pc + 2) lv (.ref x :: st)) : J E C own b z P cs ss N f pc lv st := by
  obtain ⟨p, l, e, s, m, args, below, meth, c, Q⟩ := C
  intro K H locs ls hP hN hS hl
  exact lv_aload K.1 K.2.1 d (lvf_at hl hv) (g K H locs ls hP hN hS hl)
theorem J_istore_n {k : Fin 4} {x : Int32} (d : decode b pc = .ok (.istore_n k, 1)) (hn : (k : Nat) < z.1) (g : J E C own b z P cs ss N f (pc + 1) (lvS lv k (.int x)) st) : J E C own b z P cs ss N f pc lv (.int x :: st) := by
  obtain ⟨p, l, e, s, m, args, below, meth, c, Q⟩ := C
  intro K H locs ls hP hN hS hl
  exact lv_istore_n K.1 K.2.1 d rfl hl hn rfl (fun ls hl => g K H locs ls hP hN hS hl)
theorem J_istore {k : Nat} {x : Int32} (d : decode b pc = .ok (.istore k, 2)) (hn : k < z.1) (g : J E C own b z P cs ss N f (pc + 2) (lvS lv k (.int x)) st) : J E C own b z P cs ss N f pc lv (.int x :: st) := by
  obtain ⟨p, l, e, s, m, args, below, meth, c, Q⟩ := C
  intro K H locs ls hP hN hS hl
  exact lv_istore K.1 K.2.1 d hl hn rfl (fun ls hl => g K H locs ls hP hN hS hl)
theorem J_astore_n {k : Fin 4} {x : Nat} (d : decode b pc = .ok (.astore_n k, 1)) (hn : (k : Nat) < z.1) (g : J E C own b z P cs ss N f (pc + 1) (lvS lv k (.ref x)) st) : J E C own b z P cs ss N f pc lv (.ref x :: st) := by
  obtain ⟨p, l, e, s, m, args, below, meth, c, Q⟩ := C
  intro K H locs ls hP hN hS hl
  exact lv_astore_n K.1 K.2.1 d rfl hl hn rfl (fun ls hl => g K H locs ls hP hN hS hl)
theorem J_astore {k : Nat} {x : Nat} (d : decode b pc = .ok (.astore k, 2)) (hn : k < z.1) (g : J E C own b z P cs ss N f (pc + 2) (lvS lv k (.ref x)) st) : J E C own b z P cs ss N f pc lv (.ref x :: st) := by
  obtain ⟨p, l, e, s, m, args, below, meth, c, Q⟩ := C
  intro K H locs ls hP hN hS hl
  exact lv_astore K.1 K.2.1 d hl hn rfl (fun ls hl => g K H locs ls hP hN hS hl)
theorem J_iinc {k : Nat} {n : Int} {x v : Int32} (d : decode b pc = .ok (.iinc k n, 3)) (hv : lvf lv k = some (.int x)) (hn : k < z.1) (he : Int32.ofInt n = v) (g : J E C own b z P cs ss N f (pc + 3) (lvS lv k (.int (x + v))) st) : J E C own b z P cs ss N f pc lv st := by
  obtain ⟨p, l, e, s, m, args, below, meth, c, Q⟩ := C
  intro K H locs ls hP hN hS hl
  obtain ⟨i, hi⟩ := lvf_ix hv
  exact lv_iinc K.1 K.2.1 d hl hi (by rw [he]) hn rfl (fun ls hl => g K H locs ls hP hN hS hl)
theorem J_iconst {n : Int} {v : Int32} (d : decode b pc = .ok (.iconst n, 1)) (hv : Int32.ofInt n = v) (g : J E C own b z P cs ss N f (pc + 1) lv (.int v :: st)) : J E C own b z P cs ss N f pc lv st := by
  obtain ⟨p, l, e, s, m, args, below, meth, c, Q⟩ := C
  intro K H locs ls hP hN hS hl
  exact lv_iconst K.1 K.2.1 d hv (g K H locs ls hP hN hS hl)
theorem J_bipush {n : Int} {v : Int32} (d : decode b pc = .ok (.bipush n, 2)) (hv : (Int8.ofInt n).toInt32 = v) (g : J E C own b z P cs ss N f (pc + 2) lv (.int v :: st)) : J E C own b z P cs ss N f pc lv st := by
  obtain ⟨p, l, e, s, m, args, below, meth, c, Q⟩ := C
  intro K H locs ls hP hN hS hl
  exact lv_bipush K.1 K.2.1 d hv (g K H locs ls hP hN hS hl)
theorem J_sipush {n : Int} {v : Int32} (d : decode b pc = .ok (.sipush n, 3)) (hv : (Int16.ofInt n).toInt32 = v) (g : J E C own b z P cs ss N f (pc + 3) lv (.int v :: st)) : J E C own b z P cs ss N f pc lv st := by
  obtain ⟨p, l, e, s, m, args, below, meth, c, Q⟩ := C
  intro K H locs ls hP hN hS hl
  exact lv_sipush K.1 K.2.1 d hv (g K H locs ls hP hN hS hl)
theorem J_iadd {x y : Int32} (d : decode b pc = .ok (.iadd, 1)) (g : J E C own b z P cs ss N f (pc + 1) lv (.int (x + y) :: st)) : J E C own b z P cs ss N f pc lv (.int y :: .int x :: st) := by
  obtain ⟨p, l, e, s, m, args, below, meth, c, Q⟩ := C
  intro K H locs ls hP hN hS hl
  exact lv_iadd K.1 K.2.1 d (g K H locs ls hP hN hS hl)
theorem J_isub {x y : Int32} (d : decode b pc = .ok (.isub, 1)) (g : J E C own b z P cs ss N f (pc + 1) lv (.int (x - y) :: st)) : J E C own b z P cs ss N f pc lv (.int y :: .int x :: st) := by
  obtain ⟨p, l, e, s, m, args, below, meth, c, Q⟩ := C
  intro K H locs ls hP hN hS hl
  exact lv_isub K.1 K.2.1 d (g K H locs ls hP hN hS hl)
theorem J_imul {x y : Int32} (d : decode b pc = .ok (.imul, 1)) (g : J E C own b z P cs ss N f (pc + 1) lv (.int (x * y) :: st)) : J E C own b z P cs ss N f pc lv (.int y :: .int x :: st) := by
  obtain ⟨p, l, e, s, m, args, below, meth, c, Q⟩ := C
  intro K H locs ls hP hN hS hl
  exact lv_imul K.1 K.2.1 d (g K H locs ls hP hN hS hl)
theorem J_dup {v : Value} (d : decode b pc = .ok (.dup, 1)) (hc : v.category = 1) (g : J E C own b z P cs ss N f (pc + 1) lv (v :: v :: st)) : J E C own b z P cs ss N f pc lv (v :: st) := by
  obtain ⟨p, l, e, s, m, args, below, meth, c, Q⟩ := C
  intro K H locs ls hP hN hS hl
  exact lv_dup K.1 K.2.1 d hc (g K H locs ls hP hN hS hl)
theorem J_pop {v : Value} (d : decode b pc = .ok (.pop, 1)) (hc : v.category = 1) (g : J E C own b z P cs ss N f (pc + 1) lv st) : J E C own b z P cs ss N f pc lv (v :: st) := by
  obtain ⟨p, l, e, s, m, args, below, meth, c, Q⟩ := C
  intro K H locs ls hP hN hS hl
  exact lv_pop K.1 K.2.1 d hc (g K H locs ls hP hN hS hl)
theorem J_goto {off : Int} {tgt : Nat} (d : decode b pc = .ok (.goto off, 3)) (ht : (pc : Int) + off = (tgt : Int)) (g : J E C own b z P cs ss N f (tgt) lv st) : J E C own b z P cs ss N f pc lv st := by
  obtain ⟨p, l, e, s, m, args, below, meth, c, Q⟩ := C
  intro K H locs ls hP hN hS hl
  exact lv_goto K.1 K.2.1 d ht (g K H locs ls hP hN hS hl)
theorem J_if_eq {x : Int32} {off : Int} {tgt : Nat} (d : decode b pc = .ok (.ifCond .eq off, 3)) (ht : (pc : Int) + off = (tgt : Int)) (g1 : x = 0 → J E C own b z P cs ss N f tgt lv st) (g2 : ¬ (x = 0) → J E C own b z P cs ss N f (pc + 3) lv st) : J E C own b z P cs ss N f pc lv (.int x :: st) := by
  obtain ⟨p, l, e, s, m, args, below, meth, c, Q⟩ := C
  intro K H locs ls hP hN hS hl
  exact lv_if_eq K.1 K.2.1 d ht (fun q => g1 q K H locs ls hP hN hS hl) (fun q => g2 q K H locs ls hP hN hS hl)
theorem J_if_ne {x : Int32} {off : Int} {tgt : Nat} (d : decode b pc = .ok (.ifCond .ne off, 3)) (ht : (pc : Int) + off = (tgt : Int)) (g1 : ¬ x = 0 → J E C own b z P cs ss N f tgt lv st) (g2 : x = 0 → J E C own b z P cs ss N f (pc + 3) lv st) : J E C own b z P cs ss N f pc lv (.int x :: st) := by
  obtain ⟨p, l, e, s, m, args, below, meth, c, Q⟩ := C
  intro K H locs ls hP hN hS hl
  exact lv_if_ne K.1 K.2.1 d ht (fun q => g1 q K H locs ls hP hN hS hl) (fun q => g2 q K H locs ls hP hN hS hl)
theorem J_if_lt {x : Int32} {off : Int} {tgt : Nat} (d : decode b pc = .ok (.ifCond .lt off, 3)) (ht : (pc : Int) + off = (tgt : Int)) (g1 : x < 0 → J E C own b z P cs ss N f tgt lv st) (g2 : ¬ (x < 0) → J E C own b z P cs ss N f (pc + 3) lv st) : J E C own b z P cs ss N f pc lv (.int x :: st) := by
  obtain ⟨p, l, e, s, m, args, below, meth, c, Q⟩ := C
  intro K H locs ls hP hN hS hl
  exact lv_if_lt K.1 K.2.1 d ht (fun q => g1 q K H locs ls hP hN hS hl) (fun q => g2 q K H locs ls hP hN hS hl)
theorem J_if_ge {x : Int32} {off : Int} {tgt : Nat} (d : decode b pc = .ok (.ifCond .ge off, 3)) (ht : (pc : Int) + off = (tgt : Int)) (g1 : 0 ≤ x → J E C own b z P cs ss N f tgt lv st) (g2 : ¬ (0 ≤ x) → J E C own b z P cs ss N f (pc + 3) lv st) : J E C own b z P cs ss N f pc lv (.int x :: st) := by
  obtain ⟨p, l, e, s, m, args, below, meth, c, Q⟩ := C
  intro K H locs ls hP hN hS hl
  exact lv_if_ge K.1 K.2.1 d ht (fun q => g1 q K H locs ls hP hN hS hl) (fun q => g2 q K H locs ls hP hN hS hl)
theorem J_if_gt {x : Int32} {off : Int} {tgt : Nat} (d : decode b pc = .ok (.ifCond .gt off, 3)) (ht : (pc : Int) + off = (tgt : Int)) (g1 : 0 < x → J E C own b z P cs ss N f tgt lv st) (g2 : ¬ (0 < x) → J E C own b z P cs ss N f (pc + 3) lv st) : J E C own b z P cs ss N f pc lv (.int x :: st) := by
  obtain ⟨p, l, e, s, m, args, below, meth, c, Q⟩ := C
  intro K H locs ls hP hN hS hl
  exact lv_if_gt K.1 K.2.1 d ht (fun q => g1 q K H locs ls hP hN hS hl) (fun q => g2 q K H locs ls hP hN hS hl)
theorem J_if_le {x : Int32} {off : Int} {tgt : Nat} (d : decode b pc = .ok (.ifCond .le off, 3)) (ht : (pc : Int) + off = (tgt : Int)) (g1 : x ≤ 0 → J E C own b z P cs ss N f tgt lv st) (g2 : ¬ (x ≤ 0) → J E C own b z P cs ss N f (pc + 3) lv st) : J E C own b z P cs ss N f pc lv (.int x :: st) := by
  obtain ⟨p, l, e, s, m, args, below, meth, c, Q⟩ := C
  intro K H locs ls hP hN hS hl
  exact lv_if_le K.1 K.2.1 d ht (fun q => g1 q K H locs ls hP hN hS hl) (fun q => g2 q K H locs ls hP hN hS hl)
theorem J_icmp_eq {x y : Int32} {off : Int} {tgt : Nat} (d : decode b pc = .ok (.if_icmp .eq off, 3)) (ht : (pc : Int) + off = (tgt : Int)) (g1 : x = y → J E C own b z P cs ss N f tgt lv st) (g2 : ¬ (x = y) → J E C own b z P cs ss N f (pc + 3) lv st) : J E C own b z P cs ss N f pc lv (.int y :: .int x :: st) := by
  obtain ⟨p, l, e, s, m, args, below, meth, c, Q⟩ := C
  intro K H locs ls hP hN hS hl
  exact lv_icmp_eq K.1 K.2.1 d ht (fun q => g1 q K H locs ls hP hN hS hl) (fun q => g2 q K H locs ls hP hN hS hl)
theorem J_icmp_ne {x y : Int32} {off : Int} {tgt : Nat} (d : decode b pc = .ok (.if_icmp .ne off, 3)) (ht : (pc : Int) + off = (tgt : Int)) (g1 : ¬ x = y → J E C own b z P cs ss N f tgt lv st) (g2 : x = y → J E C own b z P cs ss N f (pc + 3) lv st) : J E C own b z P cs ss N f pc lv (.int y :: .int x :: st) := by
  obtain ⟨p, l, e, s, m, args, below, meth, c, Q⟩ := C
  intro K H locs ls hP hN hS hl
  exact lv_icmp_ne K.1 K.2.1 d ht (fun q => g1 q K H locs ls hP hN hS hl) (fun q => g2 q K H locs ls hP hN hS hl)
theorem J_icmp_lt {x y : Int32} {off : Int} {tgt : Nat} (d : decode b pc = .ok (.if_icmp .lt off, 3)) (ht : (pc : Int) + off = (tgt : Int)) (g1 : x < y → J E C own b z P cs ss N f tgt lv st) (g2 : ¬ (x < y) → J E C own b z P cs ss N f (pc + 3) lv st) : J E C own b z P cs ss N f pc lv (.int y :: .int x :: st) := by
  obtain ⟨p, l, e, s, m, args, below, meth, c, Q⟩ := C
  intro K H locs ls hP hN hS hl
  exact lv_icmp_lt K.1 K.2.1 d ht (fun q => g1 q K H locs ls hP hN hS hl) (fun q => g2 q K H locs ls hP hN hS hl)
theorem J_icmp_ge {x y : Int32} {off : Int} {tgt : Nat} (d : decode b pc = .ok (.if_icmp .ge off, 3)) (ht : (pc : Int) + off = (tgt : Int)) (g1 : y ≤ x → J E C own b z P cs ss N f tgt lv st) (g2 : ¬ (y ≤ x) → J E C own b z P cs ss N f (pc + 3) lv st) : J E C own b z P cs ss N f pc lv (.int y :: .int x :: st) := by
  obtain ⟨p, l, e, s, m, args, below, meth, c, Q⟩ := C
  intro K H locs ls hP hN hS hl
  exact lv_icmp_ge K.1 K.2.1 d ht (fun q => g1 q K H locs ls hP hN hS hl) (fun q => g2 q K H locs ls hP hN hS hl)
theorem J_icmp_gt {x y : Int32} {off : Int} {tgt : Nat} (d : decode b pc = .ok (.if_icmp .gt off, 3)) (ht : (pc : Int) + off = (tgt : Int)) (g1 : y < x → J E C own b z P cs ss N f tgt lv st) (g2 : ¬ (y < x) → J E C own b z P cs ss N f (pc + 3) lv st) : J E C own b z P cs ss N f pc lv (.int y :: .int x :: st) := by
  obtain ⟨p, l, e, s, m, args, below, meth, c, Q⟩ := C
  intro K H locs ls hP hN hS hl
  exact lv_icmp_gt K.1 K.2.1 d ht (fun q => g1 q K H locs ls hP hN hS hl) (fun q => g2 q K H locs ls hP hN hS hl)
theorem J_icmp_le {x y : Int32} {off : Int} {tgt : Nat} (d : decode b pc = .ok (.if_icmp .le off, 3)) (ht : (pc : Int) + off = (tgt : Int)) (g1 : x ≤ y → J E C own b z P cs ss N f tgt lv st) (g2 : ¬ (x ≤ y) → J E C own b z P cs ss N f (pc + 3) lv st) : J E C own b z P cs ss N f pc lv (.int y :: .int x :: st) := by
  obtain ⟨p, l, e, s, m, args, below, meth, c, Q⟩ := C
  intro K H locs ls hP hN hS hl
  exact lv_icmp_le K.1 K.2.1 d ht (fun q => g1 q K H locs ls hP hN hS hl) (fun q => g2 q K H locs ls hP hN hS hl)
theorem J_dup2 {E : Ed} {C : Cx} {own : String} {b : ByteArray} {z : Zd} {P : Rn} {cs ss N pc : Nat} {f : Nat → va_E} {lv : List (Nat × Value)} {st : List Value} {va vb : Value} (d : decode b pc = .ok (.dup2, 1)) (ha : va.category = 1) (hb2 : vb.category = 1) (g : J E C own b z P cs ss N f (pc + 1) lv (va :: vb :: va :: vb :: st)) : J E C own b z P cs ss N f pc lv (va :: vb :: st) := by
  obtain ⟨p, l, e, s, m, args, below, meth, c, Q⟩ := C
  intro K H locs ls hP hN hS hl
  exact lv_dup2_11 K.1 K.2.1 d ha hb2 (g K H locs ls hP hN hS hl)
theorem J_new {index ci n cs' ss' : Nat} {Cn : String} {T : u_T} {fs : List Value} {ty : Nat → FieldType} (d : decode b pc = .ok (.new index, 3)) (hin : ∀ w ∈ u_ws Cn T n, w ∈ hTB) (hc : hCl[ci]? = some (Cn, T, n)) (hty : ∀ k, k < n → parseFieldDescriptor (T k).2.2.1 = some (ty k)) (w1 : Cond.classLink own index Cn ∈ hTB) (w2 : Cond.instantiable Cn n ∈ hTB) (w3 : Cond.initialized Cn ∈ hTB) (hfs : ∀ j, j < n → defaultValue (ty j) = vp_V fs j) (hcs : cs + 1 = cs') (hss : ss + n = ss') (hcm : cs' ≤ z.2.2.1.1) (hsm : ss' ≤ z.2.2.1.2)
    (g : J E C own b z P cs' ss' (N + 1) (va_up f N (.inr (ci, fs))) (pc + 3) lv (.ref (E.1 + N) :: st)) : J E C own b z P cs ss N f pc lv st := by
  subst hcs
  subst hss
  obtain ⟨p, l, e, s, m, args, below, meth, c, Q⟩ := C
  intro K H locs ls hP hN hS hl
  obtain ⟨hx, hb, hr, hlk, hml, hown, hts, hK, hNs1, hAm, hQ⟩ := id K
  have hKn := hK.1 ci _ hc
  refine W.newcK hx hb hown (hts _ w1) (hts _ w2) (hts _ w3) rfl d hcm hsm hKn.2.1 hN fun H1 kC hkC e1 z1 o1 => ?_
  have hk : ∀ (k : Nat) (x : Nat × va_E), (hV E N f)[k]? = some x → H1[x.1]? = H[x.1]? := fun k x hx => o1 x.1 (by rw [← hN]; exact (hP k x hx).lt)
  refine g K H1 locs ls ?_ (by rw [z1]; omega) ⟨Nat.le_trans hS.1 (by omega), fun x h1 h2 => (o1 x (by rw [← hN]; exact Nat.lt_of_lt_of_le h1 hS.1)).trans (hS.2.1 x h1 h2), hS.2.2⟩ hl
  rw [hV_app]
  refine (hP.kept hk).app (fun k x hx => ?_)
  have hz : k < 1 := (List.getElem?_eq_some_iff.mp hx).1
  rw [show k = 0 by omega] at hx
  cases hx
  exact ⟨_, hc, (u_born ty hts hin hKn hkC e1 hty).to hfs⟩
theorem J_newa {t0 n cs' ss' : Nat} {atype : ArrayType} {ty : FieldType} {x : Int32} {a0 : vp_A} (d : decode b pc = .ok (.newarray atype, 2)) (w1 : Cond.arrayClass (newarray.typeOf atype) ∈ hTB) (hty : newarray.typeOf atype = ty) (hp : ∀ C, ty ≠ .object C) (ht : (hTys E)[t0]? = some (E.2.2.1 t0, ty)) (ha : ∀ cA : ClassId, vp_cell cA a0 = arrV cA n (fun _ => defaultValue ty)) (hx0 : x = nI n) (hn31 : n < 2 ^ 31) (hby : n * componentBytes ty ≤ 536870912) (hcs : cs + 1 = cs') (hss : ss + n = ss') (hcm : cs' ≤ z.2.2.1.1) (hsm : ss' ≤ z.2.2.1.2)
    (g : J E C own b z P cs' ss' (N + 1) (va_up f N (.inl (E.2.2.1 t0, a0))) (pc + 2) lv (.ref (E.1 + N) :: st)) : J E C own b z P cs ss N f pc lv (.int x :: st) := by
  subst hcs
  subst hss
  subst hty
  subst hx0
  obtain ⟨p, l, e, s, m, args, below, meth, c, Q⟩ := C
  intro K H locs ls hP hN hS hl
  obtain ⟨hx, hb, hr, hlk, hml, hown, hts, hK, hNs1, hAm, hQ⟩ := id K
  refine va_newaK hx hb (hts _ w1) rfl d rfl (nI_pos hn31) (nI_clamp hn31) hby hcm hsm hN fun H1 cA e1 z1 o1 hAr hNm => ?_
  have hcA : E.2.2.1 t0 = cA := va_RA_p hp (hK.2 t0 _ ht).2 hNm
  have hk : ∀ (k : Nat) (x : Nat × va_E), (hV E N f)[k]? = some x → H1[x.1]? = H[x.1]? := fun k x hx => o1 x.1 (by rw [← hN]; exact (hP k x hx).lt)
  refine g K H1 locs ls ?_ (by rw [z1]; omega) ⟨Nat.le_trans hS.1 (by omega), fun x h1 h2 => (o1 x (by rw [← hN]; exact Nat.lt_of_lt_of_le h1 hS.1)).trans (hS.2.1 x h1 h2), hS.2.2⟩ hl
  rw [hV_app]
  refine (hP.kept hk).app (fun k x hx => ?_)
  have hz : k < 1 := (List.getElem?_eq_some_iff.mp hx).1
  rw [show k = 0 by omega] at hx
  cases hx
  show H1[E.1 + N]? = some (vp_cell _ _)
  rw [ha, hcA]
  exact e1
theorem J_newq {index t0 n cs' ss' : Nat} {Cn : String} {x : Int32} (d : decode b pc = .ok (.anewarray index, 3)) (w1 : Cond.classLink own index Cn ∈ hTB) (ho : ∀ U, hNs U → va_AO Cn U) (ht : (hTys E)[t0]? = some (E.2.2.1 t0, .object Cn)) (hx0 : x = nI n) (hn31 : n < 2 ^ 31) (hby : n * 4 ≤ 536870912) (hcs : cs + 1 = cs') (hss : ss + n = ss') (hcm : cs' ≤ z.2.2.1.1) (hsm : ss' ≤ z.2.2.1.2)
    (g : J E C own b z P cs' ss' (N + 1) (va_up f N (.inl (E.2.2.1 t0, n, .inr (.inr (.inr (.inr (fun _ => none))))))) (pc + 3) lv (.ref (E.1 + N) :: st)) : J E C own b z P cs ss N f pc lv (.int x :: st) := by
  subst hcs
  subst hss
  subst hx0
  obtain ⟨p, l, e, s, m, args, below, meth, c, Q⟩ := C
  intro K H locs ls hP hN hS hl
  obtain ⟨hx, hb, hr, hlk, hml, hown, hts, hK, hNs1, hAm, hQ⟩ := id K
  have e9 : (nI n).toNatClampNeg = n := nI_clamp hn31
  refine W.anew hx hb hown (hts _ w1) (va_AO.use (ho s hNs1)) rfl d rfl (nI_pos hn31) (by rw [e9]; exact hby) hcm (by rw [e9]; exact hsm) fun cA kA comp f1 f2 f3 f4 => ?_
  rw [e9]
  have hcA : E.2.2.1 t0 = cA := by
    obtain ⟨kA', comp', -, -, -, h4⟩ := (hK.2 t0 _ ht).2
    exact Option.some.inj (h4.symm.trans f1)
  rw [hN]
  generalize hH1 : H.push ({ cls := cA, slots := Array.replicate n .null, vm := .none } : Cell) = H1
  have z1 : H1.size = H.size + 1 := by rw [← hH1, Array.size_push]
  have e1 : H1[E.1 + N]? = some (arrV cA n (fun _ => .null)) := by rw [← hN, ← hH1, Array.getElem?_push_size, ← arrV_new]
  have o1 : ∀ q : Nat, q < H.size → H1[q]? = H[q]? := fun q hq => by rw [← hH1, Array.getElem?_push, if_neg (Nat.ne_of_lt hq)]
  have hk : ∀ (k : Nat) (x : Nat × va_E), (hV E N f)[k]? = some x → H1[x.1]? = H[x.1]? := fun k x hx => o1 x.1 ((hP k x hx).lt)
  refine g K H1 locs ls ?_ (by rw [z1]; omega) ⟨Nat.le_trans hS.1 (by omega), fun x h1 h2 => (o1 x (Nat.lt_of_lt_of_le h1 hS.1)).trans (hS.2.1 x h1 h2), hS.2.2⟩ hl
  rw [hV_app]
  refine (hP.kept hk).app (fun k x hx => ?_)
  have hz : k < 1 := (List.getElem?_eq_some_iff.mp hx).1
  rw [show k = 0 by omega] at hx
  cases hx
  show H1[E.1 + N]? = some (vp_cell _ _)
  rw [vp_cell_q, hcA]
  exact e1
theorem J_obj {index i : Nat} (d : decode b pc = .ok (.invokespecial index, 3)) (w1 : Cond.methodLink own index Lib.objectInit ∈ hTB) (w2 : Cond.instanceMethod Lib.objectInit ∈ hTB) (w3 : Cond.code Lib.objectInit ⟨#[0xb1]⟩ 1 none ∈ hTB) (hfr : 1 ≤ z.2.2.2.1) (hlo : (st.map fun v => v.category).sum + 12 ≤ z.2.2.2.2.1) (g : J E C own b z P cs ss N f (pc + 3) lv st) : J E C own b z P cs ss N f pc lv (.ref i :: st) := by
  obtain ⟨p, l, e, s, m, args, below, meth, c, Q⟩ := C
  intro K H locs ls hP hN hS hl
  obtain ⟨hx, hb, hr, hlk, hml, hown, hts, hK, hNs1, hAm, hQ⟩ := id K
  refine W.objInit hx hb hown (hts _ w1) (hts _ w2) (hts _ w3) rfl (by rw [hml]; exact hl.1) rfl d hfr (by simpa [F0, JFrame.monitorRoom, zRoom] using hlo) ?_
  exact g K H locs ls hP hN hS hl
theorem J_getf {index ci n t i : Nat} {Cn ref : String} {T : u_T} {fs : List Value} {v : Value} (d : decode b pc = .ok (.getfield index, 3)) (hw : Cond.fieldLink own index ref (T t).2.1 (T t).2.2.1 ∈ hTB) (hin : ∀ w ∈ u_ws Cn T n, w ∈ hTB) (hc : hCl[ci]? = some (Cn, T, n)) (ht : t < n) (hr : (T t).1 = ref) (hi : i < N) (hf : f i = .inr (ci, fs)) (hv : fs[t]? = some v)
    (g : J E C own b z P cs ss N f (pc + 3) lv (v :: st)) : J E C own b z P cs ss N f pc lv (.ref (E.1 + i) :: st) := by
  subst hr
  obtain ⟨p, l, e, s, m, args, below, meth, c, Q⟩ := C
  intro K H locs ls hP hN hS hl
  obtain ⟨hx, hb, hr, hlk, hml, hown, hts, hK, hNs1, hAm, hQ⟩ := id K
  exact va_get (D := E.2.1) (cl := hCl) (C := Cn) (T := T) (N := n) hx hb hts hin hown hK hP i (hV_at2 hi hf) hc t ht (hts _ hw) (fun _ h => h) hv d (g K H locs ls hP hN hS hl)
set_option maxHeartbeats 4000000 in
theorem J_putF {index ci n t i : Nat} {Cn ref : String} {T : u_T} {fs : List Value} {x : Value} {ty : FieldType} {ty0 : Nat → FieldType} (d : decode b pc = .ok (.putfield index, 3)) (hI : hNm C = "<init>") (hw : Cond.fieldLink own index ref (T t).2.1 (T t).2.2.1 ∈ hTB) (hin : ∀ w ∈ u_ws Cn T n, w ∈ hTB) (hc : hCl[ci]? = some (Cn, T, n)) (hty : ∀ k, k < n → parseFieldDescriptor (T k).2.2.1 = some (ty0 k)) (hnm : ∀ a, a < n → ∀ b, b < n → a ≠ b → (T a).2.1 ≠ (T b).2.1) (ht : t < n) (hr : (T t).1 = ref) (hfin : (T t).2.2.2 = true) (hdecl : (T t).1 = own) (hd : parseFieldDescriptor (T t).2.2.1 = some ty) (hn : narrow ty x = x) (hfit : fits ty x = true) (hi : i < N) (hf : f i = .inr (ci, fs)) (hl : t < fs.length)
    (g : J E C own b z P cs ss N (va_up f i (.inr (ci, fs.set t x))) (pc + 3) lv st) : J E C own b z P cs ss N f pc lv (x :: .ref (E.1 + i) :: st) := by
  subst hr
  obtain ⟨p, l, e, s, m, args, below, meth, c, Q⟩ := C
  intro K H locs ls hP hN hS hlv
  obtain ⟨hx, hb, hr, hlk, hml, hown, hts, hK, hNs1, hAm, hQ⟩ := id K
  have hD := hV_D E N f
  have hap := va_apart (own := own) hts hin ty0 hty hnm hK hc
  obtain ⟨r, h1, cell, q1, q2, q3, q4⟩ := hP i _ (hV_at2 hi hf)
  have hr : r = (Cn, T, n) := Option.some.inj (h1.symm.trans hc)
  subst hr
  obtain ⟨hSl, hfc, kC, hkC, hkind⟩ := hK.1 ci _ hc
  obtain ⟨cf, kf, fi, fd, hif, hsl⟩ := hSl t ht
  have hlay := hts _ (hin _ (u_in_lay ht))
  unfold u_lay at hlay
  rw [if_pos hfin] at hlay
  have hst := (u_facts hfc hkC (u_lays hts hin ht) hif).1
  have hcf : m.cls = cf := by
    obtain ⟨_, _, c', _, _, _, -, -, hf', -, -, -, hown2, -⟩ := Cond.laysFinal_spec hlay
    have e1 : c' = cf := by have := hif.symm.trans hf'; simp at this; exact this.1.symm
    rw [hdecl] at hown2
    rw [← e1]
    exact Option.some.inj (hown.symm.trans hown2)
  have h6 := u_fits hfc hkC hkind (Or.inr hlay) hif hd hn hfit
  refine W.putFinK hx hb hown (hts _ hw) hif hst hcf hI (by rw [q2]; exact h6) q1 q3 (by rw [hsl]; exact k2_hasslot (q4 t ht)) rfl rfl d fun H' e1 e2 e3 => ?_
  rw [hsl] at e1 ⊢
  have hw9 : va_at E.2.1 hCl (E.1 + i, .inr (ci, fs.set t x)) H' := ⟨_, hc, t_OB.to (V := updV (vp_V fs) t x) ⟨_, e1, q2, q3, t_set q4 hap ht x⟩ (fun j _ => vp_updV_set hl x j)⟩
  have hP2 := hP.set hD (hV_at2 hi hf) hw9 e3
  rw [hV_set hi] at hP2
  exact g K H' _ ls hP2 (by rw [e2]; exact hN) (hS.put e2 e3 (hD.2 i _ (hV_at2 hi hf))) hlv
set_option maxHeartbeats 4000000 in
theorem J_putN {index ci n t i : Nat} {Cn ref : String} {T : u_T} {fs : List Value} {x : Value} {ty : FieldType} {ty0 : Nat → FieldType} (d : decode b pc = .ok (.putfield index, 3)) (hw : Cond.fieldLink own index ref (T t).2.1 (T t).2.2.1 ∈ hTB) (hin : ∀ w ∈ u_ws Cn T n, w ∈ hTB) (hc : hCl[ci]? = some (Cn, T, n)) (hty : ∀ k, k < n → parseFieldDescriptor (T k).2.2.1 = some (ty0 k)) (hnm : ∀ a, a < n → ∀ b, b < n → a ≠ b → (T a).2.1 ≠ (T b).2.1) (ht : t < n) (hr : (T t).1 = ref) (hfin : (T t).2.2.2 = false) (hd : parseFieldDescriptor (T t).2.2.1 = some ty) (hn : narrow ty x = x) (hfit : fits ty x = true) (hi : i < N) (hf : f i = .inr (ci, fs)) (hl : t < fs.length)
    (g : J E C own b z P cs ss N (va_up f i (.inr (ci, fs.set t x))) (pc + 3) lv st) : J E C own b z P cs ss N f pc lv (x :: .ref (E.1 + i) :: st) := by
  subst hr
  obtain ⟨p, l, e, s, m, args, below, meth, c, Q⟩ := C
  intro K H locs ls hP hN hS hlv
  obtain ⟨hx, hb, hr, hlk, hml, hown, hts, hK, hNs1, hAm, hQ⟩ := id K
  have hD := hV_D E N f
  have hap := va_apart (own := own) hts hin ty0 hty hnm hK hc
  obtain ⟨r, h1, cell, q1, q2, q3, q4⟩ := hP i _ (hV_at2 hi hf)
  have hr : r = (Cn, T, n) := Option.some.inj (h1.symm.trans hc)
  subst hr
  obtain ⟨hSl, hfc, kC, hkC, hkind⟩ := hK.1 ci _ hc
  obtain ⟨cf, kf, fi, fd, hif, hsl⟩ := hSl t ht
  have hlay := hts _ (hin _ (u_in_lay ht))
  unfold u_lay at hlay
  rw [if_neg (by rw [hfin]; decide)] at hlay
  have hst := (u_facts hfc hkC (u_lays hts hin ht) hif).1
  have h6 := u_store hfc hkC hkind hlay hif hd hn hfit
  refine W.putK hx hb (f := fd) ⟨hown, hts _ hw, ⟨_, _, _, hif⟩, hst⟩ (by rw [q2]; exact h6) q1 q3 (by rw [hsl]; exact k2_hasslot (q4 t ht)) rfl rfl d fun H' e1 e2 e3 => ?_
  rw [hsl] at e1 ⊢
  have hw9 : va_at E.2.1 hCl (E.1 + i, .inr (ci, fs.set t x)) H' := ⟨_, hc, t_OB.to (V := updV (vp_V fs) t x) ⟨_, e1, q2, q3, t_set q4 hap ht x⟩ (fun j _ => vp_updV_set hl x j)⟩
  have hP2 := hP.set hD (hV_at2 hi hf) hw9 e3
  rw [hV_set hi] at hP2
  exact g K H' _ ls hP2 (by rw [e2]; exact hN) (hS.put e2 e3 (hD.2 i _ (hV_at2 hi hf))) hlv
theorem J_vret (d : decode b pc = .ok (.return_, 1)) (hz : z.2.1 = none) (hc : cs ≤ z.2.2.1.1) (hs : ss ≤ z.2.2.1.2) (h : P none N f) : J E C own b z P cs ss N f pc lv [] := by
  obtain ⟨p, l, e, s, m, args, below, meth, c, Q⟩ := C
  intro K H locs ls hP hN hS hl
  obtain ⟨hx, hb, hr, hlk, hml, hown, hts, hK, hNs1, hAm, hQ⟩ := id K
  exact W_imp hQ (W.widen hc hs (W.vret hx hb (hr.trans hz) (fun t ht hW => ⟨none, N, f, rfl, h, by rw [ht]; exact hP, by rw [ht]; exact hN, hS.F ht⟩) hS.2.2 d hlk))
theorem J_iret {x : Int32} {ty : FieldType} (d : decode b pc = .ok (.ireturn, 1)) (hz : z.2.1 = some ty) (hn : narrow ty (.int x) = .int x) (hc : cs ≤ z.2.2.1.1) (hs : ss ≤ z.2.2.1.2) (h : P (some (.int x)) N f) : J E C own b z P cs ss N f pc lv [.int x] := by
  obtain ⟨p, l, e, s, m, args, below, meth, c, Q⟩ := C
  intro K H locs ls hP hN hS hl
  obtain ⟨hx, hb, hr, hlk, hml, hown, hts, hK, hNs1, hAm, hQ⟩ := id K
  exact W_imp hQ (W.widen hc hs (W.zret hx hb (hr.trans hz) hn (fun t ht hW => ⟨_, N, f, rfl, h, by rw [ht]; exact hP, by rw [ht]; exact hN, hS.F ht⟩) hS.2.2 d hlk))
def hGj (E : Ed) (C : Cx) (own : String) (b : ByteArray) (z : Zd) (P : Rn) (cs ss pc : Nat) (lv : List (Nat × Value)) (rest : List Value) : Rn := fun v N f => J E C own b z P cs ss N f pc lv (v.toList ++ rest)
theorem hRn_blind {as : List Value} : FrameBlind (va_Pc as (hRn E N f)) := fun a U g mk q => ⟨q.1, q.2.1, va_K.moved (u := U) (U := U.calling g mk a) (Vm.Alike.refl U.vm) q.2.2.1, hNs.same (u := U) (U := U.calling g mk a) rfl q.2.2.2⟩
theorem hRn_at {s U : State} {H : Heap} (hU : U.heap = H) (hW2 : s.WarmedH U.vm) (hP : va_P E.2.1 hCl (hV E N f) H) (hN : H.size = E.1 + N) (hK : va_K E.2.1 hCl (hTys E) s) (h : hNs s) : hRn E N f U := by
  subst hU
  exact ⟨⟨hP, hN⟩, va_K.moved hW2.alike hK, h.warm hW2⟩
/-- a call of a constructor by its class's name; of a private one of a nest mate; of a method -/
theorem J_callI {index n i cs' ss' : Nat} {y : MethodName} {b' : ByteArray} {z' : Zd} {as rest st0 : List Value} (d : decode b pc = .ok (.invokespecial index, 3)) (w1 : Cond.methodLink own index y ∈ hTB) (w2 : Cond.initialized y.cls ∈ hTB) (w3 : Cond.code y b' z'.1 z'.2.1 ∈ hTB) (w4 : Cond.instanceMethod y ∈ hTB) (hy1 : y.name = "<init>") (hz' : z'.2.1 = none) (w5 : y.cls ≠ "java/lang/invoke/MethodHandle" ∧ y.cls ≠ "java/lang/invoke/VarHandle" ∧ (parseMethodDescriptor y.desc).map (fun d => d.parameters.length) = some n) (hn : as.length = n) (hst0 : st0 = as.reverse ++ .ref i :: rest) (hroom : (rest.map fun v => v.category).sum ≤ 8) (hfr : z'.2.2.2.1 + 1 ≤ z.2.2.2.1) (hlo : 8 + (z'.1 + 11) + z'.2.2.2.2.1 ≤ z.2.2.2.2.1) (hcs : cs + z'.2.2.1.1 = cs') (hss : ss + z'.2.2.1.2 = ss') (hcm : cs' ≤ z.2.2.1.1) (hsm : ss' ≤ z.2.2.1.2)
    (sp : Kp E y b' z' (.ref i :: as) N f (hGj E C own b z P cs' ss' (pc + 3) lv rest)) : J E C own b z P cs ss N f pc lv st0 := by
  subst hcs
  subst hss
  subst hst0
  obtain ⟨p, l, e, s, m, args, below, meth, c, Q⟩ := C
  intro K H locs ls hP hN hS hl
  obtain ⟨hx, hb, hr, hlk, hml, hown, hts, hK, hNs1, hAm, hQ⟩ := id K
  have hM := sp l
  rw [hz'] at hM w3
  have hrun := va_runI (e := e) (below := below) (meth := meth) (locs := locs) (g := F0 m pc ls (as.reverse ++ .ref i :: rest)) (As := as) (rest := rest) (R := zRoom z) (cells := cs) (slots := ss) ⟨hx, hb, hml, hown, hts⟩ hM (cwI n hts (hGoodC w3 (fun w h => h)) rfl rfl rfl (hts _ w2) (hts _ w1) (hts _ w4) hy1 w5 ⟨hfr, hlo⟩) ⟨hRn_blind, fun U hU hW2 => ⟨rfl, hRn_at hU hW2 hP hN hK hNs1⟩⟩ rfl hn hl.1 rfl (lv_room hroom) d ⟨hcm, hsm⟩
  intro T hT X
  obtain ⟨v, st₀, t, T', L, h0, X', hL, e1, e2, ⟨v', N', f', hv, hPm, hPt, hNt, hFr⟩, stp⟩ := hrun T hT X
  cases hv
  obtain ⟨-, -, k3⟩ := vx_keep h0 e1 hS (fun _ _ h => h) (fun _ h => h) hL hFr
  obtain ⟨t2, a1, b1⟩ := hPm K T'.heap (locs ++ L) ls (by rw [e1]; exact hPt) (by rw [e1]; exact hNt) k3 hl T' rfl X'
  exact ⟨t2, stp t2 a1, b1⟩
theorem J_callIN {index n i cs' ss' : Nat} {y : MethodName} {b' : ByteArray} {z' : Zd} {as rest st0 : List Value} (d : decode b pc = .ok (.invokespecial index, 3)) (w1 : ∀ U, hNs U → va_Nw (.methodLinkNest own index y RX8) U) (w2 : Cond.initialized y.cls ∈ hTB) (w3 : Cond.code y b' z'.1 z'.2.1 ∈ hTB) (w4 : Cond.instanceMethod y ∈ hTB) (hy1 : y.name = "<init>") (hz' : z'.2.1 = none) (w5 : y.cls ≠ "java/lang/invoke/MethodHandle" ∧ y.cls ≠ "java/lang/invoke/VarHandle" ∧ (parseMethodDescriptor y.desc).map (fun d => d.parameters.length) = some n) (hn : as.length = n) (hst0 : st0 = as.reverse ++ .ref i :: rest) (hroom : (rest.map fun v => v.category).sum ≤ 8) (hfr : z'.2.2.2.1 + 1 ≤ z.2.2.2.1) (hlo : 8 + (z'.1 + 11) + z'.2.2.2.2.1 ≤ z.2.2.2.2.1) (hcs : cs + z'.2.2.1.1 = cs') (hss : ss + z'.2.2.1.2 = ss') (hcm : cs' ≤ z.2.2.1.1) (hsm : ss' ≤ z.2.2.1.2)
    (sp : Kp E y b' z' (.ref i :: as) N f (hGj E C own b z P cs' ss' (pc + 3) lv rest)) : J E C own b z P cs ss N f pc lv st0 := by
  subst hcs
  subst hss
  subst hst0
  obtain ⟨p, l, e, s, m, args, below, meth, c, Q⟩ := C
  intro K H locs ls hP hN hS hl
  obtain ⟨hx, hb, hr, hlk, hml, hown, hts, hK, hNs1, hAm, hQ⟩ := id K
  have hM := sp l
  rw [hz'] at hM w3
  have hrun := va_runIN (e := e) (below := below) (meth := meth) (locs := locs) (g := F0 m pc ls (as.reverse ++ .ref i :: rest)) (As := as) (rest := rest) (R := zRoom z) (cells := cs) (slots := ss) ⟨hx, hb, hml, hown, hts⟩ hM ⟨va_cnB n hts (hGoodC w3 (fun w h => h)) rfl rfl rfl (w1 s hNs1) (hts _ w2) w5 ⟨hfr, hlo⟩, hy1, hts _ w4⟩ ⟨hRn_blind, fun U hU hW2 => ⟨rfl, hRn_at hU hW2 hP hN hK hNs1⟩⟩ rfl hn hl.1 rfl (lv_room hroom) d ⟨hcm, hsm⟩
  intro T hT X
  obtain ⟨v, st₀, t, T', L, h0, X', hL, e1, e2, ⟨v', N', f', hv, hPm, hPt, hNt, hFr⟩, stp⟩ := hrun T hT X
  cases hv
  obtain ⟨-, -, k3⟩ := vx_keep h0 e1 hS (fun _ _ h => h) (fun _ h => h) hL hFr
  obtain ⟨t2, a1, b1⟩ := hPm K T'.heap (locs ++ L) ls (by rw [e1]; exact hPt) (by rw [e1]; exact hNt) k3 hl T' rfl X'
  exact ⟨t2, stp t2 a1, b1⟩
theorem J_callV {index n i ci cs' ss' : Nat} {y : MethodName} {b' : ByteArray} {z' : Zd} {as rest st0 fs : List Value} {T : u_T} {n9 : Nat} (d : decode b pc = .ok (.invokevirtual index, 3)) (lk : hLV own index y b' z' n) (hi : i < N) (hf : f i = .inr (ci, fs)) (hci : hCl[ci]? = some (y.cls, T, n9)) (hn : as.length = n) (hst0 : st0 = as.reverse ++ .ref (E.1 + i) :: rest) (hroom : (rest.map fun v => v.category).sum ≤ 8) (hfr : z'.2.2.2.1 + 1 ≤ z.2.2.2.1) (hlo : 8 + (z'.1 + 11) + z'.2.2.2.2.1 ≤ z.2.2.2.2.1) (hcs : cs + z'.2.2.1.1 = cs') (hss : ss + z'.2.2.1.2 = ss') (hcm : cs' ≤ z.2.2.1.1) (hsm : ss' ≤ z.2.2.1.2)
    (sp : Kp E y b' z' (.ref (E.1 + i) :: as) N f (hGj E C own b z P cs' ss' (pc + 3) lv rest)) : J E C own b z P cs ss N f pc lv st0 := by
  subst hcs
  subst hss
  subst hst0
  obtain ⟨p, l, e, s, m, args, below, meth, c, Q⟩ := C
  intro K H locs ls hP hN hS hl
  obtain ⟨hx, hb, hr, hlk, hml, hown, hts, hK, hNs1, hAm, hQ⟩ := id K
  obtain ⟨⟨w1, w2, w3, w4, w5⟩, w6, w7⟩ := lk
  have hM := sp l
  have hrun := va_runV (e := e) (below := below) (meth := meth) (locs := locs) (g := F0 m pc ls (as.reverse ++ .ref (E.1 + i) :: rest)) (As := as) (rest := rest) (R := zRoom z) (cells := cs) (slots := ss) ⟨hx, hb, hml, hown, hts⟩ hM (cwV (C := y.cls) n hts (hGood (fun w hw => by
      rcases List.mem_append.mp hw with h | h
      · rcases List.mem_cons.mp h with rfl | h
        · exact w1
        · rcases List.mem_cons.mp h with rfl | h
          · exact w6
          · rcases List.mem_cons.mp h with rfl | h
            · exact w7
            · rcases List.mem_cons.mp h with rfl | h
              · exact w2
              · cases h
      · rcases List.mem_cons.mp h with rfl | h
        · exact w3
        · exact h)) rfl rfl rfl ⟨rfl, w5⟩ ⟨hfr, hlo⟩) ⟨hRn_blind, va_recv hK hP hci (hV_at2 hi hf), fun U hU hW2 => ⟨rfl, hRn_at hU hW2 hP hN hK hNs1⟩⟩ rfl hn hl.1 rfl (lv_room hroom) d ⟨hcm, hsm⟩
  intro T hT X
  obtain ⟨v, st₀, t, T', L, h0, X', hL, e1, e2, ⟨v', N', f', hv, hPm, hPt, hNt, hFr⟩, stp⟩ := hrun T hT X
  cases hv
  obtain ⟨-, -, k3⟩ := vx_keep h0 e1 hS (fun _ _ h => h) (fun _ h => h) hL hFr
  obtain ⟨t2, a1, b1⟩ := hPm K T'.heap (locs ++ L) ls (by rw [e1]; exact hPt) (by rw [e1]; exact hNt) k3 hl T' rfl X'
  exact ⟨t2, stp t2 a1, b1⟩
/-- a contract out of a walk -/
theorem Kp_of {y : MethodName} {as : List Value} (hy : plainName y.cls = true) (hyc : y.cls = own) (hlen : (lg_sl as).length ≤ z.1)
    (g : ∀ C : Cx, hNm C = y.name → J E C own b z P 0 0 N f 0 (lv_args 0 as) []) : Kp E y b z as N f P := by
  intro l
  refine Met.ofW (cc := b) (maxL := z.1) (ret := z.2.1) (ws' := hTB) hy rfl ?_
  intro p e s m args below meth c s₁ B hml hv
  obtain ⟨rfl, ⟨hP, hN⟩, hK, hn⟩ := hv
  have hts := atoms_spec (ws := Cond.code y b z.1 z.2.1 :: hTB) B.pre
  have hown : s.vm.findClass own = some m.cls := hyc ▸ findClass_of_methodNamed B.named
  have hin : meth.name = y.name := (name_of_methodNamed B.named B.method).1
  have h9 := g (p, l, e, s, m, as.toArray, below, meth, c, MQ below (hQn E P) as.toArray s z.2.2.1.1 z.2.2.1.2 (hA0 E)) hin
  rw [lg_entry_eq]
  exact h9 ⟨B.exec, B.bytes, B.returns, B.notSynchronized, hml, hown, fun w hw => hts w (List.mem_cons_of_mem _ hw), hK, hn, fun q hq => Nat.le_trans (by rw [hN]; exact Nat.le_add_right _ _) hq, fun t ht => ht⟩ s.heap [] _ hP hN va_S.rf (lv_entry as hlen)
/-- a reference laid into an array -/
theorem J_aast {i n a v t0 ci : Nat} {x : Int32} {r : vw_C} {vs : List Value} {g9 : Nat → Option Nat} (d : decode b pc = .ok (.aastore, 1)) (hi : i < N) (hf : f i = .inl (E.2.2.1 t0, n, .inr (.inr (.inr (.inr g9))))) (ht : (hTys E)[t0]? = some (E.2.2.1 t0, .object r.1)) (hv : v < N) (hfv : f v = .inr (ci, vs)) (hc : hCl[ci]? = some r) (hx0 : x = nI a) (ha : a < n) (hn : n < 2 ^ 31)
    (g : J E C own b z P cs ss N (va_up f i (.inl (E.2.2.1 t0, n, .inr (.inr (.inr (.inr (va_up g9 a (some (E.1 + v)))))))) ) (pc + 1) lv st) : J E C own b z P cs ss N f pc lv (.ref (E.1 + v) :: .int x :: .ref (E.1 + i) :: st) := by
  subst hx0
  obtain ⟨p, l, e, s, m, args, below, meth, c, Q⟩ := C
  intro K H locs ls hP hN hS hl
  obtain ⟨hx, hb, hr, hlk, hml, hown, hts, hK, hNs1, hAm, hQ⟩ := id K
  have hD := hV_D E N f
  obtain ⟨r', hr', cellV, g1, g2, g3, -⟩ := hP v _ (hV_at2 hv hfv)
  have hcls := (hK.1 ci r hc).2
  obtain ⟨kA, comp, k1, k2, k3, -⟩ := (hK.2 t0 _ ht).2
  have hcomp : comp = E.2.1.1 ci := Option.some.inj (k3.symm.trans hcls.1)
  have hcl : (nI a).toNatClampNeg = a := nI_clamp (Nat.lt_trans ha hn)
  subst hcomp
  obtain ⟨kC, hkC, -⟩ := hcls.2
  refine W.aast hx hb (hP i _ (hV_at2 hi hf)) (fun q h => by cases h) (fun h => by cases h) k1 k2 rfl hkC ⟨nI_pos (Nat.lt_trans ha hn), by show _ < (arrV _ _ _).slots.size; rw [arrV_size, hcl]; exact ha⟩ g1 (fun q h => by rw [g3] at h; cases h) (by rw [g2]; exact hkC) (by rw [g2]; exact va_assign hcls) rfl rfl d fun H1 e1 z1 oq => ?_
  have hw : va_at E.2.1 hCl (E.1 + i, .inl (E.2.2.1 t0, n, .inr (.inr (.inr (.inr (va_up g9 a (some (E.1 + v)))))))) H1 := by
    show H1[E.1 + i]? = some (vp_cell _ _)
    rw [e1, hcl, vp_cell_q, vp_cell_q, arrV_store]
    congr 2
    funext q
    by_cases hq : q = a
    · subst hq
      simp [updV, va_up, va_rf]
    · simp [updV, va_up, hq]
  have hP2 := hP.set hD (hV_at2 hi hf) hw oq
  rw [hV_set hi] at hP2
  exact g K H1 _ ls hP2 (by rw [z1]; exact hN) (hS.put z1 oq (hD.2 i _ (hV_at2 hi hf))) hl
end JCORE
