/-! ===== THE JUDGEMENT G: a method's body over the world hW E M, in memory M ===== -/
section HRULES
abbrev Res : Type := Option Value ⊕ String
/-- maxLocals, the return type, cells and slots that it may make, frames, locals, its handlers -/
abbrev Zd : Type := Nat × Option FieldType × (Nat × Nat) × Nat × Nat × List (Nat × Nat × Nat × Nat)
def zRoom (z : Zd) : Room := { frames := z.2.2.2.1, cells := z.2.2.1.1, slots := z.2.2.1.2, locals := z.2.2.2.2.1 }
def hA (E : Ed) : Nat → Prop := fun q => E.1 ≤ q + 1
/-- private methods of AbstractStringBuilder, called of a StringBuilder -/
def hPv : List MethodName := [yJ5_ensureCapacityInternal_d00df, yJ5_newCapacity_0f7a4, yJ5_putStringAt_47b60, yJ5_inflateIfNeededFor_a7421]
def hPs : List Cond := hPv.map (fun y => Cond.selects RJ4 y y)
def hTB : List Cond := (hPs ++ lw_tbl).filter goodWord
def hWd (y : MethodName) (b : ByteArray) (z : Zd) : List Cond := (match z.2.2.2.2.2 with
  | [] => Cond.code y b z.1 z.2.1
  | hh => Cond.codeWith y b z.1 z.2.1 hh) :: hTB
theorem hGoodTB : ∀ w ∈ hTB, goodWord w = true := fun w h => (List.mem_filter.mp h).2
theorem hGood {ws : List Cond} (h : ∀ w ∈ ws, w ∈ hTB) : GoodIn hTB ws := fun w hw => ⟨h w hw, good_of_word (hGoodTB w (h w hw))⟩
theorem hGoodC {w : Cond} {ws : List Cond} (hw : w ∈ hTB) (h : ∀ w ∈ ws, w ∈ hTB) : GoodIn hTB (w :: ws) := hGood (fun v hv => (List.mem_cons.mp hv).elim (fun q => q ▸ hw) (h v))
/-- what else of the launch a throw needs, kept by every call and every write -/
def hF (E : Ed) (U : State) (H : Heap) : Prop := hFx (hA E) E.2.2.2 U H
def hRep (E : Ed) (M : Mm) (U : State) : Prop := va_P E.2.1 hCl (hW E M) U.heap ∧ va_K E.2.1 hCl (hTys E) U ∧ hF E U U.heap
def hQc (E : Ed) (P : Res → Mm → Prop) : Array Value → State → Outcome → State → Prop := fun _ st o t => ∃ (v : Option Value) (M' : Mm), o = .returned v ∧ P (.inl v) M' ∧ va_P E.2.1 hCl (hW E M') t.heap ∧ va_F (hA E) st t
def hXc (E : Ed) (P : Res → Mm → Prop) : String → State → State → Prop := fun X st t => ∃ M' : Mm, P (.inr X) M' ∧ va_P E.2.1 hCl (hW E M') t.heap ∧ va_F (hA E) st t
/-- nothing is thrown -/
def hN (P : Res → Mm → Prop) : Prop := ∀ X M, ¬ P (.inr X) M
/-- THE CONTRACT: called with 'as' in memory M, it comes back, with P -/
def Sp (E : Ed) (y : MethodName) (b : ByteArray) (z : Zd) (as : List Value) (M : Mm) (P : Res → Mm → Prop) : Prop :=
  hN P → ∀ l : Launch, l.stackTraces = false → vx_Met l y (hWd y b z) (zRoom z) (va_Pc as (hRep E M)) (hQc E P) (hXc E P) z.2.2.1.1 z.2.2.1.2 (hA E)
abbrev Cx : Type := Program × Launch × Env × State × MethodId × Array Value × List Frame × Method × Code × (State → Prop)
def G (E : Ed) (C : Cx) (own : String) (b : ByteArray) (z : Zd) (P : Res → Mm → Prop) (cs ss : Nat) (M : Mm) (pc : Nat) (lv : List (Nat × Value)) (st : List Value) : Prop :=
  match C with
  | (p, l, e, s, m, args, below, meth, c, Q) =>
    (p.tables.exec = Jvm.exec ∧ c.code = b ∧ meth.sig.returnType = z.2.1 ∧ meth.locks = false ∧ c.maxLocals = z.1 ∧ s.vm.findClass own = some m.cls ∧ (∀ w ∈ hTB, w.before args s = true) ∧
      c.exceptionTable.toList = tableOf z.2.2.2.2.2 ∧ va_K E.2.1 hCl (hTys E) s ∧ hF E s s.heap ∧ l.stackTraces = false ∧ ((∀ q, s.heap.size ≤ q → hA E q) ∧ hN P) ∧ (∀ t, vx_MQ below (hQc E P) (hXc E P) args s z.2.2.1.1 z.2.2.1.2 (hA E) t → Q t)) →
    ∀ (H : Heap) (locs : List Loc) (ls : Array Slot), va_P E.2.1 hCl (hW E M) H → va_S (hA E) s.heap H locs → lv_has ls z.1 lv → W p l e (zRoom z) s m args below meth c H locs cs ss Q (F0 m pc ls st)
def lvf : List (Nat × Value) → Nat → Option Value
  | [], _ => none
  | (i, v) :: t, k => if i = k then some v else lvf t k
theorem lvf_mem {v : Value} {k : Nat} : ∀ {lv : List (Nat × Value)}, lvf lv k = some v → (k, v) ∈ lv
  | [], h => by cases h
  | (i, w) :: t, h => by
    unfold lvf at h
    split at h
    · rename_i q
      subst q
      cases h
      exact List.mem_cons_self
    · exact List.mem_cons_of_mem _ (lvf_mem h)
theorem lvf_at {ls : Array Slot} {n k : Nat} {lv : List (Nat × Value)} {v : Value} (h : lv_has ls n lv) (hv : lvf lv k = some v) : ls[k]? = some (.val v) := h.2.2 (k, v) (lvf_mem hv)
theorem lvf_ix {lv : List (Nat × Value)} {k : Nat} {v : Value} (hv : lvf lv k = some v) : ∃ i : Nat, lv[i]? = some (k, v) := List.getElem?_of_mem (lvf_mem hv)
def lvAll (lv : List (Nat × Value)) : List (Nat × Value) → Prop
  | [] => True
  | (i, v) :: t => lvf lv i = some v ∧ lvAll lv t
theorem lvAll_has {ls : Array Slot} {n : Nat} {lv : List (Nat × Value)} (h : lv_has ls n lv) : ∀ {lv' : List (Nat × Value)}, lvAll lv lv' → lv_has ls n lv'
  | [], _ => ⟨h.1, h.2.1, fun _ q => by cases q⟩
  | (i, v) :: t, ⟨h1, h2⟩ => ⟨h.1, h.2.1, fun q hq => (List.mem_cons.mp hq).elim (fun e => by rw [e]; exact lvf_at h h1) ((lvAll_has h h2).2.2 q)⟩
/-- a local stored -/
def lvS (lv : List (Nat × Value)) (i : Nat) (v : Value) : List (Nat × Value) := (i, v) :: lv.filter (fun q => !(q.1 == i) && !(q.1 + 1 == i && q.2.category == 2))
theorem hW_at2 {E : Ed} {M : Mm} {k j p : Nat} {e : va_E} (h : hOk k j p) (he : hC E M k j p = e) : (hW E M)[hOff k j p]? = some (ad E k j p, e) := he ▸ hW_at h
variable {E : Ed} {C : Cx} {own : String} {b : ByteArray} {z : Zd} {P : Res → Mm → Prop} {cs ss : Nat} {M : Mm} {pc : Nat} {lv : List (Nat × Value)} {st : List Value}
theorem G_lv {lv' : List (Nat × Value)} (h : lvAll lv lv') (g : G E C own b z P cs ss M pc lv' st) : G E C own b z P cs ss M pc lv st := by
  obtain ⟨p, l, e, s, m, args, below, meth, c, Q⟩ := C
  intro K H locs ls hP hS hl
  exact g K H locs ls hP hS (lvAll_has hl h)
theorem G_st {st' : List Value} {lv' : List (Nat × Value)} {M' : Mm} (h : st = st') (h2 : lv = lv') (h3 : M = M') (g : G E C own b z P cs ss M' pc lv' st') : G E C own b z P cs ss M pc lv st := by
  subst h; subst h2; subst h3; exact g
theorem G_iload_n {k : Fin 4} {x : Int32} (d : decode b pc = .ok (.iload_n k, 1)) (hv : lvf lv k = some (.int x)) (g : G E C own b z P cs ss M (pc + 1) lv (.int x :: st)) : G E C own b z P cs ss M pc lv st := by
  obtain ⟨p, l, e, s, m, args, below, meth, c, Q⟩ := C
  intro K H locs ls hP hS hl
  exact lv_iload_n K.1 K.2.1 d rfl (lvf_at hl hv) (g K H locs ls hP hS hl)
theorem G_iload {k : Nat} {x : Int32} (d : decode b pc = .ok (.iload k, 2)) (hv : lvf lv k = some (.int x)) (g : G E C own b z P cs ss M (pc + 2) lv (.int x :: st)) : G E C own b z P cs ss M pc lv st := by
  obtain ⟨p, l, e, s, m, args, below, meth, c, Q⟩ := C
  intro K H locs ls hP hS hl
  exact lv_iload K.1 K.2.1 d (lvf_at hl hv) (g K H locs ls hP hS hl)
theorem G_aload_n {k : Fin 4} {x : Nat} (d : decode b pc = .ok (.aload_n k, 1)) (hv : lvf lv k = some (.ref x)) (g : G E C own b z P cs ss M (pc + 1) lv (.ref x :: st)) : G E C own b z P cs ss M pc lv st := by
  obtain ⟨p, l, e, s, m, args, below, meth, c, Q⟩ := C
  intro K H locs ls hP hS hl
  exact lv_aload_n K.1 K.2.1 d rfl (lvf_at hl hv) (g K H locs ls hP hS hl)
theorem G_aload {k : Nat} {x : Nat} (d : decode b pc = .ok (.aload k, 2)) (hv : lvf lv k = some (.ref x)) (g : G E C own b z P cs ss M (pc + 2) lv (.ref x :: st)) : G E C own b z P cs ss M pc lv st := by
  obtain ⟨p, l, e, s, m, args, below, meth, c, Q⟩ := C
  intro K H locs ls hP hS hl
  exact lv_aload K.1 K.2.1 d (lvf_at hl hv) (g K H locs ls hP hS hl)
theorem G_fload_n {k : Fin 4} {x : UInt32} (d : decode b pc = .ok (.fload_n k, 1)) (hv : lvf lv k = some (.float x)) (g : G E C own b z P cs ss M (pc + 1) lv (.float x :: st)) : G E C own b z P cs ss M pc lv st := by
  obtain ⟨p, l, e, s, m, args, below, meth, c, Q⟩ := C
  intro K H locs ls hP hS hl
  exact lv_fload_n K.1 K.2.1 d rfl (lvf_at hl hv) (g K H locs ls hP hS hl)
theorem G_fload {k : Nat} {x : UInt32} (d : decode b pc = .ok (.fload k, 2)) (hv : lvf lv k = some (.float x)) (g : G E C own b z P cs ss M (pc + 2) lv (.float x :: st)) : G E C own b z P cs ss M pc lv st := by
  obtain ⟨p, l, e, s, m, args, below, meth, c, Q⟩ := C
  intro K H locs ls hP hS hl
  exact lv_fload K.1 K.2.1 d (lvf_at hl hv) (g K H locs ls hP hS hl)
theorem G_dload_n {k : Fin 4} {x : UInt64} (d : decode b pc = .ok (.dload_n k, 1)) (hv : lvf lv k = some (.double x)) (g : G E C own b z P cs ss M (pc + 1) lv (.double x :: st)) : G E C own b z P cs ss M pc lv st := by
  obtain ⟨p, l, e, s, m, args, below, meth, c, Q⟩ := C
  intro K H locs ls hP hS hl
  exact lv_dload_n K.1 K.2.1 d rfl (lvf_at hl hv) (g K H locs ls hP hS hl)
theorem G_dload {k : Nat} {x : UInt64} (d : decode b pc = .ok (.dload k, 2)) (hv : lvf lv k = some (.double x)) (g : G E C own b z P cs ss M (pc + 2) lv (.double x :: st)) : G E C own b z P cs ss M pc lv st := by
  obtain ⟨p, l, e, s, m, args, below, meth, c, Q⟩ := C
  intro K H locs ls hP hS hl
  exact lv_dload K.1 K.2.1 d (lvf_at hl hv) (g K H locs ls hP hS hl)
theorem G_istore_n {k : Fin 4} {x : Int32} (d : decode b pc = .ok (.istore_n k, 1)) (hn : (k : Nat) < z.1) (g : G E C own b z P cs ss M (pc + 1) (lvS lv k (.int x)) st) : G E C own b z P cs ss M pc lv (.int x :: st) := by
  obtain ⟨p, l, e, s, m, args, below, meth, c, Q⟩ := C
  intro K H locs ls hP hS hl
  exact lv_istore_n K.1 K.2.1 d rfl hl hn rfl (fun ls hl => g K H locs ls hP hS hl)
theorem G_istore {k : Nat} {x : Int32} (d : decode b pc = .ok (.istore k, 2)) (hn : k < z.1) (g : G E C own b z P cs ss M (pc + 2) (lvS lv k (.int x)) st) : G E C own b z P cs ss M pc lv (.int x :: st) := by
  obtain ⟨p, l, e, s, m, args, below, meth, c, Q⟩ := C
  intro K H locs ls hP hS hl
  exact lv_istore K.1 K.2.1 d hl hn rfl (fun ls hl => g K H locs ls hP hS hl)
theorem G_astore_n {k : Fin 4} {x : Nat} (d : decode b pc = .ok (.astore_n k, 1)) (hn : (k : Nat) < z.1) (g : G E C own b z P cs ss M (pc + 1) (lvS lv k (.ref x)) st) : G E C own b z P cs ss M pc lv (.ref x :: st) := by
  obtain ⟨p, l, e, s, m, args, below, meth, c, Q⟩ := C
  intro K H locs ls hP hS hl
  exact lv_astore_n K.1 K.2.1 d rfl hl hn rfl (fun ls hl => g K H locs ls hP hS hl)
theorem G_astore {k : Nat} {x : Nat} (d : decode b pc = .ok (.astore k, 2)) (hn : k < z.1) (g : G E C own b z P cs ss M (pc + 2) (lvS lv k (.ref x)) st) : G E C own b z P cs ss M pc lv (.ref x :: st) := by
  obtain ⟨p, l, e, s, m, args, below, meth, c, Q⟩ := C
  intro K H locs ls hP hS hl
  exact lv_astore K.1 K.2.1 d hl hn rfl (fun ls hl => g K H locs ls hP hS hl)
theorem G_fstore_n {k : Fin 4} {x : UInt32} (d : decode b pc = .ok (.fstore_n k, 1)) (hn : (k : Nat) < z.1) (g : G E C own b z P cs ss M (pc + 1) (lvS lv k (.float x)) st) : G E C own b z P cs ss M pc lv (.float x :: st) := by
  obtain ⟨p, l, e, s, m, args, below, meth, c, Q⟩ := C
  intro K H locs ls hP hS hl
  exact lv_fstore_n K.1 K.2.1 d rfl hl hn rfl (fun ls hl => g K H locs ls hP hS hl)
theorem G_fstore {k : Nat} {x : UInt32} (d : decode b pc = .ok (.fstore k, 2)) (hn : k < z.1) (g : G E C own b z P cs ss M (pc + 2) (lvS lv k (.float x)) st) : G E C own b z P cs ss M pc lv (.float x :: st) := by
  obtain ⟨p, l, e, s, m, args, below, meth, c, Q⟩ := C
  intro K H locs ls hP hS hl
  exact lv_fstore K.1 K.2.1 d hl hn rfl (fun ls hl => g K H locs ls hP hS hl)
theorem G_iinc {k : Nat} {n : Int} {x v : Int32} (d : decode b pc = .ok (.iinc k n, 3)) (hv : lvf lv k = some (.int x)) (hn : k < z.1) (he : Int32.ofInt n = v) (g : G E C own b z P cs ss M (pc + 3) (lvS lv k (.int (x + v))) st) : G E C own b z P cs ss M pc lv st := by
  obtain ⟨p, l, e, s, m, args, below, meth, c, Q⟩ := C
  intro K H locs ls hP hS hl
  obtain ⟨i, hi⟩ := lvf_ix hv
  exact lv_iinc K.1 K.2.1 d hl hi (by rw [he]) hn rfl (fun ls hl => g K H locs ls hP hS hl)
theorem G_iconst {n : Int} {v : Int32} (d : decode b pc = .ok (.iconst n, 1)) (hv : Int32.ofInt n = v) (g : G E C own b z P cs ss M (pc + 1) lv (.int v :: st)) : G E C own b z P cs ss M pc lv st := by
  obtain ⟨p, l, e, s, m, args, below, meth, c, Q⟩ := C
  intro K H locs ls hP hS hl
  exact lv_iconst K.1 K.2.1 d hv (g K H locs ls hP hS hl)
theorem G_bipush {n : Int} {v : Int32} (d : decode b pc = .ok (.bipush n, 2)) (hv : (Int8.ofInt n).toInt32 = v) (g : G E C own b z P cs ss M (pc + 2) lv (.int v :: st)) : G E C own b z P cs ss M pc lv st := by
  obtain ⟨p, l, e, s, m, args, below, meth, c, Q⟩ := C
  intro K H locs ls hP hS hl
  exact lv_bipush K.1 K.2.1 d hv (g K H locs ls hP hS hl)
theorem G_sipush {n : Int} {v : Int32} (d : decode b pc = .ok (.sipush n, 3)) (hv : (Int16.ofInt n).toInt32 = v) (g : G E C own b z P cs ss M (pc + 3) lv (.int v :: st)) : G E C own b z P cs ss M pc lv st := by
  obtain ⟨p, l, e, s, m, args, below, meth, c, Q⟩ := C
  intro K H locs ls hP hS hl
  exact lv_sipush K.1 K.2.1 d hv (g K H locs ls hP hS hl)
theorem G_iadd {x y : Int32} (d : decode b pc = .ok (.iadd, 1)) (g : G E C own b z P cs ss M (pc + 1) lv (.int (x + y) :: st)) : G E C own b z P cs ss M pc lv (.int y :: .int x :: st) := by
  obtain ⟨p, l, e, s, m, args, below, meth, c, Q⟩ := C
  intro K H locs ls hP hS hl
  exact lv_iadd K.1 K.2.1 d (g K H locs ls hP hS hl)
theorem G_isub {x y : Int32} (d : decode b pc = .ok (.isub, 1)) (g : G E C own b z P cs ss M (pc + 1) lv (.int (x - y) :: st)) : G E C own b z P cs ss M pc lv (.int y :: .int x :: st) := by
  obtain ⟨p, l, e, s, m, args, below, meth, c, Q⟩ := C
  intro K H locs ls hP hS hl
  exact lv_isub K.1 K.2.1 d (g K H locs ls hP hS hl)
theorem G_imul {x y : Int32} (d : decode b pc = .ok (.imul, 1)) (g : G E C own b z P cs ss M (pc + 1) lv (.int (x * y) :: st)) : G E C own b z P cs ss M pc lv (.int y :: .int x :: st) := by
  obtain ⟨p, l, e, s, m, args, below, meth, c, Q⟩ := C
  intro K H locs ls hP hS hl
  exact lv_imul K.1 K.2.1 d (g K H locs ls hP hS hl)
theorem G_iand {x y : Int32} (d : decode b pc = .ok (.iand, 1)) (g : G E C own b z P cs ss M (pc + 1) lv (.int (x &&& y) :: st)) : G E C own b z P cs ss M pc lv (.int y :: .int x :: st) := by
  obtain ⟨p, l, e, s, m, args, below, meth, c, Q⟩ := C
  intro K H locs ls hP hS hl
  exact lv_iand K.1 K.2.1 d (g K H locs ls hP hS hl)
theorem G_ior {x y : Int32} (d : decode b pc = .ok (.ior, 1)) (g : G E C own b z P cs ss M (pc + 1) lv (.int (x ||| y) :: st)) : G E C own b z P cs ss M pc lv (.int y :: .int x :: st) := by
  obtain ⟨p, l, e, s, m, args, below, meth, c, Q⟩ := C
  intro K H locs ls hP hS hl
  exact lv_ior K.1 K.2.1 d (g K H locs ls hP hS hl)
theorem G_ishl {x y : Int32} (d : decode b pc = .ok (.ishl, 1)) (g : G E C own b z P cs ss M (pc + 1) lv (.int (x <<< (y &&& 31)) :: st)) : G E C own b z P cs ss M pc lv (.int y :: .int x :: st) := by
  obtain ⟨p, l, e, s, m, args, below, meth, c, Q⟩ := C
  intro K H locs ls hP hS hl
  exact lv_ishl K.1 K.2.1 d (g K H locs ls hP hS hl)
theorem G_ishr {x y : Int32} (d : decode b pc = .ok (.ishr, 1)) (g : G E C own b z P cs ss M (pc + 1) lv (.int (x >>> (y &&& 31)) :: st)) : G E C own b z P cs ss M pc lv (.int y :: .int x :: st) := by
  obtain ⟨p, l, e, s, m, args, below, meth, c, Q⟩ := C
  intro K H locs ls hP hS hl
  exact lv_ishr K.1 K.2.1 d (g K H locs ls hP hS hl)
theorem G_idiv {x y : Int32} (d : decode b pc = .ok (.idiv, 1)) (hne : ¬ y = 0) (g : G E C own b z P cs ss M (pc + 1) lv (.int (x / y) :: st)) : G E C own b z P cs ss M pc lv (.int y :: .int x :: st) := by
  obtain ⟨p, l, e, s, m, args, below, meth, c, Q⟩ := C
  intro K H locs ls hP hS hl
  exact lv_idiv K.1 K.2.1 d hne (g K H locs ls hP hS hl)
theorem G_irem {x y : Int32} (d : decode b pc = .ok (.irem, 1)) (hne : ¬ y = 0) (g : G E C own b z P cs ss M (pc + 1) lv (.int (x - x / y * y) :: st)) : G E C own b z P cs ss M pc lv (.int y :: .int x :: st) := by
  obtain ⟨p, l, e, s, m, args, below, meth, c, Q⟩ := C
  intro K H locs ls hP hS hl
  exact lv_irem K.1 K.2.1 d hne (g K H locs ls hP hS hl)
theorem G_ineg {x : Int32} (d : decode b pc = .ok (.ineg, 1)) (g : G E C own b z P cs ss M (pc + 1) lv (.int (-x) :: st)) : G E C own b z P cs ss M pc lv (.int x :: st) := by
  obtain ⟨p, l, e, s, m, args, below, meth, c, Q⟩ := C
  intro K H locs ls hP hS hl
  exact lv_ineg K.1 K.2.1 d (g K H locs ls hP hS hl)
theorem G_iushr {x y : Int32} (d : decode b pc = .ok (.iushr, 1)) (g : G E C own b z P cs ss M (pc + 1) lv (.int (x.toUInt32 >>> (y.toUInt32 &&& Int32.toUInt32 31)).toInt32 :: st)) : G E C own b z P cs ss M pc lv (.int y :: .int x :: st) := by
  obtain ⟨p, l, e, s, m, args, below, meth, c, Q⟩ := C
  intro K H locs ls hP hS hl
  exact lv_iushr K.1 K.2.1 d rfl (g K H locs ls hP hS hl)
theorem G_i2b {x : Int32} (d : decode b pc = .ok (.i2b, 1)) (g : G E C own b z P cs ss M (pc + 1) lv (.int x.toInt8.toInt32 :: st)) : G E C own b z P cs ss M pc lv (.int x :: st) := by
  obtain ⟨p, l, e, s, m, args, below, meth, c, Q⟩ := C
  intro K H locs ls hP hS hl
  exact lv_i2b K.1 K.2.1 d rfl (g K H locs ls hP hS hl)
theorem G_i2l {x : Int32} (d : decode b pc = .ok (.i2l, 1)) (g : G E C own b z P cs ss M (pc + 1) lv (.long x.toInt64 :: st)) : G E C own b z P cs ss M pc lv (.int x :: st) := by
  obtain ⟨p, l, e, s, m, args, below, meth, c, Q⟩ := C
  intro K H locs ls hP hS hl
  exact lv_i2l K.1 K.2.1 d rfl (g K H locs ls hP hS hl)
theorem G_i2f {x : Int32} (d : decode b pc = .ok (.i2f, 1)) (g : G E C own b z P cs ss M (pc + 1) lv (.float (FP.i2f x) :: st)) : G E C own b z P cs ss M pc lv (.int x :: st) := by
  obtain ⟨p, l, e, s, m, args, below, meth, c, Q⟩ := C
  intro K H locs ls hP hS hl
  exact lv_i2f K.1 K.2.1 d (g K H locs ls hP hS hl)
theorem G_i2d {x : Int32} (d : decode b pc = .ok (.i2d, 1)) (g : G E C own b z P cs ss M (pc + 1) lv (.double (FP.i2d x) :: st)) : G E C own b z P cs ss M pc lv (.int x :: st) := by
  obtain ⟨p, l, e, s, m, args, below, meth, c, Q⟩ := C
  intro K H locs ls hP hS hl
  exact lv_i2d K.1 K.2.1 d (g K H locs ls hP hS hl)
theorem G_pop {v : Value} (d : decode b pc = .ok (.pop, 1)) (hc : v.category = 1) (g : G E C own b z P cs ss M (pc + 1) lv st) : G E C own b z P cs ss M pc lv (v :: st) := by
  obtain ⟨p, l, e, s, m, args, below, meth, c, Q⟩ := C
  intro K H locs ls hP hS hl
  exact lv_pop K.1 K.2.1 d hc (g K H locs ls hP hS hl)
theorem G_dup {v : Value} (d : decode b pc = .ok (.dup, 1)) (hc : v.category = 1) (g : G E C own b z P cs ss M (pc + 1) lv (v :: v :: st)) : G E C own b z P cs ss M pc lv (v :: st) := by
  obtain ⟨p, l, e, s, m, args, below, meth, c, Q⟩ := C
  intro K H locs ls hP hS hl
  exact lv_dup K.1 K.2.1 d hc (g K H locs ls hP hS hl)
theorem G_goto {off : Int} {tgt : Nat} (d : decode b pc = .ok (.goto off, 3)) (ht : (pc : Int) + off = (tgt : Int)) (g : G E C own b z P cs ss M (tgt) lv st) : G E C own b z P cs ss M pc lv st := by
  obtain ⟨p, l, e, s, m, args, below, meth, c, Q⟩ := C
  intro K H locs ls hP hS hl
  exact lv_goto K.1 K.2.1 d ht (g K H locs ls hP hS hl)
theorem G_if_eq {x : Int32} {off : Int} {tgt : Nat} (d : decode b pc = .ok (.ifCond .eq off, 3)) (ht : (pc : Int) + off = (tgt : Int)) (g1 : x = 0 → G E C own b z P cs ss M tgt lv st) (g2 : ¬ (x = 0) → G E C own b z P cs ss M (pc + 3) lv st) : G E C own b z P cs ss M pc lv (.int x :: st) := by
  obtain ⟨p, l, e, s, m, args, below, meth, c, Q⟩ := C
  intro K H locs ls hP hS hl
  exact lv_if_eq K.1 K.2.1 d ht (fun q => g1 q K H locs ls hP hS hl) (fun q => g2 q K H locs ls hP hS hl)
theorem G_if_ne {x : Int32} {off : Int} {tgt : Nat} (d : decode b pc = .ok (.ifCond .ne off, 3)) (ht : (pc : Int) + off = (tgt : Int)) (g1 : ¬ x = 0 → G E C own b z P cs ss M tgt lv st) (g2 : x = 0 → G E C own b z P cs ss M (pc + 3) lv st) : G E C own b z P cs ss M pc lv (.int x :: st) := by
  obtain ⟨p, l, e, s, m, args, below, meth, c, Q⟩ := C
  intro K H locs ls hP hS hl
  exact lv_if_ne K.1 K.2.1 d ht (fun q => g1 q K H locs ls hP hS hl) (fun q => g2 q K H locs ls hP hS hl)
theorem G_if_lt {x : Int32} {off : Int} {tgt : Nat} (d : decode b pc = .ok (.ifCond .lt off, 3)) (ht : (pc : Int) + off = (tgt : Int)) (g1 : x < 0 → G E C own b z P cs ss M tgt lv st) (g2 : ¬ (x < 0) → G E C own b z P cs ss M (pc + 3) lv st) : G E C own b z P cs ss M pc lv (.int x :: st) := by
  obtain ⟨p, l, e, s, m, args, below, meth, c, Q⟩ := C
  intro K H locs ls hP hS hl
  exact lv_if_lt K.1 K.2.1 d ht (fun q => g1 q K H locs ls hP hS hl) (fun q => g2 q K H locs ls hP hS hl)
theorem G_if_ge {x : Int32} {off : Int} {tgt : Nat} (d : decode b pc = .ok (.ifCond .ge off, 3)) (ht : (pc : Int) + off = (tgt : Int)) (g1 : 0 ≤ x → G E C own b z P cs ss M tgt lv st) (g2 : ¬ (0 ≤ x) → G E C own b z P cs ss M (pc + 3) lv st) : G E C own b z P cs ss M pc lv (.int x :: st) := by
  obtain ⟨p, l, e, s, m, args, below, meth, c, Q⟩ := C
  intro K H locs ls hP hS hl
  exact lv_if_ge K.1 K.2.1 d ht (fun q => g1 q K H locs ls hP hS hl) (fun q => g2 q K H locs ls hP hS hl)
theorem G_if_gt {x : Int32} {off : Int} {tgt : Nat} (d : decode b pc = .ok (.ifCond .gt off, 3)) (ht : (pc : Int) + off = (tgt : Int)) (g1 : 0 < x → G E C own b z P cs ss M tgt lv st) (g2 : ¬ (0 < x) → G E C own b z P cs ss M (pc + 3) lv st) : G E C own b z P cs ss M pc lv (.int x :: st) := by
  obtain ⟨p, l, e, s, m, args, below, meth, c, Q⟩ := C
  intro K H locs ls hP hS hl
  exact lv_if_gt K.1 K.2.1 d ht (fun q => g1 q K H locs ls hP hS hl) (fun q => g2 q K H locs ls hP hS hl)
theorem G_if_le {x : Int32} {off : Int} {tgt : Nat} (d : decode b pc = .ok (.ifCond .le off, 3)) (ht : (pc : Int) + off = (tgt : Int)) (g1 : x ≤ 0 → G E C own b z P cs ss M tgt lv st) (g2 : ¬ (x ≤ 0) → G E C own b z P cs ss M (pc + 3) lv st) : G E C own b z P cs ss M pc lv (.int x :: st) := by
  obtain ⟨p, l, e, s, m, args, below, meth, c, Q⟩ := C
  intro K H locs ls hP hS hl
  exact lv_if_le K.1 K.2.1 d ht (fun q => g1 q K H locs ls hP hS hl) (fun q => g2 q K H locs ls hP hS hl)
theorem G_icmp_eq {x y : Int32} {off : Int} {tgt : Nat} (d : decode b pc = .ok (.if_icmp .eq off, 3)) (ht : (pc : Int) + off = (tgt : Int)) (g1 : x = y → G E C own b z P cs ss M tgt lv st) (g2 : ¬ (x = y) → G E C own b z P cs ss M (pc + 3) lv st) : G E C own b z P cs ss M pc lv (.int y :: .int x :: st) := by
  obtain ⟨p, l, e, s, m, args, below, meth, c, Q⟩ := C
  intro K H locs ls hP hS hl
  exact lv_icmp_eq K.1 K.2.1 d ht (fun q => g1 q K H locs ls hP hS hl) (fun q => g2 q K H locs ls hP hS hl)
theorem G_icmp_ne {x y : Int32} {off : Int} {tgt : Nat} (d : decode b pc = .ok (.if_icmp .ne off, 3)) (ht : (pc : Int) + off = (tgt : Int)) (g1 : ¬ x = y → G E C own b z P cs ss M tgt lv st) (g2 : x = y → G E C own b z P cs ss M (pc + 3) lv st) : G E C own b z P cs ss M pc lv (.int y :: .int x :: st) := by
  obtain ⟨p, l, e, s, m, args, below, meth, c, Q⟩ := C
  intro K H locs ls hP hS hl
  exact lv_icmp_ne K.1 K.2.1 d ht (fun q => g1 q K H locs ls hP hS hl) (fun q => g2 q K H locs ls hP hS hl)
theorem G_icmp_lt {x y : Int32} {off : Int} {tgt : Nat} (d : decode b pc = .ok (.if_icmp .lt off, 3)) (ht : (pc : Int) + off = (tgt : Int)) (g1 : x < y → G E C own b z P cs ss M tgt lv st) (g2 : ¬ (x < y) → G E C own b z P cs ss M (pc + 3) lv st) : G E C own b z P cs ss M pc lv (.int y :: .int x :: st) := by
  obtain ⟨p, l, e, s, m, args, below, meth, c, Q⟩ := C
  intro K H locs ls hP hS hl
  exact lv_icmp_lt K.1 K.2.1 d ht (fun q => g1 q K H locs ls hP hS hl) (fun q => g2 q K H locs ls hP hS hl)
theorem G_icmp_ge {x y : Int32} {off : Int} {tgt : Nat} (d : decode b pc = .ok (.if_icmp .ge off, 3)) (ht : (pc : Int) + off = (tgt : Int)) (g1 : y ≤ x → G E C own b z P cs ss M tgt lv st) (g2 : ¬ (y ≤ x) → G E C own b z P cs ss M (pc + 3) lv st) : G E C own b z P cs ss M pc lv (.int y :: .int x :: st) := by
  obtain ⟨p, l, e, s, m, args, below, meth, c, Q⟩ := C
  intro K H locs ls hP hS hl
  exact lv_icmp_ge K.1 K.2.1 d ht (fun q => g1 q K H locs ls hP hS hl) (fun q => g2 q K H locs ls hP hS hl)
theorem G_icmp_gt {x y : Int32} {off : Int} {tgt : Nat} (d : decode b pc = .ok (.if_icmp .gt off, 3)) (ht : (pc : Int) + off = (tgt : Int)) (g1 : y < x → G E C own b z P cs ss M tgt lv st) (g2 : ¬ (y < x) → G E C own b z P cs ss M (pc + 3) lv st) : G E C own b z P cs ss M pc lv (.int y :: .int x :: st) := by
  obtain ⟨p, l, e, s, m, args, below, meth, c, Q⟩ := C
  intro K H locs ls hP hS hl
  exact lv_icmp_gt K.1 K.2.1 d ht (fun q => g1 q K H locs ls hP hS hl) (fun q => g2 q K H locs ls hP hS hl)
theorem G_icmp_le {x y : Int32} {off : Int} {tgt : Nat} (d : decode b pc = .ok (.if_icmp .le off, 3)) (ht : (pc : Int) + off = (tgt : Int)) (g1 : x ≤ y → G E C own b z P cs ss M tgt lv st) (g2 : ¬ (x ≤ y) → G E C own b z P cs ss M (pc + 3) lv st) : G E C own b z P cs ss M pc lv (.int y :: .int x :: st) := by
  obtain ⟨p, l, e, s, m, args, below, meth, c, Q⟩ := C
  intro K H locs ls hP hS hl
  exact lv_icmp_le K.1 K.2.1 d ht (fun q => g1 q K H locs ls hP hS hl) (fun q => g2 q K H locs ls hP hS hl)
end HRULES
