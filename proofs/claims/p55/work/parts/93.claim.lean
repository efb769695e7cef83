/-! THE CLAIM OUT OF ONE WALK OF THE LAW'S BODY. Your part is whole_start (and what it stands on); all else here is the same for every law, but numbers. -/
def R_law : String := "HomeworkBarterLaw"
def lw_P (b : Addr) (xs : List Int32) (args : Array Value) (s : State) : Prop := args = #[.ref b] ∧ s.IntsAt b xs ∧ xs.length ≤ 260 ∧ (Jvm.Cond.and given_1 narrow_1).before args s = true
/-- what a walk over the start with the record d0 says of its end, said of the start itself -/
theorem lw_closed {s t : State} {o : Outcome} {d0 : Drawn} {L : List Loc} {k n : Nat} (hd0 : s.drawn.sameBut d0 lw_cs) (hv : ∃ v, o = .returned v) (hW : (s.setDrawn d0).WarmedH t.vm) (hs : (s.setDrawn d0).sameButNew ({ t with vm := s.vm } : State) L k n) : State.butDraws s t lw_cs (fun t1 => Framed s o t1 L k n) := by
  have h2 : t.drawn = d0 := congrArg State.drawn hs.1
  refine ⟨⟨hv, hW, State.sameButNew.setDrawn hs s.drawn⟩, ?_, by decide⟩
  rw [h2]
  exact hd0
def lw_Q (_ : Array Value) (s : State) (o : Outcome) (t : State) : Prop := o = .returned (some (.int 1)) ∧ State.butDraws s t lw_cs (fun t1 => Framed s o t1 [] 600104 7301313)
def lw_Z (below : List Frame) (a : Array Value) (s : State) : State → Prop := fun t => ∃ o, t.status = .running ∧ Ended t below o ∧ lw_Q a s o t
/-- the law's own end, with 1 on the stack, nothing written that was there before, its room as the claim has it; d0: the record of draws at this point (at the entry s.drawn: begin with 'refine W.base ?_' and 'have hd0 := Drawn.sameBut.refl s.drawn lw_cs') -/
theorem lw_ret {p : Program} {l : Launch} {e : Env} {s : State} {m : MethodId} {below : List Frame} {meth : Method} {c : Code} {b : Nat} {d0 : Drawn} (hd0 : s.drawn.sameBut d0 lw_cs) (hx : p.tables.exec = Jvm.exec) (hb : c.code = code) (hr : meth.sig.returnType = ret) (hlocks : meth.locks = false) {pc : Nat} {H : Heap} {ls : Array Slot} (hdg : decode code pc = .ok (.ireturn, 1)) : W p l e room_1 (s.setDrawn d0) m #[Value.ref b] below meth c H [] 600104 7301313 (lw_Z below #[Value.ref b] s) (F0 m pc ls [.int 1]) := by
  intro T hT X
  obtain ⟨fs, hret, hrun, hended, hW, hframe⟩ := X.leave (v := some (.int 1)) (hlocks := hlocks) (fun h => by rw [hr] at h; cases h)
  have hmeth' : T.vm.method? m = some meth := X.method'
  refine ⟨T.setFrames fs, ?_, .returned (some (.int 1)), hrun, hended, rfl, lw_closed hd0 ⟨_, rfl⟩ hW hframe⟩
  jvm_step X.here [X.here.top, hx, hb, hdg, hmeth', hr, ret, narrow_b1]
  (try refine ⟨rfl, ?_⟩); (try refine ⟨rfl, ?_⟩)
  first | (intro acts; rw [hret _ acts rfl rfl rfl]) | rw [hret _ _ rfl rfl rfl]
  exact Steps.refl _
/-- what holds at the law's entry: the machine, the code, the tables' words (any of lw_tbl by 'hts w (by decide +kernel)'), the script of L ints xs at the cell b, what the Statement gives of the start (any of its parts by flat_of_before) -/
def lw_At (p : Program) (s : State) (m : MethodId) (meth : Method) (c : Code) (b L : Nat) (xs : Nat → Int32) : Prop :=
  p.tables.exec = Jvm.exec ∧ c.code = code ∧ meth.sig.returnType = ret ∧ c.maxLocals = 5 ∧ s.vm.findClass R_law = some m.cls ∧ (∀ w ∈ lw_tbl, w.before #[Value.ref b] s = true) ∧ va_X b L xs s s.heap ∧ b < s.heap.size ∧ meth.locks = false ∧ (Jvm.Cond.and given_1 narrow_1).before #[Value.ref b] s = true
-- ===== the launch's facts =====
def strL (i : Nat) : List Cond := [Cond.exactly (Term.string (hSo i) (hSk i)) "java/lang/String", Cond.eq (.field (Term.string (hSo i) (hSk i)) "java/lang/String" "coder" "B") (.int 0), Cond.arrayOf (.field (Term.string (hSo i) (hSk i)) "java/lang/String" "value" "[B") .byte, Cond.eq (.length (.field (Term.string (hSo i) (hSk i)) "java/lang/String" "value" "[B")) (.int (Int32.ofNat (hSb2 i).length))] ++ (List.range (hSb2 i).length).map (fun j => Cond.eq (.elem (.field (Term.string (hSo i) (hSk i)) "java/lang/String" "value" "[B") (.int (Int32.ofNat j))) (.int ((hSb2 i).getD j 0)))
theorem nine_0 : ((flatC (Jvm.Cond.and given_1 narrow_1)).drop 247).take 10 = strL 0 := by decide +kernel
theorem nine_1 : ((flatC (Jvm.Cond.and given_1 narrow_1)).drop 257).take 9 = strL 1 := by decide +kernel
theorem nine_2 : ((flatC (Jvm.Cond.and given_1 narrow_1)).drop 267).take 7 = strL 2 := by decide +kernel
theorem nine_3 : ((flatC (Jvm.Cond.and given_1 narrow_1)).drop 276).take 16 = strL 3 := by decide +kernel
theorem nine_4 : ((flatC (Jvm.Cond.and given_1 narrow_1)).drop 295).take 26 = strL 4 := by decide +kernel
theorem nine_5 : ((flatC (Jvm.Cond.and given_1 narrow_1)).drop 325).take 30 = strL 5 := by decide +kernel
theorem nine_6 : ((flatC (Jvm.Cond.and given_1 narrow_1)).drop 360).take 11 = strL 6 := by decide +kernel
theorem nine_7 : ((flatC (Jvm.Cond.and given_1 narrow_1)).drop 377).take 10 = strL 7 := by decide +kernel
theorem nine_8 : ((flatC (Jvm.Cond.and given_1 narrow_1)).drop 394).take 9 = strL 8 := by decide +kernel
theorem nine_9 : ((flatC (Jvm.Cond.and given_1 narrow_1)).drop 411).take 5 = strL 9 := by decide +kernel
theorem nine_10 : ((flatC (Jvm.Cond.and given_1 narrow_1)).drop 425).take 17 = strL 10 := by decide +kernel
theorem nine_11 : ((flatC (Jvm.Cond.and given_1 narrow_1)).drop 452).take 16 = strL 11 := by decide +kernel
theorem nine_12 : ((flatC (Jvm.Cond.and given_1 narrow_1)).drop 479).take 28 = strL 12 := by decide +kernel
theorem nine_13 : ((flatC (Jvm.Cond.and given_1 narrow_1)).drop 519).take 17 = strL 13 := by decide +kernel
theorem nine_14 : ((flatC (Jvm.Cond.and given_1 narrow_1)).drop 549).take 29 = strL 14 := by decide +kernel
theorem nine_15 : ((flatC (Jvm.Cond.and given_1 narrow_1)).drop 592).take 21 = strL 15 := by decide +kernel
theorem nine_in (i : Nat) (hi : i < 16) : ∀ w ∈ strL i, w ∈ flatC (Jvm.Cond.and given_1 narrow_1) := by
  have key : ∃ p n, ((flatC (Jvm.Cond.and given_1 narrow_1)).drop p).take n = strL i := by
    rcases (show i = 0 ∨ i = 1 ∨ i = 2 ∨ i = 3 ∨ i = 4 ∨ i = 5 ∨ i = 6 ∨ i = 7 ∨ i = 8 ∨ i = 9 ∨ i = 10 ∨ i = 11 ∨ i = 12 ∨ i = 13 ∨ i = 14 ∨ i = 15 by omega) with rfl | rfl | rfl | rfl | rfl | rfl | rfl | rfl | rfl | rfl | rfl | rfl | rfl | rfl | rfl | rfl
    · exact ⟨_, _, nine_0⟩
    · exact ⟨_, _, nine_1⟩
    · exact ⟨_, _, nine_2⟩
    · exact ⟨_, _, nine_3⟩
    · exact ⟨_, _, nine_4⟩
    · exact ⟨_, _, nine_5⟩
    · exact ⟨_, _, nine_6⟩
    · exact ⟨_, _, nine_7⟩
    · exact ⟨_, _, nine_8⟩
    · exact ⟨_, _, nine_9⟩
    · exact ⟨_, _, nine_10⟩
    · exact ⟨_, _, nine_11⟩
    · exact ⟨_, _, nine_12⟩
    · exact ⟨_, _, nine_13⟩
    · exact ⟨_, _, nine_14⟩
    · exact ⟨_, _, nine_15⟩
  obtain ⟨p, n, e⟩ := key
  intro w hw
  rw [← e] at hw
  exact List.mem_of_mem_drop (List.mem_of_mem_take hw)
theorem nine_ref : ((List.range 16).all fun i => decide (Cond.stringRef (hSo i) (hSk i) (hSx i) ∈ tables_1)) = true := by decide +kernel
theorem hT_of {b : Nat} {s : State} (hts : ∀ w ∈ lw_tbl, w.before #[Value.ref b] s = true) {w : Cond} (i : Nat) (h : tables_1[i]? = some w) : w.before #[Value.ref b] s = true := hts w (List.mem_append_right _ (List.mem_of_getElem? h))
theorem str_at {b : Nat} {s : State} {A : Nat → Prop} (hts : ∀ w ∈ lw_tbl, w.before #[Value.ref b] s = true) (hgv : (Jvm.Cond.and given_1 narrow_1).before #[Value.ref b] s = true) (hA : ∀ a : Nat, a < s.heap.size → ¬ A a) (i : Nat) (hi : i < 16) : ∃ q : Nat × Nat, vk_R (hSo i) (hSk i) (hSx i) q.1 s ∧ hLs i q.1 q.2 A s s.heap := by
  have hs := flat_of_before _ hgv
  have hin := nine_in i hi
  have e1 := hin _ (List.mem_append_left _ List.mem_cons_self)
  have e2 := hin _ (List.mem_append_left _ (List.mem_cons_of_mem _ List.mem_cons_self))
  have e3 := hin _ (List.mem_append_left _ (List.mem_cons_of_mem _ (List.mem_cons_of_mem _ List.mem_cons_self)))
  have e4 := hin _ (List.mem_append_left _ (List.mem_cons_of_mem _ (List.mem_cons_of_mem _ (List.mem_cons_of_mem _ List.mem_cons_self))))
  have e5 : ∀ j, j < (hSb2 i).length → Cond.eq (.elem (.field (Term.string (hSo i) (hSk i)) "java/lang/String" "value" "[B") (.int (Int32.ofNat j))) (.int ((hSb2 i).getD j 0)) ∈ flatC (Jvm.Cond.and given_1 narrow_1) := fun j hj => hin _ (List.mem_append_right _ (List.mem_map.mpr ⟨j, List.mem_range.mpr hj, rfl⟩))
  have e6 : Cond.stringRef (hSo i) (hSk i) (hSx i) ∈ tables_1 := of_decide_eq_true (List.all_eq_true.mp nine_ref i (List.mem_range.mpr hi))
  have e7 : (hSb2 i).length < 2 ^ 31 := Nat.lt_trans (sb2_len i hi) (by decide)
  have z0 : ∀ {k : Nat}, k < 1 → k = 0 := fun h => by omega
  obtain ⟨adK, adV, ⟨hv, -⟩, ht⟩ := vk_Sof (args := #[Value.ref b]) (s := s) (N := 1) (tm := fun _ => Term.string (hSo i) (hSk i)) (len := [(hSb2 i).length]) (byt := [hSb2 i]) (A := A) (fun k hk => by rw [z0 hk]; exact e7) (fun k hk => hs _ e1) (fun k hk => hs _ e2) (fun k hk => hs _ e3) (fun k hk => by rw [z0 hk]; exact hs _ e4)
    (fun k hk j hj => by rw [z0 hk] at hj ⊢; exact hs _ (e5 j hj)) (fun i j hi hj hne => absurd ((z0 hi).trans (z0 hj).symm) hne) hA
  exact ⟨(adK 0, adV 0), vk_R.of (hts _ (List.mem_append_right _ e6)) (ht 0 (by decide)), hv 0 (by decide)⟩
def dgL (i : Nat) : List Cond := (List.range 100).map (fun j => Cond.eq (.elem (.static "java/lang/Integer" (hDn i) "[B") (.int (Int32.ofNat j))) (.int (hDg i j)))
theorem dig_0 : ((flatC (Jvm.Cond.and given_1 narrow_1)).drop 14).take 100 = dgL 0 := by decide +kernel
theorem dig_1 : ((flatC (Jvm.Cond.and given_1 narrow_1)).drop 117).take 100 = dgL 1 := by decide +kernel
theorem dig_in {i : Nat} (hi : i < 2) : ∀ w ∈ dgL i, w ∈ flatC (Jvm.Cond.and given_1 narrow_1) := by
  have key : ∃ p, ((flatC (Jvm.Cond.and given_1 narrow_1)).drop p).take 100 = dgL i := by
    rcases (show i = 0 ∨ i = 1 by omega) with rfl | rfl
    · exact ⟨_, dig_0⟩
    · exact ⟨_, dig_1⟩
  obtain ⟨p, e⟩ := key
  intro w hw
  rw [← e] at hw
  exact List.mem_of_mem_drop (List.mem_of_mem_take hw)
theorem dig_at {b : Nat} {s : State} {A : Nat → Prop} (hts : ∀ w ∈ lw_tbl, w.before #[Value.ref b] s = true) (hgv : (Jvm.Cond.and given_1 narrow_1).before #[Value.ref b] s = true) (hA : ∀ a : Nat, a < s.heap.size → ¬ A a) (i : Nat) (hi : i < 2) : ∃ t : Nat, hDs i t A s s.heap := by
  have hs := flat_of_before _ hgv
  have hT : ∀ {w : Cond} (i : Nat), tables_1[i]? = some w → w.before #[Value.ref b] s = true := fun i h => hT_of hts i h
  have ha : (Cond.arrayOf (.static "java/lang/Integer" (hDn i) "[B") .byte) ∈ flatC (Jvm.Cond.and given_1 narrow_1) := by
    rcases (show i = 0 ∨ i = 1 by omega) with rfl | rfl <;> decide +kernel
  have hn : (Cond.eq (.length (.static "java/lang/Integer" (hDn i) "[B")) (.int (Int32.ofNat 100))) ∈ flatC (Jvm.Cond.and given_1 narrow_1) := by
    rcases (show i = 0 ∨ i = 1 by omega) with rfl | rfl <;> decide +kernel
  have hy : (Cond.laysStatic "java/lang/Integer" (hDn i) "[B").before #[Value.ref b] s = true := by
    rcases (show i = 0 ∨ i = 1 by omega) with rfl | rfl
    · exact (hT 780 (by decide +kernel))
    · exact (hT 782 (by decide +kernel))
  obtain ⟨t, ht, h9⟩ := va_Tof (args := #[Value.ref b]) (s := s) (tm := .static "java/lang/Integer" (hDn i) "[B") (ty := .byte) (N := 100) (f := fun k => .int (hDg i k)) (A := A) (by decide) (hs _ ha) (va_eqt (hs _ hn)) (fun j hj => va_eqt (hs _ (dig_in hi _ (List.mem_map.mpr ⟨j, List.mem_range.mpr hj, rfl⟩)))) hA
  exact ⟨t, va_Zref hy (hT 17 (by decide +kernel)) ht hA, h9⟩
theorem i_back (x : Int32) : Int32.ofNat x.toUInt32.toNat = x := by
  apply Int32.toBitVec_inj.mp
  show BitVec.ofNat 32 x.toBitVec.toNat = x.toBitVec
  simp
theorem hFx_start {b L : Nat} {xs : Nat → Int32} {s : State} {A : Nat → Prop} (hts : ∀ w ∈ lw_tbl, w.before #[Value.ref b] s = true) (hgv : (Jvm.Cond.and given_1 narrow_1).before #[Value.ref b] s = true) (hA : ∀ a : Nat, a < s.heap.size → ¬ A a) (hX : va_X b L xs s s.heap) (hbl : b < s.heap.size) : ∃ a : (Nat → Nat) × (Nat → Nat), hFx A a s s.heap ∧ a.1 18 = b ∧ a.2 18 = L := by
  have hs := flat_of_before _ hgv
  have hT : ∀ {w : Cond} (i : Nat), tables_1[i]? = some w → w.before #[Value.ref b] s = true := fun i h => hT_of hts i h
  have h0 : ∀ i : Nat, ∃ q : Nat × Nat, i < 16 → vk_R (hSo i) (hSk i) (hSx i) q.1 s ∧ hLs i q.1 q.2 A s s.heap := by
    intro i
    by_cases hi : i < 16
    · obtain ⟨q, hq⟩ := str_at hts hgv hA i hi
      exact ⟨q, fun _ => hq⟩
    · exact ⟨(0, 0), fun h => absurd h hi⟩
  obtain ⟨ad, had⟩ := Classical.axiomOfChoice h0
  have h1 : ∀ i : Nat, ∃ t : Nat, i < 2 → hDs i t A s s.heap := by
    intro i
    by_cases hi : i < 2
    · obtain ⟨t, ht⟩ := dig_at hts hgv hA i hi
      exact ⟨t, fun _ => ht⟩
    · exact ⟨0, fun h => absurd h hi⟩
  obtain ⟨td, htd⟩ := Classical.axiomOfChoice h1
  have z1 : ∀ i, i < 16 → (if i < 16 then (ad i).1 else if i < 18 then td (i - 16) else b) = (ad i).1 := fun i hi => if_pos hi
  have z2 : ∀ i, i < 16 → (if i < 16 then (ad i).2 else if i = 18 then L else (xs (i - 32)).toUInt32.toNat) = (ad i).2 := fun i hi => if_pos hi
  refine ⟨(fun i => if i < 16 then (ad i).1 else if i < 18 then td (i - 16) else b, fun i => if i < 16 then (ad i).2 else if i = 18 then L else (xs (i - 32)).toUInt32.toNat), ⟨⟨va_Zof (args := #[Value.ref b]) (hT 378 (by decide +kernel)) (hT 21 (by decide +kernel)) (va_eqt (hs _ (by decide +kernel))) hA, va_Zqof (args := #[Value.ref b]) (hT 394 (by decide +kernel)) (hT 25 (by decide +kernel)) (hs _ (by decide +kernel)) hA⟩, fun i hi => ?_, fun i hi => ?_, fun i hi => ?_, ?_, va_Nw.of rfl (hT 762 (by decide +kernel)), va_Nw.of rfl (hT 688 (by decide +kernel))⟩, rfl, rfl⟩
  · show vk_R (hSo i) (hSk i) (hSx i) (if i < 16 then (ad i).1 else _) s
    rw [z1 i hi]
    exact (had i hi).1
  · show hLs i (if i < 16 then (ad i).1 else _) (if i < 16 then (ad i).2 else _) A s s.heap
    rw [z1 i hi, z2 i hi]
    exact (had i hi).2
  · show hDs i (if 16 + i < 16 then _ else if 16 + i < 18 then td (16 + i - 16) else b) A s s.heap
    rw [if_neg (by omega), if_pos (by omega), Nat.add_sub_cancel_left]
    exact htd i hi
  · obtain ⟨scr, k1, k2, k3, k4, k5⟩ := hX
    refine ⟨scr, k1, k2, k3, Nat.le_of_eq k4.symm, by rw [k4]; rfl, fun j hj => ?_, hA b hbl⟩
    show scr.slots[j]? = some (.int (Int32.ofNat (if 32 + j < 16 then _ else if 32 + j = 18 then L else (xs (32 + j - 32)).toUInt32.toNat)))
    rw [if_neg (by omega), if_neg (by omega), Nat.add_sub_cancel_left, i_back]
    exact k5 j hj
theorem htb_start {b : Nat} {s : State} (hts : ∀ w ∈ lw_tbl, w.before #[Value.ref b] s = true) : ∀ w ∈ hTB, w.before #[Value.ref b] s = true := by
  have hT : ∀ {w : Cond} (i : Nat), tables_1[i]? = some w → w.before #[Value.ref b] s = true := fun i h => hT_of hts i h
  intro w hw
  rcases List.mem_append.mp (List.mem_filter.mp hw).1 with h | h
  · obtain ⟨y, hy, rfl⟩ := List.mem_map.mp h
    simp only [hPv, List.mem_cons, List.not_mem_nil, or_false] at hy
    rcases hy with rfl | rfl | rfl | rfl
    · exact j_selects (n := 4) ⟨by decide, by decide⟩ (hT 625 (by decide +kernel)) (hT 663 (by decide +kernel)) (hT 664 (by decide +kernel)) (hT 1442 (by decide +kernel))
    · exact j_selects (n := 4) ⟨by decide, by decide⟩ (hT 625 (by decide +kernel)) (hT 667 (by decide +kernel)) (hT 668 (by decide +kernel)) (hT 1443 (by decide +kernel))
    · exact j_selects (n := 4) ⟨by decide, by decide⟩ (hT 625 (by decide +kernel)) (hT 714 (by decide +kernel)) (hT 715 (by decide +kernel)) (hT 1444 (by decide +kernel))
    · exact j_selects (n := 4) ⟨by decide, by decide⟩ (hT 625 (by decide +kernel)) (hT 718 (by decide +kernel)) (hT 719 (by decide +kernel)) (hT 1445 (by decide +kernel))
  · exact hts w h
/-- the classes and the classes of arrays, as the tables have them -/
theorem cls_start {b : Nat} {s : State} (hts : ∀ w ∈ lw_tbl, w.before #[Value.ref b] s = true) : ∃ (D : va_G) (cA : Nat → ClassId), ∀ (n : Nat) (aa : (Nat → Nat) × (Nat → Nat)), va_K D hCl (hTys (n, D, cA, aa)) s := by
  have htb := htb_start hts
  have hT : ∀ {w : Cond} (i : Nat), tables_1[i]? = some w → w.before #[Value.ref b] s = true := fun i h => hT_of hts i h
  have hp : ∀ ty : FieldType, (∀ C, ty ≠ .object C) → (Cond.arrayClass ty).before #[Value.ref b] s = true → ∃ c : ClassId, ArrOfT s c ty ∧ va_RA s c ty := by
    intro ty hne h
    obtain ⟨c, k, comp, h1, h2, h3⟩ := Cond.arrayClass_spec h
    refine ⟨c, fun n z => ⟨fun k h => (by cases h), k, h2, comp, h3⟩, ?_⟩
    cases ty <;> first | exact h1 | exact absurd rfl (hne _)
  have hq : ∀ C : String, (Cond.arrayOver (.object C)).before #[Value.ref b] s = true → ∃ c : ClassId, ArrOfT s c (.object C) ∧ va_RA s c (.object C) := by
    intro C h
    obtain ⟨comp, c, k, h1, h2, h3, h4, h5⟩ := Cond.arrayOver_spec h
    exact ⟨c, fun n z => ⟨fun k h => (by cases h), k, h3, comp, h4⟩, k, comp, h3, h4, h1, h5⟩
  obtain ⟨c0, i0, k0⟩ := u_known (C := RX0) (T := TX0) (N := 5) (n := 5) htb inX0 (hT 106 (by decide +kernel))
  obtain ⟨c1, i1, k1⟩ := u_known (C := RX1) (T := TX1) (N := 13) (n := 13) htb inX1 (hT 136 (by decide +kernel))
  obtain ⟨c2, i2, k2⟩ := u_known (C := RX2) (T := TX2) (N := 2) (n := 2) htb inX2 (hT 142 (by decide +kernel))
  obtain ⟨c3, i3, k3⟩ := u_known (C := RX3) (T := TX3) (N := 9) (n := 9) htb inX3 (hT 98 (by decide +kernel))
  obtain ⟨c4, i4, k4⟩ := u_known (C := RX4) (T := TX4) (N := 3) (n := 3) htb inX4 (hT 82 (by decide +kernel))
  obtain ⟨c5, i5, k5⟩ := u_known (C := RX5) (T := TX5) (N := 2) (n := 2) htb inX5 (hT 43 (by decide +kernel))
  obtain ⟨c6, i6, k6⟩ := u_known (C := RX6) (T := TX6) (N := 7) (n := 7) htb inX6 (hT 37 (by decide +kernel))
  obtain ⟨c7, i7, k7⟩ := u_known (C := RX7) (T := TX7) (N := 3) (n := 3) htb inX7 (hT 254 (by decide +kernel))
  obtain ⟨c8, i8, k8⟩ := u_known (C := RX8) (T := TX8) (N := 9) (n := 9) htb inX8 (hT 29 (by decide +kernel))
  obtain ⟨c9, i9, k9⟩ := u_known (C := RX9) (T := TX9) (N := 2) (n := 2) htb inX9 (hT 591 (by decide +kernel))
  obtain ⟨c10, i10, k10⟩ := u_known (C := RJ0) (T := TJ0) (N := 4) (n := 4) htb inJ0 (hT 813 (by decide +kernel))
  obtain ⟨c11, i11, k11⟩ := u_known (C := RJ4) (T := TJ4) (N := 4) (n := 4) htb inJ4 (hT 625 (by decide +kernel))
  obtain ⟨a0, r0⟩ := hp .int (fun C h => by cases h) (hT 96 (by decide +kernel))
  obtain ⟨a1, r1⟩ := hp .byte (fun C h => by cases h) (hT 57 (by decide +kernel))
  obtain ⟨a2, r2⟩ := hp .boolean (fun C h => by cases h) (hT 327 (by decide +kernel))
  obtain ⟨a3, r3⟩ := hq "HomeworkBarter$Pupil" (hT 104 (by decide +kernel))
  obtain ⟨a4, r4⟩ := hq "HomeworkBarter$School" (hT 260 (by decide +kernel))
  refine ⟨(fun k => [c0, c1, c2, c3, c4, c5, c6, c7, c8, c9, c10, c11].getD k c0, fun k => [i0, i1, i2, i3, i4, i5, i6, i7, i8, i9, i10, i11].getD k i0), fun k => [a0, a1, a2, a3, a4].getD k a0, fun n aa => ⟨fun k q hq => ?_, fun k q hq => ?_⟩⟩
  · match k, hq with
    | 0, hq => cases hq; exact k0
    | 1, hq => cases hq; exact k1
    | 2, hq => cases hq; exact k2
    | 3, hq => cases hq; exact k3
    | 4, hq => cases hq; exact k4
    | 5, hq => cases hq; exact k5
    | 6, hq => cases hq; exact k6
    | 7, hq => cases hq; exact k7
    | 8, hq => cases hq; exact k8
    | 9, hq => cases hq; exact k9
    | 10, hq => cases hq; exact k10
    | 11, hq => cases hq; exact k11
    | k + 12, hq => cases hq
  · match k, hq with
    | 0, hq => cases hq; exact r0
    | 1, hq => cases hq; exact r1
    | 2, hq => cases hq; exact r2
    | 3, hq => cases hq; exact r3
    | 4, hq => cases hq; exact r4
    | k + 5, hq => cases hq
-- ===== Told lies right below the class's first cell =====
def cns (a : va_E) (f : Nat → va_E) : Nat → va_E
  | 0 => a
  | i + 1 => f i
theorem hA_below {q : Nat} {R : va_G × (Nat → ClassId) × (Nat → Nat) × (Nat → Nat)} : hA ((q + 1, R) : Ed) = hA0 ((q, R) : Ed) := by
  funext x
  exact propext ⟨fun h => Nat.le_of_succ_le_succ h, fun h => Nat.succ_le_succ h⟩
theorem J_callI2 {q : Nat} {R : va_G × (Nat → ClassId) × (Nat → Nat) × (Nat → Nat)} {C : Cx} {own : String} {b : ByteArray} {z : Zd} {P : Rn} {cs ss pc : Nat} {f : Nat → va_E} {lv : List (Nat × Value)} {index cs' ss' : Nat} {y : MethodName} {b' : ByteArray} {z' : Zd} {rest st0 : List Value} (d : decode b pc = .ok (.invokespecial index, 3)) (w1 : Cond.methodLink own index y ∈ hTB) (w2 : Cond.initialized y.cls ∈ hTB) (w3 : Cond.code y b' z'.1 z'.2.1 ∈ hTB) (w4 : Cond.instanceMethod y ∈ hTB) (hy1 : y.name = "<init>") (hz' : z'.2.1 = none) (w5 : y.cls ≠ "java/lang/invoke/MethodHandle" ∧ y.cls ≠ "java/lang/invoke/VarHandle" ∧ (parseMethodDescriptor y.desc).map (fun d => d.parameters.length) = some 0) (hst0 : st0 = .ref (q + 1) :: rest) (hroom : (rest.map fun v => v.category).sum ≤ 8) (hfr : z'.2.2.2.1 + 1 ≤ z.2.2.2.1) (hlo : 8 + (z'.1 + 11) + z'.2.2.2.2.1 ≤ z.2.2.2.2.1) (hcs : cs + z'.2.2.1.1 = cs') (hss : ss + z'.2.2.1.2 = ss') (hcm : cs' ≤ z.2.2.1.1) (hsm : ss' ≤ z.2.2.1.2)
    (sp : Kp ((q + 1, R) : Ed) y b' z' [.ref (q + 1 + 0)] (0 + 1) (fun i => f (i + 1)) (fun v N' g' => v = none ∧ J ((q, R) : Ed) C own b z P cs' ss' (N' + 1) (cns (f 0) g') (pc + 3) lv rest)) : J ((q, R) : Ed) C own b z P cs ss 2 f pc lv st0 := by
  subst hcs
  subst hss
  subst hst0
  obtain ⟨p, l, e, s, m, args, below, meth, c, Q⟩ := C
  intro K H locs ls hP hN hS hl
  obtain ⟨hx, hb, hr, hlk, hml, hown, hts, hK, hNs1, hAm, hQ⟩ := id K
  have hM := sp l
  rw [hz'] at hM w3
  have hP1 : va_P R.1 hCl (hV ((q + 1, R) : Ed) (0 + 1) (fun i => f (i + 1))) H := fun k x hk => by
    obtain ⟨hk0, rfl⟩ := hV_of hk
    obtain rfl : k = 0 := by omega
    exact hP 1 _ (hV_at (E := ((q, R) : Ed)) (f := f) (show 1 < 2 by decide))
  have hN1 : H.size = q + 2 := hN
  have hrun := va_runI (e := e) (below := below) (meth := meth) (locs := locs) (g := F0 m pc ls (.ref (q + 1) :: rest)) (As := []) (rest := rest) (R := zRoom z) (cells := cs) (slots := ss) ⟨hx, hb, hml, hown, hts⟩ hM (cwI 0 hts (hGoodC w3 (fun w h => h)) rfl rfl rfl (hts _ w2) (hts _ w1) (hts _ w4) hy1 w5 ⟨hfr, hlo⟩) ⟨hRn_blind, fun U hU hW2 => ⟨rfl, hRn_at (E := ((q + 1, R) : Ed)) hU hW2 hP1 (by rw [hN1]) hK hNs1⟩⟩ rfl rfl hl.1 rfl (lv_room hroom) d ⟨hcm, hsm⟩
  intro T hT X
  obtain ⟨v, st₀, t, T', L, h0, X', hL, e1, e2, ⟨v', N', f', hv, ⟨hv0, hPm⟩, hPt, hNt, hFr⟩, stp⟩ := hrun T hT X
  cases hv
  subst hv0
  obtain ⟨k1, k2, k3⟩ := vx_keep h0 e1 hS (A1 := hA0 ((q + 1, R) : Ed)) (fun _ _ h => Nat.le_of_succ_le h) (fun _ h => Nat.le_of_succ_le h) hL hFr
  have hNt : t.heap.size = q + 1 + N' := hNt
  have hP2 : va_P R.1 hCl (hV ((q, R) : Ed) (N' + 1) (cns (f 0) f')) T'.heap := fun k x hk => by
    obtain ⟨hk0, rfl⟩ := hV_of hk
    cases k with
    | zero =>
      have h9 : va_P R.1 hCl [(q, f 0)] T'.heap := va_P.kept (H := H) (fun k x hk => by
        have hz : k < 1 := (List.getElem?_eq_some_iff.mp hk).1
        obtain rfl : k = 0 := by omega
        cases hk
        exact hP 0 _ (hV_at (E := ((q, R) : Ed)) (f := f) (show 0 < 2 by decide))) (fun k x hk => by
        have hz : k < 1 := (List.getElem?_eq_some_iff.mp hk).1
        obtain rfl : k = 0 := by omega
        cases hk
        exact k2 q (by omega) (fun z => absurd (show q + 1 ≤ q from z) (by omega)))
      exact h9 0 _ rfl
    | succ k =>
      have h9 := hPt k _ (hV_at (E := ((q + 1, R) : Ed)) (f := f') (show k < N' by omega))
      rw [← e1] at h9
      have e9 : ((q + 1 + k, f' k) : Nat × va_E) = (q + (k + 1), f' k) := by rw [show q + 1 + k = q + (k + 1) by omega]
      have h8 : va_at R.1 hCl (q + 1 + k, f' k) T'.heap := h9
      rw [e9] at h8
      exact h8
  obtain ⟨t2, a1, b1⟩ := hPm K T'.heap (locs ++ L) ls hP2 (by rw [e1, hNt]; show q + 1 + N' = q + (N' + 1); omega) k3 hl T' rfl X'
  exact ⟨t2, stp t2 a1, b1⟩
theorem world_told {q : Nat} {R : va_G × (Nat → ClassId) × (Nat → Nat) × (Nat → Nat)} {M0 : Mm} {v : va_E} {H : Heap} (hxk : xOk ((q + 1, R) : Ed) [(q + 1 - 1, v)]) (hP : va_P R.1 hCl (hV ((q, R) : Ed) 695 (cns v (fE ((q + 1, R) : Ed) M0))) H) : va_P R.1 hCl (hW ((q + 1, R) : Ed) (M0.x [(q + 1 - 1, v)])) H := by
  intro k x hk
  rw [hW_of (M := M0.x [(q + 1 - 1, v)]) hxk, hB_x] at hk
  by_cases h9 : k < 694
  · rw [List.getElem?_append_left (by rw [hB_len]; exact h9), hB_at h9] at hk
    cases hk
    have h8 := hP (k + 1) _ (hV_at (E := ((q, R) : Ed)) (show k + 1 < 695 by omega))
    have e9 : ((q + (k + 1), fE ((q + 1, R) : Ed) M0 k) : Nat × va_E) = (q + 1 + k, fE ((q + 1, R) : Ed) M0 k) := by rw [show q + (k + 1) = q + 1 + k by omega]
    have h7 : va_at R.1 hCl (q + (k + 1), fE ((q + 1, R) : Ed) M0 k) H := h8
    rw [e9] at h7
    exact h7
  · rw [List.getElem?_append_right (by rw [hB_len]; omega), hB_len] at hk
    have h1 : k - 694 < 1 := (List.getElem?_eq_some_iff.mp hk).1
    rw [show k - 694 = 0 by omega] at hk
    cases hk
    have h8 := hP 0 _ (hV_at (E := ((q, R) : Ed)) (show 0 < 695 by decide))
    have h7 : va_at R.1 hCl (q, v) H := h8
    show va_at R.1 hCl (q + 1 - 1, v) H
    rw [Nat.add_sub_cancel]
    exact h7
set_option maxHeartbeats 4000000 in
/-- THE LAW, from its entry -/
theorem whole_start {p : Program} {e : Env} {s : State} {m : MethodId} {below : List Frame} {meth : Method} {c : Code} (l : Launch) (hflags : l.flags = flags0) {b L : Nat} {xs : Nat → Int32} (hL : L ≤ 260) (C0 : lw_At p s m meth c b L xs) (htab : c.exceptionTable.toList = []) : W p l e room_1 s m #[Value.ref b] below meth c s.heap [] 0 0 (lw_Z below #[Value.ref b] s) (entryFrame m ([Value.ref b] : List Value).toArray 5) := by
  obtain ⟨hx, hb, hr, hml, hown, hts, hX, hbl, hlocks, hgv⟩ := C0
  have htb := htb_start hts
  have hT : ∀ {w : Cond} (i : Nat), tables_1[i]? = some w → w.before #[Value.ref b] s = true := fun i h => hT_of hts i h
  obtain ⟨aa, hfx, ha1, ha2⟩ := hFx_start (A := fun q => s.heap.size ≤ q) hts hgv (fun a h => Nat.not_le.mpr h) hX hbl
  obtain ⟨D, cA, hKs⟩ := cls_start hts
  subst ha1
  generalize hq0 : s.heap.size = q at hfx
  have hAq : hA0 ((q, D, cA, aa) : Ed) = fun x => q ≤ x := rfl
  have hK : va_K D hCl (hTys ((q, D, cA, aa) : Ed)) s := hKs q aa
  have hFE : hF ((q + 1, D, cA, aa) : Ed) s s.heap := by
    unfold hF
    rw [hA_below, hAq]
    exact hfx
  have hNs0 : hNs s := ⟨va_Nw.of rfl (hT 83 (by decide +kernel)), va_Nw.of rfl (hT 107 (by decide +kernel)), va_Nw.of rfl (hT 143 (by decide +kernel)), va_AO.of (hT 104 (by decide +kernel)), va_AO.of (hT 260 (by decide +kernel))⟩
  have hst : l.stackTraces = false := by
    unfold Launch.stackTraces
    rw [hflags]
    decide
  obtain ⟨C, hCd⟩ : ∃ C : Cx, C = (p, l, e, s, m, #[Value.ref (aa.1 18)], below, meth, c, lw_Z below #[Value.ref (aa.1 18)] s) := ⟨_, rfl⟩
  -- the end
  have hend : ∀ (cs ss : Nat) (M : Mm) (lv : List (Nat × Value)), cs ≤ 600104 → ss ≤ 7301313 → G ((q + 1, D, cA, aa) : Ed) C RL cL_law zL_law (fun _ _ => False) cs ss M 146 lv [.int 1] := by
    intro cs ss M lv h1 h2
    rw [hCd]
    intro K H locs ls hP hS hl
    exact va_forget (fun x hx => by
      have h9 := hS.2.2 x hx
      rw [hA_below] at h9
      rw [hq0]
      exact h9) (W.widen h1 h2 (W.base (lw_ret (Drawn.sameBut.refl s.drawn lw_cs) hx hb hr hlocks dL_law_146)))
  have hxk : xOk ((q + 1, D, cA, aa) : Ed) [tC ((q + 1, D, cA, aa) : Ed) 0] := by
    refine ⟨fun i j x y hi hj _ => ?_, fun k x hk => ?_⟩
    · have h1 : i < 1 := (List.getElem?_eq_some_iff.mp hi).1
      have h2 : j < 1 := (List.getElem?_eq_some_iff.mp hj).1
      omega
    · have h1 : k < 1 := (List.getElem?_eq_some_iff.mp hk).1
      obtain rfl : k = 0 := by omega
      cases hk
      show q + 1 ≤ q + 1 - 1 + 1 ∧ (q + 1 - 1 < q + 1 ∨ _)
      exact ⟨by omega, Or.inl (by omega)⟩
  -- the rest, once Told and the school stand
  have hrest : J ((q, D, cA, aa) : Ed) C RL cL_law zL_law (fun _ _ _ => False) 695 9818 695 (cns (.inr (9, [.ref (aa.1 18), .int (nI 0)])) (fE ((q + 1, D, cA, aa) : Ed) MA)) 17 [(1, .ref q), (2, .ref (q + 1))] [] := by
    have hg := law_G (E := ((q + 1, D, cA, aa) : Ed)) (C := C) (P := fun _ _ => False) (M := MA.x [tC ((q + 1, D, cA, aa) : Ed) 0]) (by show aa.2 18 ≤ 260; rw [ha2]; exact hL) hend (CG.x CG0) hxk rfl
    rw [hCd] at hg ⊢
    intro K H locs ls hP hN hS hl
    refine hg ⟨hx, hb, hr, hlocks, hml, hown, htb, htab, hK, hFE, hst, ⟨fun x hx => by rw [hA_below]; rw [hq0] at hx; exact hx, fun _ _ h => h⟩, fun t ht => by
      obtain ⟨o, -, -, h⟩ := ht
      rcases h with ⟨h, -⟩ | ⟨q9, -, X, ce, L', h, -⟩
      · obtain ⟨v, M', -, h9, -⟩ := h
        exact h9.elim
      · obtain ⟨M', h9, -⟩ := h
        exact h9.elim⟩ H locs ls (world_told (R := (D, cA, aa)) (M0 := MA) hxk hP) (by rw [hA_below]; exact hS) hl
  have hbody : J ((q, D, cA, aa) : Ed) C RL cL_law zL_law (fun _ _ _ => False) 0 0 0 (fun _ => i0 ((q, D, cA, aa) : Ed) 0) 0 [(0, .ref (aa.1 18))] [] := by
    refine J_new (ci := 9) (ty := tyX9) (fs := [.null, .int 0]) (cs' := 1) (ss' := 2) dL_law_0 inX9 rfl tyX9_ok (hq 590 (by decide +kernel) rfl) (hq 591 (by decide +kernel) rfl) (hq 1 (by decide +kernel) rfl) zfX9 rfl rfl (Nat.le_of_ble_eq_true rfl) (Nat.le_of_ble_eq_true rfl) ?_
    refine J_dup dL_law_3 rfl ?_
    refine J_aload_n dL_law_4 rfl ?_
    refine J_callI (n := 1) (y := yX9_init) (b' := cX9_init) (z' := zk_X9) (as := [.ref (aa.1 18)]) (rest := [.ref (q + 0)]) (cs' := 1) (ss' := 2) dL_law_5 (hq 592 (by decide +kernel) rfl) (hq 1 (by decide +kernel) rfl) (hq 594 (by decide +kernel) rfl) (hq 593 (by decide +kernel) rfl) rfl rfl ⟨by decide, by decide, by decide +kernel⟩ rfl rfl (Nat.le_of_ble_eq_true rfl) (Nat.le_of_ble_eq_true rfl) (Nat.le_of_ble_eq_true rfl) rfl rfl (Nat.le_of_ble_eq_true rfl) (Nat.le_of_ble_eq_true rfl) ?_
    refine k_X9_init vu_at (fun f1 h1 => hGj_v ?_)
    refine J_astore_n dL_law_8 (Nat.le_of_ble_eq_true rfl) ?_
    refine J_new (ci := 8) (ty := tyX8) (fs := [.null, .null, .null, .null, .null, .null, .null, .null, .null]) (cs' := 2) (ss' := 11) dL_law_9 inX8 rfl tyX8_ok (hq 28 (by decide +kernel) rfl) (hq 29 (by decide +kernel) rfl) (hq 2 (by decide +kernel) rfl) zfX8 rfl rfl (Nat.le_of_ble_eq_true rfl) (Nat.le_of_ble_eq_true rfl) ?_
    refine J_dup dL_law_12 rfl ?_
    refine J_callI2 (y := yX8_init) (b' := cX8_init) (z' := zk_X8) (rest := [.ref (q + 1)]) (cs' := 695) (ss' := 9818) dL_law_13 (hq 30 (by decide +kernel) rfl) (hq 2 (by decide +kernel) rfl) (hq 32 (by decide +kernel) rfl) (hq 31 (by decide +kernel) rfl) rfl rfl ⟨by decide, by decide, by decide +kernel⟩ rfl (Nat.le_of_ble_eq_true rfl) (Nat.le_of_ble_eq_true rfl) (Nat.le_of_ble_eq_true rfl) rfl rfl (Nat.le_of_ble_eq_true rfl) (Nat.le_of_ble_eq_true rfl) ?_
    refine k_X8_init vu_at ⟨rfl, ?_⟩
    refine J_ext (f' := cns (.inr (9, [.ref (aa.1 18), .int (nI 0)])) (fE ((q + 1, D, cA, aa) : Ed) MA)) (fun i hi => ?_) ?_
    · cases i with
      | zero => exact (vu_ne (by decide)).trans h1
      | succ i => rfl
    refine J_astore_n dL_law_16 (Nat.le_of_ble_eq_true rfl) ?_
    exact J_lv2 hrest ⟨rfl, rfl, trivial⟩
  rw [lg_entry_eq]
  rw [hCd] at hbody
  exact hbody ⟨hx, hb, hr, hlocks, hml, hown, htb, hK, hNs0, fun x hx => by rw [hq0] at hx; exact hx, fun t ht => by
    obtain ⟨o, -, -, ⟨v, N, f, -, h9, -⟩, -⟩ := ht
    exact h9.elim⟩ s.heap [] _ (fun k q hq => by cases hq) hq0 va_S.rf (lv_entry ([Value.ref (aa.1 18)] : List Value) (Nat.le_of_ble_eq_true rfl))
set_option maxHeartbeats 4000000 in
theorem lw_walk (l : Launch) (hflags : l.flags = flags0) (b : Addr) (xs : List Int32) : MetFree l x (headSpec (Jvm.Cond.code x code maxLocals ret :: tables_1) room_1) (lw_P b xs) (fun _ _ _ _ _ => True) lw_Q := by
  refine MetFree.of_bodyS (code := code) (maxLocals := maxLocals) (ret := ret) (by decide) ?_ ?_
  · intro args s m h hn
    obtain ⟨meth, c, h1, h2, h3, h4, h5, h6, -, -⟩ := Cond.code_spec hn (atoms_spec (ws := Jvm.Cond.code x code maxLocals ret :: tables_1) h _ List.mem_cons_self)
    exact ⟨meth, c, h1, h2, h3, h4, h5, h6⟩
  · intro p e s m args below meth c s₁ B hml0 hP _
    obtain ⟨rfl, hx, hbd, hgv⟩ := hP
    obtain ⟨scr, harrAt, hlist, hof, hsmall⟩ := hx
    obtain ⟨hcb, hkn, -, -⟩ := State.arrayAt?_spec harrAt
    have hown : s.vm.findClass R_law = some m.cls := findClass_of_methodNamed B.named
    have hts0 : ∀ c ∈ (Jvm.Cond.code x code maxLocals ret :: tables_1), c.before #[Value.ref b] s = true := atoms_spec (ws := Jvm.Cond.code x code maxLocals ret :: tables_1) B.pre
    have hts : ∀ w ∈ lw_tbl, w.before #[Value.ref b] s = true := k2_hts_sels lw_privs (fun w hw => hts0 w (List.mem_cons_of_mem _ hw)) lw_privs_ok
    have hml : c.maxLocals = 5 := B.maxLocals_eq (hts0 _ List.mem_cons_self)
    have X₀ : Stand p l e room_1 s m #[Value.ref b] below meth c s₁ [] 0 0 := Stand.of_body B
    have hh0 : s₁.heap = s.heap := by rw [B.state]; rfl
    have htab : c.exceptionTable.toList = [] := by
      obtain ⟨meth9, c9, h1, h2, -, -, -, -, h7, -⟩ := Cond.code_spec B.named (hts0 _ List.mem_cons_self)
      cases Option.some.inj (h1.symm.trans B.method)
      cases Option.some.inj (h2.symm.trans X₀.code)
      rw [Array.isEmpty_iff.mp h7]
    have hsz : scr.slots.size = xs.length := by rw [← Array.length_toList, hlist, List.length_map]
    have hval : ∀ j : Nat, j < xs.length → scr.slots[j]? = some (.int (xs.getD j 0)) := fun j hj => by
      rw [← Array.getElem?_toList, hlist]
      simp [hj]
    have hbl : b < s.heap.size := (Array.getElem?_eq_some_iff.mp hcb).1
    have hX : va_X b xs.length (fun j => xs.getD j 0) s s.heap := ⟨scr, hcb, hof, hkn, hsz, hval⟩
    have K : W p l e room_1 s m #[Value.ref b] below meth c s₁.heap [] 0 0 (lw_Z below #[Value.ref b] s) (entryFrame m ([Value.ref b] : List Value).toArray 5) := by
      rw [hh0]
      exact whole_start l hflags hbd ⟨B.exec, B.bytes, B.returns, hml, hown, hts, hX, hbl, B.notSynchronized, hgv⟩ htab
    obtain ⟨t, a1, o, b1, b2, b3⟩ := K s₁ rfl X₀
    exact ⟨t, o, a1, b1, b2, b3⟩
theorem lw_pre_spec {args : Array Value} {s : State} (h : (Jvm.Cond.and given_1 narrow_1).before args s = true) (hr : rest_1_c.before args s = true) : ∃ (b : Addr) (xs : List Int32), lw_P b xs args s := by
  have hs := flat_of_before _ h
  have hq := flat_of_before _ hr
  have hc : (Cond.count 1).before args s = true := hs _ (by decide +kernel)
  have harr : (Cond.arrayOf (.arg 0) .int).before args s = true := hs _ (by decide +kernel)
  have hle : (Cond.le (.length (.arg 0)) (.int 260)).before args s = true := hs _ (by decide +kernel)
  have hlen : (Cond.isInt (.length (.arg 0))).before args s = true := hq _ (by decide +kernel)
  have hall : (Cond.all (.arg 0) (.isInt (.elem (.arg 0) (.index 0)))).before args s = true := hq _ (by decide +kernel)
  obtain ⟨b, xs, hb, hx⟩ := State.ints_of_pre rfl harr hlen hall
  have hsm : xs.length < 2 ^ 31 := hx.choose_spec.2.2.2
  have hev : (Term.length (.arg 0)).eval args s none [] s = some (.int xs.length.toInt32) := hx.length_eval hb
  have hv := Cond.le_ints hev (show (Term.int 260).eval args s none [] s = some (.int 260) from rfl)
  have hd : xs.length.toInt32 ≤ 260 := by
    simpa [Cond.before, Cond.holds, hv] using hle
  have hN : xs.length ≤ 260 := (Int32.ofNat_le_ofNat hsm (by decide)).mp (show Int32.ofNat xs.length ≤ Int32.ofNat 260 from hd)
  exact ⟨b, xs, Cond.one_arg hc (show args[0]? = some (.ref b) from hb), hx, hN, h⟩
theorem lw_comes (l : Launch) (hflags : l.flags = flags0) : Comes l x (Jvm.Cond.code x code maxLocals ret :: tables_1) room_1 (fun tb e args s => Calls_1 tb e args s ∧ rest_1 tb e args s ∧ Pre_1 tb e args s)
    (fun _ _ args s o t => lw_Q args s o t) := by
  intro p e ha hc hk s m args below hf hfit hheap happ hpre
  obtain ⟨b, xs, hP⟩ := lw_pre_spec hpre.2.2 hpre.2.1
  obtain ⟨k, o, h1, h2, h3, hQ⟩ := lw_walk l hflags b xs p e ha hc hk s m args below hf ((Spec.applies_iff_loose hf).mp happ).1 hP trivial
  exact ⟨k, o, h1, h2, h3, hQ⟩
theorem lw_frame {s t : State} {o : Outcome} {args : Array Value} (h : State.butDraws s t lw_cs (fun t1 => Framed s o t1 [] 600104 7301313)) :
    State.butDraws s t [Jvm.Choice.named "NaN.bits"] (fun t1 => Framed s o t1 (fieldLocs frame_1_writes args s ++ arrayLocs frame_1_arrays args s ++ staticLocs frame_1_statics s) 600104 7301313) := h
theorem lw_limb (L : Cond) (hL : ∀ (args : Array Value) (s t : State), L.after args s (.returned (some (.int 1))) t = true) :
    ArmFor flags0 classFile x code maxLocals ret World_1 tables_1 room_1 Calls_1 rest_1 Pre_1
      (fun tb e a s o t => postC L tb e a s o t ∧ State.butDraws s t [Jvm.Choice.named "NaN.bits"] (fun t1 => Framed s o t1 (fieldLocs frame_1_writes a s ++ arrayLocs frame_1_arrays a s ++ staticLocs frame_1_statics s) 600104 7301313)) := by
  intro l hflags _ _ p e ha hc hk s m args below hf hfit hheap happ hpre
  obtain ⟨k, o, h1, h2, h3, rfl, hF⟩ := lw_comes l hflags p e ha hc hk s m args below hf hfit hheap happ hpre
  exact ⟨k, _, h1, h2, h3, hL args s _, lw_frame hF⟩
theorem i_vc : Claimed_1_1 ∧ Claimed_1_2 := ⟨lw_limb limb_1_1 (fun args s t => by simp [limb_1_1, Cond.after, Cond.holds, Cond.value]), lw_limb limb_1_2 (fun args s t => Cond.after_iff.mpr (by
  first | (rw [show limb_1_2 = Cond.eq .result (.int 1) from rfl, Cond.eq_ints (x := 1) (y := 1) rfl rfl]; simp; done) | (simp [limb_1_2, Cond.value, Term.eval]; done)))⟩
