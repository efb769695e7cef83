/-! THE CLAIM OUT OF ONE WALK OF THE LAW'S BODY. Your part is whole_start (and what it stands on); all else here is the same for every law, but numbers. -/
def R_law : String := "HomeworkBarterLaw"
def lw_P (b : Addr) (xs : List Int32) (args : Array Value) (s : State) : Prop := args = #[.ref b] ∧ s.IntsAt b xs ∧ xs.length ≤ 2560 ∧ (Jvm.Cond.and given_1 narrow_1).before args s = true
/-- what a walk over the start with the record d0 says of its end, said of the start itself -/
theorem lw_closed {s t : State} {o : Outcome} {d0 : Drawn} {L : List Loc} {k n : Nat} (hd0 : s.drawn.sameBut d0 lw_cs) (hv : ∃ v, o = .returned v) (hW : (s.setDrawn d0).WarmedH t.vm) (hs : (s.setDrawn d0).sameButNew ({ t with vm := s.vm } : State) L k n) : State.butDraws s t lw_cs (fun t1 => Framed s o t1 L k n) := by
  have h2 : t.drawn = d0 := congrArg State.drawn hs.1
  refine ⟨⟨hv, hW, State.sameButNew.setDrawn hs s.drawn⟩, ?_, by decide⟩
  rw [h2]
  exact hd0
def lw_Q (_ : Array Value) (s : State) (o : Outcome) (t : State) : Prop := o = .returned (some (.int 1)) ∧ State.butDraws s t lw_cs (fun t1 => Framed s o t1 [] 601024 7293034)
def lw_Z (below : List Frame) (a : Array Value) (s : State) : State → Prop := fun t => ∃ o, t.status = .running ∧ Ended t below o ∧ lw_Q a s o t
/-- the law's own end, with 1 on the stack, nothing written that was there before, its room as the claim has it; d0: the record of draws at this point (at the entry s.drawn: begin with 'refine W.base ?_' and 'have hd0 := Drawn.sameBut.refl s.drawn lw_cs') -/
theorem lw_ret {p : Program} {l : Launch} {e : Env} {s : State} {m : MethodId} {below : List Frame} {meth : Method} {c : Code} {b : Nat} {d0 : Drawn} (hd0 : s.drawn.sameBut d0 lw_cs) (hx : p.tables.exec = Jvm.exec) (hb : c.code = code) (hr : meth.sig.returnType = ret) (hlocks : meth.locks = false) {pc : Nat} {H : Heap} {ls : Array Slot} (hdg : decode code pc = .ok (.ireturn, 1)) : W p l e room_1 (s.setDrawn d0) m #[Value.ref b] below meth c H [] 601024 7293034 (lw_Z below #[Value.ref b] s) (F0 m pc ls [.int 1]) := by
  intro T hT X
  obtain ⟨fs, hret, hrun, hended, hW, hframe⟩ := X.leave (v := some (.int 1)) (hlocks := hlocks) (fun h => by rw [hr] at h; cases h)
  have hmeth' : T.vm.method? m = some meth := X.method'
  refine ⟨T.setFrames fs, ?_, .returned (some (.int 1)), hrun, hended, rfl, lw_closed hd0 ⟨_, rfl⟩ hW hframe⟩
  jvm_step X.here [X.here.top, hx, hb, hdg, hmeth', hr, ret, narrow_b1]
  (try refine ⟨rfl, ?_⟩); (try refine ⟨rfl, ?_⟩)
  first | (intro acts; rw [hret _ acts rfl rfl rfl]) | rw [hret _ _ rfl rfl rfl]
  exact Steps.refl _
/-- what holds at the law's entry: the machine, the code, the tables' words (any of lw_tbl by 'hts w (by decide +kernel)'), the script of L ints xs at the cell b, what the Statement gives of the start (any of its parts by flat_of_before) -/
def lw_At (p : Program) (s : State) (m : MethodId) (meth : Method) (c : Code) (b L : Nat) (xs : Nat → Int32) : Prop :=
  p.tables.exec = Jvm.exec ∧ c.code = code ∧ meth.sig.returnType = ret ∧ c.maxLocals = 10 ∧ s.vm.findClass R_law = some m.cls ∧ (∀ w ∈ lw_tbl, w.before #[Value.ref b] s = true) ∧ va_X b L xs s s.heap ∧ b < s.heap.size ∧ meth.locks = false ∧ (Jvm.Cond.and given_1 narrow_1).before #[Value.ref b] s = true
-- ===== the launch's facts =====
def strL (i : Nat) : List Cond := [Cond.exactly (Term.string (hSo i) (hSk i)) "java/lang/String", Cond.eq (.field (Term.string (hSo i) (hSk i)) "java/lang/String" "coder" "B") (.int 0), Cond.arrayOf (.field (Term.string (hSo i) (hSk i)) "java/lang/String" "value" "[B") .byte, Cond.eq (.length (.field (Term.string (hSo i) (hSk i)) "java/lang/String" "value" "[B")) (.int (Int32.ofNat (hSb2 i).length))] ++ (List.range (hSb2 i).length).map (fun j => Cond.eq (.elem (.field (Term.string (hSo i) (hSk i)) "java/lang/String" "value" "[B") (.int (Int32.ofNat j))) (.int ((hSb2 i).getD j 0)))
theorem nine_0 : ((flatC (Jvm.Cond.and given_1 narrow_1)).drop 75).take 10 = strL 0 := by decide +kernel
theorem nine_1 : ((flatC (Jvm.Cond.and given_1 narrow_1)).drop 85).take 9 = strL 1 := by decide +kernel
theorem nine_2 : ((flatC (Jvm.Cond.and given_1 narrow_1)).drop 94).take 7 = strL 2 := by decide +kernel
theorem nine_3 : ((flatC (Jvm.Cond.and given_1 narrow_1)).drop 101).take 8 = strL 3 := by decide +kernel
theorem nine_4 : ((flatC (Jvm.Cond.and given_1 narrow_1)).drop 109).take 8 = strL 4 := by decide +kernel
theorem nine_5 : ((flatC (Jvm.Cond.and given_1 narrow_1)).drop 117).take 8 = strL 5 := by decide +kernel
theorem nine_6 : ((flatC (Jvm.Cond.and given_1 narrow_1)).drop 125).take 7 = strL 6 := by decide +kernel
theorem nine_7 : ((flatC (Jvm.Cond.and given_1 narrow_1)).drop 132).take 8 = strL 7 := by decide +kernel
theorem nine_8 : ((flatC (Jvm.Cond.and given_1 narrow_1)).drop 140).take 11 = strL 8 := by decide +kernel
theorem nine_9 : ((flatC (Jvm.Cond.and given_1 narrow_1)).drop 151).take 8 = strL 9 := by decide +kernel
theorem nine_10 : ((flatC (Jvm.Cond.and given_1 narrow_1)).drop 159).take 10 = strL 10 := by decide +kernel
theorem nine_11 : ((flatC (Jvm.Cond.and given_1 narrow_1)).drop 169).take 8 = strL 11 := by decide +kernel
theorem nine_12 : ((flatC (Jvm.Cond.and given_1 narrow_1)).drop 177).take 30 = strL 12 := by decide +kernel
theorem nine_13 : ((flatC (Jvm.Cond.and given_1 narrow_1)).drop 207).take 16 = strL 13 := by decide +kernel
theorem nine_14 : ((flatC (Jvm.Cond.and given_1 narrow_1)).drop 223).take 17 = strL 14 := by decide +kernel
theorem nine_15 : ((flatC (Jvm.Cond.and given_1 narrow_1)).drop 240).take 17 = strL 15 := by decide +kernel
theorem nine_16 : ((flatC (Jvm.Cond.and given_1 narrow_1)).drop 257).take 29 = strL 16 := by decide +kernel
theorem nine_17 : ((flatC (Jvm.Cond.and given_1 narrow_1)).drop 286).take 16 = strL 17 := by decide +kernel
theorem nine_18 : ((flatC (Jvm.Cond.and given_1 narrow_1)).drop 302).take 28 = strL 18 := by decide +kernel
theorem nine_19 : ((flatC (Jvm.Cond.and given_1 narrow_1)).drop 330).take 21 = strL 19 := by decide +kernel
theorem nine_20 : ((flatC (Jvm.Cond.and given_1 narrow_1)).drop 351).take 26 = strL 20 := by decide +kernel
theorem nine_21 : ((flatC (Jvm.Cond.and given_1 narrow_1)).drop 377).take 10 = strL 21 := by decide +kernel
theorem nine_22 : ((flatC (Jvm.Cond.and given_1 narrow_1)).drop 388).take 9 = strL 22 := by decide +kernel
theorem nine_23 : ((flatC (Jvm.Cond.and given_1 narrow_1)).drop 398).take 7 = strL 23 := by decide +kernel
theorem nine_24 : ((flatC (Jvm.Cond.and given_1 narrow_1)).drop 406).take 8 = strL 24 := by decide +kernel
theorem nine_25 : ((flatC (Jvm.Cond.and given_1 narrow_1)).drop 415).take 8 = strL 25 := by decide +kernel
theorem nine_26 : ((flatC (Jvm.Cond.and given_1 narrow_1)).drop 424).take 8 = strL 26 := by decide +kernel
theorem nine_27 : ((flatC (Jvm.Cond.and given_1 narrow_1)).drop 433).take 7 = strL 27 := by decide +kernel
theorem nine_28 : ((flatC (Jvm.Cond.and given_1 narrow_1)).drop 441).take 8 = strL 28 := by decide +kernel
theorem nine_29 : ((flatC (Jvm.Cond.and given_1 narrow_1)).drop 450).take 11 = strL 29 := by decide +kernel
theorem nine_30 : ((flatC (Jvm.Cond.and given_1 narrow_1)).drop 462).take 8 = strL 30 := by decide +kernel
theorem nine_31 : ((flatC (Jvm.Cond.and given_1 narrow_1)).drop 471).take 10 = strL 31 := by decide +kernel
theorem nine_32 : ((flatC (Jvm.Cond.and given_1 narrow_1)).drop 482).take 8 = strL 32 := by decide +kernel
theorem nine_in (i : Nat) (hi : i < 33) : ∀ w ∈ strL i, w ∈ flatC (Jvm.Cond.and given_1 narrow_1) := by
  have key : ∃ p n, ((flatC (Jvm.Cond.and given_1 narrow_1)).drop p).take n = strL i := by
    rcases (show i = 0 ∨ i = 1 ∨ i = 2 ∨ i = 3 ∨ i = 4 ∨ i = 5 ∨ i = 6 ∨ i = 7 ∨ i = 8 ∨ i = 9 ∨ i = 10 ∨ i = 11 ∨ i = 12 ∨ i = 13 ∨ i = 14 ∨ i = 15 ∨ i = 16 ∨ i = 17 ∨ i = 18 ∨ i = 19 ∨ i = 20 ∨ i = 21 ∨ i = 22 ∨ i = 23 ∨ i = 24 ∨ i = 25 ∨ i = 26 ∨ i = 27 ∨ i = 28 ∨ i = 29 ∨ i = 30 ∨ i = 31 ∨ i = 32 by omega) with rfl | rfl | rfl | rfl | rfl | rfl | rfl | rfl | rfl | rfl | rfl | rfl | rfl | rfl | rfl | rfl | rfl | rfl | rfl | rfl | rfl | rfl | rfl | rfl | rfl | rfl | rfl | rfl | rfl | rfl | rfl | rfl | rfl
    · exact ⟨_, _, nine_0⟩
    · exact ⟨_, _, nine_1⟩
    · exact ⟨_, _, nine_2⟩
    · exact ⟨_, _, nine_3⟩
    · exact ⟨_, _, nine_4⟩
    · exact ⟨_, _, nine_5⟩
    · exact ⟨_, _, nine_6⟩
    · exact ⟨_, _, nine_7⟩
    · exact ⟨_, _, nine_8⟩
    · exact ⟨_, _, nine_9⟩
    · exact ⟨_, _, nine_10⟩
    · exact ⟨_, _, nine_11⟩
    · exact ⟨_, _, nine_12⟩
    · exact ⟨_, _, nine_13⟩
    · exact ⟨_, _, nine_14⟩
    · exact ⟨_, _, nine_15⟩
    · exact ⟨_, _, nine_16⟩
    · exact ⟨_, _, nine_17⟩
    · exact ⟨_, _, nine_18⟩
    · exact ⟨_, _, nine_19⟩
    · exact ⟨_, _, nine_20⟩
    · exact ⟨_, _, nine_21⟩
    · exact ⟨_, _, nine_22⟩
    · exact ⟨_, _, nine_23⟩
    · exact ⟨_, _, nine_24⟩
    · exact ⟨_, _, nine_25⟩
    · exact ⟨_, _, nine_26⟩
    · exact ⟨_, _, nine_27⟩
    · exact ⟨_, _, nine_28⟩
    · exact ⟨_, _, nine_29⟩
    · exact ⟨_, _, nine_30⟩
    · exact ⟨_, _, nine_31⟩
    · exact ⟨_, _, nine_32⟩
  obtain ⟨p, n, e⟩ := key
  intro w hw
  rw [← e] at hw
  exact List.mem_of_mem_drop (List.mem_of_mem_take hw)
theorem nine_ref : ((List.range 33).all fun i => decide (Cond.stringRef (hSo i) (hSk i) (hSx i) ∈ tables_1)) = true := by decide +kernel
theorem nine_len : ((List.range 33).all fun i => decide ((hSb2 i).length < 2 ^ 31)) = true := by decide +kernel
theorem hT_of {b : Nat} {s : State} (hts : ∀ w ∈ lw_tbl, w.before #[Value.ref b] s = true) {w : Cond} (i : Nat) (h : tables_1[i]? = some w) : w.before #[Value.ref b] s = true := hts w (List.mem_append_right _ (List.mem_of_getElem? h))
theorem str_at {b : Nat} {s : State} {A : Nat → Prop} (hts : ∀ w ∈ lw_tbl, w.before #[Value.ref b] s = true) (hgv : (Jvm.Cond.and given_1 narrow_1).before #[Value.ref b] s = true) (hA : ∀ a : Nat, a < s.heap.size → ¬ A a) (i : Nat) (hi : i < 33) : ∃ q : Nat × Nat, vk_R (hSo i) (hSk i) (hSx i) q.1 s ∧ hLs i q.1 q.2 A s s.heap := by
  have hs := flat_of_before _ hgv
  have hin := nine_in i hi
  have e1 := hin _ (List.mem_append_left _ List.mem_cons_self)
  have e2 := hin _ (List.mem_append_left _ (List.mem_cons_of_mem _ List.mem_cons_self))
  have e3 := hin _ (List.mem_append_left _ (List.mem_cons_of_mem _ (List.mem_cons_of_mem _ List.mem_cons_self)))
  have e4 := hin _ (List.mem_append_left _ (List.mem_cons_of_mem _ (List.mem_cons_of_mem _ (List.mem_cons_of_mem _ List.mem_cons_self))))
  have e5 : ∀ j, j < (hSb2 i).length → Cond.eq (.elem (.field (Term.string (hSo i) (hSk i)) "java/lang/String" "value" "[B") (.int (Int32.ofNat j))) (.int ((hSb2 i).getD j 0)) ∈ flatC (Jvm.Cond.and given_1 narrow_1) := fun j hj => hin _ (List.mem_append_right _ (List.mem_map.mpr ⟨j, List.mem_range.mpr hj, rfl⟩))
  have e6 : Cond.stringRef (hSo i) (hSk i) (hSx i) ∈ tables_1 := of_decide_eq_true (List.all_eq_true.mp nine_ref i (List.mem_range.mpr hi))
  have e7 : (hSb2 i).length < 2 ^ 31 := of_decide_eq_true (List.all_eq_true.mp nine_len i (List.mem_range.mpr hi))
  have z0 : ∀ {k : Nat}, k < 1 → k = 0 := fun h => by omega
  obtain ⟨adK, adV, ⟨hv, -⟩, ht⟩ := vk_Sof (args := #[Value.ref b]) (s := s) (N := 1) (tm := fun _ => Term.string (hSo i) (hSk i)) (len := [(hSb2 i).length]) (byt := [hSb2 i]) (A := A) (fun k hk => by rw [z0 hk]; exact e7) (fun k hk => hs _ e1) (fun k hk => hs _ e2) (fun k hk => hs _ e3) (fun k hk => by rw [z0 hk]; exact hs _ e4)
    (fun k hk j hj => by rw [z0 hk] at hj ⊢; exact hs _ (e5 j hj)) (fun i j hi hj hne => absurd ((z0 hi).trans (z0 hj).symm) hne) hA
  exact ⟨(adK 0, adV 0), vk_R.of (hts _ (List.mem_append_right _ e6)) (ht 0 (by decide)), hv 0 (by decide)⟩
theorem hFx_start {b : Nat} {s : State} {A : Nat → Prop} (hts : ∀ w ∈ lw_tbl, w.before #[Value.ref b] s = true) (hgv : (Jvm.Cond.and given_1 narrow_1).before #[Value.ref b] s = true) (hA : ∀ a : Nat, a < s.heap.size → ¬ A a) : ∃ a : (Nat → Nat) × (Nat → Nat), hFx A a s s.heap := by
  have hs := flat_of_before _ hgv
  have hT : ∀ {w : Cond} (i : Nat), tables_1[i]? = some w → w.before #[Value.ref b] s = true := fun i h => hT_of hts i h
  have h0 : ∀ i : Nat, ∃ q : Nat × Nat, i < 33 → vk_R (hSo i) (hSk i) (hSx i) q.1 s ∧ hLs i q.1 q.2 A s s.heap := by
    intro i
    by_cases hi : i < 33
    · obtain ⟨q, hq⟩ := str_at hts hgv hA i hi
      exact ⟨q, fun _ => hq⟩
    · exact ⟨(0, 0), fun h => absurd h hi⟩
  obtain ⟨ad, had⟩ := Classical.axiomOfChoice h0
  refine ⟨(fun i => (ad i).1, fun i => (ad i).2), ⟨vx_Zqof (args := #[Value.ref b]) (hT 853 (by decide +kernel)) (hT 11 (by decide +kernel)) (hs _ (by decide +kernel)) hA, vx_Zqof (args := #[Value.ref b]) (hT 855 (by decide +kernel)) (hT 11 (by decide +kernel)) (hs _ (by decide +kernel)) hA⟩, fun w hw => ?_, ⟨va_Nc.of (args := #[Value.ref b]) (hs _ (by decide +kernel)), va_Nc.of (args := #[Value.ref b]) (hs _ (by decide +kernel))⟩, ⟨va_Zof (args := #[Value.ref b]) (hT 378 (by decide +kernel)) (hT 17 (by decide +kernel)) (va_eqt (hs _ (by decide +kernel))) hA, va_Zqof (args := #[Value.ref b]) (hT 394 (by decide +kernel)) (hT 19 (by decide +kernel)) (hs _ (by decide +kernel)) hA⟩, fun i hi => (had i hi).1, fun i hi => (had i hi).2⟩
  simp only [hXw, List.mem_cons, List.not_mem_nil, or_false] at hw
  rcases hw with rfl | rfl | rfl | rfl | rfl | rfl
  · exact va_Nw.of rfl (hT 828 (by decide +kernel))
  · exact va_Nw.of rfl (hT 910 (by decide +kernel))
  · exact va_Nw.of rfl (hT 966 (by decide +kernel))
  · exact va_Nw.of rfl (hT 830 (by decide +kernel))
  · exact va_Nw.of rfl (hT 832 (by decide +kernel))
  · exact va_Nw.of rfl (hT 834 (by decide +kernel))
/-- the classes and the classes of arrays, as the tables have them -/
theorem cls_start {b : Nat} {s : State} (hts : ∀ w ∈ lw_tbl, w.before #[Value.ref b] s = true) : ∃ (D : va_G) (cA : Nat → ClassId), ∀ (n : Nat) (aa : (Nat → Nat) × (Nat → Nat)), va_K D hCl (hTys (n, D, cA, aa)) s := by
  have htb : ∀ w ∈ hTB, w.before #[Value.ref b] s = true := fun w hw => hts w (List.mem_filter.mp hw).1
  have hT : ∀ {w : Cond} (i : Nat), tables_1[i]? = some w → w.before #[Value.ref b] s = true := fun i h => hT_of hts i h
  have hp : ∀ ty : FieldType, (∀ C, ty ≠ .object C) → (Cond.arrayClass ty).before #[Value.ref b] s = true → ∃ c : ClassId, ArrOfT s c ty ∧ va_RA s c ty := by
    intro ty hne h
    obtain ⟨c, k, comp, h1, h2, h3⟩ := Cond.arrayClass_spec h
    refine ⟨c, fun n z => ⟨fun k h => (by cases h), k, h2, comp, h3⟩, ?_⟩
    cases ty <;> first | exact h1 | exact absurd rfl (hne _)
  have hq : ∀ C : String, (Cond.arrayOver (.object C)).before #[Value.ref b] s = true → ∃ c : ClassId, ArrOfT s c (.object C) ∧ va_RA s c (.object C) := by
    intro C h
    obtain ⟨comp, c, k, h1, h2, h3, h4, h5⟩ := Cond.arrayOver_spec h
    exact ⟨c, fun n z => ⟨fun k h => (by cases h), k, h3, comp, h4⟩, k, comp, h3, h4, h1, h5⟩
  obtain ⟨c0, i0, k0⟩ := u_known (C := RX0) (T := TX0) (N := 5) (n := 5) htb inX0 (hT 106 (by decide +kernel))
  obtain ⟨c1, i1, k1⟩ := u_known (C := RX1) (T := TX1) (N := 13) (n := 13) htb inX1 (hT 136 (by decide +kernel))
  obtain ⟨c2, i2, k2⟩ := u_known (C := RX2) (T := TX2) (N := 2) (n := 2) htb inX2 (hT 142 (by decide +kernel))
  obtain ⟨c3, i3, k3⟩ := u_known (C := RX3) (T := TX3) (N := 9) (n := 9) htb inX3 (hT 98 (by decide +kernel))
  obtain ⟨c4, i4, k4⟩ := u_known (C := RX4) (T := TX4) (N := 3) (n := 3) htb inX4 (hT 80 (by decide +kernel))
  obtain ⟨c5, i5, k5⟩ := u_known (C := RX5) (T := TX5) (N := 2) (n := 2) htb inX5 (hT 39 (by decide +kernel))
  obtain ⟨c6, i6, k6⟩ := u_known (C := RX6) (T := TX6) (N := 7) (n := 7) htb inX6 (hT 33 (by decide +kernel))
  obtain ⟨c7, i7, k7⟩ := u_known (C := RX7) (T := TX7) (N := 3) (n := 3) htb inX7 (hT 254 (by decide +kernel))
  obtain ⟨c8, i8, k8⟩ := u_known (C := RX8) (T := TX8) (N := 9) (n := 9) htb inX8 (hT 25 (by decide +kernel))
  obtain ⟨c9, i9, k9⟩ := u_known (C := RX9) (T := TX9) (N := 18) (n := 18) htb inX9 (hT 1364 (by decide +kernel))
  obtain ⟨a0, r0⟩ := hp .int (fun C h => by cases h) (hT 96 (by decide +kernel))
  obtain ⟨a1, r1⟩ := hp .byte (fun C h => by cases h) (hT 53 (by decide +kernel))
  obtain ⟨a2, r2⟩ := hp .boolean (fun C h => by cases h) (hT 327 (by decide +kernel))
  obtain ⟨a3, r3⟩ := hq "HomeworkBarter$Pupil" (hT 104 (by decide +kernel))
  obtain ⟨a4, r4⟩ := hq "HomeworkBarter$School" (hT 260 (by decide +kernel))
  obtain ⟨a5, r5⟩ := hp .long (fun C h => by cases h) (hT 1982 (by decide +kernel))
  obtain ⟨a6, r6⟩ := hp .double (fun C h => by cases h) (hT 1983 (by decide +kernel))
  refine ⟨(fun k => [c0, c1, c2, c3, c4, c5, c6, c7, c8, c9].getD k c0, fun k => [i0, i1, i2, i3, i4, i5, i6, i7, i8, i9].getD k i0), fun k => [a0, a1, a2, a3, a4, a5, a6].getD k a0, fun n aa => ⟨fun k q hq => ?_, fun k q hq => ?_⟩⟩
  · match k, hq with
    | 0, hq => cases hq; exact k0
    | 1, hq => cases hq; exact k1
    | 2, hq => cases hq; exact k2
    | 3, hq => cases hq; exact k3
    | 4, hq => cases hq; exact k4
    | 5, hq => cases hq; exact k5
    | 6, hq => cases hq; exact k6
    | 7, hq => cases hq; exact k7
    | 8, hq => cases hq; exact k8
    | 9, hq => cases hq; exact k9
    | k + 10, hq => cases hq
  · match k, hq with
    | 0, hq => cases hq; exact r0
    | 1, hq => cases hq; exact r1
    | 2, hq => cases hq; exact r2
    | 3, hq => cases hq; exact r3
    | 4, hq => cases hq; exact r4
    | 5, hq => cases hq; exact r5
    | 6, hq => cases hq; exact r6
    | k + 7, hq => cases hq
set_option maxHeartbeats 4000000 in
/-- THE LAW, from its entry -/
theorem whole_start {p : Program} {e : Env} {s : State} {m : MethodId} {below : List Frame} {meth : Method} {c : Code} (l : Launch) (hflags : l.flags = flags0) {b L : Nat} {xs : Nat → Int32} (hL : L ≤ 2560) (C0 : lw_At p s m meth c b L xs) (htab : c.exceptionTable.toList = []) : W p l e room_1 s m #[Value.ref b] below meth c s.heap [] 0 0 (lw_Z below #[Value.ref b] s) (entryFrame m ([Value.ref b] : List Value).toArray 10) := by
  obtain ⟨hx, hb, hr, hml, hown, hts, hX, hbl, hlocks, hgv⟩ := C0
  have htb : ∀ w ∈ hTB, w.before #[Value.ref b] s = true := fun w hw => hts w (List.mem_filter.mp hw).1
  have hT : ∀ {w : Cond} (i : Nat), tables_1[i]? = some w → w.before #[Value.ref b] s = true := fun i h => hT_of hts i h
  obtain ⟨aa, hfx⟩ := hFx_start (A := fun q => s.heap.size ≤ q) hts hgv (fun a h => Nat.not_le.mpr h)
  obtain ⟨D, cA, hKs⟩ := cls_start hts
  have hK := hKs s.heap.size aa
  obtain ⟨E, hE⟩ : ∃ E : Ed, E = (s.heap.size, D, cA, aa) := ⟨_, rfl⟩
  have hE1 : E.1 = s.heap.size := by rw [hE]
  have hK : va_K E.2.1 hCl (hTys E) s := by rw [hE]; exact hK
  have hFE : hF E s s.heap := by rw [hE]; exact hfx
  clear hE hKs hfx
  have hNs0 : hNs s := ⟨va_Nw.of rfl (hT 81 (by decide +kernel)), va_Nw.of rfl (hT 107 (by decide +kernel)), va_Nw.of rfl (hT 143 (by decide +kernel)), va_AO.of (hT 104 (by decide +kernel)), va_AO.of (hT 260 (by decide +kernel))⟩
  have hAm : ∀ q, s.heap.size ≤ q → hA E q := fun q hq => (show E.1 ≤ q by omega)
  have hst : l.stackTraces = false := by
    unfold Launch.stackTraces
    rw [hflags]
    decide
  obtain ⟨C, hCd⟩ : ∃ C : Cx, C = (p, l, e, s, m, #[Value.ref b], below, meth, c, lw_Z below #[Value.ref b] s) := ⟨_, rfl⟩
  have hSX : hSc E C b L xs := by
    rw [hCd]
    exact ⟨hX, hbl, fun q => absurd (show E.1 ≤ b from q) (by omega)⟩
  -- the end
  have hend : ∀ (cs ss : Nat) (M : Mm) (lv : List (Nat × Value)), cs ≤ 601024 → ss ≤ 7293034 → G E C RL cL_law zLw (fun _ _ => False) cs ss M 3395 lv [.int 1] := by
    intro cs ss M lv h1 h2
    rw [hCd]
    intro K H locs ls hP hS hl
    exact va_forget (fun q hq => by have := hS.2.2 q hq; exact (show s.heap.size ≤ q.base by rw [← hE1]; exact this)) (W.widen h1 h2 (W.base (lw_ret (Drawn.sameBut.refl s.drawn lw_cs) hx hb hr hlocks dL_law_3395)))
  -- the loop, once both objects and both arrays stand
  have hloop : J E C RL cL_law zLw (fun _ _ _ => False) 703 19086 703 (fE E MB) 28 (lvL E b 0) [] := by
    have hg := l_loop hSX hL hend (L / 5) 0 703 19086 MB g0 (by omega) (by decide) (by omega) (by omega) (by omega) CG0 MG0 Okg0
    rw [hCd] at hg ⊢
    intro K H locs ls hP hN hS hl
    exact hg ⟨hx, hb, hr, hlocks, hml, hown, htb, htab, hK, hFE, hst, hAm, fun t ht => by
      obtain ⟨o, -, -, h⟩ := ht
      rcases h with ⟨h, -⟩ | ⟨q, -, X, ce, L', h, -⟩
      · obtain ⟨v, M', -, h9, -⟩ := h
        exact h9.elim
      · obtain ⟨M', h9, -⟩ := h
        exact h9.elim⟩ H locs ls hP hS hl
  have hbody : J E C RL cL_law zLw (fun _ _ _ => False) 0 0 0 (fun _ => i0 E 0) 0 [(0, .ref b)] [] := by
    refine J_new (ci := 8) (ty := tyX8) (fs := [.null, .null, .null, .null, .null, .null, .null, .null, .null]) (cs' := 1) (ss' := 9) dL_law_0 inX8 rfl tyX8_ok (hq 24 (by decide +kernel) rfl) (hq 25 (by decide +kernel) rfl) (hq 1 (by decide +kernel) rfl) zfX8 rfl rfl (Nat.le_of_ble_eq_true rfl) (Nat.le_of_ble_eq_true rfl) ?_
    refine J_dup dL_law_3 rfl ?_
    refine J_callI (n := 0) (y := yX8_init) (b' := cX8_init) (z' := zk_X8) (as := []) (rest := [.ref (E.1 + 0)]) (cs' := 694) (ss' := 9816) dL_law_4 (hq 26 (by decide +kernel) rfl) (hq 1 (by decide +kernel) rfl) (hq 28 (by decide +kernel) rfl) (hq 27 (by decide +kernel) rfl) rfl rfl ⟨by decide, by decide, by decide +kernel⟩ rfl rfl (Nat.le_of_ble_eq_true rfl) (Nat.le_of_ble_eq_true rfl) (Nat.le_of_ble_eq_true rfl) rfl rfl (Nat.le_of_ble_eq_true rfl) (Nat.le_of_ble_eq_true rfl) ?_
    refine k_X8_init (by repeat (first | exact vu_at | assumption | refine (vu_ne (by omega)).trans ?_)) (hGj_v ?_)
    refine J_astore_n dL_law_7 (Nat.le_of_ble_eq_true rfl) ?_
    refine J_new (ci := 9) (ty := tyX9) (fs := [.null, .null, .null, .int 0, .int 0, .int 0, .null, .int 0, .int 0, .int 0, .int 0, .int 0, .int 0, .int 0, .null, .int 0, .null, .int 0]) (cs' := 695) (ss' := 9834) dL_law_8 inX9 rfl tyX9_ok (hq 1363 (by decide +kernel) rfl) (hq 1364 (by decide +kernel) rfl) (hq 10 (by decide +kernel) rfl) zfX9 rfl rfl (Nat.le_of_ble_eq_true rfl) (Nat.le_of_ble_eq_true rfl) ?_
    refine J_dup dL_law_11 rfl ?_
    refine J_callI (n := 0) (y := yX9_init) (b' := cX9_init) (z' := zk_X9) (as := []) (rest := [.ref (E.1 + 694)]) (cs' := 701) (ss' := 19083) dL_law_12 (hq 1365 (by decide +kernel) rfl) (hq 10 (by decide +kernel) rfl) (hq 1367 (by decide +kernel) rfl) (hq 1366 (by decide +kernel) rfl) rfl rfl ⟨by decide, by decide, by decide +kernel⟩ rfl rfl (Nat.le_of_ble_eq_true rfl) (Nat.le_of_ble_eq_true rfl) (Nat.le_of_ble_eq_true rfl) rfl rfl (Nat.le_of_ble_eq_true rfl) (Nat.le_of_ble_eq_true rfl) ?_
    refine k_X9_init (M := MA) (fun k hk => vu_ne (by omega)) MA_hi rfl vu_at (hGj_v ?_)
    refine J_astore_n dL_law_15 (Nat.le_of_ble_eq_true rfl) ?_
    refine J_iconst (v := 1) dL_law_16 (by decide) ?_
    refine J_newa (t0 := 5) (n := 1) (atype := .long) (ty := .long) (a0 := (1, .inr (.inl (fun _ => 0)))) (cs' := 702) (ss' := 19084) dL_law_17 (hq 1982 (by decide +kernel) rfl) rfl (fun _ h => by cases h) rfl (fun _ => rfl) (by decide) (by decide) (Nat.le_of_ble_eq_true rfl) rfl rfl (Nat.le_of_ble_eq_true rfl) (Nat.le_of_ble_eq_true rfl) ?_
    refine J_astore_n dL_law_19 (Nat.le_of_ble_eq_true rfl) ?_
    refine J_iconst (v := 1) dL_law_20 (by decide) ?_
    refine J_newa (t0 := 6) (n := 1) (atype := .double) (ty := .double) (a0 := (1, .inr (.inr (.inr (.inl (fun _ => 0)))))) (cs' := 703) (ss' := 19085) dL_law_21 (hq 1983 (by decide +kernel) rfl) rfl (fun _ h => by cases h) rfl (fun _ => rfl) (by decide) (by decide) (Nat.le_of_ble_eq_true rfl) rfl rfl (Nat.le_of_ble_eq_true rfl) (Nat.le_of_ble_eq_true rfl) ?_
    refine J_astore dL_law_23 (Nat.le_of_ble_eq_true rfl) ?_
    refine J_iconst (v := 0) dL_law_25 (by decide) ?_
    refine J_istore dL_law_26 (Nat.le_of_ble_eq_true rfl) ?_
    refine J_wid (cs' := 703) (ss' := 19086) (by decide) (by decide) ?_
    refine J_ext (f' := fE E MB) (fun i hi => ?_) (J_lv2 hloop ⟨rfl, rfl, rfl, rfl, rfl, rfl, trivial⟩)
    by_cases e2 : i = 702
    · subst e2
      exact vu_at
    · by_cases e1 : i = 701
      · subst e1
        exact (vu_ne (by decide)).trans vu_at
      · exact (vu_ne e2).trans (vu_ne e1)
  rw [lg_entry_eq]
  rw [hCd] at hbody
  exact hbody ⟨hx, hb, hr, hlocks, hml, hown, htb, hK, hNs0, hAm, fun t ht => by
    obtain ⟨o, -, -, ⟨v, N, f, -, h9, -⟩, -⟩ := ht
    exact h9.elim⟩ s.heap [] _ (fun k q hq => by cases hq) (by rw [hE1]; rfl) va_S.rf (lv_entry ([Value.ref b] : List Value) (Nat.le_of_ble_eq_true rfl))
set_option maxHeartbeats 4000000 in
theorem lw_walk (l : Launch) (hflags : l.flags = flags0) (b : Addr) (xs : List Int32) : MetFree l x (headSpec (Jvm.Cond.code x code maxLocals ret :: tables_1) room_1) (lw_P b xs) (fun _ _ _ _ _ => True) lw_Q := by
  refine MetFree.of_bodyS (code := code) (maxLocals := maxLocals) (ret := ret) (by decide) ?_ ?_
  · intro args s m h hn
    obtain ⟨meth, c, h1, h2, h3, h4, h5, h6, -, -⟩ := Cond.code_spec hn (atoms_spec (ws := Jvm.Cond.code x code maxLocals ret :: tables_1) h _ List.mem_cons_self)
    exact ⟨meth, c, h1, h2, h3, h4, h5, h6⟩
  · intro p e s m args below meth c s₁ B hml0 hP _
    obtain ⟨rfl, hx, hbd, hgv⟩ := hP
    obtain ⟨scr, harrAt, hlist, hof, hsmall⟩ := hx
    obtain ⟨hcb, hkn, -, -⟩ := State.arrayAt?_spec harrAt
    have hown : s.vm.findClass R_law = some m.cls := findClass_of_methodNamed B.named
    have hts0 : ∀ c ∈ (Jvm.Cond.code x code maxLocals ret :: tables_1), c.before #[Value.ref b] s = true := atoms_spec (ws := Jvm.Cond.code x code maxLocals ret :: tables_1) B.pre
    have hts : ∀ w ∈ lw_tbl, w.before #[Value.ref b] s = true := k2_hts_sels lw_privs (fun w hw => hts0 w (List.mem_cons_of_mem _ hw)) lw_privs_ok
    have hml : c.maxLocals = 10 := B.maxLocals_eq (hts0 _ List.mem_cons_self)
    have X₀ : Stand p l e room_1 s m #[Value.ref b] below meth c s₁ [] 0 0 := Stand.of_body B
    have hh0 : s₁.heap = s.heap := by rw [B.state]; rfl
    have htab : c.exceptionTable.toList = [] := by
      obtain ⟨meth9, c9, h1, h2, -, -, -, -, h7, -⟩ := Cond.code_spec B.named (hts0 _ List.mem_cons_self)
      cases Option.some.inj (h1.symm.trans B.method)
      cases Option.some.inj (h2.symm.trans X₀.code)
      rw [Array.isEmpty_iff.mp h7]
    have hsz : scr.slots.size = xs.length := by rw [← Array.length_toList, hlist, List.length_map]
    have hval : ∀ j : Nat, j < xs.length → scr.slots[j]? = some (.int (xs.getD j 0)) := fun j hj => by
      rw [← Array.getElem?_toList, hlist]
      simp [hj]
    have hbl : b < s.heap.size := (Array.getElem?_eq_some_iff.mp hcb).1
    have hX : va_X b xs.length (fun j => xs.getD j 0) s s.heap := ⟨scr, hcb, hof, hkn, hsz, hval⟩
    have K : W p l e room_1 s m #[Value.ref b] below meth c s₁.heap [] 0 0 (lw_Z below #[Value.ref b] s) (entryFrame m ([Value.ref b] : List Value).toArray 10) := by
      rw [hh0]
      exact whole_start l hflags hbd ⟨B.exec, B.bytes, B.returns, hml, hown, hts, hX, hbl, B.notSynchronized, hgv⟩ htab
    obtain ⟨t, a1, o, b1, b2, b3⟩ := K s₁ rfl X₀
    exact ⟨t, o, a1, b1, b2, b3⟩
theorem lw_pre_spec {args : Array Value} {s : State} (h : (Jvm.Cond.and given_1 narrow_1).before args s = true) (hr : rest_1_c.before args s = true) : ∃ (b : Addr) (xs : List Int32), lw_P b xs args s := by
  have hs := flat_of_before _ h
  have hq := flat_of_before _ hr
  have hc : (Cond.count 1).before args s = true := hs _ (by decide +kernel)
  have harr : (Cond.arrayOf (.arg 0) .int).before args s = true := hs _ (by decide +kernel)
  have hle : (Cond.le (.length (.arg 0)) (.int 2560)).before args s = true := hs _ (by decide +kernel)
  have hlen : (Cond.isInt (.length (.arg 0))).before args s = true := hq _ (by decide +kernel)
  have hall : (Cond.all (.arg 0) (.isInt (.elem (.arg 0) (.index 0)))).before args s = true := hq _ (by decide +kernel)
  obtain ⟨b, xs, hb, hx⟩ := State.ints_of_pre rfl harr hlen hall
  have hsm : xs.length < 2 ^ 31 := hx.choose_spec.2.2.2
  have hev : (Term.length (.arg 0)).eval args s none [] s = some (.int xs.length.toInt32) := hx.length_eval hb
  have hv := Cond.le_ints hev (show (Term.int 2560).eval args s none [] s = some (.int 2560) from rfl)
  have hd : xs.length.toInt32 ≤ 2560 := by
    simpa [Cond.before, Cond.holds, hv] using hle
  have hN : xs.length ≤ 2560 := (Int32.ofNat_le_ofNat hsm (by decide)).mp (show Int32.ofNat xs.length ≤ Int32.ofNat 2560 from hd)
  exact ⟨b, xs, Cond.one_arg hc (show args[0]? = some (.ref b) from hb), hx, hN, h⟩
theorem lw_comes (l : Launch) (hflags : l.flags = flags0) : Comes l x (Jvm.Cond.code x code maxLocals ret :: tables_1) room_1 (fun tb e args s => Calls_1 tb e args s ∧ rest_1 tb e args s ∧ Pre_1 tb e args s)
    (fun _ _ args s o t => lw_Q args s o t) := by
  intro p e ha hc hk s m args below hf hfit hheap happ hpre
  obtain ⟨b, xs, hP⟩ := lw_pre_spec hpre.2.2 hpre.2.1
  obtain ⟨k, o, h1, h2, h3, hQ⟩ := lw_walk l hflags b xs p e ha hc hk s m args below hf ((Spec.applies_iff_loose hf).mp happ).1 hP trivial
  exact ⟨k, o, h1, h2, h3, hQ⟩
theorem lw_frame {s t : State} {o : Outcome} {args : Array Value} (h : State.butDraws s t lw_cs (fun t1 => Framed s o t1 [] 601024 7293034)) :
    State.butDraws s t [Jvm.Choice.named "NaN.bits"] (fun t1 => Framed s o t1 (fieldLocs frame_1_writes args s ++ arrayLocs frame_1_arrays args s ++ staticLocs frame_1_statics s) 601024 7293034) := h
theorem lw_limb (L : Cond) (hL : ∀ (args : Array Value) (s t : State), L.after args s (.returned (some (.int 1))) t = true) :
    ArmFor flags0 classFile x code maxLocals ret World_1 tables_1 room_1 Calls_1 rest_1 Pre_1
      (fun tb e a s o t => postC L tb e a s o t ∧ State.butDraws s t [Jvm.Choice.named "NaN.bits"] (fun t1 => Framed s o t1 (fieldLocs frame_1_writes a s ++ arrayLocs frame_1_arrays a s ++ staticLocs frame_1_statics s) 601024 7293034)) := by
  intro l hflags _ _ p e ha hc hk s m args below hf hfit hheap happ hpre
  obtain ⟨k, o, h1, h2, h3, rfl, hF⟩ := lw_comes l hflags p e ha hc hk s m args below hf hfit hheap happ hpre
  exact ⟨k, _, h1, h2, h3, hL args s _, lw_frame hF⟩
theorem i_vc : Claimed_1_1 ∧ Claimed_1_2 := ⟨lw_limb limb_1_1 (fun args s t => by simp [limb_1_1, Cond.after, Cond.holds, Cond.value]), lw_limb limb_1_2 (fun args s t => Cond.after_iff.mpr (by
  first | (rw [show limb_1_2 = Cond.eq .result (.int 1) from rfl, Cond.eq_ints (x := 1) (y := 1) rfl rfl]; simp; done) | (simp [limb_1_2, Cond.value, Term.eval]; done)))⟩
