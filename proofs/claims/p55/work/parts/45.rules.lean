/-! ===== further rules: switches, floats ===== -/
section HRULES3
variable {E : Ed} {C : Cx} {own : String} {b : ByteArray} {z : Zd} {P : Res → Mm → Prop} {cs ss : Nat} {M : Mm} {pc : Nat} {lv : List (Nat × Value)} {st : List Value}
theorem G_tOut {dflt lo hi : Int} {offs : Array Int} {len : Nat} {x : Int32} {tgt : Nat} (d : decode b pc = .ok (.tableswitch dflt lo hi offs, len)) (h : x.toInt < lo ∨ hi < x.toInt) (ht : (pc : Int) + dflt = (tgt : Int)) (g : G E C own b z P cs ss M tgt lv st) : G E C own b z P cs ss M pc lv (.int x :: st) := by
  obtain ⟨p, l, e, s, m, args, below, meth, c, Q⟩ := C
  intro K H locs ls hP hS hl
  exact lv_tableOut K.1 K.2.1 d h ht (g K H locs ls hP hS hl)
theorem G_tIn {dflt lo hi : Int} {offs : Array Int} {len : Nat} {x : Int32} {off : Int} {tgt : Nat} (d : decode b pc = .ok (.tableswitch dflt lo hi offs, len)) (h1 : ¬ x.toInt < lo) (h2 : ¬ hi < x.toInt) (ho : offs[(x.toInt - lo).toNat]? = some off) (ht : (pc : Int) + off = (tgt : Int)) (g : G E C own b z P cs ss M tgt lv st) : G E C own b z P cs ss M pc lv (.int x :: st) := by
  obtain ⟨p, l, e, s, m, args, below, meth, c, Q⟩ := C
  intro K H locs ls hP hS hl
  exact lv_tableIn K.1 K.2.1 d h1 h2 ho ht (g K H locs ls hP hS hl)
theorem G_lsw {dflt : Int} {ps : Array (Int × Int)} {len : Nat} {x : Int32} {off : Int} {tgt : Nat} (d : decode b pc = .ok (.lookupswitch dflt ps, len)) (hp : (ps.toList.zip (ps.toList.drop 1)).all (fun (a, next) => a.1 < next.1) = true) (ho : Op.lookupswitch.offset ps.toList dflt x.toInt = off) (ht : (pc : Int) + off = (tgt : Int)) (g : G E C own b z P cs ss M tgt lv st) : G E C own b z P cs ss M pc lv (.int x :: st) := by
  obtain ⟨p, l, e, s, m, args, below, meth, c, Q⟩ := C
  intro K H locs ls hP hS hl
  exact lv_lookup K.1 K.2.1 d hp ho ht (g K H locs ls hP hS hl)
theorem G_fconst0 (d : decode b pc = .ok (.fconst 0, 1)) (g : G E C own b z P cs ss M (pc + 1) lv (.float FP.fconst0 :: st)) : G E C own b z P cs ss M pc lv st := by
  obtain ⟨p, l, e, s, m, args, below, meth, c, Q⟩ := C
  intro K H locs ls hP hS hl
  exact lv_fconst0 K.1 K.2.1 d (g K H locs ls hP hS hl)
theorem G_dconst0 (d : decode b pc = .ok (.dconst 0, 1)) (g : G E C own b z P cs ss M (pc + 1) lv (.double FP.dconst0 :: st)) : G E C own b z P cs ss M pc lv st := by
  obtain ⟨p, l, e, s, m, args, below, meth, c, Q⟩ := C
  intro K H locs ls hP hS hl
  exact lv_dconst0 K.1 K.2.1 d (g K H locs ls hP hS hl)
theorem G_ddiv {x y : UInt64} (d : decode b pc = .ok (.ddiv, 1)) (hne : vf_n64 (FP.ddiv x y)) (g : G E C own b z P cs ss M (pc + 1) lv (.double (FP.ddiv x y) :: st)) : G E C own b z P cs ss M pc lv (.double y :: .double x :: st) := by
  obtain ⟨p, l, e, s, m, args, below, meth, c, Q⟩ := C
  intro K H locs ls hP hS hl
  exact lv_ddiv K.1 K.2.1 d hne (g K H locs ls hP hS hl)
theorem G_fdiv {x y : UInt32} (d : decode b pc = .ok (.fdiv, 1)) (hne : vf_n32 (FP.fdiv x y)) (g : G E C own b z P cs ss M (pc + 1) lv (.float (FP.fdiv x y) :: st)) : G E C own b z P cs ss M pc lv (.float y :: .float x :: st) := by
  obtain ⟨p, l, e, s, m, args, below, meth, c, Q⟩ := C
  intro K H locs ls hP hS hl
  exact lv_fdiv K.1 K.2.1 d hne (g K H locs ls hP hS hl)
theorem G_dret {x : UInt64} (d : decode b pc = .ok (.dreturn, 1)) (hz : z.2.1 = some .double) (hc : cs ≤ z.2.2.1.1) (hs : ss ≤ z.2.2.1.2) (h : P (.inl (some (.double x))) M) : G E C own b z P cs ss M pc lv [.double x] := by
  obtain ⟨p', l, e, s, m, args, below, meth, c, Q⟩ := C
  intro K H locs ls hP hS hlv
  obtain ⟨hx, hb, hr, hlk, hml, hown, hts, htab, hK, hF, hst, hAm, hQ⟩ := id K
  exact W_imp hQ (W.widen hc hs (vx_ret (W.dret hx hb (hr.trans hz) (fun t ht hW => ⟨_, M, rfl, h, by rw [ht]; exact hP, hS.F ht⟩) hS.2.2 d hlk)))
theorem G_fret {x : UInt32} (d : decode b pc = .ok (.freturn, 1)) (hz : z.2.1 = some .float) (hc : cs ≤ z.2.2.1.1) (hs : ss ≤ z.2.2.1.2) (h : P (.inl (some (.float x))) M) : G E C own b z P cs ss M pc lv [.float x] := by
  obtain ⟨p', l, e, s, m, args, below, meth, c, Q⟩ := C
  intro K H locs ls hP hS hlv
  obtain ⟨hx, hb, hr, hlk, hml, hown, hts, htab, hK, hF, hst, hAm, hQ⟩ := id K
  exact W_imp hQ (W.widen hc hs (vx_ret (W.fret hx hb (hr.trans hz) (fun t ht hW => ⟨_, M, rfl, h, by rw [ht]; exact hP, hS.F ht⟩) hS.2.2 d hlk)))
theorem hGo_d {r : UInt64} (g : G E C own b z P cs ss M pc lv (.double r :: st)) : hGo E C own b z P cs ss pc lv st (.inl (some (.double r))) M := g
theorem hGo_f {r : UInt32} (g : G E C own b z P cs ss M pc lv (.float r :: st)) : hGo E C own b z P cs ss pc lv st (.inl (some (.float r))) M := g
end HRULES3
