/-! ===== a school as a value; copies; searching ===== -/
section HABS
variable {E : Ed} {C : Cx} {own : String} {b : ByteArray} {z : Zd} {P : Res → Mm → Prop} {cs ss pc : Nat} {M : Mm} {lv : List (Nat × Value)} {st : List Value}
theorem G_ldcw {index : Nat} {v : Int32} (d : decode b pc = .ok (.ldc_w index, 3)) (hw : Cond.constant own index v ∈ hTB) (g : G E C own b z P cs ss M (pc + 3) lv (.int v :: st)) : G E C own b z P cs ss M pc lv st := by
  obtain ⟨p', l, e, s, m, args, below, meth, c, Q⟩ := C
  intro K H locs ls hP hS hlv
  obtain ⟨hx, hb, hr, hlk, hml, hown, hts, htab, hK, hF, hst, hAm, hQ⟩ := id K
  exact lv_ldcw hx hb hown (hts _ hw) d (g K H locs ls hP hS hlv)
theorem G_callS2 {index n cs' ss' : Nat} {y : MethodName} {b' : ByteArray} {z' : Zd} {as rest st0 : List Value} (d : decode b pc = .ok (.invokestatic index, 3)) (lk : hLS own index y b' z' n) (hn : as.length = n) (hst0 : st0 = as.reverse ++ rest) (hroom : (rest.map fun v => v.category).sum ≤ 8) (hfr : z'.2.2.2.1 + 1 ≤ z.2.2.2.1) (hlo : 8 + (z'.1 + 11) + z'.2.2.2.2.1 ≤ z.2.2.2.2.1) (hcs : cs + z'.2.2.1.1 = cs') (hss : ss + z'.2.2.1.2 = ss') (hcm : cs' ≤ z.2.2.1.1) (hsm : ss' ≤ z.2.2.1.2) (hz : z.2.2.2.2.2 = [])
    (sp : Sp E y b' z' as M (hGo E C own b z P cs' ss' (pc + 3) lv rest)) : G E C own b z P cs ss M pc lv st0 := by
  subst hcs
  subst hss
  subst hst0
  obtain ⟨p', l, e, s, m, args, below, meth, c, Q⟩ := C
  intro K H locs ls hP hS hlv
  obtain ⟨hx, hb, hr, hlk, hml, hown, hts, htab, hK, hF1, hst, hAm, hQ⟩ := id K
  obtain ⟨⟨w1, w2, w3, w4, w5⟩, w6⟩ := lk
  have hM := sp (hN_go hAm.2) l hst
  rw [hWd_nil w4] at hM
  have hrun := vx_runS (e := e) (below := below) (meth := meth) (locs := locs) (g := F0 m pc ls (as.reverse ++ rest)) (As := as) (rest := rest) (R := zRoom z) (cells := cs) (slots := ss) ⟨hx, hb, hml, hown, hts⟩ hM ⟨callB_of n hts (hGoodC w3 (fun w h => h)) rfl rfl rfl (hts _ w2) (hts _ w1) w5 ⟨hfr, hlo⟩, hts _ w6⟩ ⟨hF_blind, fun U hU hW2 => ⟨rfl, hRep_at hU hW2 hP hK hF1 hS⟩⟩ rfl hn hlv.1 rfl (lv_room hroom) d ⟨hcm, hsm⟩
  intro T hT X
  rcases hrun T hT X with ⟨v, st₀, t, T', L, h0, X', hL, e1, e2, ⟨v', M', hv, hPm, hPt, hFr⟩, stp⟩ | ⟨q, st₀, t, T', L, Xn, ce, h0, X', hL, e1, e2, ⟨M', hPm, hPt, hFr⟩, hce, hcv, hcl2, stp⟩
  · cases hv
    obtain ⟨-, -, k3⟩ := vx_keep h0 e1 hS (fun _ _ h => h) (fun _ h => h) hL hFr
    obtain ⟨t2, a1, b1⟩ := hPm K T'.heap (locs ++ L) ls (by rw [e1]; exact hPt) k3 hlv T' rfl X'
    exact ⟨t2, stp t2 a1, b1⟩
  · obtain ⟨-, -, k3⟩ := vx_keep h0 e1 hS (fun _ _ h => h) (fun _ h => h) hL hFr
    obtain ⟨t2, a1, b1⟩ := vx_out (Qc := hQc E P) (XC := hXc E P) (mc := z.2.2.1.1) (ms := z.2.2.1.2) (free := hA E) (pc := pc) (ls := ls) (rest := rest) (fun x hx2 => by rw [htab, hz] at hx2; cases hx2) hlk (by rw [e1]; exact hce) hcv hcl2 (fun t3 ht3 _ => ⟨M', hPm, by rw [ht3, e1]; exact hPt, k3.F ht3⟩) k3.2.2 hcm hsm T' rfl X'
    exact ⟨t2, stp.trans a1, hQ _ b1⟩
theorem hqx {w : Cond} (i : Nat) (h : tables_1[i]? = some w) (g : goodWord w = true) : w ∈ hTB := hq i h g
def Mm.cp (M : Mm) (k j p : Nat) (row : Nat → Int32) : Mm := (mCp M.1 k j p row, M.2)
theorem cp_at {M : Mm} {k j p : Nat} {row : Nat → Int32} {t : Nat} : (M.cp k j p row).1 k j p t = row t := congrFun mCp_at t
theorem cp_nk {M : Mm} {k j p : Nat} {row : Nat → Int32} {k' j' p' t : Nat} (h : k' ≠ k) : (M.cp k j p row).1 k' j' p' t = M.1 k' j' p' t := congrFun (mCp_row (fun q => h (congrArg Prod.fst q))) t
theorem cp_nj {M : Mm} {k j p : Nat} {row : Nat → Int32} {k' j' p' t : Nat} (h : j' ≠ j) : (M.cp k j p row).1 k' j' p' t = M.1 k' j' p' t := congrFun (mCp_row (fun q => h (congrArg (fun z => z.2.1) q))) t
theorem cp_np {M : Mm} {k j p : Nat} {row : Nat → Int32} {k' j' p' t : Nat} (h : p' ≠ p) : (M.cp k j p row).1 k' j' p' t = M.1 k' j' p' t := congrFun (mCp_row (fun q => h (congrArg (fun z => z.2.2) q))) t
theorem hq_cp : Cond.native arraycopyName ∈ hTB ∧ Cond.static arraycopyName ∈ hTB ∧ Cond.initialized "java/lang/System" ∈ hTB := ⟨hq 476 (by decide +kernel) rfl, hq 475 (by decide +kernel) rfl, hq 18 (by decide +kernel) rfl⟩
theorem G_copyE {index n0 n1 k j p k1 j1 p1 sp dp n : Nat} {x1 x2 x3 : Int32} (d : decode b pc = .ok (.invokestatic index, 3)) (hw : Cond.methodLink own index arraycopyName ∈ hTB) (hok : hOk k j p) (hok1 : hOk k1 j1 p1) (hcell : hC E M k j p = .inl (E.2.2.1 0, n0, .inl (M.1 k j p))) (hcell1 : ∀ M', hC E M' k1 j1 p1 = .inl (E.2.2.1 0, n1, .inl (M'.1 k1 j1 p1)))
    (h1 : x1 = nI sp) (h2 : x2 = nI dp) (h3 : x3 = nI n) (h4 : sp + n ≤ n0) (h5 : dp + n ≤ n1) (hn0 : n0 < 2 ^ 31) (hn1 : n1 < 2 ^ 31) (hfr : 1 ≤ z.2.2.2.1) (hlo : (st.map fun v => v.category).sum + (nativeFrameWords "java/lang/System" "arraycopy" 5 + 11) ≤ z.2.2.2.2.1)
    (g : G E C own b z P cs ss (M.cp k1 j1 p1 (va_cpy (M.1 k j p) (M.1 k1 j1 p1) sp dp n)) (pc + 3) lv st) : G E C own b z P cs ss M pc lv (.int x3 :: .int x2 :: .ref (ad E k1 j1 p1) :: .int x1 :: .ref (ad E k j p) :: st) := by
  subst h1; subst h2; subst h3
  exact G_copy d hw hq_cp.1 hq_cp.2.1 hq_cp.2.2 hok hok1 hcell hcell1 h4 h5 hn0 hn1 hfr hlo g
/-- how many pupils; 1 .. 5 the week, WORK, LIMIT, DUE, DUE and 7 .. 16 the tallies; a pupil's fields (0 row, 1 seat, 2 and 3 skills, 4 spy, 5 strength, 6 proof, 7 marks, 8 detention, 9 witnesses); satchels (of pupil p: 2p, 2p + 1); debts -/
abbrev Ab : Type := Nat × (Nat → Int32) × (Nat → Nat → Int32) × (Nat → List Int32) × List (Int32 × Int32 × Int32 × Int32)
abbrev Ab.n (A : Ab) : Nat := A.1
abbrev Ab.g (A : Ab) : Nat → Int32 := A.2.1
abbrev Ab.f (A : Ab) : Nat → Nat → Int32 := A.2.2.1
abbrev Ab.s (A : Ab) : Nat → List Int32 := A.2.2.2.1
abbrev Ab.d (A : Ab) : List (Int32 × Int32 × Int32 × Int32) := A.2.2.2.2
def dg (d : List (Int32 × Int32 × Int32 × Int32)) (i : Nat) : Nat → Int32
  | 0 => (d.getD i (0, 0, 0, 0)).1
  | 1 => (d.getD i (0, 0, 0, 0)).2.1
  | 2 => (d.getD i (0, 0, 0, 0)).2.2.1
  | _ => (d.getD i (0, 0, 0, 0)).2.2.2
/-- where the class keeps a pupil's field -/
def pF : Nat → Nat
  | 0 => 3
  | 1 => 4
  | 2 => 11
  | 3 => 12
  | 4 => 5
  | 5 => 6
  | 6 => 7
  | 7 => 8
  | 8 => 9
  | _ => 10
def Dbt (M : Mm) (j : Nat) (d : List (Int32 × Int32 × Int32 × Int32)) : Prop := M.1 9 j 0 4 = nI d.length ∧ d.length ≤ 30 ∧ ∀ i, i < d.length → ∀ t, t < 4 → M.1 10 j t i = dg d i t
/-- the class's school j is A -/
def CR (M : Mm) (j : Nat) (A : Ab) : Prop := (M.1 7 j 0 3 = nI A.n ∧ A.n ≤ 12) ∧ (∀ t, t < 5 → M.1 7 j 0 (4 + t) = A.g (1 + t)) ∧ (∀ t, t < 10 → M.1 11 j 0 t = A.g (7 + t)) ∧ (∀ p, p < 12 → M.1 12 j p 0 = nI p) ∧ (∀ p, p < A.n → ∀ t, t < 10 → M.1 12 j p (pF t) = A.f p t) ∧ (∀ q, q < 2 * A.n → Sat M j q (A.s q)) ∧ Dbt M j A.d
theorem Sat.keep {M M' : Mm} {j q : Nat} {L : List Int32} (h : Sat M j q L) (e : ∀ k, k = 13 ∨ k = 14 → ∀ t, M'.1 k j q t = M.1 k j q t) : Sat M' j q L := ⟨(e 13 (Or.inl rfl) 1).trans h.1, h.2.1, fun k hk => (e 14 (Or.inr rfl) k).trans (h.2.2 k hk)⟩
theorem Dbt.keep {M M' : Mm} {j : Nat} {d : List (Int32 × Int32 × Int32 × Int32)} (h : Dbt M j d) (e : ∀ k, k = 9 ∨ k = 10 → ∀ p t, M'.1 k j p t = M.1 k j p t) : Dbt M' j d := ⟨(e 9 (Or.inl rfl) 0 4).trans h.1, h.2.1, fun i hi t ht => (e 10 (Or.inr rfl) t i).trans (h.2.2 i hi t ht)⟩
theorem CR.keep {M M' : Mm} {j : Nat} {A : Ab} (h : CR M j A) (e : ∀ k, 7 ≤ k → k ≤ 14 → ∀ p t, M'.1 k j p t = M.1 k j p t) : CR M' j A := by
  obtain ⟨h1, h2, h3, h4, h5, h6, h7⟩ := h
  exact ⟨⟨(e 7 (by decide) (by decide) 0 3).trans h1.1, h1.2⟩, fun t ht => (e 7 (by decide) (by decide) 0 _).trans (h2 t ht), fun t ht => (e 11 (by decide) (by decide) 0 _).trans (h3 t ht), fun p hp => (e 12 (by decide) (by decide) p 0).trans (h4 p hp), fun p hp t ht => (e 12 (by decide) (by decide) p _).trans (h5 p hp t ht),
    fun q hq => (h6 q hq).keep (fun k hk t => e k (by omega) (by omega) q t), h7.keep (fun k hk p t => e k (by omega) (by omega) p t)⟩
/-- the first i below n with p; -1 -/
def first (n : Nat) (p : Nat → Bool) : Int32 := match (List.range n).find? p with
  | some i => nI i
  | none => -1
theorem first_at {n i : Nat} {p : Nat → Bool} (hi : i < n) (h : ∀ k, k < i → p k = false) (hp : p i = true) : first n p = nI i := by
  unfold first
  have : (List.range n).find? p = some i := by
    rw [List.find?_range_eq_some]
    exact ⟨hp, List.mem_range.mpr hi, fun k hk => by rw [h k hk]; rfl⟩
  rw [this]
theorem first_none {n : Nat} {p : Nat → Bool} (h : ∀ k, k < n → p k = false) : first n p = -1 := by
  unfold first
  have : (List.range n).find? p = none := by
    rw [List.find?_eq_none]
    intro k hk
    rw [h k (List.mem_range.mp hk)]
    decide
  rw [this]
/-- the place x among those with p -/
def nth (p : Nat → Bool) : Nat → Nat → Int32 → Int32
  | 0, _, _ => -1
  | k + 1, i, x => if p i = true then (if x = 0 then nI i else nth p k (i + 1) (x - 1)) else nth p k (i + 1) x
/-- Integer.bitCount, step by step -/
def us (x : Int32) (k : Int32) : Int32 := (x.toUInt32 >>> (k.toUInt32 &&& Int32.toUInt32 31)).toInt32
def bc0 (x : Int32) : Int32 := x - (us x 1 &&& 1431655765)
def bc1 (x : Int32) : Int32 := (x &&& 858993459) + (us x 2 &&& 858993459)
def bc2 (x : Int32) : Int32 := (x + us x 4) &&& 252645135
def bc3 (x : Int32) : Int32 := x + us x 8
def bc4 (x : Int32) : Int32 := x + us x 16
def bc (x : Int32) : Int32 := bc4 (bc3 (bc2 (bc1 (bc0 x)))) &&& 63
end HABS
