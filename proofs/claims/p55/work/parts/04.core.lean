/-! ===== THE WORLD: 694 objects and arrays at the addresses B .. B + 693; which is which by kind, school, place; and a list of further cells ===== -/
section HCORE
/-- the ints by (kind, school, place, slot); what else there is -/
abbrev Mm : Type := (Nat → Nat → Nat → Nat → Int32) × va_W
/-- where a school's 68 cells begin -/
def hSb (j : Nat) : Nat := if j < 2 then 7 + 68 * j else if j < 8 then 9 + 68 * j else 14 + 68 * j
def hOff (k j p : Nat) : Nat := match k with
  | 0 => 0
  | 1 => 1
  | 2 => if j = 0 then 2 else 556
  | 3 => if j = 0 then 3 else 557
  | 4 => 4
  | 5 => 5
  | 6 => 6
  | 7 => hSb j
  | 8 => hSb j + 1
  | 9 => hSb j + 2
  | 10 => hSb j + 3 + p
  | 11 => hSb j + 7
  | 12 => hSb j + 8 + 5 * p
  | 13 => hSb j + 9 + 5 * (p / 2) + 2 * (p % 2)
  | 14 => hSb j + 10 + 5 * (p / 2) + 2 * (p % 2)
  | 15 => 143
  | 16 => 144
  | 17 => 553
  | 18 => 554
  | _ => 555
def hSch (j r : Nat) : Nat × Nat × Nat :=
  if r = 0 then (7, j, 0) else if r = 1 then (8, j, 0) else if r = 2 then (9, j, 0) else if r < 7 then (10, j, r - 3) else if r = 7 then (11, j, 0)
  else if (r - 8) % 5 = 0 then (12, j, (r - 8) / 5) else if (r - 8) % 5 = 1 then (13, j, 2 * ((r - 8) / 5)) else if (r - 8) % 5 = 2 then (14, j, 2 * ((r - 8) / 5))
  else if (r - 8) % 5 = 3 then (13, j, 2 * ((r - 8) / 5) + 1) else (14, j, 2 * ((r - 8) / 5) + 1)
def hInv (i : Nat) : Nat × Nat × Nat :=
  if i < 4 then (i, 0, 0) else if i < 7 then (i, 0, 0) else if i < 143 then hSch ((i - 7) / 68) ((i - 7) % 68) else if i < 145 then (i - 128, 0, 0)
  else if i < 553 then hSch (2 + (i - 145) / 68) ((i - 145) % 68) else if i < 556 then (i - 536, 0, 0) else if i = 556 then (2, 1, 0) else if i = 557 then (3, 1, 0)
  else hSch (8 + (i - 558) / 68) ((i - 558) % 68)
/-- which places there are -/
def hOk (k j p : Nat) : Prop := match k with
  | 2 => j < 2 ∧ p = 0
  | 3 => j < 2 ∧ p = 0
  | 7 => j < 10 ∧ p = 0
  | 8 => j < 10 ∧ p = 0
  | 9 => j < 10 ∧ p = 0
  | 10 => j < 10 ∧ p < 4
  | 11 => j < 10 ∧ p = 0
  | 12 => j < 10 ∧ p < 12
  | 13 => j < 10 ∧ p < 24
  | 14 => j < 10 ∧ p < 24
  | k => k < 20 ∧ j = 0 ∧ p = 0
def hOkb (k j p : Nat) : Bool := match k with
  | 2 => decide (j < 2) && decide (p = 0)
  | 3 => decide (j < 2) && decide (p = 0)
  | 7 => decide (j < 10) && decide (p = 0)
  | 8 => decide (j < 10) && decide (p = 0)
  | 9 => decide (j < 10) && decide (p = 0)
  | 10 => decide (j < 10) && decide (p < 4)
  | 11 => decide (j < 10) && decide (p = 0)
  | 12 => decide (j < 10) && decide (p < 12)
  | 13 => decide (j < 10) && decide (p < 24)
  | 14 => decide (j < 10) && decide (p < 24)
  | k => decide (k < 20) && (decide (j = 0) && decide (p = 0))
theorem hOk_b {k j p : Nat} (h : hOk k j p) : hOkb k j p = true := by
  unfold hOk at h
  unfold hOkb
  split at h <;> simp_all
set_option maxRecDepth 100000 in
theorem hFinB : ((List.range 20).all fun k => (List.range 10).all fun j => (List.range 24).all fun p => !hOkb k j p || (decide (hOff k j p < 694) && decide (hInv (hOff k j p) = (k, j, p)))) = true := by decide +kernel
theorem hFin (k : Nat) (hk : k < 20) (j : Nat) (hj : j < 10) (p : Nat) (hp : p < 24) (h : hOkb k j p = true) : hOff k j p < 694 ∧ hInv (hOff k j p) = (k, j, p) := by
  have h1 := List.all_eq_true.mp hFinB k (List.mem_range.mpr hk)
  have h2 := List.all_eq_true.mp h1 j (List.mem_range.mpr hj)
  have h3 := List.all_eq_true.mp h2 p (List.mem_range.mpr hp)
  rw [h] at h3
  simpa using h3
theorem hOk_lt {k j p : Nat} (h : hOk k j p) : k < 20 ∧ j < 10 ∧ p < 24 := by
  unfold hOk at h
  split at h <;> omega
theorem hOff_lt {k j p : Nat} (h : hOk k j p) : hOff k j p < 694 := (hFin k (hOk_lt h).1 j (hOk_lt h).2.1 p (hOk_lt h).2.2 (hOk_b h)).1
theorem hInv_off {k j p : Nat} (h : hOk k j p) : hInv (hOff k j p) = (k, j, p) := (hFin k (hOk_lt h).1 j (hOk_lt h).2.1 p (hOk_lt h).2.2 (hOk_b h)).2
set_option maxRecDepth 100000 in
theorem hBackB : ((List.range 694).all fun i => decide (hOff (hInv i).1 (hInv i).2.1 (hInv i).2.2 = i)) = true := by decide +kernel
theorem hBack (i : Nat) (h : i < 694) : hOff (hInv i).1 (hInv i).2.1 (hInv i).2.2 = i := of_decide_eq_true (List.all_eq_true.mp hBackB i (List.mem_range.mpr h))
/-- base, where the classes lie, the classes of arrays (0 int, 1 byte, 2 boolean, 3 Pupil, 4 School, 5 long, 6 double) -/
abbrev Ed : Type := Nat × va_G × (Nat → ClassId) × (Nat → Nat) × (Nat → Nat)
def ad (E : Ed) (k j p : Nat) : Nat := E.1 + hOff k j p
abbrev hCl : List vw_C := [(RX0, TX0, 5), (RX1, TX1, 13), (RX2, TX2, 2), (RX3, TX3, 9), (RX4, TX4, 3), (RX5, TX5, 2), (RX6, TX6, 7), (RX7, TX7, 3), (RX8, TX8, 9), (RX9, TX9, 2), (RJ0, TJ0, 4), (RJ4, TJ4, 4)]
def hTys (E : Ed) : List (ClassId × FieldType) := [(E.2.2.1 0, .int), (E.2.2.1 1, .byte), (E.2.2.1 2, .boolean), (E.2.2.1 3, .object "HomeworkBarter$Pupil"), (E.2.2.1 4, .object "HomeworkBarter$School")]
/-- what a cell holds -/
def hC (E : Ed) (M : Mm) (k j p : Nat) : va_E := match k with
  | 0 => .inr (8, [.ref (ad E 1 0 0), .ref (ad E 4 0 0), .ref (ad E 7 0 0), .ref (ad E 7 1 0), .ref (ad E 15 0 0), .ref (ad E 17 0 0), .ref (ad E 18 0 0), .ref (ad E 19 0 0), .ref (ad E 2 1 0)])
  | 1 => .inr (6, [.ref (ad E 2 0 0), .int (M.1 1 j p 1), .int (M.1 1 j p 2), .int (M.1 1 j p 3), .int (M.1 1 j p 4), .int (M.1 1 j p 5), .int (M.1 1 j p 6)])
  | 2 => .inr (5, [.ref (ad E 3 j 0), .int (M.1 2 j p 1)])
  | 3 => .inl (E.2.2.1 1, (if j = 0 then 500 else 256), .inl (M.1 3 j p))
  | 4 => .inr (4, [.ref (ad E 5 0 0), .ref (ad E 6 0 0), .int (M.1 4 j p 2)])
  | 5 => .inl (E.2.2.1 0, 25, .inl (M.1 5 j p))
  | 6 => .inl (E.2.2.1 0, 100, .inl (M.1 6 j p))
  | 7 => .inr (3, [.ref (ad E 8 j 0), .ref (ad E 9 j 0), .ref (ad E 11 j 0), .int (M.1 7 j p 3), .int (M.1 7 j p 4), .int (M.1 7 j p 5), .int (M.1 7 j p 6), .int (M.1 7 j p 7), .int (M.1 7 j p 8)])
  | 8 => .inl (E.2.2.1 3, 12, .inr (.inr (.inr (.inr (fun i => some (ad E 12 j i))))))
  | 9 => .inr (0, [.ref (ad E 10 j 0), .ref (ad E 10 j 1), .ref (ad E 10 j 2), .ref (ad E 10 j 3), .int (M.1 9 j p 4)])
  | 10 => .inl (E.2.2.1 0, 30, .inl (M.1 10 j p))
  | 11 => .inl (E.2.2.1 0, 10, .inl (M.1 11 j p))
  | 12 => .inr (1, [.int (M.1 12 j p 0), .ref (ad E 13 j (2 * p)), .ref (ad E 13 j (2 * p + 1)), .int (M.1 12 j p 3), .int (M.1 12 j p 4), .int (M.1 12 j p 5), .int (M.1 12 j p 6), .int (M.1 12 j p 7), .int (M.1 12 j p 8), .int (M.1 12 j p 9), .int (M.1 12 j p 10), .int (M.1 12 j p 11), .int (M.1 12 j p 12)])
  | 13 => .inr (2, [.ref (ad E 14 j p), .int (M.1 13 j p 1)])
  | 14 => .inl (E.2.2.1 0, 20, .inl (M.1 14 j p))
  | 15 => .inr (7, [.ref (ad E 16 0 0), .int (M.1 15 j p 1), .int (M.1 15 j p 2)])
  | 16 => .inl (E.2.2.1 4, 6, .inr (.inr (.inr (.inr (fun i => some (ad E 7 (2 + i) 0))))))
  | 17 => .inl (E.2.2.1 4, 2, .inr (.inr (.inr (.inr (fun i => some (ad E 7 (8 + i) 0))))))
  | 18 => .inl (E.2.2.1 2, 2, .inl (M.1 18 j p))
  | k => .inl (E.2.2.1 0, 11, .inl (M.1 k j p))
def hE (E : Ed) (M : Mm) (i : Nat) : Nat × va_E := (E.1 + i, hC E M (hInv i).1 (hInv i).2.1 (hInv i).2.2)
/-- further cells: apart, none of them among the 694 -/
def xOk (E : Ed) (X : va_W) : Prop := (∀ (i j : Nat) (p q : Nat × va_E), X[i]? = some p → X[j]? = some q → p.1 = q.1 → i = j) ∧ ∀ (i : Nat) (q : Nat × va_E), X[i]? = some q → E.1 ≤ q.1 + 1 ∧ (q.1 < E.1 ∨ E.1 + 694 ≤ q.1)
noncomputable def hX (E : Ed) (X : va_W) : va_W := @ite va_W (xOk E X) (Classical.propDecidable _) X []
theorem hX_ok {E : Ed} {X : va_W} (h : xOk E X) : hX E X = X := by
  unfold hX
  rw [if_pos h]
theorem hX_no {E : Ed} {X : va_W} (h : ¬ xOk E X) : hX E X = [] := by
  unfold hX
  rw [if_neg h]
theorem xOk_nil {E : Ed} : xOk E [] := ⟨fun i _ _ _ h => by simp at h, fun i _ h => by simp at h⟩
theorem hX_xOk {E : Ed} {X : va_W} : xOk E (hX E X) := by
  by_cases h : xOk E X
  · rw [hX_ok h]; exact h
  · rw [hX_no h]; exact xOk_nil
def hB (E : Ed) (M : Mm) : va_W := (List.range 694).map (hE E M)
noncomputable def hW (E : Ed) (M : Mm) : va_W := hB E M ++ hX E M.2
theorem hB_len {E : Ed} {M : Mm} : (hB E M).length = 694 := by simp [hB]
theorem hB_at {E : Ed} {M : Mm} {i : Nat} (h : i < 694) : (hB E M)[i]? = some (hE E M i) := by
  unfold hB
  rw [List.getElem?_map, List.getElem?_range h]
  rfl
theorem hW_at {E : Ed} {M : Mm} {k j p : Nat} (h : hOk k j p) : (hW E M)[hOff k j p]? = some (ad E k j p, hC E M k j p) := by
  unfold hW
  rw [List.getElem?_append_left (by rw [hB_len]; exact hOff_lt h), hB_at (hOff_lt h)]
  unfold hE
  rw [hInv_off h]
  rfl
theorem hW_x {E : Ed} {M : Mm} (hx : xOk E M.2) {i : Nat} {q : Nat × va_E} (h : M.2[i]? = some q) : (hW E M)[694 + i]? = some q := by
  unfold hW
  rw [List.getElem?_append_right (by rw [hB_len]; omega), hB_len, hX_ok hx, Nat.add_sub_cancel_left]
  exact h
theorem hW_cases {E : Ed} {M : Mm} {i : Nat} {q : Nat × va_E} (h : (hW E M)[i]? = some q) : (i < 694 ∧ q = hE E M i) ∨ (694 ≤ i ∧ (hX E M.2)[i - 694]? = some q) := by
  unfold hW at h
  by_cases hi : i < 694
  · rw [List.getElem?_append_left (by rw [hB_len]; exact hi), hB_at hi] at h
    exact Or.inl ⟨hi, (Option.some.inj h).symm⟩
  · rw [List.getElem?_append_right (by rw [hB_len]; omega), hB_len] at h
    exact Or.inr ⟨by omega, h⟩
theorem hE_ad {E : Ed} {M : Mm} {i : Nat} : (hE E M i).1 = E.1 + i := rfl
theorem hW_D (E : Ed) (M : Mm) : va_D (fun q => E.1 ≤ q + 1) (hW E M) := by
  have hx := hX_xOk (E := E) (X := M.2)
  refine ⟨fun i j p q hi hj he => ?_, fun k q hk => ?_⟩
  · rcases hW_cases hi with ⟨h1, h2⟩ | ⟨h1, h2⟩ <;> rcases hW_cases hj with ⟨h3, h4⟩ | ⟨h3, h4⟩
    · rw [h2, h4, hE_ad, hE_ad] at he
      omega
    · have h5 := (hx.2 _ _ h4).2
      rw [h2, hE_ad] at he
      omega
    · have h5 := (hx.2 _ _ h2).2
      rw [h4, hE_ad] at he
      omega
    · have h5 := hx.1 _ _ _ _ h2 h4 he
      omega
  · show E.1 ≤ q.1 + 1
    rcases hW_cases hk with ⟨h1, h2⟩ | ⟨h1, h2⟩
    · rw [h2, hE_ad]
      omega
    · exact (hx.2 _ _ h2).1
/-- a change of one cell's contents -/
theorem hB_set {E : Ed} {M M' : Mm} {k j p : Nat} (h : hOk k j p) {e : va_E} (he : hC E M' k j p = e) (ho : ∀ k' j' p', (k', j', p') ≠ (k, j, p) → hC E M' k' j' p' = hC E M k' j' p') : (hB E M).set (hOff k j p) (ad E k j p, e) = hB E M' := by
  apply List.ext_getElem?
  intro i
  rw [List.getElem?_set]
  by_cases hi : hOff k j p = i
  · subst hi
    rw [if_pos rfl, if_pos (by rw [hB_len]; exact hOff_lt h), hB_at (hOff_lt h)]
    unfold hE
    rw [hInv_off h, ← he]
    rfl
  · rw [if_neg hi]
    by_cases hi7 : i < 694
    · rw [hB_at hi7, hB_at hi7]
      unfold hE
      rw [ho _ _ _ (fun q => hi (by
        have hb := hBack i hi7
        rw [show (hInv i).1 = k from congrArg Prod.fst q, show (hInv i).2.1 = j from congrArg (fun z => z.2.1) q, show (hInv i).2.2 = p from congrArg (fun z => z.2.2) q] at hb
        exact hb))]
    · rw [List.getElem?_eq_none (by rw [hB_len]; omega), List.getElem?_eq_none (by rw [hB_len]; omega)]
theorem hW_set {E : Ed} {M M' : Mm} {k j p : Nat} (h : hOk k j p) {e : va_E} (he : hC E M' k j p = e) (ho : ∀ k' j' p', (k', j', p') ≠ (k, j, p) → hC E M' k' j' p' = hC E M k' j' p') (h2 : M'.2 = M.2 := by rfl) : (hW E M).set (hOff k j p) (ad E k j p, e) = hW E M' := by
  unfold hW
  rw [List.set_append_left _ _ (by rw [hB_len]; exact hOff_lt h), hB_set h he ho, h2]
/-- one int set -/
def mU (f : Nat → Nat → Nat → Nat → Int32) (k j p t : Nat) (v : Int32) : Nat → Nat → Nat → Nat → Int32 := fun k' j' p' t' => if k' = k ∧ j' = j ∧ p' = p ∧ t' = t then v else f k' j' p' t'
def Mm.up (M : Mm) (k j p t : Nat) (v : Int32) : Mm := (mU M.1 k j p t v, M.2)
theorem mU_row {f : Nat → Nat → Nat → Nat → Int32} {k j p t : Nat} {v : Int32} {k' j' p' : Nat} (h : (k', j', p') ≠ (k, j, p)) : mU f k j p t v k' j' p' = f k' j' p' := by
  funext t'
  unfold mU
  rw [if_neg]
  rintro ⟨rfl, rfl, rfl, -⟩
  exact h rfl
theorem hC_cong {E : Ed} {M M' : Mm} {k j p : Nat} (h : M'.1 k j p = M.1 k j p) (_ : M'.2 = M.2) : hC E M' k j p = hC E M k j p := by
  unfold hC
  split <;> first | rfl | (rw [h])
theorem mU_arr {f : Nat → Nat → Nat → Nat → Int32} {k j p t : Nat} {v : Int32} : mU f k j p t v k j p = upd (f k j p) t v := by
  funext t'
  unfold mU upd
  by_cases h : t' = t
  · rw [if_pos ⟨rfl, rfl, rfl, h⟩, if_pos h]
  · rw [if_neg (fun q => h q.2.2.2), if_neg h]
/-- the String constants: whose, at which entry, the text -/
def hStr : List (String × Nat × String) := [("HomeworkBarter$School", 68, "school"), ("HomeworkBarter$School", 97, "pupil"), ("HomeworkBarter$School", 115, "spy"), ("HomeworkBarter", 440, "out of range"), ("HomeworkBarter", 431, "nothing is saved there"), ("HomeworkBarter", 78, "the text would be too long"), ("HomeworkBarterLaw", 29, "school "), ("HomeworkBarterLaw", 46, "pupil "), ("HomeworkBarterLaw", 51, " spy;"), ("HomeworkBarterLaw", 53, ";"), ("HomeworkBarter", 194, "no such count"), ("HomeworkBarter", 438, "no such debt"), ("HomeworkBarter", 288, "no such number of a debt"), ("HomeworkBarter", 435, "no such pupil"), ("HomeworkBarter", 258, "no such number of a pupil"), ("HomeworkBarter", 307, "both are the same")]
/-- .. their bytes -/
def hStB : List (List Int32) := [[115, 99, 104, 111, 111, 108], [112, 117, 112, 105, 108], [115, 112, 121], [111, 117, 116, 32, 111, 102, 32, 114, 97, 110, 103, 101], [110, 111, 116, 104, 105, 110, 103, 32, 105, 115, 32, 115, 97, 118, 101, 100, 32, 116, 104, 101, 114, 101], [116, 104, 101, 32, 116, 101, 120, 116, 32, 119, 111, 117, 108, 100, 32, 98, 101, 32, 116, 111, 111, 32, 108, 111, 110, 103], [115, 99, 104, 111, 111, 108, 32], [112, 117, 112, 105, 108, 32], [32, 115, 112, 121, 59], [59], [110, 111, 32, 115, 117, 99, 104, 32, 99, 111, 117, 110, 116], [110, 111, 32, 115, 117, 99, 104, 32, 100, 101, 98, 116], [110, 111, 32, 115, 117, 99, 104, 32, 110, 117, 109, 98, 101, 114, 32, 111, 102, 32, 97, 32, 100, 101, 98, 116], [110, 111, 32, 115, 117, 99, 104, 32, 112, 117, 112, 105, 108], [110, 111, 32, 115, 117, 99, 104, 32, 110, 117, 109, 98, 101, 114, 32, 111, 102, 32, 97, 32, 112, 117, 112, 105, 108], [98, 111, 116, 104, 32, 97, 114, 101, 32, 116, 104, 101, 32, 115, 97, 109, 101]]
def hSo (i : Nat) : String := (hStr.getD i ("", 0, "")).1
def hSk (i : Nat) : Nat := (hStr.getD i ("", 0, "")).2.1
def hSx (i : Nat) : String := (hStr.getD i ("", 0, "")).2.2
def hSb2 (i : Nat) : List Int32 := hStB.getD i []
def hLs (i : Nat) (adK adV : Nat) (A : Nat → Prop) (U : State) (H : Heap) : Prop := va_O "java/lang/String" adK A U H ∧ va_OF "java/lang/String" "coder" "B" (.int 0) adK A U H ∧ va_OF "java/lang/String" "value" "[B" (.ref adV) adK A U H ∧ va_T .byte adV (hSb2 i).length (fun j => .int ((hSb2 i).getD j 0)) A U H
/-- the digits of Integer's two tables, told by the premises -/
def hDg (i k : Nat) : Int32 := if i = 0 then nI (48 + k % 10) else nI (48 + k / 10)
def hDn (i : Nat) : String := if i = 0 then "DigitOnes" else "DigitTens"
def hDs (i adT : Nat) (A : Nat → Prop) (U : State) (H : Heap) : Prop := va_Z "java/lang/Integer" (hDn i) "[B" (.ref adT) A U H ∧ va_T .byte adT 100 (fun k => .int (hDg i k)) A U H
/-- facts of the launch: statics, the String constants, Integer's digits (a.1 16, a.1 17), the law's script (at a.1 18, of a.2 18 ints a.2 32 ..) -/
def hFx (A : Nat → Prop) (a : (Nat → Nat) × (Nat → Nat)) (U : State) (H : Heap) : Prop :=
  (va_Z "java/lang/String" "COMPACT_STRINGS" "Z" (.int 1) A U H ∧ va_Zq "jdk/internal/util/Preconditions" "SIOOBE_FORMATTER" "Ljava/util/function/BiFunction;" A U H) ∧ (∀ i, i < 16 → vk_R (hSo i) (hSk i) (hSx i) (a.1 i) U) ∧ (∀ i, i < 16 → hLs i (a.1 i) (a.2 i) A U H) ∧ (∀ i, i < 2 → hDs i (a.1 (16 + i)) A U H) ∧ va_T .int (a.1 18) (a.2 18) (fun j => .int (Int32.ofNat (a.2 (32 + j)))) A U H ∧ va_Nw (.methodLinkNest RX9 17 yL_pick "HomeworkBarterLaw") U ∧ va_Nw (.castable "[B" "java/lang/Cloneable") U
theorem hFx_keep {A : Nat → Prop} {a : (Nat → Nat) × (Nat → Nat)} {s U : State} {H H1 : Heap} (hW : s.WarmedH U.vm) (hq : ∀ q : Nat, q < H.size → ¬ A q → H1[q]? = H[q]?) (h : hFx A a s H) : hFx A a U H1 := by
  obtain ⟨⟨h6, h7⟩, h8, h9, h10, h11, h12, h13⟩ := h
  have hv := hW.alike
  exact ⟨⟨(h6.moved hv).kept hq, (h7.moved hv).kept hq⟩, fun i hi => vk_R.warm hW (h8 i hi),
    fun i hi => ⟨((h9 i hi).1.moved hv).kept hq, ((h9 i hi).2.1.moved hv).kept hq, ((h9 i hi).2.2.1.moved hv).kept hq, ((h9 i hi).2.2.2.moved hv).kept hq⟩, fun i hi => ⟨((h10 i hi).1.moved hv).kept hq, ((h10 i hi).2.moved hv).kept hq⟩, (h11.moved hv).kept hq, va_Nw.warmM hW h12, va_Nw.warmC hW h13⟩
end HCORE
