/-! ===== sums, loops, frames, satchels ===== -/
section HSPEC
def sm : Nat → (Nat → Int32) → Int32
  | 0, _ => 0
  | n + 1, g => sm n g + g n
theorem sm_cong {n : Nat} {f g : Nat → Int32} (h : ∀ i, i < n → f i = g i) : sm n f = sm n g := by
  induction n with
  | zero => rfl
  | succ n ih =>
    show sm n f + f n = sm n g + g n
    rw [ih (fun i hi => h i (by omega)), h n (by omega)]
/-- a counter that climbs to c -/
theorem upTo {c : Nat} {H : Nat → Prop} (hend : H c) (hstep : ∀ i, i < c → H (i + 1) → H i) : ∀ i, i ≤ c → H i := by
  have key : ∀ n i, c - i = n → i ≤ c → H i := by
    intro n
    induction n with
    | zero => intro i h1 h2; have : i = c := by omega
              subst this; exact hend
    | succ n ih => intro i h1 h2; exact hstep i (by omega) (ih (i + 1) (by omega) (by omega))
  intro i hi
  exact key _ i rfl hi
theorem up0 {c : Nat} {H : Nat → Prop} (hend : H c) (hstep : ∀ i, i < c → H (i + 1) → H i) : H 0 := upTo hend hstep 0 (Nat.zero_le c)
/-- what lies outside D is as it was -/
def Fr (D : Nat → Nat → Nat → Prop) (M M' : Mm) : Prop := M'.2 = M.2 ∧ ∀ k j p, ¬ D k j p → ∀ t, M'.1 k j p t = M.1 k j p t
theorem Fr.rfl {D : Nat → Nat → Nat → Prop} {M : Mm} : Fr D M M := ⟨Eq.refl _, fun _ _ _ _ _ => Eq.refl _⟩
theorem Fr.trans {D : Nat → Nat → Nat → Prop} {M M' M'' : Mm} (h : Fr D M M') (h2 : Fr D M' M'') : Fr D M M'' := ⟨h2.1.trans h.1, fun k j p hd t => (h2.2 k j p hd t).trans (h.2 k j p hd t)⟩
theorem Fr.mono {D D' : Nat → Nat → Nat → Prop} {M M' : Mm} (h : Fr D M M') (hd : ∀ k j p, D k j p → D' k j p) : Fr D' M M' := ⟨h.1, fun k j p hn t => h.2 k j p (fun q => hn (hd k j p q)) t⟩
theorem Fr.up {D : Nat → Nat → Nat → Prop} {M M' : Mm} (h : Fr D M M') {k j p t : Nat} {v : Int32} (hd : D k j p) : Fr D M (M'.up k j p t v) := by
  refine ⟨h.1, fun k' j' p' hn t' => ?_⟩
  show mU M'.1 k j p t v k' j' p' t' = _
  rw [mU_row (fun q => by cases q; exact hn hd)]
  exact h.2 k' j' p' hn t'
theorem Fr.cp {D : Nat → Nat → Nat → Prop} {M M' : Mm} (h : Fr D M M') {k j p : Nat} {row : Nat → Int32} (hd : D k j p) : Fr D M (mCp M'.1 k j p row, M'.2) := by
  refine ⟨h.1, fun k' j' p' hn t' => ?_⟩
  show mCp M'.1 k j p row k' j' p' t' = _
  rw [mCp_row (fun q => by cases q; exact hn hd)]
  exact h.2 k' j' p' hn t'
theorem up_at {M : Mm} {k j p t : Nat} {v : Int32} : (M.up k j p t v).1 k j p t = v := by
  show mU M.1 k j p t v k j p t = v
  unfold mU
  rw [if_pos ⟨rfl, rfl, rfl, rfl⟩]
theorem up_nt {M : Mm} {k j p t t' : Nat} {v : Int32} (h : t' ≠ t) : (M.up k j p t v).1 k j p t' = M.1 k j p t' := by
  show mU M.1 k j p t v k j p t' = _
  unfold mU
  rw [if_neg (fun q => h q.2.2.2)]
theorem up_nk {M : Mm} {k j p t : Nat} {v : Int32} {k' j' p' t' : Nat} (h : k' ≠ k) : (M.up k j p t v).1 k' j' p' t' = M.1 k' j' p' t' := by
  show mU M.1 k j p t v k' j' p' t' = _
  unfold mU
  rw [if_neg (fun q => h q.1)]
theorem up_np {M : Mm} {k j p t : Nat} {v : Int32} {k' j' p' t' : Nat} (h : p' ≠ p) : (M.up k j p t v).1 k' j' p' t' = M.1 k' j' p' t' := by
  show mU M.1 k j p t v k' j' p' t' = _
  unfold mU
  rw [if_neg (fun q => h q.2.2.1)]
theorem up_nj {M : Mm} {k j p t : Nat} {v : Int32} {k' j' p' t' : Nat} (h : j' ≠ j) : (M.up k j p t v).1 k' j' p' t' = M.1 k' j' p' t' := by
  show mU M.1 k j p t v k' j' p' t' = _
  unfold mU
  rw [if_neg (fun q => h q.2.1)]
/-- the place x of a list; -1 -/
def atL (L : List Int32) (x : Int32) : Int32 := if x < 0 ∨ nI L.length ≤ x then -1 else L.getD x.toNatClampNeg 0
theorem atL_in {L : List Int32} {a : Nat} (h : a < L.length) (hl : L.length < 2 ^ 31) : atL L (nI a) = L.getD a 0 := by
  unfold atL
  rw [if_neg (fun q => q.elim (nI_pos (by omega)) (nI_ge h hl)), nI_clamp (by omega)]
theorem lvi {x y : Int32} (h : x = y) : some (Value.int x) = some (Value.int y) := by rw [h]
theorem sm_t {n : Nat} {g : Nat → Int32} {v : Int32} (h : g n = v) : sm n g + v = sm (n + 1) g := by rw [← h]; rfl
theorem sm_0 {n : Nat} {g : Nat → Int32} (h : g n = 0) : sm n g = sm (n + 1) g := by show sm n g = sm n g + g n; rw [h]; simp
-- behind a call
variable {E : Ed} {C : Cx} {own : String} {b : ByteArray} {z : Zd} {P : Res → Mm → Prop} {cs ss pc : Nat} {M : Mm} {lv : List (Nat × Value)} {st : List Value}
theorem hGo_i {r : Int32} (g : G E C own b z P cs ss M pc lv (.int r :: st)) : hGo E C own b z P cs ss pc lv st (.inl (some (.int r))) M := g
theorem hGo_a {r : Nat} (g : G E C own b z P cs ss M pc lv (.ref r :: st)) : hGo E C own b z P cs ss pc lv st (.inl (some (.ref r))) M := g
theorem hGo_v (g : G E C own b z P cs ss M pc lv st) : hGo E C own b z P cs ss pc lv st (.inl none) M := g
theorem hGo_x {X : String} (h : P (.inr X) M) : hGo E C own b z P cs ss pc lv st (.inr X) M := h
/-- a satchel's pieces, the eldest first -/
def Sat (M : Mm) (j q : Nat) (L : List Int32) : Prop := M.1 13 j q 1 = nI L.length ∧ L.length ≤ 20 ∧ ∀ k, k < L.length → M.1 14 j q k = L.getD k 0
def dS (j q : Nat) : Nat → Nat → Nat → Prop := fun k j' p => (k = 13 ∨ k = 14) ∧ j' = j ∧ p = q
theorem Sat.push {M : Mm} {j q : Nat} {L : List Int32} {m : Int32} (h : Sat M j q L) (hl : L.length < 20) : Sat ((M.up 14 j q L.length m).up 13 j q 1 (nI L.length + 1)) j q (L ++ [m]) := by
  refine ⟨?_, by simp; omega, fun k hk => ?_⟩
  · rw [up_at, nI_1]; simp
  · rw [up_nk (by decide)]
    simp only [List.length_append, List.length_cons, List.length_nil] at hk
    by_cases hk2 : k = L.length
    · subst hk2
      rw [up_at]
      simp
    · rw [up_nt hk2, h.2.2 k (by omega)]
      simp [List.getD_eq_getElem?_getD, List.getElem?_append_left (show k < L.length by omega)]
end HSPEC
