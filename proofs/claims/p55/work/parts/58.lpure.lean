/-! ===== pure rows that the law's checks stand on ===== -/
section LPURE
theorem first_S {n : Nat} {p : Nat → Bool} (hn : n < 2 ^ 31) : first (n + 1) p = if first n p = -1 then (if p n = true then nI n else -1) else first n p := by
  rcases first_cases n p with ⟨e, hb⟩ | ⟨i, hi, e, hp, hb⟩
  · rw [e, if_pos rfl]
    by_cases q : p n = true
    · rw [if_pos q]
      exact first_at (by omega) hb q
    · rw [if_neg q]
      refine first_none (fun k hk => ?_)
      by_cases z : k = n
      · rw [z]
        exact Bool.eq_false_iff.mpr q
      · exact hb k (by omega)
  · rw [e, if_neg (nI_nm1 (by omega))]
    exact first_at (by omega) hb hp
theorem bestV_max {f : Nat → Int32} : ∀ k p, p < k → f p ≤ f (bestV f k)
  | 0, p, h => absurd h (Nat.not_lt_zero p)
  | k + 1, p, h => by
    have ih := bestV_max (f := f) k p
    show f p ≤ f (if f (bestV f k) < f k then k else bestV f k)
    by_cases q : f (bestV f k) < f k
    · rw [if_pos q]
      by_cases z : p = k
      · rw [z]; exact Int32.le_refl _
      · exact Int32.le_trans (ih (by omega)) (Int32.le_of_lt q)
    · rw [if_neg q]
      by_cases z : p = k
      · rw [z]; exact Int32.not_lt.mp q
      · exact ih (by omega)
theorem bestV_first {f : Nat → Int32} : ∀ k p, p < bestV f k → f p < f (bestV f k)
  | 0, p, h => absurd h (Nat.not_lt_zero p)
  | k + 1, p, h => by
    have ih := bestV_first (f := f) k p
    have hm := bestV_max (f := f) k p
    have e : bestV f (k + 1) = if f (bestV f k) < f k then k else bestV f k := rfl
    rw [e] at h ⊢
    by_cases q : f (bestV f k) < f k
    · rw [if_pos q] at h ⊢
      exact Int32.lt_of_le_of_lt (hm h) q
    · rw [if_neg q] at h ⊢
      exact ih h
theorem sN_lt {f : Nat → Nat} {x : Nat} (h0 : f x = 0) (h1 : ∀ k, f k ≤ 1) : ∀ n, x < n → sN n f < n
  | 0, h => absurd h (Nat.not_lt_zero x)
  | n + 1, h => by
    have a := sN_le h1 n
    have b := h1 n
    show sN n f + f n < n + 1
    by_cases q : x = n
    · rw [← q, h0, q]
      omega
    · have := sN_lt h0 h1 n (by omega)
      omega
theorem sN_zero {f : Nat → Nat} : ∀ {n : Nat}, sN n f = 0 → ∀ k, k < n → f k = 0
  | 0, _, k, h => absurd h (Nat.not_lt_zero k)
  | n + 1, e, k, h => by
    have e1 : sN n f + f n = 0 := e
    by_cases q : k = n
    · rw [q]; omega
    · exact sN_zero (n := n) (by omega) k (by omega)
theorem sm_b {p : Nat → Bool} {n : Nat} : sm n (fun k => if p k = true then (1 : Int32) else 0) = nI (sN n (fun k => if p k = true then 1 else 0)) := by
  rw [← sN_sm]
  exact sm_cong (fun k _ => by split <;> rfl)
theorem b_le {p : Nat → Bool} : ∀ k, (if p k = true then 1 else 0) ≤ 1 := fun k => by split <;> omega
theorem rank_lt {A : Ab} {x s : Nat} (hx : x < A.n) (h12 : A.n ≤ 12) : rankV A x s ≠ nI A.n := by
  unfold rankV
  rw [sm_b]
  have h := sN_lt (f := fun i => if rkP A x s i = true then 1 else 0) (x := x) (if_neg (by unfold rkP; rw [decide_eq_true_eq]; rintro (q | q); exact absurd q Int32.lt_irrefl; exact absurd q.2 (Nat.lt_irrefl x))) b_le A.n hx
  intro e
  have := (nI_eq (by omega) (by omega)).mp e
  omega
theorem rank_0 {A : Ab} {s : Nat} (hn : 0 < A.n) : ∃ i, i < A.n ∧ rankV A i s = 0 := by
  refine ⟨bestV (fun p => A.f p (2 + s)) A.n, bestV_lt hn, ?_⟩
  unfold rankV
  rw [sm_b]
  have : sN A.n (fun i => if rkP A (bestV (fun p => A.f p (2 + s)) A.n) s i = true then 1 else 0) = sN A.n (fun _ => 0) := sN_cong (fun k hk => by
    refine if_neg ?_
    unfold rkP
    rw [decide_eq_true_eq]
    have m := bestV_max (f := fun p => A.f p (2 + s)) A.n k hk
    have m2 := bestV_first (f := fun p => A.f p (2 + s)) A.n k
    rintro (q | ⟨q1, q2⟩)
    · exact absurd q (Int32.not_lt.mpr m)
    · have m3 := m2 q2
      rw [q1] at m3
      exact absurd m3 Int32.lt_irrefl)
  rw [this]
  have z : ∀ n, sN n (fun _ => 0) = 0 := fun n => by
    induction n with
    | zero => rfl
    | succ n ih => show sN n _ + 0 = 0; rw [ih]
  rw [z]
  rfl
theorem rank_0_best {A : Ab} {x s p : Nat} (h12 : A.n ≤ 12) (hp : p < A.n) (h : rankV A x s = 0) : A.f p (2 + s) ≤ A.f x (2 + s) := by
  unfold rankV at h
  rw [sm_b] at h
  have hle := sN_le (f := fun i => if rkP A x s i = true then 1 else 0) b_le A.n
  have e := sN_zero ((nI_eq (b := 0) (by omega) (by decide)).mp h) p hp
  have e2 : ¬ rkP A x s p = true := fun q => by
    have : (if rkP A x s p = true then 1 else 0) = 0 := e
    rw [if_pos q] at this
    omega
  unfold rkP at e2
  rw [decide_eq_true_eq] at e2
  exact Int32.not_lt.mp (fun q => e2 (Or.inl q))
-- places
def pcn (p : Nat → Bool) (n : Nat) : Nat := sN n (fun k => if p k = true then 1 else 0)
theorem pcn_t {p : Nat → Bool} {n : Nat} (h : p n = true) : pcn p (n + 1) = pcn p n + 1 := by
  show sN n _ + (if p n = true then 1 else 0) = _
  rw [if_pos h]
  rfl
theorem pcn_f {p : Nat → Bool} {n : Nat} (h : ¬ p n = true) : pcn p (n + 1) = pcn p n := by
  show sN n _ + (if p n = true then 1 else 0) = _
  rw [if_neg h]
  rfl
theorem pcn_le {p : Nat → Bool} {n : Nat} : pcn p n ≤ n := by
  have := sN_le (f := fun k => if p k = true then 1 else 0) b_le n
  unfold pcn
  omega
theorem nth_pc {p : Nat → Bool} : ∀ (a b c : Nat), a + c < 2 ^ 31 → nth p (a + b) 0 (nI (pcn p a + c)) = nth p b a (nI c)
  | 0, b, c, _ => by
    rw [Nat.zero_add, show pcn p 0 + c = c from Nat.zero_add c]
  | a + 1, b, c, h => by
    have hl := pcn_le (p := p) (n := a)
    rw [show a + 1 + b = a + (b + 1) by omega]
    by_cases q : p a = true
    · rw [pcn_t q, show pcn p a + 1 + c = pcn p a + (c + 1) by omega, nth_pc a (b + 1) (c + 1) (by omega)]
      show (if p a = true then (if nI (c + 1) = 0 then nI a else nth p b (a + 1) (nI (c + 1) - 1)) else nth p b (a + 1) (nI (c + 1))) = _
      rw [if_pos q, if_neg (nI_ne0 (by omega) (by omega)), nI_pred]
    · rw [pcn_f q, nth_pc a (b + 1) c (by omega)]
      show (if p a = true then (if nI c = 0 then nI a else nth p b (a + 1) (nI c - 1)) else nth p b (a + 1) (nI c)) = _
      rw [if_neg q]
theorem nth_at {p : Nat → Bool} {n k : Nat} (hk : k < n) (hn : n < 2 ^ 31) (hp : p k = true) : nth p n 0 (nI (pcn p k)) = nI k := by
  obtain ⟨m, rfl⟩ : ∃ m, n = k + (m + 1) := ⟨n - k - 1, by omega⟩
  show nth p (k + (m + 1)) 0 (nI (pcn p k + 0)) = nI k
  rw [nth_pc k (m + 1) 0 (by omega)]
  show (if p k = true then (if nI 0 = 0 then nI k else nth p m (k + 1) (nI 0 - 1)) else nth p m (k + 1) (nI 0)) = _
  rw [if_pos hp]
  exact if_pos rfl
theorem nth_end {p : Nat → Bool} {n : Nat} (hn : n < 2 ^ 31) : nth p n 0 (nI (pcn p n)) = -1 := nth_pc (p := p) n 0 0 (by omega)
theorem pcn_ix {p : Nat → Bool} : ∀ {n c : Nat}, c < pcn p n → ∃ k, k < n ∧ p k = true ∧ pcn p k = c
  | 0, c, h => absurd h (Nat.not_lt_zero c)
  | n + 1, c, h => by
    by_cases q : p n = true
    · rw [pcn_t q] at h
      by_cases z : c = pcn p n
      · exact ⟨n, by omega, q, z.symm⟩
      · obtain ⟨k, h1, h2⟩ := pcn_ix (p := p) (n := n) (c := c) (by omega)
        exact ⟨k, by omega, h2⟩
    · rw [pcn_f q] at h
      obtain ⟨k, h1, h2⟩ := pcn_ix (p := p) (n := n) (c := c) h
      exact ⟨k, by omega, h2⟩
theorem nth_some {p : Nat → Bool} {n c : Nat} (hn : n < 2 ^ 31) (h : c < pcn p n) : ∃ k, k < n ∧ nth p n 0 (nI c) = nI k := by
  obtain ⟨k, h1, h2, h3⟩ := pcn_ix h
  exact ⟨k, h1, by rw [← h3]; exact nth_at h1 hn h2⟩
-- debts
theorem owed_at {n i : Nat} {d : List De} (h : dOk n d) (hi : i < d.length) : owedV d (dg d i 0) (dg d i 1) (dg d i 2) = dg d i 3 := by
  have hf : fnd d (dg d i 0) (dg d i 1) (dg d i 2) = nI i := by
    refine first_at hi (fun k hk => ?_) (decide_eq_true ⟨rfl, rfl, rfl⟩)
    refine decide_eq_false (fun q => ?_)
    have := h.2.2 k i (by omega) hi q.1 q.2.1 q.2.2
    omega
  unfold owedV
  rw [hf, if_neg (nI_nm1 (by have := h.1; omega)), nI_clamp (by have := h.1; omega)]
-- makers
theorem sN_0 : ∀ n, sN n (fun _ => 0) = 0
  | 0 => rfl
  | n + 1 => by show sN n _ + 0 = 0; rw [sN_0 n]
theorem sN_all {L : List Int32} {n : Nat} (hn : n ≤ 12) : ∀ {h : Nat}, (∀ k, k < h → ∃ m, m < n ∧ L.getD k 0 = nI m) → sN n (fun m => cN L (nI m) h) = h
  | 0, _ => sN_0 n
  | h + 1, hm => by
    have ih := sN_all hn (fun k hk => hm k (by omega)) (h := h)
    obtain ⟨m0, hm0, e0⟩ := hm h (by omega)
    have hc : ∀ m, m < n → cN L (nI m) (h + 1) = cN L (nI m) h + if m = m0 then 1 else 0 := fun m hmn => by
      show cN L (nI m) h + (if L.getD h 0 = nI m then 1 else 0) = _
      rw [e0]
      by_cases q : m = m0
      · rw [if_pos q, if_pos (by rw [q])]
      · rw [if_neg q, if_neg (fun z => q ((nI_eq (by omega) (by omega)).mp z).symm)]
    rw [sN_cong hc, sN_add, ih, sN_one, if_pos hm0]
theorem mk_law {L : List Int32} {n h : Nat} (hn : n ≤ 12) (hm : ∀ k, k < h → ∃ m, m < n ∧ L.getD k 0 = nI m) : bc (bitsL L (-1) h) = sm n (fun m => if 0 < cN L (nI m) h then 1 else 0) := by
  rw [bitsL_bs hm hn, bc_bs _ hn]
  refine sm_cong (fun m hmn => ?_)
  by_cases q : 0 < cN L (nI m) h
  · rw [if_pos q, if_pos (decide_eq_true ⟨nI_nm1 (by omega), q⟩)]
  · rw [if_neg q, if_neg (by rw [decide_eq_true_eq]; exact fun z => q z.2)]
end LPURE
