/-! ===== sets as bits, counts ===== -/
section MPURE
theorem ltP2 : ∀ n, n < 12 → (1 : Int32) <<< (nI n &&& 31) = nI (2 ^ n) ∧ ((nI n &&& 31).toBitVec.smod 32).toNat = n := by decide
set_option maxRecDepth 100000 in
theorem orTab : ∀ n, n < 12 → ∀ a, a < 2 ^ n → nI a ||| nI (2 ^ n) = nI (a + 2 ^ n) := by decide +kernel
set_option maxRecDepth 100000 in
theorem bcTab : ∀ a, a < 4096 → bc (nI a) = sm 12 (fun k => nI (a / 2 ^ k % 2)) := by decide +kernel
def bn (P : Nat → Bool) : Nat → Nat
  | 0 => 0
  | n + 1 => bn P n + if P n = true then 2 ^ n else 0
theorem bn_lt (P : Nat → Bool) : ∀ n, bn P n < 2 ^ n
  | 0 => (show 0 < 1 by decide)
  | n + 1 => by
    have := bn_lt P n
    unfold bn
    rw [Nat.pow_succ]
    split <;> omega
theorem bs_bn (P : Nat → Bool) : ∀ n, n ≤ 12 → bs P n = nI (bn P n)
  | 0, _ => rfl
  | n + 1, h => by
    have ih := bs_bn P n (by omega)
    unfold bs bn
    rw [ih]
    split
    · rw [(ltP2 n (by omega)).1, orTab n (by omega) _ (bn_lt P n)]
    · rfl
theorem bn_bit (P : Nat → Bool) (k : Nat) : ∀ n, (bn P n).testBit k = (decide (k < n) && P k)
  | 0 => by
    unfold bn
    simp
  | n + 1 => by
    have ih := bn_bit P k n
    have hl := bn_lt P n
    unfold bn
    by_cases hp : P n = true
    · rw [if_pos hp, Nat.add_comm]
      rcases Nat.lt_trichotomy k n with q | q | q
      · rw [Nat.testBit_two_pow_add_gt q, ih]
        simp [q, show k < n + 1 by omega]
      · subst q
        rw [Nat.testBit_two_pow_add_eq, ih]
        simp [hp]
      · have h2 : 2 ^ n + bn P n < 2 ^ (n + 1) := by rw [Nat.pow_succ]; omega
        rw [Nat.testBit_lt_two_pow (Nat.lt_of_lt_of_le h2 (Nat.pow_le_pow_right (by decide) q))]
        simp [show ¬ k < n + 1 by omega]
    · rw [if_neg hp, Nat.add_zero, ih]
      by_cases q : k = n
      · subst q
        simp [hp]
      · by_cases q2 : k < n
        · simp [q2, show k < n + 1 by omega]
        · simp [q2, show ¬ k < n + 1 by omega]
theorem bn_div (P : Nat → Bool) (k n : Nat) : bn P n / 2 ^ k % 2 = if k < n ∧ P k = true then 1 else 0 := by
  have h := bn_bit P k n
  rw [Nat.testBit_eq_decide_div_mod_eq] at h
  have h2 : bn P n / 2 ^ k % 2 < 2 := Nat.mod_lt _ (by decide)
  by_cases q : k < n ∧ P k = true
  · rw [if_pos q]
    rw [q.2, decide_eq_true q.1] at h
    exact of_decide_eq_true h
  · rw [if_neg q]
    have : (decide (k < n) && P k) = false := by
      by_cases q1 : k < n
      · have : P k = false := by
          cases hp : P k
          · rfl
          · exact absurd ⟨q1, hp⟩ q
        rw [this, Bool.and_false]
      · rw [decide_eq_false q1, Bool.false_and]
    rw [this] at h
    have := of_decide_eq_false h
    omega
theorem bn_4096 (P : Nat → Bool) {n : Nat} (h : n ≤ 12) : bn P n < 4096 := Nat.lt_of_lt_of_le (bn_lt P n) (Nat.pow_le_pow_right (n := 2) (by decide) h)
/-- the member k of a set -/
theorem bs_bit (P : Nat → Bool) {n k : Nat} (h : n ≤ 12) (hk : k < 12) : (bs P n >>> (nI k &&& 31)) &&& 1 = if k < n ∧ P k = true then 1 else 0 := by
  have h4 := bn_4096 P h
  rw [bs_bn P n h, pk_shrN (by omega) _ k (ltP2 k hk).2, pk_andN (Nat.lt_of_le_of_lt (Nat.div_le_self _ _) (by omega)) 1 (by decide), Nat.pow_one, bn_div]
  split <;> rfl
theorem bitP_bs (P : Nat → Bool) {n k : Nat} (h : n ≤ 12) (hk : k < 12) : bitP (bs P n) k = (decide (k < n) && P k) := by
  unfold bitP
  rw [bs_bit P h hk]
  by_cases q1 : k < n
  · cases hp : P k
    · simp [q1]
    · simp [q1]
  · simp [q1]
theorem nth_cong {p q : Nat → Bool} : ∀ (k i : Nat) (x : Int32), (∀ j, i ≤ j → j < i + k → p j = q j) → nth p k i x = nth q k i x
  | 0, _, _, _ => rfl
  | k + 1, i, x, h => by
    unfold nth
    rw [h i (Nat.le_refl _) (by omega), nth_cong k (i + 1) (x - 1) (fun j a b => h j (by omega) (by omega)), nth_cong k (i + 1) x (fun j a b => h j (by omega) (by omega))]
theorem nth_none {p : Nat → Bool} : ∀ (k i : Nat) (x : Int32), (∀ j, i ≤ j → p j = false) → nth p k i x = -1
  | 0, _, _, _ => rfl
  | k + 1, i, x, h => by
    unfold nth
    rw [h i (Nat.le_refl _), if_neg (by decide)]
    exact nth_none k (i + 1) x (fun j a => h j (by omega))
theorem nth_trunc {p : Nat → Bool} : ∀ (k m i : Nat) (x : Int32), (∀ j, i + k ≤ j → p j = false) → nth p (k + m) i x = nth p k i x
  | 0, m, i, x, h => by
    rw [Nat.zero_add]
    exact nth_none m i x (fun j a => h j (by omega))
  | k + 1, m, i, x, h => by
    rw [show k + 1 + m = (k + m) + 1 by omega]
    unfold nth
    rw [nth_trunc k m (i + 1) (x - 1) (fun j a => h j (by omega)), nth_trunc k m (i + 1) x (fun j a => h j (by omega))]
theorem lowV_bs (P : Nat → Bool) {n : Nat} (h : n ≤ 12) (x : Int32) : lowV (bs P n) x = nth P n 0 x := by
  unfold lowV
  rw [nth_cong (q := fun k => decide (k < n) && P k) 12 0 x (fun j _ hj => bitP_bs P h (by omega))]
  rw [show 12 = n + (12 - n) by omega]
  rw [nth_trunc n (12 - n) 0 x (fun j hj => by simp [show ¬ j < n by omega])]
  exact nth_cong n 0 x (fun j _ hj => by simp [show j < n by omega])
theorem sm_trunc {f : Nat → Int32} : ∀ (m n : Nat), (∀ k, n ≤ k → f k = 0) → sm (n + m) f = sm n f
  | 0, _, _ => rfl
  | m + 1, n, h => by
    show sm (n + m) f + f (n + m) = _
    rw [sm_trunc m n h, h (n + m) (by omega), Int32.add_zero]
theorem bc_bs (P : Nat → Bool) {n : Nat} (h : n ≤ 12) : bc (bs P n) = sm n (fun k => if P k = true then 1 else 0) := by
  rw [bs_bn P n h, bcTab _ (bn_4096 P h)]
  rw [sm_cong (g := fun k => if k < n ∧ P k = true then 1 else 0) (fun k hk => by rw [bn_div]; split <;> rfl)]
  rw [show 12 = n + (12 - n) by omega, sm_trunc (12 - n) n (fun k hk => if_neg (fun q => by omega))]
  exact sm_cong (fun k hk => by
    by_cases q : P k = true
    · rw [if_pos ⟨hk, q⟩, if_pos q]
    · rw [if_neg (fun z => q z.2), if_neg q])
theorem bits_bs (P : Nat → Bool) {n : Nat} (h : n ≤ 12) : sm 12 (fun k => (bs P n >>> (nI k &&& 31)) &&& 1) = bc (bs P n) := by
  rw [bc_bs P h, sm_cong (fun k hk => bs_bit P h hk)]
  rw [show 12 = n + (12 - n) by omega, sm_trunc (12 - n) n (fun k hk => if_neg (fun q => by omega))]
  exact sm_cong (fun k hk => by
    by_cases q : P k = true
    · rw [if_pos ⟨hk, q⟩, if_pos q]
    · rw [if_neg (fun z => q z.2), if_neg q])
-- counts
def sN : Nat → (Nat → Nat) → Nat
  | 0, _ => 0
  | n + 1, f => sN n f + f n
theorem sN_sm {f : Nat → Nat} : ∀ n, sm n (fun k => nI (f k)) = nI (sN n f)
  | 0 => rfl
  | n + 1 => by
    show sm n (fun k => nI (f k)) + nI (f n) = nI (sN n f + f n)
    rw [sN_sm n, nI_add]
theorem sN_cong {f g : Nat → Nat} : ∀ {n : Nat}, (∀ k, k < n → f k = g k) → sN n f = sN n g
  | 0, _ => rfl
  | n + 1, h => by
    show sN n f + f n = sN n g + g n
    rw [sN_cong (fun k hk => h k (by omega)), h n (by omega)]
theorem sN_add {f g : Nat → Nat} : ∀ n, sN n (fun k => f k + g k) = sN n f + sN n g
  | 0 => rfl
  | n + 1 => by
    show sN n (fun k => f k + g k) + (f n + g n) = sN n f + f n + (sN n g + g n)
    rw [sN_add n]
    omega
theorem sN_le {f : Nat → Nat} {c : Nat} (h : ∀ k, f k ≤ c) : ∀ n, sN n f ≤ n * c
  | 0 => by show 0 ≤ _; omega
  | n + 1 => by
    have := sN_le h n
    have h2 := h n
    show sN n f + f n ≤ _
    rw [Nat.succ_mul]
    omega
theorem sN_one {m : Nat} : ∀ n, sN n (fun k => if k = m then 1 else 0) = if m < n then 1 else 0
  | 0 => rfl
  | n + 1 => by
    show sN n (fun k => if k = m then 1 else 0) + (if n = m then 1 else 0) = _
    rw [sN_one n]
    by_cases q : m < n
    · rw [if_pos q, if_neg (by omega), if_pos (by omega)]
    · by_cases q2 : n = m
      · rw [if_neg q, if_pos q2, if_pos (by omega)]
      · rw [if_neg q, if_neg q2, if_neg (by omega)]
/-- how many of the eldest h are of x -/
def cN (L : List Int32) (x : Int32) (h : Nat) : Nat := sN h (fun k => if L.getD k 0 = x then 1 else 0)
def ofM (L : List Int32) (x : Int32) (h : Nat) : Int32 := sm h (fun k => if L.getD k 0 = x then 1 else 0)
theorem ofM_c {L : List Int32} {x : Int32} {h : Nat} : ofM L x h = nI (cN L x h) := by
  unfold ofM cN
  rw [← sN_sm]
  exact sm_cong (fun k _ => by split <;> rfl)
theorem cN_le {L : List Int32} {x : Int32} {h : Nat} : cN L x h ≤ h := by
  have := sN_le (f := fun k => if L.getD k 0 = x then 1 else 0) (c := 1) (fun k => by split <;> omega) h
  rw [Nat.mul_one] at this
  exact this
theorem frN {L : List Int32} {x : Int32} : ∀ h, sm h (fun k => if L.getD k 0 = x then 0 else 1) = nI (h - cN L x h)
  | 0 => rfl
  | h + 1 => by
    have := cN_le (L := L) (x := x) (h := h)
    show sm h (fun k => if L.getD k 0 = x then 0 else 1) + (if L.getD h 0 = x then 0 else 1) = nI (h + 1 - (cN L x h + if L.getD h 0 = x then 1 else 0))
    rw [frN h]
    split
    · rw [Int32.add_zero, show h + 1 - (cN L x h + 1) = h - cN L x h by omega]
    · rw [nI_1, show h - cN L x h + 1 = h + 1 - (cN L x h + 0) by omega]
theorem bs_cong {p q : Nat → Bool} : ∀ {n : Nat}, (∀ k, k < n → p k = q k) → bs p n = bs q n
  | 0, _ => rfl
  | n + 1, h => by
    unfold bs
    rw [h n (by omega), bs_cong (fun k hk => h k (by omega))]
theorem bs_one {m : Nat} : ∀ {n : Nat}, m < n → bs (fun k => decide (k = m)) n = 1 <<< (nI m &&& 31)
  | 0, h => absurd h (Nat.not_lt_zero m)
  | n + 1, h => by
    unfold bs
    by_cases q : n = m
    · subst q
      rw [if_pos (decide_eq_true rfl), bs_cong (q := fun _ => false) (fun k hk => decide_eq_false (by omega)), bs_none, Int32.zero_or]
    · rw [if_neg (by rw [decide_eq_false q]; decide)]
      exact bs_one (by omega)
/-- the set of the makers of the eldest h, without x -/
theorem bitsL_bs {L : List Int32} {n : Nat} {x : Int32} : ∀ {h : Nat}, (∀ k, k < h → ∃ m, m < n ∧ L.getD k 0 = nI m) → n ≤ 12 → bitsL L x h = bs (fun m => decide (¬ nI m = x ∧ 0 < cN L (nI m) h)) n
  | 0, _, _ => by
    show 0 = _
    rw [bs_cong (q := fun _ => false) (fun k hk => decide_eq_false (fun q => by have := q.2; have h2 : 0 < 0 := this; omega)), bs_none]
  | h + 1, hm, hn => by
    have ih := bitsL_bs (x := x) (fun k hk => hm k (by omega)) hn (h := h)
    obtain ⟨m0, hm0, e0⟩ := hm h (by omega)
    unfold bitsL
    rw [ih, e0]
    have hc : ∀ m, m < n → cN L (nI m) (h + 1) = cN L (nI m) h + if m = m0 then 1 else 0 := fun m hmn => by
      show cN L (nI m) h + (if L.getD h 0 = nI m then 1 else 0) = _
      rw [e0]
      by_cases q : m = m0
      · rw [if_pos q, if_pos (by rw [q])]
      · rw [if_neg q, if_neg (fun z => q ((nI_eq (by omega) (by omega)).mp z).symm)]
    by_cases hx : nI m0 = x
    · rw [if_pos hx]
      refine bs_cong (fun m hmn => ?_)
      rw [hc m hmn]
      by_cases q : m = m0
      · rw [decide_eq_false (fun z => z.1 (by rw [q]; exact hx)), decide_eq_false (fun z => z.1 (by rw [q]; exact hx))]
      · rw [if_neg q, Nat.add_zero]
    · rw [if_neg hx, ← bs_one hm0, bs_or]
      refine bs_cong (fun m hmn => ?_)
      rw [hc m hmn]
      by_cases q : m = m0
      · rw [if_pos q, decide_eq_true q, Bool.or_true]
        exact (decide_eq_true ⟨by rw [q]; exact hx, by omega⟩).symm
      · rw [if_neg q, Nat.add_zero, decide_eq_false q, Bool.or_false]
theorem sN_cnt {L : List Int32} {n x : Nat} (hn : n ≤ 12) (hx : x < n) : ∀ {h : Nat}, (∀ k, k < h → ∃ m, m < n ∧ L.getD k 0 = nI m) → sN n (fun m => if m = x then 0 else cN L (nI m) h) = h - cN L (nI x) h
  | 0, _ => by
    have : ∀ n, sN n (fun m => if m = x then 0 else cN L (nI m) 0) = 0 := fun n => by
      induction n with
      | zero => rfl
      | succ n ih =>
        show sN n _ + (if n = x then 0 else cN L (nI n) 0) = 0
        rw [ih]
        split <;> rfl
    rw [this]
    omega
  | h + 1, hm => by
    have ih := sN_cnt hn hx (fun k hk => hm k (by omega)) (h := h)
    have hle := cN_le (L := L) (x := nI x) (h := h)
    obtain ⟨m0, hm0, e0⟩ := hm h (by omega)
    have hc : ∀ m, m < n → cN L (nI m) (h + 1) = cN L (nI m) h + if m = m0 then 1 else 0 := fun m hmn => by
      show cN L (nI m) h + (if L.getD h 0 = nI m then 1 else 0) = _
      rw [e0]
      by_cases q : m = m0
      · rw [if_pos q, if_pos (by rw [q])]
      · rw [if_neg q, if_neg (fun z => q ((nI_eq (by omega) (by omega)).mp z).symm)]
    rw [hc x hx]
    by_cases q : x = m0
    · rw [if_pos q, sN_cong (g := fun m => if m = x then 0 else cN L (nI m) h) (fun m hmn => by
        by_cases z : m = x
        · rw [if_pos z, if_pos z]
        · rw [if_neg z, if_neg z, hc m hmn, if_neg (by omega), Nat.add_zero]), ih]
      omega
    · rw [if_neg q, sN_cong (g := fun m => (if m = x then 0 else cN L (nI m) h) + if m = m0 then 1 else 0) (fun m hmn => by
        by_cases z : m = x
        · rw [if_pos z, if_pos z, if_neg (by omega)]
        · rw [if_neg z, if_neg z, hc m hmn]), sN_add, ih, sN_one, if_pos hm0]
      omega
/-- what rhymes add: a maker's pieces less one, of each other maker -/
theorem grow_eq {n x h1 h2 : Nat} {s1 s2 : List Int32} (hn : n ≤ 12) (hx : x < n) (hm : ∀ k, k < h2 → ∃ m, m < n ∧ s2.getD k 0 = nI m) (hh : h2 ≤ 20) : grow (nI x) s1 s2 h1 h2 = nI (h1 - cN s1 (nI x) h1) / 3 + nI (sN n (fun m => if m = x then 0 else cN s2 (nI m) h2 - 1)) := by
  unfold grow
  rw [frN, frN, bitsL_bs hm hn, bc_bs _ hn]
  rw [sm_cong (g := fun m => nI (if m = x then 0 else if 0 < cN s2 (nI m) h2 then 1 else 0)) (fun m hmn => by
    by_cases q : m = x
    · rw [if_neg (by rw [decide_eq_true_eq]; exact fun z => z.1 (by rw [q])), if_pos q]
      rfl
    · rw [if_neg q]
      by_cases z : 0 < cN s2 (nI m) h2
      · rw [if_pos z, if_pos (decide_eq_true ⟨fun y => q ((nI_eq (by omega) (by omega)).mp y), z⟩)]
        rfl
      · rw [if_neg z, if_neg (by rw [decide_eq_true_eq]; exact fun y => z y.2)]
        rfl), sN_sm]
  have key : sN n (fun m => if m = x then 0 else cN s2 (nI m) h2 - 1) + sN n (fun m => if m = x then 0 else if 0 < cN s2 (nI m) h2 then 1 else 0) = h2 - cN s2 (nI x) h2 := by
    rw [← sN_add, ← sN_cnt hn hx hm]
    refine sN_cong (fun m hmn => ?_)
    by_cases q : m = x
    · rw [if_pos q, if_pos q, if_pos q]
    · rw [if_neg q, if_neg q, if_neg q]
      split <;> omega
  rw [← key, ← nI_add]
  generalize nI (sN n (fun m => if m = x then 0 else if 0 < cN s2 (nI m) h2 then 1 else 0)) = b
  generalize nI (sN n (fun m => if m = x then 0 else cN s2 (nI m) h2 - 1)) = c
  generalize nI (h1 - cN s1 (nI x) h1) / 3 = a
  rw [Int32.sub_eq_add_neg, Int32.add_assoc, Int32.add_assoc, Int32.add_right_neg, Int32.add_zero]
end MPURE
