/-! ===== Gd and the bounds, through each act ===== -/
section LINV2
variable {A B : Ab}
theorem Gd.bal0 (h : Gd A) : bal A = 0 := h.2.2.2.1
theorem Gd.of (h : Gd A) (hn : B.n = A.n) (hd : ∀ i, i < B.d.length → dg B.d i 0 ≠ dg B.d i 1) (h0 : ∀ p, p < A.n → B.f p 0 = A.f p 0 ∧ B.f p 1 = A.f p 1) (hb : bal B = bal A) (h8 : ∀ p, p < A.n → B.f p 8 ≤ 9) : Gd B := by
  refine ⟨hd, fun p hp => ?_, fun p q hp hq e0 e1 => ?_, hb.trans h.2.2.2.1, fun p hp => h8 p (by omega)⟩
  · rw [hn] at hp
    rw [(h0 p hp).1, (h0 p hp).2]
    exact h.2.1 p hp
  · rw [hn] at hp hq
    rw [(h0 p hp).1, (h0 q hq).1] at e0
    rw [(h0 p hp).2, (h0 q hq).2] at e1
    exact h.2.2.1 p q hp hq e0 e1
theorem seeA_f {x y p t : Nat} (h6 : t ≠ 6) (h9 : t ≠ 9) : (seeA A x y).f p t = A.f p t := by
  show (if p = y ∧ t = 9 then _ else if p = y ∧ t = 6 then _ else if p = x ∧ t = 9 then _ else if p = x ∧ t = 6 then _ else A.f p t) = _
  rw [if_neg (fun q => h9 q.2), if_neg (fun q => h6 q.2), if_neg (fun q => h9 q.2), if_neg (fun q => h6 q.2)]
theorem gd_make {x s n : Nat} (h : Gd A) (hx : x < A.n) (hs : s < 2) : Gd (makeA A x s n) := by
  have hf : ∀ p t, t ≠ 5 → (makeA A x s n).f p t = A.f p t := fun p t ht => if_neg (fun q => ht q.2)
  exact h.of rfl h.1 (fun p _ => ⟨hf p 0 (by decide), hf p 1 (by decide)⟩) (bal_make hx hs) (fun p hp => by rw [hf p 8 (by decide)]; exact h.2.2.2.2 p hp)
theorem gd_swap {x y n m : Nat} (h : Gd A) (hx : x < A.n) (hy : y < A.n) (hxy : x ≠ y) (hn : n ≤ (A.s (2 * x)).length) (hm : m ≤ (A.s (2 * y + 1)).length) : Gd (swapA A x y n m) := by
  have hf : ∀ p t, t ≠ 6 → t ≠ 9 → (swapA A x y n m).f p t = A.f p t := fun p t h6 h9 => seeA_f h6 h9
  have b1 : bal (giveA A x y 0 n) = bal A := bal_give hx hy hxy (by decide) hn
  have e1 : (giveA A x y 0 n).s (2 * y + 1) = A.s (2 * y + 1) := by
    show (if 2 * y + 1 = 2 * y + 0 then _ else if 2 * y + 1 = 2 * x + 0 then _ else A.s (2 * y + 1)) = _
    rw [if_neg (by omega), if_neg (by omega)]
  have b2 : bal (giveA (giveA A x y 0 n) y x 1 m) = bal A := (bal_give (A := giveA A x y 0 n) (s := 1) (show y < A.n from hy) (show x < A.n from hx) (Ne.symm hxy) (by decide) (by rw [e1]; exact hm)).trans b1
  refine h.of rfl h.1 (fun p _ => ⟨hf p 0 (by decide) (by decide), hf p 1 (by decide) (by decide)⟩) ?_ (fun p hp => by rw [hf p 8 (by decide) (by decide)]; exact h.2.2.2.2 p hp)
  unfold swapA
  rw [bal_see, bal_tally (Or.inl rfl), b2]
theorem dne_set {d : List De} {i : Nat} {v : Int32} (h : ∀ k, k < d.length → dg d k 0 ≠ dg d k 1) (hi : i < d.length) : ∀ k, k < (setP d i v).length → dg (setP d i v) k 0 ≠ dg (setP d i v) k 1 := fun k hk => by
  rw [setP_len] at hk
  rw [dg_setP hi (by decide), dg_setP hi (by decide), if_neg (by omega), if_neg (by omega)]
  exact h k hk
theorem dne_lend {n : Nat} {d : List De} {x y s m : Int32} (hD : dOk n d) (h : ∀ k, k < d.length → dg d k 0 ≠ dg d k 1) (hxy : x ≠ y) : ∀ k, k < (lendD d x y s m).length → dg (lendD d x y s m) k 0 ≠ dg (lendD d x y s m) k 1 := by
  unfold lendD
  rcases fnd_cases d x y s with ⟨e, -⟩ | ⟨i, hi, e, -⟩
  · rw [if_pos e]
    intro k hk
    rw [dg_app, dg_app]
    by_cases q : k = d.length
    · rw [if_pos q, if_pos q]
      exact hxy
    · rw [if_neg q, if_neg q]
      rw [List.length_append] at hk
      exact h k (by simp at hk; omega)
  · rw [if_neg (by rw [e]; exact nI_nm1 (by have := hD.1; omega)), e, nI_clamp (by have := hD.1; omega)]
    exact dne_set h hi
theorem dne_erase {d : List De} {i : Nat} (h : ∀ k, k < d.length → dg d k 0 ≠ dg d k 1) (hi : i < d.length) : ∀ k, k < (d.eraseIdx i).length → dg (d.eraseIdx i) k 0 ≠ dg (d.eraseIdx i) k 1 := fun k hk => by
  rw [List.length_eraseIdx_of_lt hi] at hk
  rw [dg_erase, dg_erase]
  by_cases q : k < i
  · rw [if_pos q, if_pos q]
    exact h k (by omega)
  · rw [if_neg q, if_neg q]
    exact h (k + 1) (by omega)
theorem bal_d {d : List De} : bal (A.sD d) = bal A := bal_of rfl rfl rfl rfl rfl rfl
theorem lendA_f {x y s n p t : Nat} (h6 : t ≠ 6) (h9 : t ≠ 9) : (lendA A x y s n).f p t = A.f p t := by
  unfold lendA
  exact seeA_f (A := tallyA (giveA A x y s n) 3 1) h6 h9
theorem payA_f {x y s n p t : Nat} (h6 : t ≠ 6) (h9 : t ≠ 9) : (payA A x y s n).f p t = A.f p t := by
  unfold payA
  exact seeA_f (A := tallyA (giveA A x y s n) 4 (nI n)) h6 h9
theorem gd_lend {x y s n : Nat} (hO : Ok A) (h : Gd A) (hx : x < A.n) (hy : y < A.n) (hs : s < 2) (hxy : x ≠ y) (hn : n ≤ (A.s (2 * x + s)).length) : Gd (lendA A x y s n) := by
  have h12 := hO.1.2
  have hd : (lendA A x y s n).d = lendD A.d (nI y) (nI x) (nI (1 - s)) (nI n) := rfl
  refine h.of rfl ?_ (fun p _ => ⟨lendA_f (by decide) (by decide), lendA_f (by decide) (by decide)⟩) ?_ (fun p hp => by rw [lendA_f (by decide) (by decide)]; exact h.2.2.2.2 p hp)
  · rw [hd]
    exact dne_lend hO.2.2.2.2 h.1 (fun q => hxy ((nI_eq (by omega) (by omega)).mp q).symm)
  · unfold lendA
    rw [bal_d, bal_see, bal_tally (Or.inr (Or.inl rfl)), bal_give hx hy hxy hs hn]
theorem gd_pay {x y s n : Nat} (hO : Ok A) (h : Gd A) (hx : x < A.n) (hy : y < A.n) (hs : s < 2) (hxy : x ≠ y) (hn1 : 1 ≤ n) (hn20 : n ≤ 20) (hr : rPay A x y s n = 0) (hn : n ≤ (A.s (2 * x + s)).length) : Gd (payA A x y s n) := by
  have h12 := hO.1.2
  have hD := hO.2.2.2.2
  obtain ⟨i, v, hi, e, eo, ed, h1, h2⟩ := pay_law hD hn1 hn20 hr
  have hd : (payA A x y s n).d = payD A.d (nI x) (nI y) (nI s) (nI n) := rfl
  refine h.of rfl ?_ (fun p _ => ⟨payA_f (by decide) (by decide), payA_f (by decide) (by decide)⟩) ?_ (fun p hp => by rw [payA_f (by decide) (by decide)]; exact h.2.2.2.2 p hp)
  · rw [hd]
    unfold payD
    rw [e, nI_clamp (by have := hD.1; omega)]
    split
    · exact dne_erase (dne_set h.1 hi) (by rw [setP_len]; exact hi)
    · exact dne_set h.1 hi
  · unfold payA
    rw [bal_d, bal_see, bal_tally (Or.inr (Or.inr rfl)), bal_give hx hy hxy hs hn]
theorem gd_seat {x r t : Nat} (h : Gd A) (h12 : A.n ≤ 12) (hx : x < A.n) (hr : r ≤ 5) (ht : t ≤ 5) (hf : onV A (nI r) (nI t) = -1) : Gd (seatA A x (nI r) (nI t)) := by
  have f0 : ∀ p, (seatA A x (nI r) (nI t)).f p 0 = if p = x then nI r else A.f p 0 := fun p => by
    show (if p = x ∧ 0 = 1 then _ else if p = x ∧ 0 = 0 then nI r else A.f p 0) = _
    rw [if_neg (by omega)]
    by_cases q : p = x
    · rw [if_pos ⟨q, rfl⟩, if_pos q]
    · rw [if_neg (fun z => q z.1), if_neg q]
  have f1 : ∀ p, (seatA A x (nI r) (nI t)).f p 1 = if p = x then nI t else A.f p 1 := fun p => by
    show (if p = x ∧ 1 = 1 then nI t else if p = x ∧ 1 = 0 then _ else A.f p 1) = _
    by_cases q : p = x
    · rw [if_pos ⟨q, rfl⟩, if_pos q]
    · rw [if_neg (fun z => q z.1), if_neg (fun z => q z.1), if_neg q]
  have f8 : ∀ p, (seatA A x (nI r) (nI t)).f p 8 = A.f p 8 := fun p => by
    show (if p = x ∧ 8 = 1 then _ else if p = x ∧ 8 = 0 then _ else A.f p 8) = _
    rw [if_neg (by omega), if_neg (by omega)]
  have hfree : ∀ p, p < A.n → ¬ (A.f p 0 = nI r ∧ A.f p 1 = nI t) := fun p hp q => by
    rcases first_cases A.n (fun p => decide (A.f p 0 = nI r ∧ A.f p 1 = nI t)) with ⟨-, hb⟩ | ⟨i, hi, e, -⟩
    · have := hb p hp
      rw [decide_eq_true q] at this
      cases this
    · exact absurd (e.symm.trans hf) (nI_nm1 (by omega))
  refine ⟨h.1, fun p hp => ?_, fun p q hp hq e0 e1 => ?_, h.bal0, fun p hp => by rw [f8]; exact h.2.2.2.2 p hp⟩
  · rw [f0, f1]
    by_cases z : p = x
    · rw [if_pos z, if_pos z]
      exact ⟨r, t, hr, ht, rfl, rfl⟩
    · rw [if_neg z, if_neg z]
      exact h.2.1 p hp
  · rw [f0, f0] at e0
    rw [f1, f1] at e1
    by_cases zp : p = x
    · by_cases zq : q = x
      · omega
      · rw [if_pos zp, if_neg zq] at e0 e1
        exact absurd ⟨e0.symm, e1.symm⟩ (hfree q hq)
    · by_cases zq : q = x
      · rw [if_neg zp, if_pos zq] at e0 e1
        exact absurd ⟨e0, e1⟩ (hfree p hp)
      · rw [if_neg zp, if_neg zq] at e0 e1
        exact h.2.2.1 p q hp hq e0 e1
theorem gd_admit {x : Nat} (h : Gd A) : Gd (admitA A x) := by
  have hf : ∀ p t, t ≠ 6 → t ≠ 9 → t ≠ 7 → (admitA A x).f p t = A.f p t := fun p t h6 h9 h7 => by
    show (if p = x ∧ t = 7 then _ else if p = x ∧ t = 9 then _ else if p = x ∧ t = 6 then _ else A.f p t) = _
    rw [if_neg (fun q => h7 q.2), if_neg (fun q => h9 q.2), if_neg (fun q => h6 q.2)]
  exact h.of rfl h.1 (fun p _ => ⟨hf p 0 (by decide) (by decide) (by decide), hf p 1 (by decide) (by decide) (by decide)⟩) (bal_of rfl rfl rfl rfl rfl rfl) (fun p hp => by rw [hf p 8 (by decide) (by decide) (by decide)]; exact h.2.2.2.2 p hp)
theorem det_le {x : Nat} {w : Int32} (h0 : 0 ≤ A.f x 8) (h9 : A.f x 8 ≤ 9) : detV A x w ≤ 9 := by
  unfold detV
  obtain ⟨k, hk, e⟩ := nI_of (Int32.not_lt.mpr h0)
  rw [e] at h9 ⊢
  have hk9 := (nI_leI hk (by decide)).mp (show nI k ≤ nI 9 from h9)
  split
  · unfold imax
    split
    · decide
    · rcases Nat.eq_zero_or_pos k with q | q
      · rw [q]
        decide
      · rw [show nI k - 1 = nI (k - 1) from pk_sub (b := 1) q]
        exact nI_le (a := k - 1) (b := 9) (by omega) (by decide)
  · unfold imin
    split
    · exact Int32.le_refl _
    · rename_i q
      exact Int32.not_lt.mp q
theorem week_d : (weekA A).d = grD A.d := by
  show grD (wkS (wk1 A) A.n).d = _
  rw [wkS_d]
  show grD (wkL (wkH A A.n) A.n).d = _
  rw [wkL_d, wkH_d]
theorem gd_week (hO : Ok A) (h : Gd A) : Gd (weekA A) := by
  refine h.of weekA_n (fun i hi => ?_) (fun p hp => ⟨(week_f hO hp).2.2.2 0 (by decide), (week_f hO hp).2.2.2 1 (by decide)⟩) bal_week (fun p hp => ?_)
  · rw [week_d] at hi ⊢
    have hi2 : i < A.d.length := by
      unfold grD at hi
      rw [List.length_map] at hi
      exact hi
    rw [dg_grD hi2 (by decide), dg_grD hi2 (by decide), if_neg (by omega), if_neg (by omega)]
    exact h.1 i hi2
  · rw [(week_f hO hp).2.1]
    exact det_le (hO.2.2.1 p hp).2.2.2.1 (h.2.2.2.2 p hp)
-- bounds
def Bd (k : Nat) (A : Ab) : Prop := ∃ a b c d, (A.g 1 = nI a ∧ A.g 7 = nI b ∧ A.g 9 = nI c ∧ A.g 14 = nI d) ∧ a ≤ k ∧ b ≤ 20 * k ∧ c ≤ k ∧ d ≤ 12 * k
theorem Bd.ps {k : Nat} (h : Bd k A) (hk : k ≤ 1000) : Ps A := by
  obtain ⟨a, b, c, d, ⟨e1, e7, e9, e14⟩, h1, h2, h3, h4⟩ := h
  refine ⟨a + b + c + 3 * d, by omega, ?_⟩
  rw [e1, e7, e9, e14, nI_add, nI_add, show (3 : Int32) * nI d = nI (3 * d) from (Int32.ofNat_mul 3 d).symm, nI_add]
theorem Bd.wk {k : Nat} (h : Bd k A) (hk : k ≤ 900) : ∃ v, v ≤ 900 ∧ A.g 1 = nI v := by
  obtain ⟨a, b, c, d, ⟨e1, e7, e9, e14⟩, h1, h2, h3, h4⟩ := h
  exact ⟨a, by omega, e1⟩
theorem Bd.up {k : Nat} (h : Bd k A) : Bd (k + 1) A := by
  obtain ⟨a, b, c, d, e, h1, h2, h3, h4⟩ := h
  exact ⟨a, b, c, d, e, by omega, by omega, by omega, by omega⟩
theorem Bd.go {k : Nat} (h : Bd k A) (w1 : B.g 1 = A.g 1 ∨ B.g 1 = A.g 1 + 1) (w7 : ∃ v, v ≤ 20 ∧ B.g 7 = A.g 7 + nI v) (w9 : B.g 9 = A.g 9 ∨ B.g 9 = A.g 9 + 1) (w14 : ∃ v, v ≤ 12 ∧ B.g 14 = A.g 14 + nI v) : Bd (k + 1) B := by
  obtain ⟨a, b, c, d, ⟨e1, e7, e9, e14⟩, h1, h2, h3, h4⟩ := h
  obtain ⟨v, hv, ev⟩ := w7
  obtain ⟨w, hw, ew⟩ := w14
  rw [e7, nI_add] at ev
  rw [e14, nI_add] at ew
  rw [e1, nI_1] at w1
  rw [e9, nI_1] at w9
  rcases w1 with w1 | w1 <;> rcases w9 with w9 | w9
  · exact ⟨a, b + v, c, d + w, ⟨w1, ev, w9, ew⟩, by omega, by omega, by omega, by omega⟩
  · exact ⟨a, b + v, c + 1, d + w, ⟨w1, ev, w9, ew⟩, by omega, by omega, by omega, by omega⟩
  · exact ⟨a + 1, b + v, c, d + w, ⟨w1, ev, w9, ew⟩, by omega, by omega, by omega, by omega⟩
  · exact ⟨a + 1, b + v, c + 1, d + w, ⟨w1, ev, w9, ew⟩, by omega, by omega, by omega, by omega⟩
theorem zero20 {x : Int32} : ∃ v, v ≤ 20 ∧ x = x + nI v := ⟨0, by decide, (Int32.add_zero x).symm⟩
theorem zero12 {x : Int32} : ∃ v, v ≤ 12 ∧ x = x + nI v := ⟨0, by decide, (Int32.add_zero x).symm⟩
theorem bc_v {x y : Nat} (h12 : A.n ≤ 12) : ∃ v, v ≤ 12 ∧ bc (seersV A x y) = nI v := by
  rw [show bc (seersV A x y) = sm A.n (fun k => if seeP A x y k = true then 1 else 0) from bc_bs _ h12, sm_b]
  have := sN_le (f := fun i => if seeP A x y i = true then 1 else 0) b_le A.n
  exact ⟨_, by omega, rfl⟩
theorem bd_make {k x s n : Nat} (h : Bd k A) (hs : s < 2) (hn : n ≤ 20) : Bd (k + 1) (makeA A x s n) := by
  rcases (show s = 0 ∨ s = 1 by omega) with rfl | rfl
  · exact h.go (Or.inl rfl) ⟨n, hn, rfl⟩ (Or.inl rfl) zero12
  · exact h.go (Or.inl rfl) zero20 (Or.inl rfl) zero12
theorem bd_swap {k x y n m : Nat} (h : Bd k A) (h12 : A.n ≤ 12) : Bd (k + 1) (swapA A x y n m) := by
  obtain ⟨v, hv, ev⟩ := bc_v (A := A) (x := x) (y := y) h12
  refine h.go (Or.inl rfl) zero20 (Or.inr rfl) ⟨v, hv, ?_⟩
  show A.g 14 + bc (seersV A x y) = _
  rw [ev]
theorem bd_lend {k x y s n : Nat} (h : Bd k A) (h12 : A.n ≤ 12) : Bd (k + 1) (lendA A x y s n) := by
  obtain ⟨v, hv, ev⟩ := bc_v (A := A) (x := x) (y := y) h12
  refine h.go (Or.inl rfl) zero20 (Or.inl rfl) ⟨v, hv, ?_⟩
  show A.g 14 + bc (seersV A x y) = _
  rw [ev]
theorem bd_pay {k x y s n : Nat} (h : Bd k A) (h12 : A.n ≤ 12) : Bd (k + 1) (payA A x y s n) := by
  obtain ⟨v, hv, ev⟩ := bc_v (A := A) (x := x) (y := y) h12
  refine h.go (Or.inl rfl) zero20 (Or.inl rfl) ⟨v, hv, ?_⟩
  show A.g 14 + bc (seersV A x y) = _
  rw [ev]
theorem bd_week {k : Nat} (h : Bd k A) : Bd (k + 1) (weekA A) := by
  have g14 : (weekA A).g 14 = A.g 14 := by
    show (wkS (wk1 A) A.n).g 14 = _
    rw [wkS_g]
    exact (wkL_g (by decide) A.n).trans (wkH_g (by decide) A.n)
  have g1 : (weekA A).g 1 = A.g 1 + 1 := by
    show (wkS (wk1 A) A.n).g 1 + 1 = _
    rw [wkS_g, show (wk1 A).g 1 = A.g 1 from (wkL_g (by decide) A.n).trans (wkH_g (by decide) A.n)]
  refine h.go (Or.inr g1) ⟨0, by decide, ?_⟩ (Or.inl (week_g (by decide) (by decide))) ⟨0, by decide, ?_⟩
  · rw [week_g (by decide) (by decide)]
    exact (Int32.add_zero _).symm
  · rw [g14]
    exact (Int32.add_zero _).symm
end LINV2
