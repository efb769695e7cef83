/-! ===== a week, pupil by pupil ===== -/
section LWEEKP
theorem handA_f {A : Ab} {x p t : Nat} (ht : ¬ (p = x ∧ (t = 6 ∨ t = 7))) : (handA A x).f p t = A.f p t := by
  show (if p = x ∧ t = 6 then _ else if p = x ∧ t = 7 then _ else A.f p t) = _
  rw [if_neg (fun q => ht ⟨q.1, Or.inl q.2⟩), if_neg (fun q => ht ⟨q.1, Or.inr q.2⟩)]
theorem handA_6 {A : Ab} {x : Nat} : (handA A x).f x 6 = A.f x 6 + growV A x := by
  show (if x = x ∧ 6 = 6 then A.f x 6 + growV A x else _) = _
  rw [if_pos ⟨rfl, rfl⟩]
theorem handA_7 {A : Ab} {x : Nat} : (handA A x).f x 7 = A.f x 7 + (A.g 4 - nI (hdN A x 0) + A.g 5 - nI (hdN A x 1)) := by
  show (if x = x ∧ 7 = 6 then _ else if x = x ∧ 7 = 7 then A.f x 7 + (A.g 4 - nI (hdN A x 0) + A.g 5 - nI (hdN A x 1)) else _) = _
  rw [if_neg (by omega), if_pos ⟨rfl, rfl⟩]
theorem handA_s {A : Ab} {x q : Nat} (hq : q / 2 ≠ x) : (handA A x).s q = A.s q := by
  show (if q = 2 * x + 1 then _ else if q = 2 * x then _ else A.s q) = _
  rw [if_neg (by omega), if_neg (by omega)]
theorem handA_g {A : Ab} {x t : Nat} (ht : t ≠ 12) : (handA A x).g t = A.g t := if_neg ht
theorem handA_n {A : Ab} {x : Nat} : (handA A x).n = A.n := rfl
theorem handA_d {A : Ab} {x : Nat} : (handA A x).d = A.d := rfl
theorem lookA_f {A : Ab} {x p t : Nat} (ht : ¬ (p = x ∧ (t = 6 ∨ t = 8 ∨ t = 9))) : (lookA A x).f p t = A.f p t := by
  unfold lookA
  split
  · show (if p = x ∧ t = 8 then _ else A.f p t) = _
    rw [if_neg (fun q => ht ⟨q.1, Or.inr (Or.inl q.2)⟩)]
  · show (if p = x ∧ t = 9 then _ else if p = x ∧ t = 6 then _ else if p = x ∧ t = 8 then _ else A.f p t) = _
    rw [if_neg (fun q => ht ⟨q.1, Or.inr (Or.inr q.2)⟩), if_neg (fun q => ht ⟨q.1, Or.inl q.2⟩), if_neg (fun q => ht ⟨q.1, Or.inr (Or.inl q.2)⟩)]
theorem lookA_8 {A : Ab} {x : Nat} : (lookA A x).f x 8 = detV A x (A.f x 6) := by
  unfold lookA
  split
  · show (if x = x ∧ 8 = 8 then _ else _) = _
    rw [if_pos ⟨rfl, rfl⟩]
  · show (if x = x ∧ 8 = 9 then _ else if x = x ∧ 8 = 6 then _ else if x = x ∧ 8 = 8 then _ else _) = _
    rw [if_neg (by omega), if_neg (by omega), if_pos ⟨rfl, rfl⟩]
theorem lookA_g {A : Ab} {x t : Nat} (ht : t ≠ 13) : (lookA A x).g t = A.g t := by
  unfold lookA
  split
  · rfl
  · show (if t = 13 then _ else A.g t) = _
    rw [if_neg ht]
theorem lookA_n {A : Ab} {x : Nat} : (lookA A x).n = A.n := by
  unfold lookA
  split <;> rfl
theorem lookA_d {A : Ab} {x : Nat} : (lookA A x).d = A.d := by
  unfold lookA
  split <;> rfl
variable {A : Ab}
-- handing in
theorem wkH_old : ∀ k p, k ≤ p → (∀ t, (wkH A k).f p t = A.f p t) ∧ ∀ s, s < 2 → (wkH A k).s (2 * p + s) = A.s (2 * p + s)
  | 0, p, _ => ⟨fun _ => rfl, fun _ _ => rfl⟩
  | k + 1, p, h => by
    have ih := wkH_old k p (by omega)
    refine ⟨fun t => ?_, fun s hs => ?_⟩
    · show (handA (wkH A k) k).f p t = _
      rw [handA_f (by omega), ih.1 t]
    · show (handA (wkH A k) k).s (2 * p + s) = _
      rw [handA_s (by omega), ih.2 s hs]
theorem wkH_d : ∀ k, (wkH A k).d = A.d
  | 0 => rfl
  | k + 1 => (handA_d (A := wkH A k) (x := k)).trans (wkH_d k)
theorem hdN_H {k s : Nat} (hs : s < 2) : hdN (wkH A k) k s = hdN A k s := by
  unfold hdN
  rw [wkH_g (by omega) k, (wkH_old k k (Nat.le_refl k)).2 s hs]
theorem growV_H {k : Nat} : growV (wkH A k) k = growV A k := by
  unfold growV
  rw [hdN_H (by decide), hdN_H (by decide)]
  have h0 := (wkH_old (A := A) k k (Nat.le_refl k)).2 0 (by decide)
  have h1 := (wkH_old (A := A) k k (Nat.le_refl k)).2 1 (by decide)
  rw [show (wkH A k).s (2 * k) = A.s (2 * k) from h0, h1]
theorem lack_eq {x : Nat} (h4 : 0 ≤ A.g 4) (h5 : 0 ≤ A.g 5) (l0 : (A.s (2 * x)).length ≤ 20) (l1 : (A.s (2 * x + 1)).length ≤ 20) : A.g 4 - nI (hdN A x 0) + A.g 5 - nI (hdN A x 1) = lackV A x := by
  unfold lackV
  rw [hd_N (s := 0) l0 h4, hd_N (s := 1) l1 h5]
  simp only [Int32.sub_eq_add_neg, Int32.add_assoc]
theorem wkH_new (h4 : 0 ≤ A.g 4) (h5 : 0 ≤ A.g 5) (hl : ∀ q, q < 2 * A.n → (A.s q).length ≤ 20) : ∀ k p, k ≤ A.n → p < k → (wkH A k).f p 6 = A.f p 6 + growV A p ∧ (wkH A k).f p 7 = A.f p 7 + lackV A p ∧ ∀ t, t ≠ 6 → t ≠ 7 → (wkH A k).f p t = A.f p t
  | 0, p, _, h => absurd h (Nat.not_lt_zero p)
  | k + 1, p, hk, h => by
    by_cases q : p = k
    · subst q
      have o := (wkH_old (A := A) p p (Nat.le_refl p)).1
      refine ⟨?_, ?_, fun t h6 h7 => ?_⟩
      · show (handA (wkH A p) p).f p 6 = _
        rw [handA_6, o 6, growV_H]
      · show (handA (wkH A p) p).f p 7 = _
        rw [handA_7, o 7, hdN_H (by decide), hdN_H (by decide), wkH_g (by decide), wkH_g (by decide), lack_eq h4 h5 (hl _ (by omega)) (hl _ (by omega))]
      · show (handA (wkH A p) p).f p t = _
        rw [handA_f (by omega), o t]
    · obtain ⟨i6, i7, io⟩ := wkH_new h4 h5 hl k p (by omega) (by omega)
      refine ⟨?_, ?_, fun t h6 h7 => ?_⟩
      · show (handA (wkH A k) k).f p 6 = _
        rw [handA_f (by omega), i6]
      · show (handA (wkH A k) k).f p 7 = _
        rw [handA_f (by omega), i7]
      · show (handA (wkH A k) k).f p t = _
        rw [handA_f (by omega), io t h6 h7]
-- looking at proof
theorem wkL_old : ∀ k p, k ≤ p → ∀ t, (wkL A k).f p t = A.f p t
  | 0, p, _, _ => rfl
  | k + 1, p, h, t => by
    show (lookA (wkL A k) k).f p t = _
    rw [lookA_f (by omega), wkL_old k p (by omega) t]
theorem wkL_g {t : Nat} (ht : t ≠ 13) : ∀ k, (wkL A k).g t = A.g t
  | 0 => rfl
  | k + 1 => (lookA_g (A := wkL A k) (x := k) ht).trans (wkL_g ht k)
theorem wkL_d : ∀ k, (wkL A k).d = A.d
  | 0 => rfl
  | k + 1 => (lookA_d (A := wkL A k) (x := k)).trans (wkL_d k)
theorem detV_c {B : Ab} {x : Nat} {w : Int32} (h3 : B.g 3 = A.g 3) (h8 : B.f x 8 = A.f x 8) : detV B x w = detV A x w := by
  unfold detV
  rw [h3, h8]
theorem wkL_new : ∀ k p, p < k → (wkL A k).f p 8 = detV A p (A.f p 6) ∧ ∀ t, t ≠ 6 → t ≠ 8 → t ≠ 9 → (wkL A k).f p t = A.f p t
  | 0, p, h => absurd h (Nat.not_lt_zero p)
  | k + 1, p, h => by
    by_cases q : p = k
    · subst q
      have o := wkL_old (A := A) p p (Nat.le_refl p)
      refine ⟨?_, fun t h6 h8 h9 => ?_⟩
      · show (lookA (wkL A p) p).f p 8 = _
        rw [lookA_8, o 6, detV_c (wkL_g (by decide) p) (o 8)]
      · show (lookA (wkL A p) p).f p t = _
        rw [lookA_f (by omega), o t]
    · obtain ⟨i8, io⟩ := wkL_new k p (by omega)
      refine ⟨?_, fun t h6 h8 h9 => ?_⟩
      · show (lookA (wkL A k) k).f p 8 = _
        rw [lookA_f (by omega), i8]
      · show (lookA (wkL A k) k).f p t = _
        rw [lookA_f (by omega), io t h6 h8 h9]
theorem wkV_eq : ∀ k, wkV A k = sm k (fun p => if A.f p 6 < A.g 3 then 0 else 1)
  | 0 => rfl
  | k + 1 => by
    show wkV A k + lookV (wkL A k) k = sm k _ + (if A.f k 6 < A.g 3 then 0 else 1)
    rw [wkV_eq k]
    unfold lookV
    rw [wkL_old k k (Nat.le_refl k), wkL_g (by decide)]
-- strength
theorem wkS_f {t : Nat} (ht : t ≠ 5) : ∀ k p, (wkS A k).f p t = A.f p t
  | 0, _ => rfl
  | k + 1, p => by
    show (if p = k ∧ t = 5 then _ else (wkS A k).f p t) = _
    rw [if_neg (fun q => ht q.2), wkS_f ht k p]
theorem wkS_g {t : Nat} : ∀ k, (wkS A k).g t = A.g t
  | 0 => rfl
  | k + 1 => wkS_g k
theorem wkS_d : ∀ k, (wkS A k).d = A.d
  | 0 => rfl
  | k + 1 => wkS_d k
theorem wkS_s {q : Nat} : ∀ k, (wkS A k).s q = A.s q
  | 0 => rfl
  | k + 1 => wkS_s k
theorem wkS_5 : ∀ k p, p < k → (wkS A k).f p 5 = if 0 < A.f p 8 then A.g 2 / 2 else A.g 2
  | 0, p, h => absurd h (Nat.not_lt_zero p)
  | k + 1, p, h => by
    show (if p = k ∧ 5 = 5 then (if 0 < (wkS A k).f k 8 then (wkS A k).g 2 / 2 else (wkS A k).g 2) else (wkS A k).f p 5) = _
    by_cases q : p = k
    · rw [if_pos ⟨q, rfl⟩, wkS_f (by decide), wkS_g, q]
    · rw [if_neg (fun z => q z.1), wkS_5 k p (by omega)]
/-- a week's end, of each pupil -/
theorem week_f (hO : Ok A) {p : Nat} (hp : p < A.n) : (weekA A).f p 7 = A.f p 7 + lackV A p ∧ (weekA A).f p 8 = detV A p (A.f p 6 + growV A p) ∧ (weekA A).f p 5 = (if 0 < detV A p (A.f p 6 + growV A p) then A.g 2 / 2 else A.g 2) ∧ ∀ t, t < 5 → (weekA A).f p t = A.f p t := by
  obtain ⟨i6, i7, io⟩ := wkH_new hO.2.1.2.1 hO.2.1.2.2 (fun q hq => (hO.2.2.2.1 q hq).1) A.n p (Nat.le_refl _) hp
  obtain ⟨j8, jo⟩ := wkL_new (A := wkH A A.n) A.n p hp
  have g3 : (wkH A A.n).g 3 = A.g 3 := wkH_g (by decide) A.n
  have e8 : (wk1 A).f p 8 = detV A p (A.f p 6 + growV A p) := by
    show (wkL (wkH A A.n) A.n).f p 8 = _
    rw [j8, i6, detV_c g3 (io 8 (by decide) (by decide))]
  refine ⟨?_, ?_, ?_, fun t ht => ?_⟩
  · show (wkS (wk1 A) A.n).f p 7 = _
    rw [wkS_f (by decide)]
    show (wkL (wkH A A.n) A.n).f p 7 = _
    rw [jo 7 (by decide) (by decide) (by decide), i7]
  · show (wkS (wk1 A) A.n).f p 8 = _
    rw [wkS_f (by decide), e8]
  · show (wkS (wk1 A) A.n).f p 5 = _
    rw [wkS_5 A.n p hp, e8]
    have g2 : (wk1 A).g 2 = A.g 2 := (wkL_g (by decide) A.n).trans (wkH_g (by decide) A.n)
    rw [g2]
  · show (wkS (wk1 A) A.n).f p t = _
    rw [wkS_f (by omega)]
    show (wkL (wkH A A.n) A.n).f p t = _
    rw [jo t (by omega) (by omega) (by omega), io t (by omega) (by omega)]
theorem week_P (hO : Ok A) : wkP A = sm A.n (fun p => if A.f p 6 + growV A p < A.g 3 then 0 else 1) := by
  unfold wkP
  rw [wkV_eq]
  refine sm_cong (fun p hp => ?_)
  obtain ⟨i6, -, -⟩ := wkH_new hO.2.1.2.1 hO.2.1.2.2 (fun q hq => (hO.2.2.2.1 q hq).1) A.n p (Nat.le_refl _) hp
  rw [i6, wkH_g (by decide)]
theorem week_g {t : Nat} (ht : t < 12) (h1 : t ≠ 1) : (weekA A).g t = A.g t := by
  show (if t = 1 then _ else if t = 16 then _ else if t = 15 then _ else (wkS (wk1 A) A.n).g t) = _
  rw [if_neg h1, if_neg (by omega), if_neg (by omega), wkS_g]
  exact (wkL_g (by omega) A.n).trans (wkH_g (by omega) A.n)
end LWEEKP
